set_option maxHeartbeats 4000000 in
set_option maxRecDepth 100000 in
theorem c_tapeInt_4 (l : Launch) (D : va_G) (cT : Nat → ClassId) (sz : Nat) (h0 : Nat) (q : Nat → Nat) (f : Nat → Int32) (x : Int32) : Met l yX8_tapeInt (wsc yX8_tapeInt cX8_tapeInt 3 none) { frames := 2, cells := 0, slots := 0, locals := 100 } (va_Pc [.ref h0, .int x] (PX D cT sz [(h0, .inr (8, [.ref (q 0), .int 4, .ref (q 1), .ref (q 2), .ref (q 3), .ref (q 4), .ref (q 5), .ref (q 6), .ref (q 7), .ref (q 8), .ref (q 9), .ref (q 10), .ref (q 11)])), ((q 0), .inl (cT 2, 900, .inl (f)))])) (va_Qv (fun (u : Nat → Int32) => True) (fun u t => RW D (va_A [(h0, .inr (8, [.ref (q 0), .int 4, .ref (q 1), .ref (q 2), .ref (q 3), .ref (q 4), .ref (q 5), .ref (q 6), .ref (q 7), .ref (q 8), .ref (q 9), .ref (q 10), .ref (q 11)])), ((q 0), .inl (cT 2, 900, .inl (f)))] sz) ((fun u : Nat → Int32 => [(h0, .inr (8, [.ref (q 0), .int 8, .ref (q 1), .ref (q 2), .ref (q 3), .ref (q 4), .ref (q 5), .ref (q 6), .ref (q 7), .ref (q 8), .ref (q 9), .ref (q 10), .ref (q 11)])), ((q 0), .inl (cT 2, 900, .inl (u)))]) u) t) (va_A [(h0, .inr (8, [.ref (q 0), .int 4, .ref (q 1), .ref (q 2), .ref (q 3), .ref (q 4), .ref (q 5), .ref (q 6), .ref (q 7), .ref (q 8), .ref (q 9), .ref (q 10), .ref (q 11)])), ((q 0), .inl (cT 2, 900, .inl (f)))] sz)) 0 0 (va_A [(h0, .inr (8, [.ref (q 0), .int 4, .ref (q 1), .ref (q 2), .ref (q 3), .ref (q 4), .ref (q 5), .ref (q 6), .ref (q 7), .ref (q 8), .ref (q 9), .ref (q 10), .ref (q 11)])), ((q 0), .inl (cT 2, 900, .inl (f)))] sz) := by
  refine m_of (y := yX8_tapeInt) (cc := cX8_tapeInt) (nL := 3) (ret := none) (D := D) (cT := cT) (av := [.ref h0, .int x]) (wi := [(h0, .inr (8, [.ref (q 0), .int 4, .ref (q 1), .ref (q 2), .ref (q 3), .ref (q 4), .ref (q 5), .ref (q 6), .ref (q 7), .ref (q 8), .ref (q 9), .ref (q 10), .ref (q 11)])), ((q 0), .inl (cT 2, 900, .inl (f)))]) (fun A => va_Qv (fun (u : Nat → Int32) => True) (fun u t => RW D A ((fun u : Nat → Int32 => [(h0, .inr (8, [.ref (q 0), .int 8, .ref (q 1), .ref (q 2), .ref (q 3), .ref (q 4), .ref (q 5), .ref (q 6), .ref (q 7), .ref (q 8), .ref (q 9), .ref (q 10), .ref (q 11)])), ((q 0), .inl (cT 2, 900, .inl (u)))]) u) t) A) (by decide) (Nat.le_of_ble_eq_true rfl) ?_
  intro p e s m below meth c A hx hb hml hown htg hK hN hr hlk hnm hsz hP hD hS hA ls hl
  have hown : s.vm.findClass RX8 = some m.cls := hown
  have hl : lv_has ls 3 [(0, .ref h0), (1, .int x)] := hl
  refine lv_bipush (v := 24) hx hb dX8_tapeInt_0 (by decide) ?_
  refine lv_istore_n (lv' := [(2, .int 24), (0, .ref h0), (1, .int x)]) hx hb dX8_tapeInt_2 rfl hl (by decide) rfl (fun ls hl => ?_)
  refine lv_iload_n hx hb dX8_tapeInt_3 rfl (lv_at hl 0 rfl) ?_
  refine lv_if_lt (tgt := 46) hx hb dX8_tapeInt_4 (by decide) (fun h => absurd h (by decide)) (fun _ => ?_)
  refine lv_aload_n hx hb dX8_tapeInt_7 rfl (lv_at hl 1 rfl) ?_
  refine va_get (D := D) (ci := 8) (v := .int 4) (C := RX8) (T := TX8) (N := 13) hx hb htg gRX8 hown hK hP 0 rfl rfl 1 (by decide) (htg _ wi_468) (fun _ h9 => h9) rfl dX8_tapeInt_8 ?_
  refine lv_sipush (v := 900) hx hb dX8_tapeInt_11 (by decide) ?_
  refine lv_icmp_ge (tgt := 46) hx hb dX8_tapeInt_14 (by decide) (fun h => absurd h (by decide)) (fun _ => ?_)
  refine lv_aload_n hx hb dX8_tapeInt_17 rfl (lv_at hl 1 rfl) ?_
  refine va_get (D := D) (ci := 8) (v := .ref (q 0)) (C := RX8) (T := TX8) (N := 13) hx hb htg gRX8 hown hK hP 0 rfl rfl 0 (by decide) (htg _ wi_467) (fun _ h9 => h9) rfl dX8_tapeInt_18 ?_
  refine lv_aload_n hx hb dX8_tapeInt_21 rfl (lv_at hl 1 rfl) ?_
  refine va_get (D := D) (ci := 8) (v := .int 4) (C := RX8) (T := TX8) (N := 13) hx hb htg gRX8 hown hK hP 0 rfl rfl 1 (by decide) (htg _ wi_468) (fun _ h9 => h9) rfl dX8_tapeInt_22 ?_
  refine lv_iload_n hx hb dX8_tapeInt_25 rfl (lv_at hl 2 rfl) ?_
  refine lv_iload_n hx hb dX8_tapeInt_26 rfl (lv_at hl 0 rfl) ?_
  obtain ⟨z_1, ez_1⟩ : ∃ w : Int32, w = (x.toUInt32 >>> ((24 : Int32).toUInt32 &&& Int32.toUInt32 31)).toInt32 := ⟨_, rfl⟩
  refine lv_iushr (v := z_1) hx hb dX8_tapeInt_27 ez_1.symm ?_
  obtain ⟨z_2, ez_2⟩ : ∃ w : Int32, w = z_1.toInt8.toInt32 := ⟨_, rfl⟩
  refine lv_i2b (v := z_2) hx hb dX8_tapeInt_28 ez_2.symm ?_
  refine va_bast hx hb hK hP hD hS 1 2 rfl rfl (by unfold vp_in; decide) dX8_tapeInt_29 (fun H locs hP hD hS => ?_)
  obtain ⟨f_3, hP, hD⟩ : ∃ f_3 : Nat → Int32, va_P D classes [(h0, .inr (8, [.ref (q 0), .int 4, .ref (q 1), .ref (q 2), .ref (q 3), .ref (q 4), .ref (q 5), .ref (q 6), .ref (q 7), .ref (q 8), .ref (q 9), .ref (q 10), .ref (q 11)])), ((q 0), .inl (cT 2, 900, .inl (f_3)))] H ∧ va_D A [(h0, .inr (8, [.ref (q 0), .int 4, .ref (q 1), .ref (q 2), .ref (q 3), .ref (q 4), .ref (q 5), .ref (q 6), .ref (q 7), .ref (q 8), .ref (q 9), .ref (q 10), .ref (q 11)])), ((q 0), .inl (cT 2, 900, .inl (f_3)))] := ⟨_, hP, hD⟩
  refine lv_aload_n hx hb dX8_tapeInt_30 rfl (lv_at hl 1 rfl) ?_
  refine lv_dup hx hb dX8_tapeInt_31 rfl ?_
  refine va_get (D := D) (ci := 8) (v := .int 4) (C := RX8) (T := TX8) (N := 13) hx hb htg gRX8 hown hK hP 0 rfl rfl 1 (by decide) (htg _ wi_468) (fun _ h9 => h9) rfl dX8_tapeInt_32 ?_
  refine lv_iconst (v := 1) hx hb dX8_tapeInt_35 (by decide) ?_
  refine lv_iadd hx hb dX8_tapeInt_36 ?_
  refine lv_is (y := 5) (by decide) ?_
  refine va_put (D := D) (ci := 8) (v := .int 5) (ty := .int) (C := RX8) (T := TX8) (N := 13) hx hb htg gRX8 tyX8 tyX8_ok nmX8 hown hK hP hD hS 0 rfl rfl 1 (by decide) (htg _ wi_468) (fun _ h9 => h9) rfl (by decide +kernel) rfl rfl (Nat.le_of_ble_eq_true rfl) dX8_tapeInt_37 (fun H locs hP hD hS => ?_)
  have hP : va_P D classes [(h0, .inr (8, [.ref (q 0), .int 5, .ref (q 1), .ref (q 2), .ref (q 3), .ref (q 4), .ref (q 5), .ref (q 6), .ref (q 7), .ref (q 8), .ref (q 9), .ref (q 10), .ref (q 11)])), ((q 0), .inl (cT 2, 900, .inl (f_3)))] _ := hP
  have hD : va_D A [(h0, .inr (8, [.ref (q 0), .int 5, .ref (q 1), .ref (q 2), .ref (q 3), .ref (q 4), .ref (q 5), .ref (q 6), .ref (q 7), .ref (q 8), .ref (q 9), .ref (q 10), .ref (q 11)])), ((q 0), .inl (cT 2, 900, .inl (f_3)))] := hD
  refine lv_iinc (v := 16) (lv' := [(2, .int 16), (0, .ref h0), (1, .int x)]) hx hb dX8_tapeInt_40 hl (k := 0) rfl (by decide) (by decide) rfl (fun ls hl => ?_)
  refine lv_goto (tgt := 3) hx hb dX8_tapeInt_43 (by decide) ?_
  refine lv_iload_n hx hb dX8_tapeInt_3 rfl (lv_at hl 0 rfl) ?_
  refine lv_if_lt (tgt := 46) hx hb dX8_tapeInt_4 (by decide) (fun h => absurd h (by decide)) (fun _ => ?_)
  refine lv_aload_n hx hb dX8_tapeInt_7 rfl (lv_at hl 1 rfl) ?_
  refine va_get (D := D) (ci := 8) (v := .int 5) (C := RX8) (T := TX8) (N := 13) hx hb htg gRX8 hown hK hP 0 rfl rfl 1 (by decide) (htg _ wi_468) (fun _ h9 => h9) rfl dX8_tapeInt_8 ?_
  refine lv_sipush (v := 900) hx hb dX8_tapeInt_11 (by decide) ?_
  refine lv_icmp_ge (tgt := 46) hx hb dX8_tapeInt_14 (by decide) (fun h => absurd h (by decide)) (fun _ => ?_)
  refine lv_aload_n hx hb dX8_tapeInt_17 rfl (lv_at hl 1 rfl) ?_
  refine va_get (D := D) (ci := 8) (v := .ref (q 0)) (C := RX8) (T := TX8) (N := 13) hx hb htg gRX8 hown hK hP 0 rfl rfl 0 (by decide) (htg _ wi_467) (fun _ h9 => h9) rfl dX8_tapeInt_18 ?_
  refine lv_aload_n hx hb dX8_tapeInt_21 rfl (lv_at hl 1 rfl) ?_
  refine va_get (D := D) (ci := 8) (v := .int 5) (C := RX8) (T := TX8) (N := 13) hx hb htg gRX8 hown hK hP 0 rfl rfl 1 (by decide) (htg _ wi_468) (fun _ h9 => h9) rfl dX8_tapeInt_22 ?_
  refine lv_iload_n hx hb dX8_tapeInt_25 rfl (lv_at hl 2 rfl) ?_
  refine lv_iload_n hx hb dX8_tapeInt_26 rfl (lv_at hl 0 rfl) ?_
  obtain ⟨z_4, ez_4⟩ : ∃ w : Int32, w = (x.toUInt32 >>> ((16 : Int32).toUInt32 &&& Int32.toUInt32 31)).toInt32 := ⟨_, rfl⟩
  refine lv_iushr (v := z_4) hx hb dX8_tapeInt_27 ez_4.symm ?_
  obtain ⟨z_5, ez_5⟩ : ∃ w : Int32, w = z_4.toInt8.toInt32 := ⟨_, rfl⟩
  refine lv_i2b (v := z_5) hx hb dX8_tapeInt_28 ez_5.symm ?_
  refine va_bast hx hb hK hP hD hS 1 2 rfl rfl (by unfold vp_in; decide) dX8_tapeInt_29 (fun H locs hP hD hS => ?_)
  obtain ⟨f_6, hP, hD⟩ : ∃ f_6 : Nat → Int32, va_P D classes [(h0, .inr (8, [.ref (q 0), .int 5, .ref (q 1), .ref (q 2), .ref (q 3), .ref (q 4), .ref (q 5), .ref (q 6), .ref (q 7), .ref (q 8), .ref (q 9), .ref (q 10), .ref (q 11)])), ((q 0), .inl (cT 2, 900, .inl (f_6)))] H ∧ va_D A [(h0, .inr (8, [.ref (q 0), .int 5, .ref (q 1), .ref (q 2), .ref (q 3), .ref (q 4), .ref (q 5), .ref (q 6), .ref (q 7), .ref (q 8), .ref (q 9), .ref (q 10), .ref (q 11)])), ((q 0), .inl (cT 2, 900, .inl (f_6)))] := ⟨_, hP, hD⟩
  refine lv_aload_n hx hb dX8_tapeInt_30 rfl (lv_at hl 1 rfl) ?_
  refine lv_dup hx hb dX8_tapeInt_31 rfl ?_
  refine va_get (D := D) (ci := 8) (v := .int 5) (C := RX8) (T := TX8) (N := 13) hx hb htg gRX8 hown hK hP 0 rfl rfl 1 (by decide) (htg _ wi_468) (fun _ h9 => h9) rfl dX8_tapeInt_32 ?_
  refine lv_iconst (v := 1) hx hb dX8_tapeInt_35 (by decide) ?_
  refine lv_iadd hx hb dX8_tapeInt_36 ?_
  refine lv_is (y := 6) (by decide) ?_
  refine va_put (D := D) (ci := 8) (v := .int 6) (ty := .int) (C := RX8) (T := TX8) (N := 13) hx hb htg gRX8 tyX8 tyX8_ok nmX8 hown hK hP hD hS 0 rfl rfl 1 (by decide) (htg _ wi_468) (fun _ h9 => h9) rfl (by decide +kernel) rfl rfl (Nat.le_of_ble_eq_true rfl) dX8_tapeInt_37 (fun H locs hP hD hS => ?_)
  have hP : va_P D classes [(h0, .inr (8, [.ref (q 0), .int 6, .ref (q 1), .ref (q 2), .ref (q 3), .ref (q 4), .ref (q 5), .ref (q 6), .ref (q 7), .ref (q 8), .ref (q 9), .ref (q 10), .ref (q 11)])), ((q 0), .inl (cT 2, 900, .inl (f_6)))] _ := hP
  have hD : va_D A [(h0, .inr (8, [.ref (q 0), .int 6, .ref (q 1), .ref (q 2), .ref (q 3), .ref (q 4), .ref (q 5), .ref (q 6), .ref (q 7), .ref (q 8), .ref (q 9), .ref (q 10), .ref (q 11)])), ((q 0), .inl (cT 2, 900, .inl (f_6)))] := hD
  refine lv_iinc (v := 8) (lv' := [(2, .int 8), (0, .ref h0), (1, .int x)]) hx hb dX8_tapeInt_40 hl (k := 0) rfl (by decide) (by decide) rfl (fun ls hl => ?_)
  refine lv_goto (tgt := 3) hx hb dX8_tapeInt_43 (by decide) ?_
  refine lv_iload_n hx hb dX8_tapeInt_3 rfl (lv_at hl 0 rfl) ?_
  refine lv_if_lt (tgt := 46) hx hb dX8_tapeInt_4 (by decide) (fun h => absurd h (by decide)) (fun _ => ?_)
  refine lv_aload_n hx hb dX8_tapeInt_7 rfl (lv_at hl 1 rfl) ?_
  refine va_get (D := D) (ci := 8) (v := .int 6) (C := RX8) (T := TX8) (N := 13) hx hb htg gRX8 hown hK hP 0 rfl rfl 1 (by decide) (htg _ wi_468) (fun _ h9 => h9) rfl dX8_tapeInt_8 ?_
  refine lv_sipush (v := 900) hx hb dX8_tapeInt_11 (by decide) ?_
  refine lv_icmp_ge (tgt := 46) hx hb dX8_tapeInt_14 (by decide) (fun h => absurd h (by decide)) (fun _ => ?_)
  refine lv_aload_n hx hb dX8_tapeInt_17 rfl (lv_at hl 1 rfl) ?_
  refine va_get (D := D) (ci := 8) (v := .ref (q 0)) (C := RX8) (T := TX8) (N := 13) hx hb htg gRX8 hown hK hP 0 rfl rfl 0 (by decide) (htg _ wi_467) (fun _ h9 => h9) rfl dX8_tapeInt_18 ?_
  refine lv_aload_n hx hb dX8_tapeInt_21 rfl (lv_at hl 1 rfl) ?_
  refine va_get (D := D) (ci := 8) (v := .int 6) (C := RX8) (T := TX8) (N := 13) hx hb htg gRX8 hown hK hP 0 rfl rfl 1 (by decide) (htg _ wi_468) (fun _ h9 => h9) rfl dX8_tapeInt_22 ?_
  refine lv_iload_n hx hb dX8_tapeInt_25 rfl (lv_at hl 2 rfl) ?_
  refine lv_iload_n hx hb dX8_tapeInt_26 rfl (lv_at hl 0 rfl) ?_
  obtain ⟨z_7, ez_7⟩ : ∃ w : Int32, w = (x.toUInt32 >>> ((8 : Int32).toUInt32 &&& Int32.toUInt32 31)).toInt32 := ⟨_, rfl⟩
  refine lv_iushr (v := z_7) hx hb dX8_tapeInt_27 ez_7.symm ?_
  obtain ⟨z_8, ez_8⟩ : ∃ w : Int32, w = z_7.toInt8.toInt32 := ⟨_, rfl⟩
  refine lv_i2b (v := z_8) hx hb dX8_tapeInt_28 ez_8.symm ?_
  refine va_bast hx hb hK hP hD hS 1 2 rfl rfl (by unfold vp_in; decide) dX8_tapeInt_29 (fun H locs hP hD hS => ?_)
  obtain ⟨f_9, hP, hD⟩ : ∃ f_9 : Nat → Int32, va_P D classes [(h0, .inr (8, [.ref (q 0), .int 6, .ref (q 1), .ref (q 2), .ref (q 3), .ref (q 4), .ref (q 5), .ref (q 6), .ref (q 7), .ref (q 8), .ref (q 9), .ref (q 10), .ref (q 11)])), ((q 0), .inl (cT 2, 900, .inl (f_9)))] H ∧ va_D A [(h0, .inr (8, [.ref (q 0), .int 6, .ref (q 1), .ref (q 2), .ref (q 3), .ref (q 4), .ref (q 5), .ref (q 6), .ref (q 7), .ref (q 8), .ref (q 9), .ref (q 10), .ref (q 11)])), ((q 0), .inl (cT 2, 900, .inl (f_9)))] := ⟨_, hP, hD⟩
  refine lv_aload_n hx hb dX8_tapeInt_30 rfl (lv_at hl 1 rfl) ?_
  refine lv_dup hx hb dX8_tapeInt_31 rfl ?_
  refine va_get (D := D) (ci := 8) (v := .int 6) (C := RX8) (T := TX8) (N := 13) hx hb htg gRX8 hown hK hP 0 rfl rfl 1 (by decide) (htg _ wi_468) (fun _ h9 => h9) rfl dX8_tapeInt_32 ?_
  refine lv_iconst (v := 1) hx hb dX8_tapeInt_35 (by decide) ?_
  refine lv_iadd hx hb dX8_tapeInt_36 ?_
  refine lv_is (y := 7) (by decide) ?_
  refine va_put (D := D) (ci := 8) (v := .int 7) (ty := .int) (C := RX8) (T := TX8) (N := 13) hx hb htg gRX8 tyX8 tyX8_ok nmX8 hown hK hP hD hS 0 rfl rfl 1 (by decide) (htg _ wi_468) (fun _ h9 => h9) rfl (by decide +kernel) rfl rfl (Nat.le_of_ble_eq_true rfl) dX8_tapeInt_37 (fun H locs hP hD hS => ?_)
  have hP : va_P D classes [(h0, .inr (8, [.ref (q 0), .int 7, .ref (q 1), .ref (q 2), .ref (q 3), .ref (q 4), .ref (q 5), .ref (q 6), .ref (q 7), .ref (q 8), .ref (q 9), .ref (q 10), .ref (q 11)])), ((q 0), .inl (cT 2, 900, .inl (f_9)))] _ := hP
  have hD : va_D A [(h0, .inr (8, [.ref (q 0), .int 7, .ref (q 1), .ref (q 2), .ref (q 3), .ref (q 4), .ref (q 5), .ref (q 6), .ref (q 7), .ref (q 8), .ref (q 9), .ref (q 10), .ref (q 11)])), ((q 0), .inl (cT 2, 900, .inl (f_9)))] := hD
  refine lv_iinc (v := 0) (lv' := [(2, .int 0), (0, .ref h0), (1, .int x)]) hx hb dX8_tapeInt_40 hl (k := 0) rfl (by decide) (by decide) rfl (fun ls hl => ?_)
  refine lv_goto (tgt := 3) hx hb dX8_tapeInt_43 (by decide) ?_
  refine lv_iload_n hx hb dX8_tapeInt_3 rfl (lv_at hl 0 rfl) ?_
  refine lv_if_lt (tgt := 46) hx hb dX8_tapeInt_4 (by decide) (fun h => absurd h (by decide)) (fun _ => ?_)
  refine lv_aload_n hx hb dX8_tapeInt_7 rfl (lv_at hl 1 rfl) ?_
  refine va_get (D := D) (ci := 8) (v := .int 7) (C := RX8) (T := TX8) (N := 13) hx hb htg gRX8 hown hK hP 0 rfl rfl 1 (by decide) (htg _ wi_468) (fun _ h9 => h9) rfl dX8_tapeInt_8 ?_
  refine lv_sipush (v := 900) hx hb dX8_tapeInt_11 (by decide) ?_
  refine lv_icmp_ge (tgt := 46) hx hb dX8_tapeInt_14 (by decide) (fun h => absurd h (by decide)) (fun _ => ?_)
  refine lv_aload_n hx hb dX8_tapeInt_17 rfl (lv_at hl 1 rfl) ?_
  refine va_get (D := D) (ci := 8) (v := .ref (q 0)) (C := RX8) (T := TX8) (N := 13) hx hb htg gRX8 hown hK hP 0 rfl rfl 0 (by decide) (htg _ wi_467) (fun _ h9 => h9) rfl dX8_tapeInt_18 ?_
  refine lv_aload_n hx hb dX8_tapeInt_21 rfl (lv_at hl 1 rfl) ?_
  refine va_get (D := D) (ci := 8) (v := .int 7) (C := RX8) (T := TX8) (N := 13) hx hb htg gRX8 hown hK hP 0 rfl rfl 1 (by decide) (htg _ wi_468) (fun _ h9 => h9) rfl dX8_tapeInt_22 ?_
  refine lv_iload_n hx hb dX8_tapeInt_25 rfl (lv_at hl 2 rfl) ?_
  refine lv_iload_n hx hb dX8_tapeInt_26 rfl (lv_at hl 0 rfl) ?_
  obtain ⟨z_10, ez_10⟩ : ∃ w : Int32, w = (x.toUInt32 >>> ((0 : Int32).toUInt32 &&& Int32.toUInt32 31)).toInt32 := ⟨_, rfl⟩
  refine lv_iushr (v := z_10) hx hb dX8_tapeInt_27 ez_10.symm ?_
  obtain ⟨z_11, ez_11⟩ : ∃ w : Int32, w = z_10.toInt8.toInt32 := ⟨_, rfl⟩
  refine lv_i2b (v := z_11) hx hb dX8_tapeInt_28 ez_11.symm ?_
  refine va_bast hx hb hK hP hD hS 1 2 rfl rfl (by unfold vp_in; decide) dX8_tapeInt_29 (fun H locs hP hD hS => ?_)
  obtain ⟨f_12, hP, hD⟩ : ∃ f_12 : Nat → Int32, va_P D classes [(h0, .inr (8, [.ref (q 0), .int 7, .ref (q 1), .ref (q 2), .ref (q 3), .ref (q 4), .ref (q 5), .ref (q 6), .ref (q 7), .ref (q 8), .ref (q 9), .ref (q 10), .ref (q 11)])), ((q 0), .inl (cT 2, 900, .inl (f_12)))] H ∧ va_D A [(h0, .inr (8, [.ref (q 0), .int 7, .ref (q 1), .ref (q 2), .ref (q 3), .ref (q 4), .ref (q 5), .ref (q 6), .ref (q 7), .ref (q 8), .ref (q 9), .ref (q 10), .ref (q 11)])), ((q 0), .inl (cT 2, 900, .inl (f_12)))] := ⟨_, hP, hD⟩
  refine lv_aload_n hx hb dX8_tapeInt_30 rfl (lv_at hl 1 rfl) ?_
  refine lv_dup hx hb dX8_tapeInt_31 rfl ?_
  refine va_get (D := D) (ci := 8) (v := .int 7) (C := RX8) (T := TX8) (N := 13) hx hb htg gRX8 hown hK hP 0 rfl rfl 1 (by decide) (htg _ wi_468) (fun _ h9 => h9) rfl dX8_tapeInt_32 ?_
  refine lv_iconst (v := 1) hx hb dX8_tapeInt_35 (by decide) ?_
  refine lv_iadd hx hb dX8_tapeInt_36 ?_
  refine lv_is (y := 8) (by decide) ?_
  refine va_put (D := D) (ci := 8) (v := .int 8) (ty := .int) (C := RX8) (T := TX8) (N := 13) hx hb htg gRX8 tyX8 tyX8_ok nmX8 hown hK hP hD hS 0 rfl rfl 1 (by decide) (htg _ wi_468) (fun _ h9 => h9) rfl (by decide +kernel) rfl rfl (Nat.le_of_ble_eq_true rfl) dX8_tapeInt_37 (fun H locs hP hD hS => ?_)
  have hP : va_P D classes [(h0, .inr (8, [.ref (q 0), .int 8, .ref (q 1), .ref (q 2), .ref (q 3), .ref (q 4), .ref (q 5), .ref (q 6), .ref (q 7), .ref (q 8), .ref (q 9), .ref (q 10), .ref (q 11)])), ((q 0), .inl (cT 2, 900, .inl (f_12)))] _ := hP
  have hD : va_D A [(h0, .inr (8, [.ref (q 0), .int 8, .ref (q 1), .ref (q 2), .ref (q 3), .ref (q 4), .ref (q 5), .ref (q 6), .ref (q 7), .ref (q 8), .ref (q 9), .ref (q 10), .ref (q 11)])), ((q 0), .inl (cT 2, 900, .inl (f_12)))] := hD
  refine lv_iinc (v := (-8)) (lv' := [(2, .int (-8)), (0, .ref h0), (1, .int x)]) hx hb dX8_tapeInt_40 hl (k := 0) rfl (by decide) (by decide) rfl (fun ls hl => ?_)
  refine lv_goto (tgt := 3) hx hb dX8_tapeInt_43 (by decide) ?_
  refine lv_iload_n hx hb dX8_tapeInt_3 rfl (lv_at hl 0 rfl) ?_
  refine lv_if_lt (tgt := 46) hx hb dX8_tapeInt_4 (by decide) (fun _ => ?_) (fun h => absurd (by decide) h)
  exact x_vret hx hb hr hlk hP hD hS [0, 1] (f_12) rfl (by decide) trivial (by decide) (by decide) dX8_tapeInt_46
set_option maxHeartbeats 4000000 in
set_option maxRecDepth 100000 in
theorem c_tapeInt_8 (l : Launch) (D : va_G) (cT : Nat → ClassId) (sz : Nat) (h0 : Nat) (q : Nat → Nat) (f : Nat → Int32) (x : Int32) : Met l yX8_tapeInt (wsc yX8_tapeInt cX8_tapeInt 3 none) { frames := 2, cells := 0, slots := 0, locals := 100 } (va_Pc [.ref h0, .int x] (PX D cT sz [(h0, .inr (8, [.ref (q 0), .int 8, .ref (q 1), .ref (q 2), .ref (q 3), .ref (q 4), .ref (q 5), .ref (q 6), .ref (q 7), .ref (q 8), .ref (q 9), .ref (q 10), .ref (q 11)])), ((q 0), .inl (cT 2, 900, .inl (f)))])) (va_Qv (fun (u : Nat → Int32) => True) (fun u t => RW D (va_A [(h0, .inr (8, [.ref (q 0), .int 8, .ref (q 1), .ref (q 2), .ref (q 3), .ref (q 4), .ref (q 5), .ref (q 6), .ref (q 7), .ref (q 8), .ref (q 9), .ref (q 10), .ref (q 11)])), ((q 0), .inl (cT 2, 900, .inl (f)))] sz) ((fun u : Nat → Int32 => [(h0, .inr (8, [.ref (q 0), .int 12, .ref (q 1), .ref (q 2), .ref (q 3), .ref (q 4), .ref (q 5), .ref (q 6), .ref (q 7), .ref (q 8), .ref (q 9), .ref (q 10), .ref (q 11)])), ((q 0), .inl (cT 2, 900, .inl (u)))]) u) t) (va_A [(h0, .inr (8, [.ref (q 0), .int 8, .ref (q 1), .ref (q 2), .ref (q 3), .ref (q 4), .ref (q 5), .ref (q 6), .ref (q 7), .ref (q 8), .ref (q 9), .ref (q 10), .ref (q 11)])), ((q 0), .inl (cT 2, 900, .inl (f)))] sz)) 0 0 (va_A [(h0, .inr (8, [.ref (q 0), .int 8, .ref (q 1), .ref (q 2), .ref (q 3), .ref (q 4), .ref (q 5), .ref (q 6), .ref (q 7), .ref (q 8), .ref (q 9), .ref (q 10), .ref (q 11)])), ((q 0), .inl (cT 2, 900, .inl (f)))] sz) := by
  refine m_of (y := yX8_tapeInt) (cc := cX8_tapeInt) (nL := 3) (ret := none) (D := D) (cT := cT) (av := [.ref h0, .int x]) (wi := [(h0, .inr (8, [.ref (q 0), .int 8, .ref (q 1), .ref (q 2), .ref (q 3), .ref (q 4), .ref (q 5), .ref (q 6), .ref (q 7), .ref (q 8), .ref (q 9), .ref (q 10), .ref (q 11)])), ((q 0), .inl (cT 2, 900, .inl (f)))]) (fun A => va_Qv (fun (u : Nat → Int32) => True) (fun u t => RW D A ((fun u : Nat → Int32 => [(h0, .inr (8, [.ref (q 0), .int 12, .ref (q 1), .ref (q 2), .ref (q 3), .ref (q 4), .ref (q 5), .ref (q 6), .ref (q 7), .ref (q 8), .ref (q 9), .ref (q 10), .ref (q 11)])), ((q 0), .inl (cT 2, 900, .inl (u)))]) u) t) A) (by decide) (Nat.le_of_ble_eq_true rfl) ?_
  intro p e s m below meth c A hx hb hml hown htg hK hN hr hlk hnm hsz hP hD hS hA ls hl
  have hown : s.vm.findClass RX8 = some m.cls := hown
  have hl : lv_has ls 3 [(0, .ref h0), (1, .int x)] := hl
  refine lv_bipush (v := 24) hx hb dX8_tapeInt_0 (by decide) ?_
  refine lv_istore_n (lv' := [(2, .int 24), (0, .ref h0), (1, .int x)]) hx hb dX8_tapeInt_2 rfl hl (by decide) rfl (fun ls hl => ?_)
  refine lv_iload_n hx hb dX8_tapeInt_3 rfl (lv_at hl 0 rfl) ?_
  refine lv_if_lt (tgt := 46) hx hb dX8_tapeInt_4 (by decide) (fun h => absurd h (by decide)) (fun _ => ?_)
  refine lv_aload_n hx hb dX8_tapeInt_7 rfl (lv_at hl 1 rfl) ?_
  refine va_get (D := D) (ci := 8) (v := .int 8) (C := RX8) (T := TX8) (N := 13) hx hb htg gRX8 hown hK hP 0 rfl rfl 1 (by decide) (htg _ wi_468) (fun _ h9 => h9) rfl dX8_tapeInt_8 ?_
  refine lv_sipush (v := 900) hx hb dX8_tapeInt_11 (by decide) ?_
  refine lv_icmp_ge (tgt := 46) hx hb dX8_tapeInt_14 (by decide) (fun h => absurd h (by decide)) (fun _ => ?_)
  refine lv_aload_n hx hb dX8_tapeInt_17 rfl (lv_at hl 1 rfl) ?_
  refine va_get (D := D) (ci := 8) (v := .ref (q 0)) (C := RX8) (T := TX8) (N := 13) hx hb htg gRX8 hown hK hP 0 rfl rfl 0 (by decide) (htg _ wi_467) (fun _ h9 => h9) rfl dX8_tapeInt_18 ?_
  refine lv_aload_n hx hb dX8_tapeInt_21 rfl (lv_at hl 1 rfl) ?_
  refine va_get (D := D) (ci := 8) (v := .int 8) (C := RX8) (T := TX8) (N := 13) hx hb htg gRX8 hown hK hP 0 rfl rfl 1 (by decide) (htg _ wi_468) (fun _ h9 => h9) rfl dX8_tapeInt_22 ?_
  refine lv_iload_n hx hb dX8_tapeInt_25 rfl (lv_at hl 2 rfl) ?_
  refine lv_iload_n hx hb dX8_tapeInt_26 rfl (lv_at hl 0 rfl) ?_
  obtain ⟨z_1, ez_1⟩ : ∃ w : Int32, w = (x.toUInt32 >>> ((24 : Int32).toUInt32 &&& Int32.toUInt32 31)).toInt32 := ⟨_, rfl⟩
  refine lv_iushr (v := z_1) hx hb dX8_tapeInt_27 ez_1.symm ?_
  obtain ⟨z_2, ez_2⟩ : ∃ w : Int32, w = z_1.toInt8.toInt32 := ⟨_, rfl⟩
  refine lv_i2b (v := z_2) hx hb dX8_tapeInt_28 ez_2.symm ?_
  refine va_bast hx hb hK hP hD hS 1 2 rfl rfl (by unfold vp_in; decide) dX8_tapeInt_29 (fun H locs hP hD hS => ?_)
  obtain ⟨f_3, hP, hD⟩ : ∃ f_3 : Nat → Int32, va_P D classes [(h0, .inr (8, [.ref (q 0), .int 8, .ref (q 1), .ref (q 2), .ref (q 3), .ref (q 4), .ref (q 5), .ref (q 6), .ref (q 7), .ref (q 8), .ref (q 9), .ref (q 10), .ref (q 11)])), ((q 0), .inl (cT 2, 900, .inl (f_3)))] H ∧ va_D A [(h0, .inr (8, [.ref (q 0), .int 8, .ref (q 1), .ref (q 2), .ref (q 3), .ref (q 4), .ref (q 5), .ref (q 6), .ref (q 7), .ref (q 8), .ref (q 9), .ref (q 10), .ref (q 11)])), ((q 0), .inl (cT 2, 900, .inl (f_3)))] := ⟨_, hP, hD⟩
  refine lv_aload_n hx hb dX8_tapeInt_30 rfl (lv_at hl 1 rfl) ?_
  refine lv_dup hx hb dX8_tapeInt_31 rfl ?_
  refine va_get (D := D) (ci := 8) (v := .int 8) (C := RX8) (T := TX8) (N := 13) hx hb htg gRX8 hown hK hP 0 rfl rfl 1 (by decide) (htg _ wi_468) (fun _ h9 => h9) rfl dX8_tapeInt_32 ?_
  refine lv_iconst (v := 1) hx hb dX8_tapeInt_35 (by decide) ?_
  refine lv_iadd hx hb dX8_tapeInt_36 ?_
  refine lv_is (y := 9) (by decide) ?_
  refine va_put (D := D) (ci := 8) (v := .int 9) (ty := .int) (C := RX8) (T := TX8) (N := 13) hx hb htg gRX8 tyX8 tyX8_ok nmX8 hown hK hP hD hS 0 rfl rfl 1 (by decide) (htg _ wi_468) (fun _ h9 => h9) rfl (by decide +kernel) rfl rfl (Nat.le_of_ble_eq_true rfl) dX8_tapeInt_37 (fun H locs hP hD hS => ?_)
  have hP : va_P D classes [(h0, .inr (8, [.ref (q 0), .int 9, .ref (q 1), .ref (q 2), .ref (q 3), .ref (q 4), .ref (q 5), .ref (q 6), .ref (q 7), .ref (q 8), .ref (q 9), .ref (q 10), .ref (q 11)])), ((q 0), .inl (cT 2, 900, .inl (f_3)))] _ := hP
  have hD : va_D A [(h0, .inr (8, [.ref (q 0), .int 9, .ref (q 1), .ref (q 2), .ref (q 3), .ref (q 4), .ref (q 5), .ref (q 6), .ref (q 7), .ref (q 8), .ref (q 9), .ref (q 10), .ref (q 11)])), ((q 0), .inl (cT 2, 900, .inl (f_3)))] := hD
  refine lv_iinc (v := 16) (lv' := [(2, .int 16), (0, .ref h0), (1, .int x)]) hx hb dX8_tapeInt_40 hl (k := 0) rfl (by decide) (by decide) rfl (fun ls hl => ?_)
  refine lv_goto (tgt := 3) hx hb dX8_tapeInt_43 (by decide) ?_
  refine lv_iload_n hx hb dX8_tapeInt_3 rfl (lv_at hl 0 rfl) ?_
  refine lv_if_lt (tgt := 46) hx hb dX8_tapeInt_4 (by decide) (fun h => absurd h (by decide)) (fun _ => ?_)
  refine lv_aload_n hx hb dX8_tapeInt_7 rfl (lv_at hl 1 rfl) ?_
  refine va_get (D := D) (ci := 8) (v := .int 9) (C := RX8) (T := TX8) (N := 13) hx hb htg gRX8 hown hK hP 0 rfl rfl 1 (by decide) (htg _ wi_468) (fun _ h9 => h9) rfl dX8_tapeInt_8 ?_
  refine lv_sipush (v := 900) hx hb dX8_tapeInt_11 (by decide) ?_
  refine lv_icmp_ge (tgt := 46) hx hb dX8_tapeInt_14 (by decide) (fun h => absurd h (by decide)) (fun _ => ?_)
  refine lv_aload_n hx hb dX8_tapeInt_17 rfl (lv_at hl 1 rfl) ?_
  refine va_get (D := D) (ci := 8) (v := .ref (q 0)) (C := RX8) (T := TX8) (N := 13) hx hb htg gRX8 hown hK hP 0 rfl rfl 0 (by decide) (htg _ wi_467) (fun _ h9 => h9) rfl dX8_tapeInt_18 ?_
  refine lv_aload_n hx hb dX8_tapeInt_21 rfl (lv_at hl 1 rfl) ?_
  refine va_get (D := D) (ci := 8) (v := .int 9) (C := RX8) (T := TX8) (N := 13) hx hb htg gRX8 hown hK hP 0 rfl rfl 1 (by decide) (htg _ wi_468) (fun _ h9 => h9) rfl dX8_tapeInt_22 ?_
  refine lv_iload_n hx hb dX8_tapeInt_25 rfl (lv_at hl 2 rfl) ?_
  refine lv_iload_n hx hb dX8_tapeInt_26 rfl (lv_at hl 0 rfl) ?_
  obtain ⟨z_4, ez_4⟩ : ∃ w : Int32, w = (x.toUInt32 >>> ((16 : Int32).toUInt32 &&& Int32.toUInt32 31)).toInt32 := ⟨_, rfl⟩
  refine lv_iushr (v := z_4) hx hb dX8_tapeInt_27 ez_4.symm ?_
  obtain ⟨z_5, ez_5⟩ : ∃ w : Int32, w = z_4.toInt8.toInt32 := ⟨_, rfl⟩
  refine lv_i2b (v := z_5) hx hb dX8_tapeInt_28 ez_5.symm ?_
  refine va_bast hx hb hK hP hD hS 1 2 rfl rfl (by unfold vp_in; decide) dX8_tapeInt_29 (fun H locs hP hD hS => ?_)
  obtain ⟨f_6, hP, hD⟩ : ∃ f_6 : Nat → Int32, va_P D classes [(h0, .inr (8, [.ref (q 0), .int 9, .ref (q 1), .ref (q 2), .ref (q 3), .ref (q 4), .ref (q 5), .ref (q 6), .ref (q 7), .ref (q 8), .ref (q 9), .ref (q 10), .ref (q 11)])), ((q 0), .inl (cT 2, 900, .inl (f_6)))] H ∧ va_D A [(h0, .inr (8, [.ref (q 0), .int 9, .ref (q 1), .ref (q 2), .ref (q 3), .ref (q 4), .ref (q 5), .ref (q 6), .ref (q 7), .ref (q 8), .ref (q 9), .ref (q 10), .ref (q 11)])), ((q 0), .inl (cT 2, 900, .inl (f_6)))] := ⟨_, hP, hD⟩
  refine lv_aload_n hx hb dX8_tapeInt_30 rfl (lv_at hl 1 rfl) ?_
  refine lv_dup hx hb dX8_tapeInt_31 rfl ?_
  refine va_get (D := D) (ci := 8) (v := .int 9) (C := RX8) (T := TX8) (N := 13) hx hb htg gRX8 hown hK hP 0 rfl rfl 1 (by decide) (htg _ wi_468) (fun _ h9 => h9) rfl dX8_tapeInt_32 ?_
  refine lv_iconst (v := 1) hx hb dX8_tapeInt_35 (by decide) ?_
  refine lv_iadd hx hb dX8_tapeInt_36 ?_
  refine lv_is (y := 10) (by decide) ?_
  refine va_put (D := D) (ci := 8) (v := .int 10) (ty := .int) (C := RX8) (T := TX8) (N := 13) hx hb htg gRX8 tyX8 tyX8_ok nmX8 hown hK hP hD hS 0 rfl rfl 1 (by decide) (htg _ wi_468) (fun _ h9 => h9) rfl (by decide +kernel) rfl rfl (Nat.le_of_ble_eq_true rfl) dX8_tapeInt_37 (fun H locs hP hD hS => ?_)
  have hP : va_P D classes [(h0, .inr (8, [.ref (q 0), .int 10, .ref (q 1), .ref (q 2), .ref (q 3), .ref (q 4), .ref (q 5), .ref (q 6), .ref (q 7), .ref (q 8), .ref (q 9), .ref (q 10), .ref (q 11)])), ((q 0), .inl (cT 2, 900, .inl (f_6)))] _ := hP
  have hD : va_D A [(h0, .inr (8, [.ref (q 0), .int 10, .ref (q 1), .ref (q 2), .ref (q 3), .ref (q 4), .ref (q 5), .ref (q 6), .ref (q 7), .ref (q 8), .ref (q 9), .ref (q 10), .ref (q 11)])), ((q 0), .inl (cT 2, 900, .inl (f_6)))] := hD
  refine lv_iinc (v := 8) (lv' := [(2, .int 8), (0, .ref h0), (1, .int x)]) hx hb dX8_tapeInt_40 hl (k := 0) rfl (by decide) (by decide) rfl (fun ls hl => ?_)
  refine lv_goto (tgt := 3) hx hb dX8_tapeInt_43 (by decide) ?_
  refine lv_iload_n hx hb dX8_tapeInt_3 rfl (lv_at hl 0 rfl) ?_
  refine lv_if_lt (tgt := 46) hx hb dX8_tapeInt_4 (by decide) (fun h => absurd h (by decide)) (fun _ => ?_)
  refine lv_aload_n hx hb dX8_tapeInt_7 rfl (lv_at hl 1 rfl) ?_
  refine va_get (D := D) (ci := 8) (v := .int 10) (C := RX8) (T := TX8) (N := 13) hx hb htg gRX8 hown hK hP 0 rfl rfl 1 (by decide) (htg _ wi_468) (fun _ h9 => h9) rfl dX8_tapeInt_8 ?_
  refine lv_sipush (v := 900) hx hb dX8_tapeInt_11 (by decide) ?_
  refine lv_icmp_ge (tgt := 46) hx hb dX8_tapeInt_14 (by decide) (fun h => absurd h (by decide)) (fun _ => ?_)
  refine lv_aload_n hx hb dX8_tapeInt_17 rfl (lv_at hl 1 rfl) ?_
  refine va_get (D := D) (ci := 8) (v := .ref (q 0)) (C := RX8) (T := TX8) (N := 13) hx hb htg gRX8 hown hK hP 0 rfl rfl 0 (by decide) (htg _ wi_467) (fun _ h9 => h9) rfl dX8_tapeInt_18 ?_
  refine lv_aload_n hx hb dX8_tapeInt_21 rfl (lv_at hl 1 rfl) ?_
  refine va_get (D := D) (ci := 8) (v := .int 10) (C := RX8) (T := TX8) (N := 13) hx hb htg gRX8 hown hK hP 0 rfl rfl 1 (by decide) (htg _ wi_468) (fun _ h9 => h9) rfl dX8_tapeInt_22 ?_
  refine lv_iload_n hx hb dX8_tapeInt_25 rfl (lv_at hl 2 rfl) ?_
  refine lv_iload_n hx hb dX8_tapeInt_26 rfl (lv_at hl 0 rfl) ?_
  obtain ⟨z_7, ez_7⟩ : ∃ w : Int32, w = (x.toUInt32 >>> ((8 : Int32).toUInt32 &&& Int32.toUInt32 31)).toInt32 := ⟨_, rfl⟩
  refine lv_iushr (v := z_7) hx hb dX8_tapeInt_27 ez_7.symm ?_
  obtain ⟨z_8, ez_8⟩ : ∃ w : Int32, w = z_7.toInt8.toInt32 := ⟨_, rfl⟩
  refine lv_i2b (v := z_8) hx hb dX8_tapeInt_28 ez_8.symm ?_
  refine va_bast hx hb hK hP hD hS 1 2 rfl rfl (by unfold vp_in; decide) dX8_tapeInt_29 (fun H locs hP hD hS => ?_)
  obtain ⟨f_9, hP, hD⟩ : ∃ f_9 : Nat → Int32, va_P D classes [(h0, .inr (8, [.ref (q 0), .int 10, .ref (q 1), .ref (q 2), .ref (q 3), .ref (q 4), .ref (q 5), .ref (q 6), .ref (q 7), .ref (q 8), .ref (q 9), .ref (q 10), .ref (q 11)])), ((q 0), .inl (cT 2, 900, .inl (f_9)))] H ∧ va_D A [(h0, .inr (8, [.ref (q 0), .int 10, .ref (q 1), .ref (q 2), .ref (q 3), .ref (q 4), .ref (q 5), .ref (q 6), .ref (q 7), .ref (q 8), .ref (q 9), .ref (q 10), .ref (q 11)])), ((q 0), .inl (cT 2, 900, .inl (f_9)))] := ⟨_, hP, hD⟩
  refine lv_aload_n hx hb dX8_tapeInt_30 rfl (lv_at hl 1 rfl) ?_
  refine lv_dup hx hb dX8_tapeInt_31 rfl ?_
  refine va_get (D := D) (ci := 8) (v := .int 10) (C := RX8) (T := TX8) (N := 13) hx hb htg gRX8 hown hK hP 0 rfl rfl 1 (by decide) (htg _ wi_468) (fun _ h9 => h9) rfl dX8_tapeInt_32 ?_
  refine lv_iconst (v := 1) hx hb dX8_tapeInt_35 (by decide) ?_
  refine lv_iadd hx hb dX8_tapeInt_36 ?_
  refine lv_is (y := 11) (by decide) ?_
  refine va_put (D := D) (ci := 8) (v := .int 11) (ty := .int) (C := RX8) (T := TX8) (N := 13) hx hb htg gRX8 tyX8 tyX8_ok nmX8 hown hK hP hD hS 0 rfl rfl 1 (by decide) (htg _ wi_468) (fun _ h9 => h9) rfl (by decide +kernel) rfl rfl (Nat.le_of_ble_eq_true rfl) dX8_tapeInt_37 (fun H locs hP hD hS => ?_)
  have hP : va_P D classes [(h0, .inr (8, [.ref (q 0), .int 11, .ref (q 1), .ref (q 2), .ref (q 3), .ref (q 4), .ref (q 5), .ref (q 6), .ref (q 7), .ref (q 8), .ref (q 9), .ref (q 10), .ref (q 11)])), ((q 0), .inl (cT 2, 900, .inl (f_9)))] _ := hP
  have hD : va_D A [(h0, .inr (8, [.ref (q 0), .int 11, .ref (q 1), .ref (q 2), .ref (q 3), .ref (q 4), .ref (q 5), .ref (q 6), .ref (q 7), .ref (q 8), .ref (q 9), .ref (q 10), .ref (q 11)])), ((q 0), .inl (cT 2, 900, .inl (f_9)))] := hD
  refine lv_iinc (v := 0) (lv' := [(2, .int 0), (0, .ref h0), (1, .int x)]) hx hb dX8_tapeInt_40 hl (k := 0) rfl (by decide) (by decide) rfl (fun ls hl => ?_)
  refine lv_goto (tgt := 3) hx hb dX8_tapeInt_43 (by decide) ?_
  refine lv_iload_n hx hb dX8_tapeInt_3 rfl (lv_at hl 0 rfl) ?_
  refine lv_if_lt (tgt := 46) hx hb dX8_tapeInt_4 (by decide) (fun h => absurd h (by decide)) (fun _ => ?_)
  refine lv_aload_n hx hb dX8_tapeInt_7 rfl (lv_at hl 1 rfl) ?_
  refine va_get (D := D) (ci := 8) (v := .int 11) (C := RX8) (T := TX8) (N := 13) hx hb htg gRX8 hown hK hP 0 rfl rfl 1 (by decide) (htg _ wi_468) (fun _ h9 => h9) rfl dX8_tapeInt_8 ?_
  refine lv_sipush (v := 900) hx hb dX8_tapeInt_11 (by decide) ?_
  refine lv_icmp_ge (tgt := 46) hx hb dX8_tapeInt_14 (by decide) (fun h => absurd h (by decide)) (fun _ => ?_)
  refine lv_aload_n hx hb dX8_tapeInt_17 rfl (lv_at hl 1 rfl) ?_
  refine va_get (D := D) (ci := 8) (v := .ref (q 0)) (C := RX8) (T := TX8) (N := 13) hx hb htg gRX8 hown hK hP 0 rfl rfl 0 (by decide) (htg _ wi_467) (fun _ h9 => h9) rfl dX8_tapeInt_18 ?_
  refine lv_aload_n hx hb dX8_tapeInt_21 rfl (lv_at hl 1 rfl) ?_
  refine va_get (D := D) (ci := 8) (v := .int 11) (C := RX8) (T := TX8) (N := 13) hx hb htg gRX8 hown hK hP 0 rfl rfl 1 (by decide) (htg _ wi_468) (fun _ h9 => h9) rfl dX8_tapeInt_22 ?_
  refine lv_iload_n hx hb dX8_tapeInt_25 rfl (lv_at hl 2 rfl) ?_
  refine lv_iload_n hx hb dX8_tapeInt_26 rfl (lv_at hl 0 rfl) ?_
  obtain ⟨z_10, ez_10⟩ : ∃ w : Int32, w = (x.toUInt32 >>> ((0 : Int32).toUInt32 &&& Int32.toUInt32 31)).toInt32 := ⟨_, rfl⟩
  refine lv_iushr (v := z_10) hx hb dX8_tapeInt_27 ez_10.symm ?_
  obtain ⟨z_11, ez_11⟩ : ∃ w : Int32, w = z_10.toInt8.toInt32 := ⟨_, rfl⟩
  refine lv_i2b (v := z_11) hx hb dX8_tapeInt_28 ez_11.symm ?_
  refine va_bast hx hb hK hP hD hS 1 2 rfl rfl (by unfold vp_in; decide) dX8_tapeInt_29 (fun H locs hP hD hS => ?_)
  obtain ⟨f_12, hP, hD⟩ : ∃ f_12 : Nat → Int32, va_P D classes [(h0, .inr (8, [.ref (q 0), .int 11, .ref (q 1), .ref (q 2), .ref (q 3), .ref (q 4), .ref (q 5), .ref (q 6), .ref (q 7), .ref (q 8), .ref (q 9), .ref (q 10), .ref (q 11)])), ((q 0), .inl (cT 2, 900, .inl (f_12)))] H ∧ va_D A [(h0, .inr (8, [.ref (q 0), .int 11, .ref (q 1), .ref (q 2), .ref (q 3), .ref (q 4), .ref (q 5), .ref (q 6), .ref (q 7), .ref (q 8), .ref (q 9), .ref (q 10), .ref (q 11)])), ((q 0), .inl (cT 2, 900, .inl (f_12)))] := ⟨_, hP, hD⟩
  refine lv_aload_n hx hb dX8_tapeInt_30 rfl (lv_at hl 1 rfl) ?_
  refine lv_dup hx hb dX8_tapeInt_31 rfl ?_
  refine va_get (D := D) (ci := 8) (v := .int 11) (C := RX8) (T := TX8) (N := 13) hx hb htg gRX8 hown hK hP 0 rfl rfl 1 (by decide) (htg _ wi_468) (fun _ h9 => h9) rfl dX8_tapeInt_32 ?_
  refine lv_iconst (v := 1) hx hb dX8_tapeInt_35 (by decide) ?_
  refine lv_iadd hx hb dX8_tapeInt_36 ?_
  refine lv_is (y := 12) (by decide) ?_
  refine va_put (D := D) (ci := 8) (v := .int 12) (ty := .int) (C := RX8) (T := TX8) (N := 13) hx hb htg gRX8 tyX8 tyX8_ok nmX8 hown hK hP hD hS 0 rfl rfl 1 (by decide) (htg _ wi_468) (fun _ h9 => h9) rfl (by decide +kernel) rfl rfl (Nat.le_of_ble_eq_true rfl) dX8_tapeInt_37 (fun H locs hP hD hS => ?_)
  have hP : va_P D classes [(h0, .inr (8, [.ref (q 0), .int 12, .ref (q 1), .ref (q 2), .ref (q 3), .ref (q 4), .ref (q 5), .ref (q 6), .ref (q 7), .ref (q 8), .ref (q 9), .ref (q 10), .ref (q 11)])), ((q 0), .inl (cT 2, 900, .inl (f_12)))] _ := hP
  have hD : va_D A [(h0, .inr (8, [.ref (q 0), .int 12, .ref (q 1), .ref (q 2), .ref (q 3), .ref (q 4), .ref (q 5), .ref (q 6), .ref (q 7), .ref (q 8), .ref (q 9), .ref (q 10), .ref (q 11)])), ((q 0), .inl (cT 2, 900, .inl (f_12)))] := hD
  refine lv_iinc (v := (-8)) (lv' := [(2, .int (-8)), (0, .ref h0), (1, .int x)]) hx hb dX8_tapeInt_40 hl (k := 0) rfl (by decide) (by decide) rfl (fun ls hl => ?_)
  refine lv_goto (tgt := 3) hx hb dX8_tapeInt_43 (by decide) ?_
  refine lv_iload_n hx hb dX8_tapeInt_3 rfl (lv_at hl 0 rfl) ?_
  refine lv_if_lt (tgt := 46) hx hb dX8_tapeInt_4 (by decide) (fun _ => ?_) (fun h => absurd (by decide) h)
  exact x_vret hx hb hr hlk hP hD hS [0, 1] (f_12) rfl (by decide) trivial (by decide) (by decide) dX8_tapeInt_46
set_option maxHeartbeats 4000000 in
set_option maxRecDepth 100000 in
theorem c_tapeInt_12 (l : Launch) (D : va_G) (cT : Nat → ClassId) (sz : Nat) (h0 : Nat) (q : Nat → Nat) (f : Nat → Int32) (x : Int32) : Met l yX8_tapeInt (wsc yX8_tapeInt cX8_tapeInt 3 none) { frames := 2, cells := 0, slots := 0, locals := 100 } (va_Pc [.ref h0, .int x] (PX D cT sz [(h0, .inr (8, [.ref (q 0), .int 12, .ref (q 1), .ref (q 2), .ref (q 3), .ref (q 4), .ref (q 5), .ref (q 6), .ref (q 7), .ref (q 8), .ref (q 9), .ref (q 10), .ref (q 11)])), ((q 0), .inl (cT 2, 900, .inl (f)))])) (va_Qv (fun (u : Nat → Int32) => True) (fun u t => RW D (va_A [(h0, .inr (8, [.ref (q 0), .int 12, .ref (q 1), .ref (q 2), .ref (q 3), .ref (q 4), .ref (q 5), .ref (q 6), .ref (q 7), .ref (q 8), .ref (q 9), .ref (q 10), .ref (q 11)])), ((q 0), .inl (cT 2, 900, .inl (f)))] sz) ((fun u : Nat → Int32 => [(h0, .inr (8, [.ref (q 0), .int 16, .ref (q 1), .ref (q 2), .ref (q 3), .ref (q 4), .ref (q 5), .ref (q 6), .ref (q 7), .ref (q 8), .ref (q 9), .ref (q 10), .ref (q 11)])), ((q 0), .inl (cT 2, 900, .inl (u)))]) u) t) (va_A [(h0, .inr (8, [.ref (q 0), .int 12, .ref (q 1), .ref (q 2), .ref (q 3), .ref (q 4), .ref (q 5), .ref (q 6), .ref (q 7), .ref (q 8), .ref (q 9), .ref (q 10), .ref (q 11)])), ((q 0), .inl (cT 2, 900, .inl (f)))] sz)) 0 0 (va_A [(h0, .inr (8, [.ref (q 0), .int 12, .ref (q 1), .ref (q 2), .ref (q 3), .ref (q 4), .ref (q 5), .ref (q 6), .ref (q 7), .ref (q 8), .ref (q 9), .ref (q 10), .ref (q 11)])), ((q 0), .inl (cT 2, 900, .inl (f)))] sz) := by
  refine m_of (y := yX8_tapeInt) (cc := cX8_tapeInt) (nL := 3) (ret := none) (D := D) (cT := cT) (av := [.ref h0, .int x]) (wi := [(h0, .inr (8, [.ref (q 0), .int 12, .ref (q 1), .ref (q 2), .ref (q 3), .ref (q 4), .ref (q 5), .ref (q 6), .ref (q 7), .ref (q 8), .ref (q 9), .ref (q 10), .ref (q 11)])), ((q 0), .inl (cT 2, 900, .inl (f)))]) (fun A => va_Qv (fun (u : Nat → Int32) => True) (fun u t => RW D A ((fun u : Nat → Int32 => [(h0, .inr (8, [.ref (q 0), .int 16, .ref (q 1), .ref (q 2), .ref (q 3), .ref (q 4), .ref (q 5), .ref (q 6), .ref (q 7), .ref (q 8), .ref (q 9), .ref (q 10), .ref (q 11)])), ((q 0), .inl (cT 2, 900, .inl (u)))]) u) t) A) (by decide) (Nat.le_of_ble_eq_true rfl) ?_
  intro p e s m below meth c A hx hb hml hown htg hK hN hr hlk hnm hsz hP hD hS hA ls hl
  have hown : s.vm.findClass RX8 = some m.cls := hown
  have hl : lv_has ls 3 [(0, .ref h0), (1, .int x)] := hl
  refine lv_bipush (v := 24) hx hb dX8_tapeInt_0 (by decide) ?_
  refine lv_istore_n (lv' := [(2, .int 24), (0, .ref h0), (1, .int x)]) hx hb dX8_tapeInt_2 rfl hl (by decide) rfl (fun ls hl => ?_)
  refine lv_iload_n hx hb dX8_tapeInt_3 rfl (lv_at hl 0 rfl) ?_
  refine lv_if_lt (tgt := 46) hx hb dX8_tapeInt_4 (by decide) (fun h => absurd h (by decide)) (fun _ => ?_)
  refine lv_aload_n hx hb dX8_tapeInt_7 rfl (lv_at hl 1 rfl) ?_
  refine va_get (D := D) (ci := 8) (v := .int 12) (C := RX8) (T := TX8) (N := 13) hx hb htg gRX8 hown hK hP 0 rfl rfl 1 (by decide) (htg _ wi_468) (fun _ h9 => h9) rfl dX8_tapeInt_8 ?_
  refine lv_sipush (v := 900) hx hb dX8_tapeInt_11 (by decide) ?_
  refine lv_icmp_ge (tgt := 46) hx hb dX8_tapeInt_14 (by decide) (fun h => absurd h (by decide)) (fun _ => ?_)
  refine lv_aload_n hx hb dX8_tapeInt_17 rfl (lv_at hl 1 rfl) ?_
  refine va_get (D := D) (ci := 8) (v := .ref (q 0)) (C := RX8) (T := TX8) (N := 13) hx hb htg gRX8 hown hK hP 0 rfl rfl 0 (by decide) (htg _ wi_467) (fun _ h9 => h9) rfl dX8_tapeInt_18 ?_
  refine lv_aload_n hx hb dX8_tapeInt_21 rfl (lv_at hl 1 rfl) ?_
  refine va_get (D := D) (ci := 8) (v := .int 12) (C := RX8) (T := TX8) (N := 13) hx hb htg gRX8 hown hK hP 0 rfl rfl 1 (by decide) (htg _ wi_468) (fun _ h9 => h9) rfl dX8_tapeInt_22 ?_
  refine lv_iload_n hx hb dX8_tapeInt_25 rfl (lv_at hl 2 rfl) ?_
  refine lv_iload_n hx hb dX8_tapeInt_26 rfl (lv_at hl 0 rfl) ?_
  obtain ⟨z_1, ez_1⟩ : ∃ w : Int32, w = (x.toUInt32 >>> ((24 : Int32).toUInt32 &&& Int32.toUInt32 31)).toInt32 := ⟨_, rfl⟩
  refine lv_iushr (v := z_1) hx hb dX8_tapeInt_27 ez_1.symm ?_
  obtain ⟨z_2, ez_2⟩ : ∃ w : Int32, w = z_1.toInt8.toInt32 := ⟨_, rfl⟩
  refine lv_i2b (v := z_2) hx hb dX8_tapeInt_28 ez_2.symm ?_
  refine va_bast hx hb hK hP hD hS 1 2 rfl rfl (by unfold vp_in; decide) dX8_tapeInt_29 (fun H locs hP hD hS => ?_)
  obtain ⟨f_3, hP, hD⟩ : ∃ f_3 : Nat → Int32, va_P D classes [(h0, .inr (8, [.ref (q 0), .int 12, .ref (q 1), .ref (q 2), .ref (q 3), .ref (q 4), .ref (q 5), .ref (q 6), .ref (q 7), .ref (q 8), .ref (q 9), .ref (q 10), .ref (q 11)])), ((q 0), .inl (cT 2, 900, .inl (f_3)))] H ∧ va_D A [(h0, .inr (8, [.ref (q 0), .int 12, .ref (q 1), .ref (q 2), .ref (q 3), .ref (q 4), .ref (q 5), .ref (q 6), .ref (q 7), .ref (q 8), .ref (q 9), .ref (q 10), .ref (q 11)])), ((q 0), .inl (cT 2, 900, .inl (f_3)))] := ⟨_, hP, hD⟩
  refine lv_aload_n hx hb dX8_tapeInt_30 rfl (lv_at hl 1 rfl) ?_
  refine lv_dup hx hb dX8_tapeInt_31 rfl ?_
  refine va_get (D := D) (ci := 8) (v := .int 12) (C := RX8) (T := TX8) (N := 13) hx hb htg gRX8 hown hK hP 0 rfl rfl 1 (by decide) (htg _ wi_468) (fun _ h9 => h9) rfl dX8_tapeInt_32 ?_
  refine lv_iconst (v := 1) hx hb dX8_tapeInt_35 (by decide) ?_
  refine lv_iadd hx hb dX8_tapeInt_36 ?_
  refine lv_is (y := 13) (by decide) ?_
  refine va_put (D := D) (ci := 8) (v := .int 13) (ty := .int) (C := RX8) (T := TX8) (N := 13) hx hb htg gRX8 tyX8 tyX8_ok nmX8 hown hK hP hD hS 0 rfl rfl 1 (by decide) (htg _ wi_468) (fun _ h9 => h9) rfl (by decide +kernel) rfl rfl (Nat.le_of_ble_eq_true rfl) dX8_tapeInt_37 (fun H locs hP hD hS => ?_)
  have hP : va_P D classes [(h0, .inr (8, [.ref (q 0), .int 13, .ref (q 1), .ref (q 2), .ref (q 3), .ref (q 4), .ref (q 5), .ref (q 6), .ref (q 7), .ref (q 8), .ref (q 9), .ref (q 10), .ref (q 11)])), ((q 0), .inl (cT 2, 900, .inl (f_3)))] _ := hP
  have hD : va_D A [(h0, .inr (8, [.ref (q 0), .int 13, .ref (q 1), .ref (q 2), .ref (q 3), .ref (q 4), .ref (q 5), .ref (q 6), .ref (q 7), .ref (q 8), .ref (q 9), .ref (q 10), .ref (q 11)])), ((q 0), .inl (cT 2, 900, .inl (f_3)))] := hD
  refine lv_iinc (v := 16) (lv' := [(2, .int 16), (0, .ref h0), (1, .int x)]) hx hb dX8_tapeInt_40 hl (k := 0) rfl (by decide) (by decide) rfl (fun ls hl => ?_)
  refine lv_goto (tgt := 3) hx hb dX8_tapeInt_43 (by decide) ?_
  refine lv_iload_n hx hb dX8_tapeInt_3 rfl (lv_at hl 0 rfl) ?_
  refine lv_if_lt (tgt := 46) hx hb dX8_tapeInt_4 (by decide) (fun h => absurd h (by decide)) (fun _ => ?_)
  refine lv_aload_n hx hb dX8_tapeInt_7 rfl (lv_at hl 1 rfl) ?_
  refine va_get (D := D) (ci := 8) (v := .int 13) (C := RX8) (T := TX8) (N := 13) hx hb htg gRX8 hown hK hP 0 rfl rfl 1 (by decide) (htg _ wi_468) (fun _ h9 => h9) rfl dX8_tapeInt_8 ?_
  refine lv_sipush (v := 900) hx hb dX8_tapeInt_11 (by decide) ?_
  refine lv_icmp_ge (tgt := 46) hx hb dX8_tapeInt_14 (by decide) (fun h => absurd h (by decide)) (fun _ => ?_)
  refine lv_aload_n hx hb dX8_tapeInt_17 rfl (lv_at hl 1 rfl) ?_
  refine va_get (D := D) (ci := 8) (v := .ref (q 0)) (C := RX8) (T := TX8) (N := 13) hx hb htg gRX8 hown hK hP 0 rfl rfl 0 (by decide) (htg _ wi_467) (fun _ h9 => h9) rfl dX8_tapeInt_18 ?_
  refine lv_aload_n hx hb dX8_tapeInt_21 rfl (lv_at hl 1 rfl) ?_
  refine va_get (D := D) (ci := 8) (v := .int 13) (C := RX8) (T := TX8) (N := 13) hx hb htg gRX8 hown hK hP 0 rfl rfl 1 (by decide) (htg _ wi_468) (fun _ h9 => h9) rfl dX8_tapeInt_22 ?_
  refine lv_iload_n hx hb dX8_tapeInt_25 rfl (lv_at hl 2 rfl) ?_
  refine lv_iload_n hx hb dX8_tapeInt_26 rfl (lv_at hl 0 rfl) ?_
  obtain ⟨z_4, ez_4⟩ : ∃ w : Int32, w = (x.toUInt32 >>> ((16 : Int32).toUInt32 &&& Int32.toUInt32 31)).toInt32 := ⟨_, rfl⟩
  refine lv_iushr (v := z_4) hx hb dX8_tapeInt_27 ez_4.symm ?_
  obtain ⟨z_5, ez_5⟩ : ∃ w : Int32, w = z_4.toInt8.toInt32 := ⟨_, rfl⟩
  refine lv_i2b (v := z_5) hx hb dX8_tapeInt_28 ez_5.symm ?_
  refine va_bast hx hb hK hP hD hS 1 2 rfl rfl (by unfold vp_in; decide) dX8_tapeInt_29 (fun H locs hP hD hS => ?_)
  obtain ⟨f_6, hP, hD⟩ : ∃ f_6 : Nat → Int32, va_P D classes [(h0, .inr (8, [.ref (q 0), .int 13, .ref (q 1), .ref (q 2), .ref (q 3), .ref (q 4), .ref (q 5), .ref (q 6), .ref (q 7), .ref (q 8), .ref (q 9), .ref (q 10), .ref (q 11)])), ((q 0), .inl (cT 2, 900, .inl (f_6)))] H ∧ va_D A [(h0, .inr (8, [.ref (q 0), .int 13, .ref (q 1), .ref (q 2), .ref (q 3), .ref (q 4), .ref (q 5), .ref (q 6), .ref (q 7), .ref (q 8), .ref (q 9), .ref (q 10), .ref (q 11)])), ((q 0), .inl (cT 2, 900, .inl (f_6)))] := ⟨_, hP, hD⟩
  refine lv_aload_n hx hb dX8_tapeInt_30 rfl (lv_at hl 1 rfl) ?_
  refine lv_dup hx hb dX8_tapeInt_31 rfl ?_
  refine va_get (D := D) (ci := 8) (v := .int 13) (C := RX8) (T := TX8) (N := 13) hx hb htg gRX8 hown hK hP 0 rfl rfl 1 (by decide) (htg _ wi_468) (fun _ h9 => h9) rfl dX8_tapeInt_32 ?_
  refine lv_iconst (v := 1) hx hb dX8_tapeInt_35 (by decide) ?_
  refine lv_iadd hx hb dX8_tapeInt_36 ?_
  refine lv_is (y := 14) (by decide) ?_
  refine va_put (D := D) (ci := 8) (v := .int 14) (ty := .int) (C := RX8) (T := TX8) (N := 13) hx hb htg gRX8 tyX8 tyX8_ok nmX8 hown hK hP hD hS 0 rfl rfl 1 (by decide) (htg _ wi_468) (fun _ h9 => h9) rfl (by decide +kernel) rfl rfl (Nat.le_of_ble_eq_true rfl) dX8_tapeInt_37 (fun H locs hP hD hS => ?_)
  have hP : va_P D classes [(h0, .inr (8, [.ref (q 0), .int 14, .ref (q 1), .ref (q 2), .ref (q 3), .ref (q 4), .ref (q 5), .ref (q 6), .ref (q 7), .ref (q 8), .ref (q 9), .ref (q 10), .ref (q 11)])), ((q 0), .inl (cT 2, 900, .inl (f_6)))] _ := hP
  have hD : va_D A [(h0, .inr (8, [.ref (q 0), .int 14, .ref (q 1), .ref (q 2), .ref (q 3), .ref (q 4), .ref (q 5), .ref (q 6), .ref (q 7), .ref (q 8), .ref (q 9), .ref (q 10), .ref (q 11)])), ((q 0), .inl (cT 2, 900, .inl (f_6)))] := hD
  refine lv_iinc (v := 8) (lv' := [(2, .int 8), (0, .ref h0), (1, .int x)]) hx hb dX8_tapeInt_40 hl (k := 0) rfl (by decide) (by decide) rfl (fun ls hl => ?_)
  refine lv_goto (tgt := 3) hx hb dX8_tapeInt_43 (by decide) ?_
  refine lv_iload_n hx hb dX8_tapeInt_3 rfl (lv_at hl 0 rfl) ?_
  refine lv_if_lt (tgt := 46) hx hb dX8_tapeInt_4 (by decide) (fun h => absurd h (by decide)) (fun _ => ?_)
  refine lv_aload_n hx hb dX8_tapeInt_7 rfl (lv_at hl 1 rfl) ?_
  refine va_get (D := D) (ci := 8) (v := .int 14) (C := RX8) (T := TX8) (N := 13) hx hb htg gRX8 hown hK hP 0 rfl rfl 1 (by decide) (htg _ wi_468) (fun _ h9 => h9) rfl dX8_tapeInt_8 ?_
  refine lv_sipush (v := 900) hx hb dX8_tapeInt_11 (by decide) ?_
  refine lv_icmp_ge (tgt := 46) hx hb dX8_tapeInt_14 (by decide) (fun h => absurd h (by decide)) (fun _ => ?_)
  refine lv_aload_n hx hb dX8_tapeInt_17 rfl (lv_at hl 1 rfl) ?_
  refine va_get (D := D) (ci := 8) (v := .ref (q 0)) (C := RX8) (T := TX8) (N := 13) hx hb htg gRX8 hown hK hP 0 rfl rfl 0 (by decide) (htg _ wi_467) (fun _ h9 => h9) rfl dX8_tapeInt_18 ?_
  refine lv_aload_n hx hb dX8_tapeInt_21 rfl (lv_at hl 1 rfl) ?_
  refine va_get (D := D) (ci := 8) (v := .int 14) (C := RX8) (T := TX8) (N := 13) hx hb htg gRX8 hown hK hP 0 rfl rfl 1 (by decide) (htg _ wi_468) (fun _ h9 => h9) rfl dX8_tapeInt_22 ?_
  refine lv_iload_n hx hb dX8_tapeInt_25 rfl (lv_at hl 2 rfl) ?_
  refine lv_iload_n hx hb dX8_tapeInt_26 rfl (lv_at hl 0 rfl) ?_
  obtain ⟨z_7, ez_7⟩ : ∃ w : Int32, w = (x.toUInt32 >>> ((8 : Int32).toUInt32 &&& Int32.toUInt32 31)).toInt32 := ⟨_, rfl⟩
  refine lv_iushr (v := z_7) hx hb dX8_tapeInt_27 ez_7.symm ?_
  obtain ⟨z_8, ez_8⟩ : ∃ w : Int32, w = z_7.toInt8.toInt32 := ⟨_, rfl⟩
  refine lv_i2b (v := z_8) hx hb dX8_tapeInt_28 ez_8.symm ?_
  refine va_bast hx hb hK hP hD hS 1 2 rfl rfl (by unfold vp_in; decide) dX8_tapeInt_29 (fun H locs hP hD hS => ?_)
  obtain ⟨f_9, hP, hD⟩ : ∃ f_9 : Nat → Int32, va_P D classes [(h0, .inr (8, [.ref (q 0), .int 14, .ref (q 1), .ref (q 2), .ref (q 3), .ref (q 4), .ref (q 5), .ref (q 6), .ref (q 7), .ref (q 8), .ref (q 9), .ref (q 10), .ref (q 11)])), ((q 0), .inl (cT 2, 900, .inl (f_9)))] H ∧ va_D A [(h0, .inr (8, [.ref (q 0), .int 14, .ref (q 1), .ref (q 2), .ref (q 3), .ref (q 4), .ref (q 5), .ref (q 6), .ref (q 7), .ref (q 8), .ref (q 9), .ref (q 10), .ref (q 11)])), ((q 0), .inl (cT 2, 900, .inl (f_9)))] := ⟨_, hP, hD⟩
  refine lv_aload_n hx hb dX8_tapeInt_30 rfl (lv_at hl 1 rfl) ?_
  refine lv_dup hx hb dX8_tapeInt_31 rfl ?_
  refine va_get (D := D) (ci := 8) (v := .int 14) (C := RX8) (T := TX8) (N := 13) hx hb htg gRX8 hown hK hP 0 rfl rfl 1 (by decide) (htg _ wi_468) (fun _ h9 => h9) rfl dX8_tapeInt_32 ?_
  refine lv_iconst (v := 1) hx hb dX8_tapeInt_35 (by decide) ?_
  refine lv_iadd hx hb dX8_tapeInt_36 ?_
  refine lv_is (y := 15) (by decide) ?_
  refine va_put (D := D) (ci := 8) (v := .int 15) (ty := .int) (C := RX8) (T := TX8) (N := 13) hx hb htg gRX8 tyX8 tyX8_ok nmX8 hown hK hP hD hS 0 rfl rfl 1 (by decide) (htg _ wi_468) (fun _ h9 => h9) rfl (by decide +kernel) rfl rfl (Nat.le_of_ble_eq_true rfl) dX8_tapeInt_37 (fun H locs hP hD hS => ?_)
  have hP : va_P D classes [(h0, .inr (8, [.ref (q 0), .int 15, .ref (q 1), .ref (q 2), .ref (q 3), .ref (q 4), .ref (q 5), .ref (q 6), .ref (q 7), .ref (q 8), .ref (q 9), .ref (q 10), .ref (q 11)])), ((q 0), .inl (cT 2, 900, .inl (f_9)))] _ := hP
  have hD : va_D A [(h0, .inr (8, [.ref (q 0), .int 15, .ref (q 1), .ref (q 2), .ref (q 3), .ref (q 4), .ref (q 5), .ref (q 6), .ref (q 7), .ref (q 8), .ref (q 9), .ref (q 10), .ref (q 11)])), ((q 0), .inl (cT 2, 900, .inl (f_9)))] := hD
  refine lv_iinc (v := 0) (lv' := [(2, .int 0), (0, .ref h0), (1, .int x)]) hx hb dX8_tapeInt_40 hl (k := 0) rfl (by decide) (by decide) rfl (fun ls hl => ?_)
  refine lv_goto (tgt := 3) hx hb dX8_tapeInt_43 (by decide) ?_
  refine lv_iload_n hx hb dX8_tapeInt_3 rfl (lv_at hl 0 rfl) ?_
  refine lv_if_lt (tgt := 46) hx hb dX8_tapeInt_4 (by decide) (fun h => absurd h (by decide)) (fun _ => ?_)
  refine lv_aload_n hx hb dX8_tapeInt_7 rfl (lv_at hl 1 rfl) ?_
  refine va_get (D := D) (ci := 8) (v := .int 15) (C := RX8) (T := TX8) (N := 13) hx hb htg gRX8 hown hK hP 0 rfl rfl 1 (by decide) (htg _ wi_468) (fun _ h9 => h9) rfl dX8_tapeInt_8 ?_
  refine lv_sipush (v := 900) hx hb dX8_tapeInt_11 (by decide) ?_
  refine lv_icmp_ge (tgt := 46) hx hb dX8_tapeInt_14 (by decide) (fun h => absurd h (by decide)) (fun _ => ?_)
  refine lv_aload_n hx hb dX8_tapeInt_17 rfl (lv_at hl 1 rfl) ?_
  refine va_get (D := D) (ci := 8) (v := .ref (q 0)) (C := RX8) (T := TX8) (N := 13) hx hb htg gRX8 hown hK hP 0 rfl rfl 0 (by decide) (htg _ wi_467) (fun _ h9 => h9) rfl dX8_tapeInt_18 ?_
  refine lv_aload_n hx hb dX8_tapeInt_21 rfl (lv_at hl 1 rfl) ?_
  refine va_get (D := D) (ci := 8) (v := .int 15) (C := RX8) (T := TX8) (N := 13) hx hb htg gRX8 hown hK hP 0 rfl rfl 1 (by decide) (htg _ wi_468) (fun _ h9 => h9) rfl dX8_tapeInt_22 ?_
  refine lv_iload_n hx hb dX8_tapeInt_25 rfl (lv_at hl 2 rfl) ?_
  refine lv_iload_n hx hb dX8_tapeInt_26 rfl (lv_at hl 0 rfl) ?_
  obtain ⟨z_10, ez_10⟩ : ∃ w : Int32, w = (x.toUInt32 >>> ((0 : Int32).toUInt32 &&& Int32.toUInt32 31)).toInt32 := ⟨_, rfl⟩
  refine lv_iushr (v := z_10) hx hb dX8_tapeInt_27 ez_10.symm ?_
  obtain ⟨z_11, ez_11⟩ : ∃ w : Int32, w = z_10.toInt8.toInt32 := ⟨_, rfl⟩
  refine lv_i2b (v := z_11) hx hb dX8_tapeInt_28 ez_11.symm ?_
  refine va_bast hx hb hK hP hD hS 1 2 rfl rfl (by unfold vp_in; decide) dX8_tapeInt_29 (fun H locs hP hD hS => ?_)
  obtain ⟨f_12, hP, hD⟩ : ∃ f_12 : Nat → Int32, va_P D classes [(h0, .inr (8, [.ref (q 0), .int 15, .ref (q 1), .ref (q 2), .ref (q 3), .ref (q 4), .ref (q 5), .ref (q 6), .ref (q 7), .ref (q 8), .ref (q 9), .ref (q 10), .ref (q 11)])), ((q 0), .inl (cT 2, 900, .inl (f_12)))] H ∧ va_D A [(h0, .inr (8, [.ref (q 0), .int 15, .ref (q 1), .ref (q 2), .ref (q 3), .ref (q 4), .ref (q 5), .ref (q 6), .ref (q 7), .ref (q 8), .ref (q 9), .ref (q 10), .ref (q 11)])), ((q 0), .inl (cT 2, 900, .inl (f_12)))] := ⟨_, hP, hD⟩
  refine lv_aload_n hx hb dX8_tapeInt_30 rfl (lv_at hl 1 rfl) ?_
  refine lv_dup hx hb dX8_tapeInt_31 rfl ?_
  refine va_get (D := D) (ci := 8) (v := .int 15) (C := RX8) (T := TX8) (N := 13) hx hb htg gRX8 hown hK hP 0 rfl rfl 1 (by decide) (htg _ wi_468) (fun _ h9 => h9) rfl dX8_tapeInt_32 ?_
  refine lv_iconst (v := 1) hx hb dX8_tapeInt_35 (by decide) ?_
  refine lv_iadd hx hb dX8_tapeInt_36 ?_
  refine lv_is (y := 16) (by decide) ?_
  refine va_put (D := D) (ci := 8) (v := .int 16) (ty := .int) (C := RX8) (T := TX8) (N := 13) hx hb htg gRX8 tyX8 tyX8_ok nmX8 hown hK hP hD hS 0 rfl rfl 1 (by decide) (htg _ wi_468) (fun _ h9 => h9) rfl (by decide +kernel) rfl rfl (Nat.le_of_ble_eq_true rfl) dX8_tapeInt_37 (fun H locs hP hD hS => ?_)
  have hP : va_P D classes [(h0, .inr (8, [.ref (q 0), .int 16, .ref (q 1), .ref (q 2), .ref (q 3), .ref (q 4), .ref (q 5), .ref (q 6), .ref (q 7), .ref (q 8), .ref (q 9), .ref (q 10), .ref (q 11)])), ((q 0), .inl (cT 2, 900, .inl (f_12)))] _ := hP
  have hD : va_D A [(h0, .inr (8, [.ref (q 0), .int 16, .ref (q 1), .ref (q 2), .ref (q 3), .ref (q 4), .ref (q 5), .ref (q 6), .ref (q 7), .ref (q 8), .ref (q 9), .ref (q 10), .ref (q 11)])), ((q 0), .inl (cT 2, 900, .inl (f_12)))] := hD
  refine lv_iinc (v := (-8)) (lv' := [(2, .int (-8)), (0, .ref h0), (1, .int x)]) hx hb dX8_tapeInt_40 hl (k := 0) rfl (by decide) (by decide) rfl (fun ls hl => ?_)
  refine lv_goto (tgt := 3) hx hb dX8_tapeInt_43 (by decide) ?_
  refine lv_iload_n hx hb dX8_tapeInt_3 rfl (lv_at hl 0 rfl) ?_
  refine lv_if_lt (tgt := 46) hx hb dX8_tapeInt_4 (by decide) (fun _ => ?_) (fun h => absurd (by decide) h)
  exact x_vret hx hb hr hlk hP hD hS [0, 1] (f_12) rfl (by decide) trivial (by decide) (by decide) dX8_tapeInt_46
set_option maxHeartbeats 4000000 in
set_option maxRecDepth 100000 in
theorem c_tapeInt_16 (l : Launch) (D : va_G) (cT : Nat → ClassId) (sz : Nat) (h0 : Nat) (q : Nat → Nat) (f : Nat → Int32) (x : Int32) : Met l yX8_tapeInt (wsc yX8_tapeInt cX8_tapeInt 3 none) { frames := 2, cells := 0, slots := 0, locals := 100 } (va_Pc [.ref h0, .int x] (PX D cT sz [(h0, .inr (8, [.ref (q 0), .int 16, .ref (q 1), .ref (q 2), .ref (q 3), .ref (q 4), .ref (q 5), .ref (q 6), .ref (q 7), .ref (q 8), .ref (q 9), .ref (q 10), .ref (q 11)])), ((q 0), .inl (cT 2, 900, .inl (f)))])) (va_Qv (fun (u : Nat → Int32) => True) (fun u t => RW D (va_A [(h0, .inr (8, [.ref (q 0), .int 16, .ref (q 1), .ref (q 2), .ref (q 3), .ref (q 4), .ref (q 5), .ref (q 6), .ref (q 7), .ref (q 8), .ref (q 9), .ref (q 10), .ref (q 11)])), ((q 0), .inl (cT 2, 900, .inl (f)))] sz) ((fun u : Nat → Int32 => [(h0, .inr (8, [.ref (q 0), .int 20, .ref (q 1), .ref (q 2), .ref (q 3), .ref (q 4), .ref (q 5), .ref (q 6), .ref (q 7), .ref (q 8), .ref (q 9), .ref (q 10), .ref (q 11)])), ((q 0), .inl (cT 2, 900, .inl (u)))]) u) t) (va_A [(h0, .inr (8, [.ref (q 0), .int 16, .ref (q 1), .ref (q 2), .ref (q 3), .ref (q 4), .ref (q 5), .ref (q 6), .ref (q 7), .ref (q 8), .ref (q 9), .ref (q 10), .ref (q 11)])), ((q 0), .inl (cT 2, 900, .inl (f)))] sz)) 0 0 (va_A [(h0, .inr (8, [.ref (q 0), .int 16, .ref (q 1), .ref (q 2), .ref (q 3), .ref (q 4), .ref (q 5), .ref (q 6), .ref (q 7), .ref (q 8), .ref (q 9), .ref (q 10), .ref (q 11)])), ((q 0), .inl (cT 2, 900, .inl (f)))] sz) := by
  refine m_of (y := yX8_tapeInt) (cc := cX8_tapeInt) (nL := 3) (ret := none) (D := D) (cT := cT) (av := [.ref h0, .int x]) (wi := [(h0, .inr (8, [.ref (q 0), .int 16, .ref (q 1), .ref (q 2), .ref (q 3), .ref (q 4), .ref (q 5), .ref (q 6), .ref (q 7), .ref (q 8), .ref (q 9), .ref (q 10), .ref (q 11)])), ((q 0), .inl (cT 2, 900, .inl (f)))]) (fun A => va_Qv (fun (u : Nat → Int32) => True) (fun u t => RW D A ((fun u : Nat → Int32 => [(h0, .inr (8, [.ref (q 0), .int 20, .ref (q 1), .ref (q 2), .ref (q 3), .ref (q 4), .ref (q 5), .ref (q 6), .ref (q 7), .ref (q 8), .ref (q 9), .ref (q 10), .ref (q 11)])), ((q 0), .inl (cT 2, 900, .inl (u)))]) u) t) A) (by decide) (Nat.le_of_ble_eq_true rfl) ?_
  intro p e s m below meth c A hx hb hml hown htg hK hN hr hlk hnm hsz hP hD hS hA ls hl
  have hown : s.vm.findClass RX8 = some m.cls := hown
  have hl : lv_has ls 3 [(0, .ref h0), (1, .int x)] := hl
  refine lv_bipush (v := 24) hx hb dX8_tapeInt_0 (by decide) ?_
  refine lv_istore_n (lv' := [(2, .int 24), (0, .ref h0), (1, .int x)]) hx hb dX8_tapeInt_2 rfl hl (by decide) rfl (fun ls hl => ?_)
  refine lv_iload_n hx hb dX8_tapeInt_3 rfl (lv_at hl 0 rfl) ?_
  refine lv_if_lt (tgt := 46) hx hb dX8_tapeInt_4 (by decide) (fun h => absurd h (by decide)) (fun _ => ?_)
  refine lv_aload_n hx hb dX8_tapeInt_7 rfl (lv_at hl 1 rfl) ?_
  refine va_get (D := D) (ci := 8) (v := .int 16) (C := RX8) (T := TX8) (N := 13) hx hb htg gRX8 hown hK hP 0 rfl rfl 1 (by decide) (htg _ wi_468) (fun _ h9 => h9) rfl dX8_tapeInt_8 ?_
  refine lv_sipush (v := 900) hx hb dX8_tapeInt_11 (by decide) ?_
  refine lv_icmp_ge (tgt := 46) hx hb dX8_tapeInt_14 (by decide) (fun h => absurd h (by decide)) (fun _ => ?_)
  refine lv_aload_n hx hb dX8_tapeInt_17 rfl (lv_at hl 1 rfl) ?_
  refine va_get (D := D) (ci := 8) (v := .ref (q 0)) (C := RX8) (T := TX8) (N := 13) hx hb htg gRX8 hown hK hP 0 rfl rfl 0 (by decide) (htg _ wi_467) (fun _ h9 => h9) rfl dX8_tapeInt_18 ?_
  refine lv_aload_n hx hb dX8_tapeInt_21 rfl (lv_at hl 1 rfl) ?_
  refine va_get (D := D) (ci := 8) (v := .int 16) (C := RX8) (T := TX8) (N := 13) hx hb htg gRX8 hown hK hP 0 rfl rfl 1 (by decide) (htg _ wi_468) (fun _ h9 => h9) rfl dX8_tapeInt_22 ?_
  refine lv_iload_n hx hb dX8_tapeInt_25 rfl (lv_at hl 2 rfl) ?_
  refine lv_iload_n hx hb dX8_tapeInt_26 rfl (lv_at hl 0 rfl) ?_
  obtain ⟨z_1, ez_1⟩ : ∃ w : Int32, w = (x.toUInt32 >>> ((24 : Int32).toUInt32 &&& Int32.toUInt32 31)).toInt32 := ⟨_, rfl⟩
  refine lv_iushr (v := z_1) hx hb dX8_tapeInt_27 ez_1.symm ?_
  obtain ⟨z_2, ez_2⟩ : ∃ w : Int32, w = z_1.toInt8.toInt32 := ⟨_, rfl⟩
  refine lv_i2b (v := z_2) hx hb dX8_tapeInt_28 ez_2.symm ?_
  refine va_bast hx hb hK hP hD hS 1 2 rfl rfl (by unfold vp_in; decide) dX8_tapeInt_29 (fun H locs hP hD hS => ?_)
  obtain ⟨f_3, hP, hD⟩ : ∃ f_3 : Nat → Int32, va_P D classes [(h0, .inr (8, [.ref (q 0), .int 16, .ref (q 1), .ref (q 2), .ref (q 3), .ref (q 4), .ref (q 5), .ref (q 6), .ref (q 7), .ref (q 8), .ref (q 9), .ref (q 10), .ref (q 11)])), ((q 0), .inl (cT 2, 900, .inl (f_3)))] H ∧ va_D A [(h0, .inr (8, [.ref (q 0), .int 16, .ref (q 1), .ref (q 2), .ref (q 3), .ref (q 4), .ref (q 5), .ref (q 6), .ref (q 7), .ref (q 8), .ref (q 9), .ref (q 10), .ref (q 11)])), ((q 0), .inl (cT 2, 900, .inl (f_3)))] := ⟨_, hP, hD⟩
  refine lv_aload_n hx hb dX8_tapeInt_30 rfl (lv_at hl 1 rfl) ?_
  refine lv_dup hx hb dX8_tapeInt_31 rfl ?_
  refine va_get (D := D) (ci := 8) (v := .int 16) (C := RX8) (T := TX8) (N := 13) hx hb htg gRX8 hown hK hP 0 rfl rfl 1 (by decide) (htg _ wi_468) (fun _ h9 => h9) rfl dX8_tapeInt_32 ?_
  refine lv_iconst (v := 1) hx hb dX8_tapeInt_35 (by decide) ?_
  refine lv_iadd hx hb dX8_tapeInt_36 ?_
  refine lv_is (y := 17) (by decide) ?_
  refine va_put (D := D) (ci := 8) (v := .int 17) (ty := .int) (C := RX8) (T := TX8) (N := 13) hx hb htg gRX8 tyX8 tyX8_ok nmX8 hown hK hP hD hS 0 rfl rfl 1 (by decide) (htg _ wi_468) (fun _ h9 => h9) rfl (by decide +kernel) rfl rfl (Nat.le_of_ble_eq_true rfl) dX8_tapeInt_37 (fun H locs hP hD hS => ?_)
  have hP : va_P D classes [(h0, .inr (8, [.ref (q 0), .int 17, .ref (q 1), .ref (q 2), .ref (q 3), .ref (q 4), .ref (q 5), .ref (q 6), .ref (q 7), .ref (q 8), .ref (q 9), .ref (q 10), .ref (q 11)])), ((q 0), .inl (cT 2, 900, .inl (f_3)))] _ := hP
  have hD : va_D A [(h0, .inr (8, [.ref (q 0), .int 17, .ref (q 1), .ref (q 2), .ref (q 3), .ref (q 4), .ref (q 5), .ref (q 6), .ref (q 7), .ref (q 8), .ref (q 9), .ref (q 10), .ref (q 11)])), ((q 0), .inl (cT 2, 900, .inl (f_3)))] := hD
  refine lv_iinc (v := 16) (lv' := [(2, .int 16), (0, .ref h0), (1, .int x)]) hx hb dX8_tapeInt_40 hl (k := 0) rfl (by decide) (by decide) rfl (fun ls hl => ?_)
  refine lv_goto (tgt := 3) hx hb dX8_tapeInt_43 (by decide) ?_
  refine lv_iload_n hx hb dX8_tapeInt_3 rfl (lv_at hl 0 rfl) ?_
  refine lv_if_lt (tgt := 46) hx hb dX8_tapeInt_4 (by decide) (fun h => absurd h (by decide)) (fun _ => ?_)
  refine lv_aload_n hx hb dX8_tapeInt_7 rfl (lv_at hl 1 rfl) ?_
  refine va_get (D := D) (ci := 8) (v := .int 17) (C := RX8) (T := TX8) (N := 13) hx hb htg gRX8 hown hK hP 0 rfl rfl 1 (by decide) (htg _ wi_468) (fun _ h9 => h9) rfl dX8_tapeInt_8 ?_
  refine lv_sipush (v := 900) hx hb dX8_tapeInt_11 (by decide) ?_
  refine lv_icmp_ge (tgt := 46) hx hb dX8_tapeInt_14 (by decide) (fun h => absurd h (by decide)) (fun _ => ?_)
  refine lv_aload_n hx hb dX8_tapeInt_17 rfl (lv_at hl 1 rfl) ?_
  refine va_get (D := D) (ci := 8) (v := .ref (q 0)) (C := RX8) (T := TX8) (N := 13) hx hb htg gRX8 hown hK hP 0 rfl rfl 0 (by decide) (htg _ wi_467) (fun _ h9 => h9) rfl dX8_tapeInt_18 ?_
  refine lv_aload_n hx hb dX8_tapeInt_21 rfl (lv_at hl 1 rfl) ?_
  refine va_get (D := D) (ci := 8) (v := .int 17) (C := RX8) (T := TX8) (N := 13) hx hb htg gRX8 hown hK hP 0 rfl rfl 1 (by decide) (htg _ wi_468) (fun _ h9 => h9) rfl dX8_tapeInt_22 ?_
  refine lv_iload_n hx hb dX8_tapeInt_25 rfl (lv_at hl 2 rfl) ?_
  refine lv_iload_n hx hb dX8_tapeInt_26 rfl (lv_at hl 0 rfl) ?_
  obtain ⟨z_4, ez_4⟩ : ∃ w : Int32, w = (x.toUInt32 >>> ((16 : Int32).toUInt32 &&& Int32.toUInt32 31)).toInt32 := ⟨_, rfl⟩
  refine lv_iushr (v := z_4) hx hb dX8_tapeInt_27 ez_4.symm ?_
  obtain ⟨z_5, ez_5⟩ : ∃ w : Int32, w = z_4.toInt8.toInt32 := ⟨_, rfl⟩
  refine lv_i2b (v := z_5) hx hb dX8_tapeInt_28 ez_5.symm ?_
  refine va_bast hx hb hK hP hD hS 1 2 rfl rfl (by unfold vp_in; decide) dX8_tapeInt_29 (fun H locs hP hD hS => ?_)
  obtain ⟨f_6, hP, hD⟩ : ∃ f_6 : Nat → Int32, va_P D classes [(h0, .inr (8, [.ref (q 0), .int 17, .ref (q 1), .ref (q 2), .ref (q 3), .ref (q 4), .ref (q 5), .ref (q 6), .ref (q 7), .ref (q 8), .ref (q 9), .ref (q 10), .ref (q 11)])), ((q 0), .inl (cT 2, 900, .inl (f_6)))] H ∧ va_D A [(h0, .inr (8, [.ref (q 0), .int 17, .ref (q 1), .ref (q 2), .ref (q 3), .ref (q 4), .ref (q 5), .ref (q 6), .ref (q 7), .ref (q 8), .ref (q 9), .ref (q 10), .ref (q 11)])), ((q 0), .inl (cT 2, 900, .inl (f_6)))] := ⟨_, hP, hD⟩
  refine lv_aload_n hx hb dX8_tapeInt_30 rfl (lv_at hl 1 rfl) ?_
  refine lv_dup hx hb dX8_tapeInt_31 rfl ?_
  refine va_get (D := D) (ci := 8) (v := .int 17) (C := RX8) (T := TX8) (N := 13) hx hb htg gRX8 hown hK hP 0 rfl rfl 1 (by decide) (htg _ wi_468) (fun _ h9 => h9) rfl dX8_tapeInt_32 ?_
  refine lv_iconst (v := 1) hx hb dX8_tapeInt_35 (by decide) ?_
  refine lv_iadd hx hb dX8_tapeInt_36 ?_
  refine lv_is (y := 18) (by decide) ?_
  refine va_put (D := D) (ci := 8) (v := .int 18) (ty := .int) (C := RX8) (T := TX8) (N := 13) hx hb htg gRX8 tyX8 tyX8_ok nmX8 hown hK hP hD hS 0 rfl rfl 1 (by decide) (htg _ wi_468) (fun _ h9 => h9) rfl (by decide +kernel) rfl rfl (Nat.le_of_ble_eq_true rfl) dX8_tapeInt_37 (fun H locs hP hD hS => ?_)
  have hP : va_P D classes [(h0, .inr (8, [.ref (q 0), .int 18, .ref (q 1), .ref (q 2), .ref (q 3), .ref (q 4), .ref (q 5), .ref (q 6), .ref (q 7), .ref (q 8), .ref (q 9), .ref (q 10), .ref (q 11)])), ((q 0), .inl (cT 2, 900, .inl (f_6)))] _ := hP
  have hD : va_D A [(h0, .inr (8, [.ref (q 0), .int 18, .ref (q 1), .ref (q 2), .ref (q 3), .ref (q 4), .ref (q 5), .ref (q 6), .ref (q 7), .ref (q 8), .ref (q 9), .ref (q 10), .ref (q 11)])), ((q 0), .inl (cT 2, 900, .inl (f_6)))] := hD
  refine lv_iinc (v := 8) (lv' := [(2, .int 8), (0, .ref h0), (1, .int x)]) hx hb dX8_tapeInt_40 hl (k := 0) rfl (by decide) (by decide) rfl (fun ls hl => ?_)
  refine lv_goto (tgt := 3) hx hb dX8_tapeInt_43 (by decide) ?_
  refine lv_iload_n hx hb dX8_tapeInt_3 rfl (lv_at hl 0 rfl) ?_
  refine lv_if_lt (tgt := 46) hx hb dX8_tapeInt_4 (by decide) (fun h => absurd h (by decide)) (fun _ => ?_)
  refine lv_aload_n hx hb dX8_tapeInt_7 rfl (lv_at hl 1 rfl) ?_
  refine va_get (D := D) (ci := 8) (v := .int 18) (C := RX8) (T := TX8) (N := 13) hx hb htg gRX8 hown hK hP 0 rfl rfl 1 (by decide) (htg _ wi_468) (fun _ h9 => h9) rfl dX8_tapeInt_8 ?_
  refine lv_sipush (v := 900) hx hb dX8_tapeInt_11 (by decide) ?_
  refine lv_icmp_ge (tgt := 46) hx hb dX8_tapeInt_14 (by decide) (fun h => absurd h (by decide)) (fun _ => ?_)
  refine lv_aload_n hx hb dX8_tapeInt_17 rfl (lv_at hl 1 rfl) ?_
  refine va_get (D := D) (ci := 8) (v := .ref (q 0)) (C := RX8) (T := TX8) (N := 13) hx hb htg gRX8 hown hK hP 0 rfl rfl 0 (by decide) (htg _ wi_467) (fun _ h9 => h9) rfl dX8_tapeInt_18 ?_
  refine lv_aload_n hx hb dX8_tapeInt_21 rfl (lv_at hl 1 rfl) ?_
  refine va_get (D := D) (ci := 8) (v := .int 18) (C := RX8) (T := TX8) (N := 13) hx hb htg gRX8 hown hK hP 0 rfl rfl 1 (by decide) (htg _ wi_468) (fun _ h9 => h9) rfl dX8_tapeInt_22 ?_
  refine lv_iload_n hx hb dX8_tapeInt_25 rfl (lv_at hl 2 rfl) ?_
  refine lv_iload_n hx hb dX8_tapeInt_26 rfl (lv_at hl 0 rfl) ?_
  obtain ⟨z_7, ez_7⟩ : ∃ w : Int32, w = (x.toUInt32 >>> ((8 : Int32).toUInt32 &&& Int32.toUInt32 31)).toInt32 := ⟨_, rfl⟩
  refine lv_iushr (v := z_7) hx hb dX8_tapeInt_27 ez_7.symm ?_
  obtain ⟨z_8, ez_8⟩ : ∃ w : Int32, w = z_7.toInt8.toInt32 := ⟨_, rfl⟩
  refine lv_i2b (v := z_8) hx hb dX8_tapeInt_28 ez_8.symm ?_
  refine va_bast hx hb hK hP hD hS 1 2 rfl rfl (by unfold vp_in; decide) dX8_tapeInt_29 (fun H locs hP hD hS => ?_)
  obtain ⟨f_9, hP, hD⟩ : ∃ f_9 : Nat → Int32, va_P D classes [(h0, .inr (8, [.ref (q 0), .int 18, .ref (q 1), .ref (q 2), .ref (q 3), .ref (q 4), .ref (q 5), .ref (q 6), .ref (q 7), .ref (q 8), .ref (q 9), .ref (q 10), .ref (q 11)])), ((q 0), .inl (cT 2, 900, .inl (f_9)))] H ∧ va_D A [(h0, .inr (8, [.ref (q 0), .int 18, .ref (q 1), .ref (q 2), .ref (q 3), .ref (q 4), .ref (q 5), .ref (q 6), .ref (q 7), .ref (q 8), .ref (q 9), .ref (q 10), .ref (q 11)])), ((q 0), .inl (cT 2, 900, .inl (f_9)))] := ⟨_, hP, hD⟩
  refine lv_aload_n hx hb dX8_tapeInt_30 rfl (lv_at hl 1 rfl) ?_
  refine lv_dup hx hb dX8_tapeInt_31 rfl ?_
  refine va_get (D := D) (ci := 8) (v := .int 18) (C := RX8) (T := TX8) (N := 13) hx hb htg gRX8 hown hK hP 0 rfl rfl 1 (by decide) (htg _ wi_468) (fun _ h9 => h9) rfl dX8_tapeInt_32 ?_
  refine lv_iconst (v := 1) hx hb dX8_tapeInt_35 (by decide) ?_
  refine lv_iadd hx hb dX8_tapeInt_36 ?_
  refine lv_is (y := 19) (by decide) ?_
  refine va_put (D := D) (ci := 8) (v := .int 19) (ty := .int) (C := RX8) (T := TX8) (N := 13) hx hb htg gRX8 tyX8 tyX8_ok nmX8 hown hK hP hD hS 0 rfl rfl 1 (by decide) (htg _ wi_468) (fun _ h9 => h9) rfl (by decide +kernel) rfl rfl (Nat.le_of_ble_eq_true rfl) dX8_tapeInt_37 (fun H locs hP hD hS => ?_)
  have hP : va_P D classes [(h0, .inr (8, [.ref (q 0), .int 19, .ref (q 1), .ref (q 2), .ref (q 3), .ref (q 4), .ref (q 5), .ref (q 6), .ref (q 7), .ref (q 8), .ref (q 9), .ref (q 10), .ref (q 11)])), ((q 0), .inl (cT 2, 900, .inl (f_9)))] _ := hP
  have hD : va_D A [(h0, .inr (8, [.ref (q 0), .int 19, .ref (q 1), .ref (q 2), .ref (q 3), .ref (q 4), .ref (q 5), .ref (q 6), .ref (q 7), .ref (q 8), .ref (q 9), .ref (q 10), .ref (q 11)])), ((q 0), .inl (cT 2, 900, .inl (f_9)))] := hD
  refine lv_iinc (v := 0) (lv' := [(2, .int 0), (0, .ref h0), (1, .int x)]) hx hb dX8_tapeInt_40 hl (k := 0) rfl (by decide) (by decide) rfl (fun ls hl => ?_)
  refine lv_goto (tgt := 3) hx hb dX8_tapeInt_43 (by decide) ?_
  refine lv_iload_n hx hb dX8_tapeInt_3 rfl (lv_at hl 0 rfl) ?_
  refine lv_if_lt (tgt := 46) hx hb dX8_tapeInt_4 (by decide) (fun h => absurd h (by decide)) (fun _ => ?_)
  refine lv_aload_n hx hb dX8_tapeInt_7 rfl (lv_at hl 1 rfl) ?_
  refine va_get (D := D) (ci := 8) (v := .int 19) (C := RX8) (T := TX8) (N := 13) hx hb htg gRX8 hown hK hP 0 rfl rfl 1 (by decide) (htg _ wi_468) (fun _ h9 => h9) rfl dX8_tapeInt_8 ?_
  refine lv_sipush (v := 900) hx hb dX8_tapeInt_11 (by decide) ?_
  refine lv_icmp_ge (tgt := 46) hx hb dX8_tapeInt_14 (by decide) (fun h => absurd h (by decide)) (fun _ => ?_)
  refine lv_aload_n hx hb dX8_tapeInt_17 rfl (lv_at hl 1 rfl) ?_
  refine va_get (D := D) (ci := 8) (v := .ref (q 0)) (C := RX8) (T := TX8) (N := 13) hx hb htg gRX8 hown hK hP 0 rfl rfl 0 (by decide) (htg _ wi_467) (fun _ h9 => h9) rfl dX8_tapeInt_18 ?_
  refine lv_aload_n hx hb dX8_tapeInt_21 rfl (lv_at hl 1 rfl) ?_
  refine va_get (D := D) (ci := 8) (v := .int 19) (C := RX8) (T := TX8) (N := 13) hx hb htg gRX8 hown hK hP 0 rfl rfl 1 (by decide) (htg _ wi_468) (fun _ h9 => h9) rfl dX8_tapeInt_22 ?_
  refine lv_iload_n hx hb dX8_tapeInt_25 rfl (lv_at hl 2 rfl) ?_
  refine lv_iload_n hx hb dX8_tapeInt_26 rfl (lv_at hl 0 rfl) ?_
  obtain ⟨z_10, ez_10⟩ : ∃ w : Int32, w = (x.toUInt32 >>> ((0 : Int32).toUInt32 &&& Int32.toUInt32 31)).toInt32 := ⟨_, rfl⟩
  refine lv_iushr (v := z_10) hx hb dX8_tapeInt_27 ez_10.symm ?_
  obtain ⟨z_11, ez_11⟩ : ∃ w : Int32, w = z_10.toInt8.toInt32 := ⟨_, rfl⟩
  refine lv_i2b (v := z_11) hx hb dX8_tapeInt_28 ez_11.symm ?_
  refine va_bast hx hb hK hP hD hS 1 2 rfl rfl (by unfold vp_in; decide) dX8_tapeInt_29 (fun H locs hP hD hS => ?_)
  obtain ⟨f_12, hP, hD⟩ : ∃ f_12 : Nat → Int32, va_P D classes [(h0, .inr (8, [.ref (q 0), .int 19, .ref (q 1), .ref (q 2), .ref (q 3), .ref (q 4), .ref (q 5), .ref (q 6), .ref (q 7), .ref (q 8), .ref (q 9), .ref (q 10), .ref (q 11)])), ((q 0), .inl (cT 2, 900, .inl (f_12)))] H ∧ va_D A [(h0, .inr (8, [.ref (q 0), .int 19, .ref (q 1), .ref (q 2), .ref (q 3), .ref (q 4), .ref (q 5), .ref (q 6), .ref (q 7), .ref (q 8), .ref (q 9), .ref (q 10), .ref (q 11)])), ((q 0), .inl (cT 2, 900, .inl (f_12)))] := ⟨_, hP, hD⟩
  refine lv_aload_n hx hb dX8_tapeInt_30 rfl (lv_at hl 1 rfl) ?_
  refine lv_dup hx hb dX8_tapeInt_31 rfl ?_
  refine va_get (D := D) (ci := 8) (v := .int 19) (C := RX8) (T := TX8) (N := 13) hx hb htg gRX8 hown hK hP 0 rfl rfl 1 (by decide) (htg _ wi_468) (fun _ h9 => h9) rfl dX8_tapeInt_32 ?_
  refine lv_iconst (v := 1) hx hb dX8_tapeInt_35 (by decide) ?_
  refine lv_iadd hx hb dX8_tapeInt_36 ?_
  refine lv_is (y := 20) (by decide) ?_
  refine va_put (D := D) (ci := 8) (v := .int 20) (ty := .int) (C := RX8) (T := TX8) (N := 13) hx hb htg gRX8 tyX8 tyX8_ok nmX8 hown hK hP hD hS 0 rfl rfl 1 (by decide) (htg _ wi_468) (fun _ h9 => h9) rfl (by decide +kernel) rfl rfl (Nat.le_of_ble_eq_true rfl) dX8_tapeInt_37 (fun H locs hP hD hS => ?_)
  have hP : va_P D classes [(h0, .inr (8, [.ref (q 0), .int 20, .ref (q 1), .ref (q 2), .ref (q 3), .ref (q 4), .ref (q 5), .ref (q 6), .ref (q 7), .ref (q 8), .ref (q 9), .ref (q 10), .ref (q 11)])), ((q 0), .inl (cT 2, 900, .inl (f_12)))] _ := hP
  have hD : va_D A [(h0, .inr (8, [.ref (q 0), .int 20, .ref (q 1), .ref (q 2), .ref (q 3), .ref (q 4), .ref (q 5), .ref (q 6), .ref (q 7), .ref (q 8), .ref (q 9), .ref (q 10), .ref (q 11)])), ((q 0), .inl (cT 2, 900, .inl (f_12)))] := hD
  refine lv_iinc (v := (-8)) (lv' := [(2, .int (-8)), (0, .ref h0), (1, .int x)]) hx hb dX8_tapeInt_40 hl (k := 0) rfl (by decide) (by decide) rfl (fun ls hl => ?_)
  refine lv_goto (tgt := 3) hx hb dX8_tapeInt_43 (by decide) ?_
  refine lv_iload_n hx hb dX8_tapeInt_3 rfl (lv_at hl 0 rfl) ?_
  refine lv_if_lt (tgt := 46) hx hb dX8_tapeInt_4 (by decide) (fun _ => ?_) (fun h => absurd (by decide) h)
  exact x_vret hx hb hr hlk hP hD hS [0, 1] (f_12) rfl (by decide) trivial (by decide) (by decide) dX8_tapeInt_46
set_option maxHeartbeats 4000000 in
set_option maxRecDepth 100000 in
theorem k_feed (l : Launch) (D : va_G) (cT : Nat → ClassId) (sz : Nat) (h0 : Nat) (q : Nat → Nat) (x : Int32) (y : Int32) (z : Int32) (v : Int32) (w : Int32) : Met l yX8_feed (wsc yX8_feed cX8_feed 6 (some .int)) { frames := 3, cells := 0, slots := 0, locals := 122 } (va_Pc [.ref h0, .int x, .int y, .int z, .int v, .int w] (PX D cT sz [(h0, .inr (8, [.ref (q 0), .int 0, .ref (q 1), .ref (q 2), .ref (q 3), .ref (q 4), .ref (q 5), .ref (q 6), .ref (q 7), .ref (q 8), .ref (q 9), .ref (q 10), .ref (q 11)])), ((q 0), .inl (cT 2, 900, .inl (fun _ => 0)))])) (va_Qi (fun (r : Int32) (u : Unit) => r = 20) (fun u t => RW D (va_A [(h0, .inr (8, [.ref (q 0), .int 0, .ref (q 1), .ref (q 2), .ref (q 3), .ref (q 4), .ref (q 5), .ref (q 6), .ref (q 7), .ref (q 8), .ref (q 9), .ref (q 10), .ref (q 11)])), ((q 0), .inl (cT 2, 900, .inl (fun _ => 0)))] sz) ((fun _ : Unit => []) u) t) (va_A [(h0, .inr (8, [.ref (q 0), .int 0, .ref (q 1), .ref (q 2), .ref (q 3), .ref (q 4), .ref (q 5), .ref (q 6), .ref (q 7), .ref (q 8), .ref (q 9), .ref (q 10), .ref (q 11)])), ((q 0), .inl (cT 2, 900, .inl (fun _ => 0)))] sz)) 0 0 (va_A [(h0, .inr (8, [.ref (q 0), .int 0, .ref (q 1), .ref (q 2), .ref (q 3), .ref (q 4), .ref (q 5), .ref (q 6), .ref (q 7), .ref (q 8), .ref (q 9), .ref (q 10), .ref (q 11)])), ((q 0), .inl (cT 2, 900, .inl (fun _ => 0)))] sz) := by
  refine m_of (y := yX8_feed) (cc := cX8_feed) (nL := 6) (ret := (some .int)) (D := D) (cT := cT) (av := [.ref h0, .int x, .int y, .int z, .int v, .int w]) (wi := [(h0, .inr (8, [.ref (q 0), .int 0, .ref (q 1), .ref (q 2), .ref (q 3), .ref (q 4), .ref (q 5), .ref (q 6), .ref (q 7), .ref (q 8), .ref (q 9), .ref (q 10), .ref (q 11)])), ((q 0), .inl (cT 2, 900, .inl (fun _ => 0)))]) (fun A => va_Qi (fun (r : Int32) (u : Unit) => r = 20) (fun u t => RW D A ((fun _ : Unit => []) u) t) A) (by decide) (Nat.le_of_ble_eq_true rfl) ?_
  intro p e s m below meth c A hx hb hml hown htg hK hN hr hlk hnm hsz hP hD hS hA ls hl
  have hown : s.vm.findClass RX8 = some m.cls := hown
  have hl : lv_has ls 6 [(0, .ref h0), (1, .int x), (2, .int y), (3, .int z), (4, .int v), (5, .int w)] := hl
  refine lv_aload_n hx hb dX8_feed_0 rfl (lv_at hl 0 rfl) ?_
  refine va_get (D := D) (ci := 8) (v := .int 0) (C := RX8) (T := TX8) (N := 13) hx hb htg gRX8 hown hK hP 0 rfl rfl 1 (by decide) (htg _ wi_468) (fun _ h9 => h9) rfl dX8_feed_1 ?_
  refine lv_bipush (v := 20) hx hb dX8_feed_4 (by decide) ?_
  refine lv_iadd hx hb dX8_feed_6 ?_
  refine lv_is (y := 20) (by decide) ?_
  refine lv_sipush (v := 900) hx hb dX8_feed_7 (by decide) ?_
  refine lv_icmp_le (tgt := 16) hx hb dX8_feed_10 (by decide) (fun _ => ?_) (fun h => absurd (by decide) h)
  refine lv_aload_n hx hb dX8_feed_16 rfl (lv_at hl 0 rfl) ?_
  refine lv_iload_n hx hb dX8_feed_17 rfl (lv_at hl 1 rfl) ?_
  refine xk_v (wr := []) (xr_V (n := 1) (As := [.int x]) (rest := []) ⟨hx, hb, hml, hown, htg⟩ hK hN hP hD [0, 1] rfl (by decide) (c_tapeInt_0 l D cT _ (h0) (q) (fun _ => 0) (x)) wi_511 wi_513 wi_1 wi_121 wi_514 rfl rfl rfl ⟨rfl, by decide +kernel⟩ ⟨Nat.le_of_ble_eq_true rfl, Nat.le_of_ble_eq_true rfl⟩ rfl hl.1 rfl (Nat.le_of_ble_eq_true rfl) dX8_feed_18 ⟨Nat.le_of_ble_eq_true rfl, Nat.le_of_ble_eq_true rfl⟩) hP hD hS hA [0, 1] [] rfl rfl (by decide) (by decide) (fun u_1 H locs hwr_2 hP hD hS => ?_)
  have hP : va_P D classes [(h0, .inr (8, [.ref (q 0), .int 4, .ref (q 1), .ref (q 2), .ref (q 3), .ref (q 4), .ref (q 5), .ref (q 6), .ref (q 7), .ref (q 8), .ref (q 9), .ref (q 10), .ref (q 11)])), ((q 0), .inl (cT 2, 900, .inl (u_1)))] _ := hP
  have hD : va_D A [(h0, .inr (8, [.ref (q 0), .int 4, .ref (q 1), .ref (q 2), .ref (q 3), .ref (q 4), .ref (q 5), .ref (q 6), .ref (q 7), .ref (q 8), .ref (q 9), .ref (q 10), .ref (q 11)])), ((q 0), .inl (cT 2, 900, .inl (u_1)))] := hD
  refine lv_aload_n hx hb dX8_feed_21 rfl (lv_at hl 0 rfl) ?_
  refine lv_iload_n hx hb dX8_feed_22 rfl (lv_at hl 2 rfl) ?_
  refine xk_v (wr := []) (xr_V (n := 1) (As := [.int y]) (rest := []) ⟨hx, hb, hml, hown, htg⟩ hK hN hP hD [0, 1] rfl (by decide) (c_tapeInt_4 l D cT _ (h0) (q) (u_1) (y)) wi_511 wi_513 wi_1 wi_121 wi_514 rfl rfl rfl ⟨rfl, by decide +kernel⟩ ⟨Nat.le_of_ble_eq_true rfl, Nat.le_of_ble_eq_true rfl⟩ rfl hl.1 rfl (Nat.le_of_ble_eq_true rfl) dX8_feed_23 ⟨Nat.le_of_ble_eq_true rfl, Nat.le_of_ble_eq_true rfl⟩) hP hD hS hA [0, 1] [] rfl rfl (by decide) (by decide) (fun u_3 H locs hwr_4 hP hD hS => ?_)
  have hP : va_P D classes [(h0, .inr (8, [.ref (q 0), .int 8, .ref (q 1), .ref (q 2), .ref (q 3), .ref (q 4), .ref (q 5), .ref (q 6), .ref (q 7), .ref (q 8), .ref (q 9), .ref (q 10), .ref (q 11)])), ((q 0), .inl (cT 2, 900, .inl (u_3)))] _ := hP
  have hD : va_D A [(h0, .inr (8, [.ref (q 0), .int 8, .ref (q 1), .ref (q 2), .ref (q 3), .ref (q 4), .ref (q 5), .ref (q 6), .ref (q 7), .ref (q 8), .ref (q 9), .ref (q 10), .ref (q 11)])), ((q 0), .inl (cT 2, 900, .inl (u_3)))] := hD
  refine lv_aload_n hx hb dX8_feed_26 rfl (lv_at hl 0 rfl) ?_
  refine lv_iload_n hx hb dX8_feed_27 rfl (lv_at hl 3 rfl) ?_
  refine xk_v (wr := []) (xr_V (n := 1) (As := [.int z]) (rest := []) ⟨hx, hb, hml, hown, htg⟩ hK hN hP hD [0, 1] rfl (by decide) (c_tapeInt_8 l D cT _ (h0) (q) (u_3) (z)) wi_511 wi_513 wi_1 wi_121 wi_514 rfl rfl rfl ⟨rfl, by decide +kernel⟩ ⟨Nat.le_of_ble_eq_true rfl, Nat.le_of_ble_eq_true rfl⟩ rfl hl.1 rfl (Nat.le_of_ble_eq_true rfl) dX8_feed_28 ⟨Nat.le_of_ble_eq_true rfl, Nat.le_of_ble_eq_true rfl⟩) hP hD hS hA [0, 1] [] rfl rfl (by decide) (by decide) (fun u_5 H locs hwr_6 hP hD hS => ?_)
  have hP : va_P D classes [(h0, .inr (8, [.ref (q 0), .int 12, .ref (q 1), .ref (q 2), .ref (q 3), .ref (q 4), .ref (q 5), .ref (q 6), .ref (q 7), .ref (q 8), .ref (q 9), .ref (q 10), .ref (q 11)])), ((q 0), .inl (cT 2, 900, .inl (u_5)))] _ := hP
  have hD : va_D A [(h0, .inr (8, [.ref (q 0), .int 12, .ref (q 1), .ref (q 2), .ref (q 3), .ref (q 4), .ref (q 5), .ref (q 6), .ref (q 7), .ref (q 8), .ref (q 9), .ref (q 10), .ref (q 11)])), ((q 0), .inl (cT 2, 900, .inl (u_5)))] := hD
  refine lv_aload_n hx hb dX8_feed_31 rfl (lv_at hl 0 rfl) ?_
  refine lv_iload hx hb dX8_feed_32 (lv_at hl 4 rfl) ?_
  refine xk_v (wr := []) (xr_V (n := 1) (As := [.int v]) (rest := []) ⟨hx, hb, hml, hown, htg⟩ hK hN hP hD [0, 1] rfl (by decide) (c_tapeInt_12 l D cT _ (h0) (q) (u_5) (v)) wi_511 wi_513 wi_1 wi_121 wi_514 rfl rfl rfl ⟨rfl, by decide +kernel⟩ ⟨Nat.le_of_ble_eq_true rfl, Nat.le_of_ble_eq_true rfl⟩ rfl hl.1 rfl (Nat.le_of_ble_eq_true rfl) dX8_feed_34 ⟨Nat.le_of_ble_eq_true rfl, Nat.le_of_ble_eq_true rfl⟩) hP hD hS hA [0, 1] [] rfl rfl (by decide) (by decide) (fun u_7 H locs hwr_8 hP hD hS => ?_)
  have hP : va_P D classes [(h0, .inr (8, [.ref (q 0), .int 16, .ref (q 1), .ref (q 2), .ref (q 3), .ref (q 4), .ref (q 5), .ref (q 6), .ref (q 7), .ref (q 8), .ref (q 9), .ref (q 10), .ref (q 11)])), ((q 0), .inl (cT 2, 900, .inl (u_7)))] _ := hP
  have hD : va_D A [(h0, .inr (8, [.ref (q 0), .int 16, .ref (q 1), .ref (q 2), .ref (q 3), .ref (q 4), .ref (q 5), .ref (q 6), .ref (q 7), .ref (q 8), .ref (q 9), .ref (q 10), .ref (q 11)])), ((q 0), .inl (cT 2, 900, .inl (u_7)))] := hD
  refine lv_aload_n hx hb dX8_feed_37 rfl (lv_at hl 0 rfl) ?_
  refine lv_iload hx hb dX8_feed_38 (lv_at hl 5 rfl) ?_
  refine xk_v (wr := []) (xr_V (n := 1) (As := [.int w]) (rest := []) ⟨hx, hb, hml, hown, htg⟩ hK hN hP hD [0, 1] rfl (by decide) (c_tapeInt_16 l D cT _ (h0) (q) (u_7) (w)) wi_511 wi_513 wi_1 wi_121 wi_514 rfl rfl rfl ⟨rfl, by decide +kernel⟩ ⟨Nat.le_of_ble_eq_true rfl, Nat.le_of_ble_eq_true rfl⟩ rfl hl.1 rfl (Nat.le_of_ble_eq_true rfl) dX8_feed_40 ⟨Nat.le_of_ble_eq_true rfl, Nat.le_of_ble_eq_true rfl⟩) hP hD hS hA [0, 1] [] rfl rfl (by decide) (by decide) (fun u_9 H locs hwr_10 hP hD hS => ?_)
  have hP : va_P D classes [(h0, .inr (8, [.ref (q 0), .int 20, .ref (q 1), .ref (q 2), .ref (q 3), .ref (q 4), .ref (q 5), .ref (q 6), .ref (q 7), .ref (q 8), .ref (q 9), .ref (q 10), .ref (q 11)])), ((q 0), .inl (cT 2, 900, .inl (u_9)))] _ := hP
  have hD : va_D A [(h0, .inr (8, [.ref (q 0), .int 20, .ref (q 1), .ref (q 2), .ref (q 3), .ref (q 4), .ref (q 5), .ref (q 6), .ref (q 7), .ref (q 8), .ref (q 9), .ref (q 10), .ref (q 11)])), ((q 0), .inl (cT 2, 900, .inl (u_9)))] := hD
  refine lv_aload_n hx hb dX8_feed_43 rfl (lv_at hl 0 rfl) ?_
  refine va_get (D := D) (ci := 8) (v := .int 20) (C := RX8) (T := TX8) (N := 13) hx hb htg gRX8 hown hK hP 0 rfl rfl 1 (by decide) (htg _ wi_468) (fun _ h9 => h9) rfl dX8_feed_44 ?_
  exact x_iret hx hb hr hlk hP hD hS [] (()) rfl (by decide) (by first | rfl | decide | (exfalso; omega) | (try simp only [ti_0, ti_1, ti_2, ti_3, ti_4, ti_5, ti_6, ti_7, ti_8, ti_9, ti_10, ti_11, ti_12]); (repeat (first | rw [if_pos (by first | assumption | omega | trivial)] | rw [if_neg (by first | assumption | omega)]))) (by decide) (by decide) dX8_feed_47
set_option maxHeartbeats 4000000 in
set_option maxRecDepth 100000 in
theorem k_plain (l : Launch) (D : va_G) (cT : Nat → ClassId) (sz : Nat) (h0 : Nat) (q : Nat → Nat) (x : Int32) : Met l yX8_plain (wsc yX8_plain cX8_plain 3 (some .int)) { frames := 5, cells := 0, slots := 0, locals := 166 } (va_Pc [.ref h0, .int x] (PX D cT sz [(h0, .inr (8, [.ref (q 0), .int 0, .ref (q 1), .ref (q 2), .ref (q 3), .ref (q 4), .ref (q 5), .ref (q 6), .ref (q 7), .ref (q 8), .ref (q 9), .ref (q 10), .ref (q 11)])), ((q 0), .inl (cT 2, 900, .inl (fun _ => 0))), ((q 1), .inr (6, [.ref (q 19), .int 0, .int (-1), .ref (q 18), .int 0, .int 0, .int 0, .int 0, .int 0])), ((q 19), .inr (3, [.int 0, .int 0, .int 0, .int 0, .int 6, .int 6, .int 1, .int 60, .int 0, .int 0, .ref (q 20), .ref (q 21), .ref (q 22), .ref (q 23), .ref (q 24), .ref (q 25)])), ((q 18), .inl (cT 2, 900, .inl (fun _ => 0))), ((q 20), .inl (cT 0, 16, .inl (fun _ => 0))), ((q 21), .inl (cT 0, 16, .inl (fun _ => 0))), ((q 22), .inl (cT 0, 16, .inl (fun _ => 0))), ((q 23), .inl (cT 0, 16, .inl (fun _ => 0))), ((q 24), .inl (cT 0, 16, .inl (fun _ => 0))), ((q 25), .inl (cT 0, 6, .inl (fillF (fun _ => 0) 6 1))), ((q 2), .inr (3, [.int 0, .int 0, .int 0, .int 0, .int 6, .int 6, .int 1, .int 60, .int 0, .int 0, .ref (q 12), .ref (q 13), .ref (q 14), .ref (q 15), .ref (q 16), .ref (q 17)])), ((q 12), .inl (cT 0, 16, .inl (fun _ => 0))), ((q 13), .inl (cT 0, 16, .inl (fun _ => 0))), ((q 14), .inl (cT 0, 16, .inl (fun _ => 0))), ((q 15), .inl (cT 0, 16, .inl (fun _ => 0))), ((q 16), .inl (cT 0, 16, .inl (fun _ => 0))), ((q 17), .inl (cT 0, 6, .inl (fillF (fun _ => 0) 6 1)))])) (va_Qi (fun (r : Int32) (u : Unit) => r = if x.toInt = 0 then 0 else -3) (fun u t => RW D (va_A [(h0, .inr (8, [.ref (q 0), .int 0, .ref (q 1), .ref (q 2), .ref (q 3), .ref (q 4), .ref (q 5), .ref (q 6), .ref (q 7), .ref (q 8), .ref (q 9), .ref (q 10), .ref (q 11)])), ((q 0), .inl (cT 2, 900, .inl (fun _ => 0))), ((q 1), .inr (6, [.ref (q 19), .int 0, .int (-1), .ref (q 18), .int 0, .int 0, .int 0, .int 0, .int 0])), ((q 19), .inr (3, [.int 0, .int 0, .int 0, .int 0, .int 6, .int 6, .int 1, .int 60, .int 0, .int 0, .ref (q 20), .ref (q 21), .ref (q 22), .ref (q 23), .ref (q 24), .ref (q 25)])), ((q 18), .inl (cT 2, 900, .inl (fun _ => 0))), ((q 20), .inl (cT 0, 16, .inl (fun _ => 0))), ((q 21), .inl (cT 0, 16, .inl (fun _ => 0))), ((q 22), .inl (cT 0, 16, .inl (fun _ => 0))), ((q 23), .inl (cT 0, 16, .inl (fun _ => 0))), ((q 24), .inl (cT 0, 16, .inl (fun _ => 0))), ((q 25), .inl (cT 0, 6, .inl (fillF (fun _ => 0) 6 1))), ((q 2), .inr (3, [.int 0, .int 0, .int 0, .int 0, .int 6, .int 6, .int 1, .int 60, .int 0, .int 0, .ref (q 12), .ref (q 13), .ref (q 14), .ref (q 15), .ref (q 16), .ref (q 17)])), ((q 12), .inl (cT 0, 16, .inl (fun _ => 0))), ((q 13), .inl (cT 0, 16, .inl (fun _ => 0))), ((q 14), .inl (cT 0, 16, .inl (fun _ => 0))), ((q 15), .inl (cT 0, 16, .inl (fun _ => 0))), ((q 16), .inl (cT 0, 16, .inl (fun _ => 0))), ((q 17), .inl (cT 0, 6, .inl (fillF (fun _ => 0) 6 1)))] sz) ((fun _ : Unit => []) u) t) (va_A [(h0, .inr (8, [.ref (q 0), .int 0, .ref (q 1), .ref (q 2), .ref (q 3), .ref (q 4), .ref (q 5), .ref (q 6), .ref (q 7), .ref (q 8), .ref (q 9), .ref (q 10), .ref (q 11)])), ((q 0), .inl (cT 2, 900, .inl (fun _ => 0))), ((q 1), .inr (6, [.ref (q 19), .int 0, .int (-1), .ref (q 18), .int 0, .int 0, .int 0, .int 0, .int 0])), ((q 19), .inr (3, [.int 0, .int 0, .int 0, .int 0, .int 6, .int 6, .int 1, .int 60, .int 0, .int 0, .ref (q 20), .ref (q 21), .ref (q 22), .ref (q 23), .ref (q 24), .ref (q 25)])), ((q 18), .inl (cT 2, 900, .inl (fun _ => 0))), ((q 20), .inl (cT 0, 16, .inl (fun _ => 0))), ((q 21), .inl (cT 0, 16, .inl (fun _ => 0))), ((q 22), .inl (cT 0, 16, .inl (fun _ => 0))), ((q 23), .inl (cT 0, 16, .inl (fun _ => 0))), ((q 24), .inl (cT 0, 16, .inl (fun _ => 0))), ((q 25), .inl (cT 0, 6, .inl (fillF (fun _ => 0) 6 1))), ((q 2), .inr (3, [.int 0, .int 0, .int 0, .int 0, .int 6, .int 6, .int 1, .int 60, .int 0, .int 0, .ref (q 12), .ref (q 13), .ref (q 14), .ref (q 15), .ref (q 16), .ref (q 17)])), ((q 12), .inl (cT 0, 16, .inl (fun _ => 0))), ((q 13), .inl (cT 0, 16, .inl (fun _ => 0))), ((q 14), .inl (cT 0, 16, .inl (fun _ => 0))), ((q 15), .inl (cT 0, 16, .inl (fun _ => 0))), ((q 16), .inl (cT 0, 16, .inl (fun _ => 0))), ((q 17), .inl (cT 0, 6, .inl (fillF (fun _ => 0) 6 1)))] sz)) 0 0 (va_A [(h0, .inr (8, [.ref (q 0), .int 0, .ref (q 1), .ref (q 2), .ref (q 3), .ref (q 4), .ref (q 5), .ref (q 6), .ref (q 7), .ref (q 8), .ref (q 9), .ref (q 10), .ref (q 11)])), ((q 0), .inl (cT 2, 900, .inl (fun _ => 0))), ((q 1), .inr (6, [.ref (q 19), .int 0, .int (-1), .ref (q 18), .int 0, .int 0, .int 0, .int 0, .int 0])), ((q 19), .inr (3, [.int 0, .int 0, .int 0, .int 0, .int 6, .int 6, .int 1, .int 60, .int 0, .int 0, .ref (q 20), .ref (q 21), .ref (q 22), .ref (q 23), .ref (q 24), .ref (q 25)])), ((q 18), .inl (cT 2, 900, .inl (fun _ => 0))), ((q 20), .inl (cT 0, 16, .inl (fun _ => 0))), ((q 21), .inl (cT 0, 16, .inl (fun _ => 0))), ((q 22), .inl (cT 0, 16, .inl (fun _ => 0))), ((q 23), .inl (cT 0, 16, .inl (fun _ => 0))), ((q 24), .inl (cT 0, 16, .inl (fun _ => 0))), ((q 25), .inl (cT 0, 6, .inl (fillF (fun _ => 0) 6 1))), ((q 2), .inr (3, [.int 0, .int 0, .int 0, .int 0, .int 6, .int 6, .int 1, .int 60, .int 0, .int 0, .ref (q 12), .ref (q 13), .ref (q 14), .ref (q 15), .ref (q 16), .ref (q 17)])), ((q 12), .inl (cT 0, 16, .inl (fun _ => 0))), ((q 13), .inl (cT 0, 16, .inl (fun _ => 0))), ((q 14), .inl (cT 0, 16, .inl (fun _ => 0))), ((q 15), .inl (cT 0, 16, .inl (fun _ => 0))), ((q 16), .inl (cT 0, 16, .inl (fun _ => 0))), ((q 17), .inl (cT 0, 6, .inl (fillF (fun _ => 0) 6 1)))] sz) := by
  refine m_of (y := yX8_plain) (cc := cX8_plain) (nL := 3) (ret := (some .int)) (D := D) (cT := cT) (av := [.ref h0, .int x]) (wi := [(h0, .inr (8, [.ref (q 0), .int 0, .ref (q 1), .ref (q 2), .ref (q 3), .ref (q 4), .ref (q 5), .ref (q 6), .ref (q 7), .ref (q 8), .ref (q 9), .ref (q 10), .ref (q 11)])), ((q 0), .inl (cT 2, 900, .inl (fun _ => 0))), ((q 1), .inr (6, [.ref (q 19), .int 0, .int (-1), .ref (q 18), .int 0, .int 0, .int 0, .int 0, .int 0])), ((q 19), .inr (3, [.int 0, .int 0, .int 0, .int 0, .int 6, .int 6, .int 1, .int 60, .int 0, .int 0, .ref (q 20), .ref (q 21), .ref (q 22), .ref (q 23), .ref (q 24), .ref (q 25)])), ((q 18), .inl (cT 2, 900, .inl (fun _ => 0))), ((q 20), .inl (cT 0, 16, .inl (fun _ => 0))), ((q 21), .inl (cT 0, 16, .inl (fun _ => 0))), ((q 22), .inl (cT 0, 16, .inl (fun _ => 0))), ((q 23), .inl (cT 0, 16, .inl (fun _ => 0))), ((q 24), .inl (cT 0, 16, .inl (fun _ => 0))), ((q 25), .inl (cT 0, 6, .inl (fillF (fun _ => 0) 6 1))), ((q 2), .inr (3, [.int 0, .int 0, .int 0, .int 0, .int 6, .int 6, .int 1, .int 60, .int 0, .int 0, .ref (q 12), .ref (q 13), .ref (q 14), .ref (q 15), .ref (q 16), .ref (q 17)])), ((q 12), .inl (cT 0, 16, .inl (fun _ => 0))), ((q 13), .inl (cT 0, 16, .inl (fun _ => 0))), ((q 14), .inl (cT 0, 16, .inl (fun _ => 0))), ((q 15), .inl (cT 0, 16, .inl (fun _ => 0))), ((q 16), .inl (cT 0, 16, .inl (fun _ => 0))), ((q 17), .inl (cT 0, 6, .inl (fillF (fun _ => 0) 6 1)))]) (fun A => va_Qi (fun (r : Int32) (u : Unit) => r = if x.toInt = 0 then 0 else -3) (fun u t => RW D A ((fun _ : Unit => []) u) t) A) (by decide) (Nat.le_of_ble_eq_true rfl) ?_
  intro p e s m below meth c A hx hb hml hown htg hK hN hr hlk hnm hsz hP hD hS hA ls hl
  have hown : s.vm.findClass RX8 = some m.cls := hown
  have hl : lv_has ls 3 [(0, .ref h0), (1, .int x)] := hl
  refine lv_iload_n hx hb dX8_plain_0 rfl (lv_at hl 1 rfl) ?_
  refine lv_if_lt (tgt := 12) hx hb dX8_plain_1 (by decide) (fun c_1 => ?_) (fun c_1 => ?_)
  · have ic_1 : x.toInt < 0 := ilt c_1 (rfl) (by decide)
    refine lv_bipush (v := (-3)) hx hb dX8_plain_12 (by decide) ?_
    exact x_iret hx hb hr hlk hP hD hS [] (()) rfl (by decide) (by first | rfl | decide | (exfalso; omega) | (try simp only [ti_0, ti_1, ti_2, ti_3, ti_4, ti_5, ti_6, ti_7, ti_8, ti_9, ti_10, ti_11, ti_12]); (repeat (first | rw [if_pos (by first | assumption | omega | trivial)] | rw [if_neg (by first | assumption | omega)]))) (by decide) (by decide) dX8_plain_14
  · have ic_1 : 0 ≤ x.toInt := inlt c_1 (rfl) (by decide)
    refine lv_iload_n hx hb dX8_plain_4 rfl (lv_at hl 1 rfl) ?_
    refine lv_aload_n hx hb dX8_plain_5 rfl (lv_at hl 0 rfl) ?_
    refine va_get (D := D) (ci := 8) (v := .int 0) (C := RX8) (T := TX8) (N := 13) hx hb htg gRX8 hown hK hP 0 rfl rfl 1 (by decide) (htg _ wi_468) (fun _ h9 => h9) rfl dX8_plain_6 ?_
    refine lv_icmp_le (tgt := 15) hx hb dX8_plain_9 (by decide) (fun c_2 => ?_) (fun c_2 => ?_)
    · have ic_2 : x.toInt ≤ 0 := ile c_2 (rfl) (by decide)
      obtain rfl : x = 0 := i32_is (by rw [show (0 : Int32).toInt = 0 from by decide]; omega)
      refine lv_aload_n hx hb dX8_plain_15 rfl (lv_at hl 0 rfl) ?_
      refine lv_iconst (v := 0) hx hb dX8_plain_16 (by decide) ?_
      refine va_put (D := D) (ci := 8) (v := .int 0) (ty := .int) (C := RX8) (T := TX8) (N := 13) hx hb htg gRX8 tyX8 tyX8_ok nmX8 hown hK hP hD hS 0 rfl rfl 1 (by decide) (htg _ wi_468) (fun _ h9 => h9) rfl (by decide +kernel) rfl rfl (Nat.le_of_ble_eq_true rfl) dX8_plain_17 (fun H locs hP hD hS => ?_)
      have hP : va_P D classes [(h0, .inr (8, [.ref (q 0), .int 0, .ref (q 1), .ref (q 2), .ref (q 3), .ref (q 4), .ref (q 5), .ref (q 6), .ref (q 7), .ref (q 8), .ref (q 9), .ref (q 10), .ref (q 11)])), ((q 0), .inl (cT 2, 900, .inl (fun _ => 0))), ((q 1), .inr (6, [.ref (q 19), .int 0, .int (-1), .ref (q 18), .int 0, .int 0, .int 0, .int 0, .int 0])), ((q 19), .inr (3, [.int 0, .int 0, .int 0, .int 0, .int 6, .int 6, .int 1, .int 60, .int 0, .int 0, .ref (q 20), .ref (q 21), .ref (q 22), .ref (q 23), .ref (q 24), .ref (q 25)])), ((q 18), .inl (cT 2, 900, .inl (fun _ => 0))), ((q 20), .inl (cT 0, 16, .inl (fun _ => 0))), ((q 21), .inl (cT 0, 16, .inl (fun _ => 0))), ((q 22), .inl (cT 0, 16, .inl (fun _ => 0))), ((q 23), .inl (cT 0, 16, .inl (fun _ => 0))), ((q 24), .inl (cT 0, 16, .inl (fun _ => 0))), ((q 25), .inl (cT 0, 6, .inl (fillF (fun _ => 0) 6 1))), ((q 2), .inr (3, [.int 0, .int 0, .int 0, .int 0, .int 6, .int 6, .int 1, .int 60, .int 0, .int 0, .ref (q 12), .ref (q 13), .ref (q 14), .ref (q 15), .ref (q 16), .ref (q 17)])), ((q 12), .inl (cT 0, 16, .inl (fun _ => 0))), ((q 13), .inl (cT 0, 16, .inl (fun _ => 0))), ((q 14), .inl (cT 0, 16, .inl (fun _ => 0))), ((q 15), .inl (cT 0, 16, .inl (fun _ => 0))), ((q 16), .inl (cT 0, 16, .inl (fun _ => 0))), ((q 17), .inl (cT 0, 6, .inl (fillF (fun _ => 0) 6 1)))] _ := hP
      have hD : va_D A [(h0, .inr (8, [.ref (q 0), .int 0, .ref (q 1), .ref (q 2), .ref (q 3), .ref (q 4), .ref (q 5), .ref (q 6), .ref (q 7), .ref (q 8), .ref (q 9), .ref (q 10), .ref (q 11)])), ((q 0), .inl (cT 2, 900, .inl (fun _ => 0))), ((q 1), .inr (6, [.ref (q 19), .int 0, .int (-1), .ref (q 18), .int 0, .int 0, .int 0, .int 0, .int 0])), ((q 19), .inr (3, [.int 0, .int 0, .int 0, .int 0, .int 6, .int 6, .int 1, .int 60, .int 0, .int 0, .ref (q 20), .ref (q 21), .ref (q 22), .ref (q 23), .ref (q 24), .ref (q 25)])), ((q 18), .inl (cT 2, 900, .inl (fun _ => 0))), ((q 20), .inl (cT 0, 16, .inl (fun _ => 0))), ((q 21), .inl (cT 0, 16, .inl (fun _ => 0))), ((q 22), .inl (cT 0, 16, .inl (fun _ => 0))), ((q 23), .inl (cT 0, 16, .inl (fun _ => 0))), ((q 24), .inl (cT 0, 16, .inl (fun _ => 0))), ((q 25), .inl (cT 0, 6, .inl (fillF (fun _ => 0) 6 1))), ((q 2), .inr (3, [.int 0, .int 0, .int 0, .int 0, .int 6, .int 6, .int 1, .int 60, .int 0, .int 0, .ref (q 12), .ref (q 13), .ref (q 14), .ref (q 15), .ref (q 16), .ref (q 17)])), ((q 12), .inl (cT 0, 16, .inl (fun _ => 0))), ((q 13), .inl (cT 0, 16, .inl (fun _ => 0))), ((q 14), .inl (cT 0, 16, .inl (fun _ => 0))), ((q 15), .inl (cT 0, 16, .inl (fun _ => 0))), ((q 16), .inl (cT 0, 16, .inl (fun _ => 0))), ((q 17), .inl (cT 0, 6, .inl (fillF (fun _ => 0) 6 1)))] := hD
      refine lv_aload_n hx hb dX8_plain_20 rfl (lv_at hl 0 rfl) ?_
      refine va_get (D := D) (ci := 8) (v := .ref (q 1)) (C := RX8) (T := TX8) (N := 13) hx hb htg gRX8 hown hK hP 0 rfl rfl 2 (by decide) (htg _ wi_469) (fun _ h9 => h9) rfl dX8_plain_21 ?_
      refine lv_aload_n hx hb dX8_plain_24 rfl (lv_at hl 0 rfl) ?_
      refine va_get (D := D) (ci := 8) (v := .ref (q 0)) (C := RX8) (T := TX8) (N := 13) hx hb htg gRX8 hown hK hP 0 rfl rfl 0 (by decide) (htg _ wi_467) (fun _ h9 => h9) rfl dX8_plain_25 ?_
      refine lv_iload_n hx hb dX8_plain_28 rfl (lv_at hl 1 rfl) ?_
      refine xk_i (wr := [(h0, .inr (8, [.ref (q 0), .int 0, .ref (q 1), .ref (q 2), .ref (q 3), .ref (q 4), .ref (q 5), .ref (q 6), .ref (q 7), .ref (q 8), .ref (q 9), .ref (q 10), .ref (q 11)])), ((q 20), .inl (cT 0, 16, .inl (fun _ => 0))), ((q 21), .inl (cT 0, 16, .inl (fun _ => 0))), ((q 22), .inl (cT 0, 16, .inl (fun _ => 0))), ((q 23), .inl (cT 0, 16, .inl (fun _ => 0))), ((q 24), .inl (cT 0, 16, .inl (fun _ => 0))), ((q 2), .inr (3, [.int 0, .int 0, .int 0, .int 0, .int 6, .int 6, .int 1, .int 60, .int 0, .int 0, .ref (q 12), .ref (q 13), .ref (q 14), .ref (q 15), .ref (q 16), .ref (q 17)])), ((q 12), .inl (cT 0, 16, .inl (fun _ => 0))), ((q 13), .inl (cT 0, 16, .inl (fun _ => 0))), ((q 14), .inl (cT 0, 16, .inl (fun _ => 0))), ((q 15), .inl (cT 0, 16, .inl (fun _ => 0))), ((q 16), .inl (cT 0, 16, .inl (fun _ => 0))), ((q 17), .inl (cT 0, 6, .inl (fillF (fun _ => 0) 6 1)))]) (xr_VN (n := 2) (As := [.ref (q 0), .int 0]) (rest := []) ⟨hx, hb, hml, hown, htg⟩ hK hN hP hD [2, 3, 4, 10, 1] rfl (by decide) (c_readText l D cT _ ((q 1)) ((q 19)) ((q 18)) (fun k => [(q 20), (q 21), (q 22), (q 23), (q 24), (q 25)].getD k 0) ((q 0)) (fun _ => 0) (fillF (fun _ => 0) 6 1) (fun _ => 0)) ni_519 wi_521 wi_2 wi_122 wi_522 rfl rfl rfl ⟨rfl, by decide +kernel⟩ ⟨Nat.le_of_ble_eq_true rfl, Nat.le_of_ble_eq_true rfl⟩ rfl hl.1 rfl (Nat.le_of_ble_eq_true rfl) dX8_plain_29 ⟨Nat.le_of_ble_eq_true rfl, Nat.le_of_ble_eq_true rfl⟩) hP hD hS hA [2, 3, 4, 10, 1] [0, 5, 6, 7, 8, 9, 11, 12, 13, 14, 15, 16, 17] rfl rfl (by decide) (by decide) (fun r_4 u_3 H locs hwr_4 hP hD hS => ?_)
      have hP : va_P D classes [(h0, .inr (8, [.ref (q 0), .int 0, .ref (q 1), .ref (q 2), .ref (q 3), .ref (q 4), .ref (q 5), .ref (q 6), .ref (q 7), .ref (q 8), .ref (q 9), .ref (q 10), .ref (q 11)])), ((q 20), .inl (cT 0, 16, .inl (fun _ => 0))), ((q 21), .inl (cT 0, 16, .inl (fun _ => 0))), ((q 22), .inl (cT 0, 16, .inl (fun _ => 0))), ((q 23), .inl (cT 0, 16, .inl (fun _ => 0))), ((q 24), .inl (cT 0, 16, .inl (fun _ => 0))), ((q 2), .inr (3, [.int 0, .int 0, .int 0, .int 0, .int 6, .int 6, .int 1, .int 60, .int 0, .int 0, .ref (q 12), .ref (q 13), .ref (q 14), .ref (q 15), .ref (q 16), .ref (q 17)])), ((q 12), .inl (cT 0, 16, .inl (fun _ => 0))), ((q 13), .inl (cT 0, 16, .inl (fun _ => 0))), ((q 14), .inl (cT 0, 16, .inl (fun _ => 0))), ((q 15), .inl (cT 0, 16, .inl (fun _ => 0))), ((q 16), .inl (cT 0, 16, .inl (fun _ => 0))), ((q 17), .inl (cT 0, 6, .inl (fillF (fun _ => 0) 6 1))), ((q 1), .inr (6, [.ref (q 19), .int 0, .int (-1), .ref (q 18), .int 0, .int 0, .int 0, .int 0, .int 0])), ((q 19), .inr (3, [.int 0, .int 0, .int 0, .int 0, .int 6, .int 6, .int 1, .int 60, .int 0, .int 0, .ref (q 20), .ref (q 21), .ref (q 22), .ref (q 23), .ref (q 24), .ref (q 25)])), ((q 25), .inl (cT 0, 6, .inl (fillF ((fillF (fun _ => 0) 6 1)) 6 (1))))] _ := hP
      have hD : va_D A [(h0, .inr (8, [.ref (q 0), .int 0, .ref (q 1), .ref (q 2), .ref (q 3), .ref (q 4), .ref (q 5), .ref (q 6), .ref (q 7), .ref (q 8), .ref (q 9), .ref (q 10), .ref (q 11)])), ((q 20), .inl (cT 0, 16, .inl (fun _ => 0))), ((q 21), .inl (cT 0, 16, .inl (fun _ => 0))), ((q 22), .inl (cT 0, 16, .inl (fun _ => 0))), ((q 23), .inl (cT 0, 16, .inl (fun _ => 0))), ((q 24), .inl (cT 0, 16, .inl (fun _ => 0))), ((q 2), .inr (3, [.int 0, .int 0, .int 0, .int 0, .int 6, .int 6, .int 1, .int 60, .int 0, .int 0, .ref (q 12), .ref (q 13), .ref (q 14), .ref (q 15), .ref (q 16), .ref (q 17)])), ((q 12), .inl (cT 0, 16, .inl (fun _ => 0))), ((q 13), .inl (cT 0, 16, .inl (fun _ => 0))), ((q 14), .inl (cT 0, 16, .inl (fun _ => 0))), ((q 15), .inl (cT 0, 16, .inl (fun _ => 0))), ((q 16), .inl (cT 0, 16, .inl (fun _ => 0))), ((q 17), .inl (cT 0, 6, .inl (fillF (fun _ => 0) 6 1))), ((q 1), .inr (6, [.ref (q 19), .int 0, .int (-1), .ref (q 18), .int 0, .int 0, .int 0, .int 0, .int 0])), ((q 19), .inr (3, [.int 0, .int 0, .int 0, .int 0, .int 6, .int 6, .int 1, .int 60, .int 0, .int 0, .ref (q 20), .ref (q 21), .ref (q 22), .ref (q 23), .ref (q 24), .ref (q 25)])), ((q 25), .inl (cT 0, 6, .inl (fillF ((fillF (fun _ => 0) 6 1)) 6 (1))))] := hD
      have hwr_4 : r_4 = 0 := hwr_4
      subst hwr_4
      refine lv_istore_n (lv' := [(2, .int 0), (0, .ref h0), (1, .int 0)]) hx hb dX8_plain_32 rfl hl (by decide) rfl (fun ls hl => ?_)
      refine lv_iload_n hx hb dX8_plain_33 rfl (lv_at hl 0 rfl) ?_
      refine lv_if_eq (tgt := 42) hx hb dX8_plain_34 (by decide) (fun _ => ?_) (fun h => absurd (by decide) h)
      refine lv_aload_n hx hb dX8_plain_42 rfl (lv_at hl 1 rfl) ?_
      refine va_get (D := D) (ci := 8) (v := .ref (q 2)) (C := RX8) (T := TX8) (N := 13) hx hb htg gRX8 hown hK hP 0 rfl rfl 3 (by decide) (htg _ wi_470) (fun _ h9 => h9) rfl dX8_plain_43 ?_
      refine lv_aload_n hx hb dX8_plain_46 rfl (lv_at hl 1 rfl) ?_
      refine va_get (D := D) (ci := 8) (v := .ref (q 1)) (C := RX8) (T := TX8) (N := 13) hx hb htg gRX8 hown hK hP 0 rfl rfl 2 (by decide) (htg _ wi_469) (fun _ h9 => h9) rfl dX8_plain_47 ?_
      refine va_getN (D := D) (ci := 6) (v := .ref (q 19)) (C := RX6) (T := TX6) (N := 9) hx hb htg gRX6 hown hK hP 13 rfl rfl 0 (by decide) (va_Nw.use rfl (hN.1 _ ni_253)) (fun _ h9 => h9) rfl dX8_plain_50 ?_
      refine xk_v (wr := [(h0, .inr (8, [.ref (q 0), .int 0, .ref (q 1), .ref (q 2), .ref (q 3), .ref (q 4), .ref (q 5), .ref (q 6), .ref (q 7), .ref (q 8), .ref (q 9), .ref (q 10), .ref (q 11)])), ((q 1), .inr (6, [.ref (q 19), .int 0, .int (-1), .ref (q 18), .int 0, .int 0, .int 0, .int 0, .int 0]))]) (xr_VN (n := 1) (As := [.ref (q 19)]) (rest := []) ⟨hx, hb, hml, hown, htg⟩ hK hN hP hD [6, 14, 7, 8, 9, 10, 11, 12, 1, 2, 3, 4, 5, 15] rfl (by decide) (c_become l D cT _ ((q 2)) ((q 19)) (fun k => [(q 12), (q 13), (q 14), (q 15), (q 16), (q 17)].getD k 0) (fun k => [(q 20), (q 21), (q 22), (q 23), (q 24), (q 25)].getD k 0) (fun _ => 0) (fun _ => 0) (fun _ => 0) (fun _ => 0) (fun _ => 0) (fillF (fun _ => 0) 6 1) (fun _ => 0) (fun _ => 0) (fun _ => 0) (fun _ => 0) (fun _ => 0) (fillF ((fillF (fun _ => 0) 6 1)) 6 (1))) ni_653 wi_655 wi_17 wi_123 wi_656 rfl rfl rfl ⟨rfl, by decide +kernel⟩ ⟨Nat.le_of_ble_eq_true rfl, Nat.le_of_ble_eq_true rfl⟩ rfl hl.1 rfl (Nat.le_of_ble_eq_true rfl) dX8_plain_53 ⟨Nat.le_of_ble_eq_true rfl, Nat.le_of_ble_eq_true rfl⟩) hP hD hS hA [6, 14, 7, 8, 9, 10, 11, 12, 1, 2, 3, 4, 5, 15] [0, 13] rfl rfl (by decide) (by decide) (fun u_5 H locs hwr_6 hP hD hS => ?_)
      have hP : va_P D classes [(h0, .inr (8, [.ref (q 0), .int 0, .ref (q 1), .ref (q 2), .ref (q 3), .ref (q 4), .ref (q 5), .ref (q 6), .ref (q 7), .ref (q 8), .ref (q 9), .ref (q 10), .ref (q 11)])), ((q 1), .inr (6, [.ref (q 19), .int 0, .int (-1), .ref (q 18), .int 0, .int 0, .int 0, .int 0, .int 0])), ((q 2), .inr (3, [.int 0, .int 0, .int 0, .int 0, .int 6, .int 6, .int 1, .int 60, .int 0, .int 0, .ref (q 12), .ref (q 13), .ref (q 14), .ref (q 15), .ref (q 16), .ref (q 17)]))] _ := hP
      have hD : va_D A [(h0, .inr (8, [.ref (q 0), .int 0, .ref (q 1), .ref (q 2), .ref (q 3), .ref (q 4), .ref (q 5), .ref (q 6), .ref (q 7), .ref (q 8), .ref (q 9), .ref (q 10), .ref (q 11)])), ((q 1), .inr (6, [.ref (q 19), .int 0, .int (-1), .ref (q 18), .int 0, .int 0, .int 0, .int 0, .int 0])), ((q 2), .inr (3, [.int 0, .int 0, .int 0, .int 0, .int 6, .int 6, .int 1, .int 60, .int 0, .int 0, .ref (q 12), .ref (q 13), .ref (q 14), .ref (q 15), .ref (q 16), .ref (q 17)]))] := hD
      refine lv_aload_n hx hb dX8_plain_56 rfl (lv_at hl 1 rfl) ?_
      refine va_get (D := D) (ci := 8) (v := .ref (q 2)) (C := RX8) (T := TX8) (N := 13) hx hb htg gRX8 hown hK hP 0 rfl rfl 3 (by decide) (htg _ wi_470) (fun _ h9 => h9) rfl dX8_plain_57 ?_
      refine va_getN (D := D) (ci := 3) (v := .int 0) (C := RX3) (T := TX3) (N := 16) hx hb htg gRX3 hown hK hP 2 rfl rfl 1 (by decide) (va_Nw.use rfl (hN.1 _ ni_174)) (fun _ h9 => h9) rfl dX8_plain_60 ?_
      exact x_iret hx hb hr hlk hP hD hS [] (()) rfl (by decide) (by first | rfl | decide | (exfalso; omega) | (try simp only [ti_0, ti_1, ti_2, ti_3, ti_4, ti_5, ti_6, ti_7, ti_8, ti_9, ti_10, ti_11, ti_12]); (repeat (first | rw [if_pos (by first | assumption | omega | trivial)] | rw [if_neg (by first | assumption | omega)]))) (by decide) (by decide) dX8_plain_63
    · have ic_2 : 0 < x.toInt := inle c_2 (rfl) (by decide)
      refine lv_bipush (v := (-3)) hx hb dX8_plain_12 (by decide) ?_
      exact x_iret hx hb hr hlk hP hD hS [] (()) rfl (by decide) (by first | rfl | decide | (exfalso; omega) | (try simp only [ti_0, ti_1, ti_2, ti_3, ti_4, ti_5, ti_6, ti_7, ti_8, ti_9, ti_10, ti_11, ti_12]); (repeat (first | rw [if_pos (by first | assumption | omega | trivial)] | rw [if_neg (by first | assumption | omega)]))) (by decide) (by decide) dX8_plain_14
set_option maxHeartbeats 4000000 in
set_option maxRecDepth 100000 in
theorem k_fault (l : Launch) (D : va_G) (cT : Nat → ClassId) (sz : Nat) (h0 : Nat) (q : Nat → Nat) (x : Int32) : Met l yX8_fault (wsc yX8_fault cX8_fault 2 (some .int)) { frames := 2, cells := 0, slots := 0, locals := 100 } (va_Pc [.ref h0, .int x] (PX D cT sz [(h0, .inr (8, [.ref (q 0), .int 0, .ref (q 1), .ref (q 2), .ref (q 3), .ref (q 4), .ref (q 5), .ref (q 6), .ref (q 7), .ref (q 8), .ref (q 9), .ref (q 10), .ref (q 11)])), ((q 1), .inr (6, [.ref (q 19), .int 0, .int (-1), .ref (q 18), .int 0, .int 0, .int 0, .int 0, .int 0]))])) (va_Qi (fun (r : Int32) (u : Unit) => r = if x.toInt = 0 then 0 else -1) (fun u t => RW D (va_A [(h0, .inr (8, [.ref (q 0), .int 0, .ref (q 1), .ref (q 2), .ref (q 3), .ref (q 4), .ref (q 5), .ref (q 6), .ref (q 7), .ref (q 8), .ref (q 9), .ref (q 10), .ref (q 11)])), ((q 1), .inr (6, [.ref (q 19), .int 0, .int (-1), .ref (q 18), .int 0, .int 0, .int 0, .int 0, .int 0]))] sz) ((fun _ : Unit => []) u) t) (va_A [(h0, .inr (8, [.ref (q 0), .int 0, .ref (q 1), .ref (q 2), .ref (q 3), .ref (q 4), .ref (q 5), .ref (q 6), .ref (q 7), .ref (q 8), .ref (q 9), .ref (q 10), .ref (q 11)])), ((q 1), .inr (6, [.ref (q 19), .int 0, .int (-1), .ref (q 18), .int 0, .int 0, .int 0, .int 0, .int 0]))] sz)) 0 0 (va_A [(h0, .inr (8, [.ref (q 0), .int 0, .ref (q 1), .ref (q 2), .ref (q 3), .ref (q 4), .ref (q 5), .ref (q 6), .ref (q 7), .ref (q 8), .ref (q 9), .ref (q 10), .ref (q 11)])), ((q 1), .inr (6, [.ref (q 19), .int 0, .int (-1), .ref (q 18), .int 0, .int 0, .int 0, .int 0, .int 0]))] sz) := by
  refine m_of (y := yX8_fault) (cc := cX8_fault) (nL := 2) (ret := (some .int)) (D := D) (cT := cT) (av := [.ref h0, .int x]) (wi := [(h0, .inr (8, [.ref (q 0), .int 0, .ref (q 1), .ref (q 2), .ref (q 3), .ref (q 4), .ref (q 5), .ref (q 6), .ref (q 7), .ref (q 8), .ref (q 9), .ref (q 10), .ref (q 11)])), ((q 1), .inr (6, [.ref (q 19), .int 0, .int (-1), .ref (q 18), .int 0, .int 0, .int 0, .int 0, .int 0]))]) (fun A => va_Qi (fun (r : Int32) (u : Unit) => r = if x.toInt = 0 then 0 else -1) (fun u t => RW D A ((fun _ : Unit => []) u) t) A) (by decide) (Nat.le_of_ble_eq_true rfl) ?_
  intro p e s m below meth c A hx hb hml hown htg hK hN hr hlk hnm hsz hP hD hS hA ls hl
  have hown : s.vm.findClass RX8 = some m.cls := hown
  have hl : lv_has ls 2 [(0, .ref h0), (1, .int x)] := hl
  refine lv_iload_n hx hb dX8_fault_0 rfl (lv_at hl 1 rfl) ?_
  refine lv_if_ne (tgt := 12) hx hb dX8_fault_1 (by decide) (fun c_1 => ?_) (fun c_1 => ?_)
  · have ic_1 : ¬ x.toInt = 0 := ine c_1 (rfl) (by decide)
    refine lv_iload_n hx hb dX8_fault_12 rfl (lv_at hl 1 rfl) ?_
    refine lv_iconst (v := 1) hx hb dX8_fault_13 (by decide) ?_
    refine lv_icmp_ne (tgt := 25) hx hb dX8_fault_14 (by decide) (fun c_2 => ?_) (fun c_2 => ?_)
    · have ic_2 : ¬ x.toInt = 1 := ine c_2 (rfl) (by decide)
      refine lv_iconst (v := (-1)) hx hb dX8_fault_25 (by decide) ?_
      exact x_iret hx hb hr hlk hP hD hS [] (()) rfl (by decide) (by first | rfl | decide | (exfalso; omega) | (try simp only [ti_0, ti_1, ti_2, ti_3, ti_4, ti_5, ti_6, ti_7, ti_8, ti_9, ti_10, ti_11, ti_12]); (repeat (first | rw [if_pos (by first | assumption | omega | trivial)] | rw [if_neg (by first | assumption | omega)]))) (by decide) (by decide) dX8_fault_26
    · have ic_2 : x.toInt = 1 := ieq c_2 (rfl) (by decide)
      refine lv_aload_n hx hb dX8_fault_17 rfl (lv_at hl 0 rfl) ?_
      refine va_get (D := D) (ci := 8) (v := .ref (q 1)) (C := RX8) (T := TX8) (N := 13) hx hb htg gRX8 hown hK hP 0 rfl rfl 2 (by decide) (htg _ wi_469) (fun _ h9 => h9) rfl dX8_fault_18 ?_
      refine va_getN (D := D) (ci := 6) (v := .int (-1)) (C := RX6) (T := TX6) (N := 9) hx hb htg gRX6 hown hK hP 1 rfl rfl 2 (by decide) (va_Nw.use rfl (hN.1 _ ni_257)) (fun _ h9 => h9) rfl dX8_fault_21 ?_
      exact x_iret hx hb hr hlk hP hD hS [] (()) rfl (by decide) (by first | rfl | decide | (exfalso; omega) | (try simp only [ti_0, ti_1, ti_2, ti_3, ti_4, ti_5, ti_6, ti_7, ti_8, ti_9, ti_10, ti_11, ti_12]); (repeat (first | rw [if_pos (by first | assumption | omega | trivial)] | rw [if_neg (by first | assumption | omega)]))) (by decide) (by decide) dX8_fault_24
  · have ic_1 : x.toInt = 0 := ieq c_1 (rfl) (by decide)
    refine lv_aload_n hx hb dX8_fault_4 rfl (lv_at hl 0 rfl) ?_
    refine va_get (D := D) (ci := 8) (v := .ref (q 1)) (C := RX8) (T := TX8) (N := 13) hx hb htg gRX8 hown hK hP 0 rfl rfl 2 (by decide) (htg _ wi_469) (fun _ h9 => h9) rfl dX8_fault_5 ?_
    refine va_getN (D := D) (ci := 6) (v := .int 0) (C := RX6) (T := TX6) (N := 9) hx hb htg gRX6 hown hK hP 1 rfl rfl 1 (by decide) (va_Nw.use rfl (hN.1 _ ni_255)) (fun _ h9 => h9) rfl dX8_fault_8 ?_
    exact x_iret hx hb hr hlk hP hD hS [] (()) rfl (by decide) (by first | rfl | decide | (exfalso; omega) | (try simp only [ti_0, ti_1, ti_2, ti_3, ti_4, ti_5, ti_6, ti_7, ti_8, ti_9, ti_10, ti_11, ti_12]); (repeat (first | rw [if_pos (by first | assumption | omega | trivial)] | rw [if_neg (by first | assumption | omega)]))) (by decide) (by decide) dX8_fault_11
set_option maxHeartbeats 4000000 in
set_option maxRecDepth 100000 in
theorem k_strip (l : Launch) (D : va_G) (cT : Nat → ClassId) (sz : Nat) (h0 : Nat) (q : Nat → Nat) (x : Int32) (y : Int32) : Met l yX8_strip (wsc yX8_strip cX8_strip 3 (some .int)) { frames := 3, cells := 0, slots := 0, locals := 121 } (va_Pc [.ref h0, .int x, .int y] (PX D cT sz [(h0, .inr (8, [.ref (q 0), .int 0, .ref (q 1), .ref (q 2), .ref (q 3), .ref (q 4), .ref (q 5), .ref (q 6), .ref (q 7), .ref (q 8), .ref (q 9), .ref (q 10), .ref (q 11)])), ((q 2), .inr (3, [.int 0, .int 0, .int 0, .int 0, .int 6, .int 6, .int 1, .int 60, .int 0, .int 0, .ref (q 12), .ref (q 13), .ref (q 14), .ref (q 15), .ref (q 16), .ref (q 17)]))])) (va_Qi (fun (r : Int32) (u : Unit) => r = -2) (fun u t => RW D (va_A [(h0, .inr (8, [.ref (q 0), .int 0, .ref (q 1), .ref (q 2), .ref (q 3), .ref (q 4), .ref (q 5), .ref (q 6), .ref (q 7), .ref (q 8), .ref (q 9), .ref (q 10), .ref (q 11)])), ((q 2), .inr (3, [.int 0, .int 0, .int 0, .int 0, .int 6, .int 6, .int 1, .int 60, .int 0, .int 0, .ref (q 12), .ref (q 13), .ref (q 14), .ref (q 15), .ref (q 16), .ref (q 17)]))] sz) ((fun _ : Unit => []) u) t) (va_A [(h0, .inr (8, [.ref (q 0), .int 0, .ref (q 1), .ref (q 2), .ref (q 3), .ref (q 4), .ref (q 5), .ref (q 6), .ref (q 7), .ref (q 8), .ref (q 9), .ref (q 10), .ref (q 11)])), ((q 2), .inr (3, [.int 0, .int 0, .int 0, .int 0, .int 6, .int 6, .int 1, .int 60, .int 0, .int 0, .ref (q 12), .ref (q 13), .ref (q 14), .ref (q 15), .ref (q 16), .ref (q 17)]))] sz)) 0 0 (va_A [(h0, .inr (8, [.ref (q 0), .int 0, .ref (q 1), .ref (q 2), .ref (q 3), .ref (q 4), .ref (q 5), .ref (q 6), .ref (q 7), .ref (q 8), .ref (q 9), .ref (q 10), .ref (q 11)])), ((q 2), .inr (3, [.int 0, .int 0, .int 0, .int 0, .int 6, .int 6, .int 1, .int 60, .int 0, .int 0, .ref (q 12), .ref (q 13), .ref (q 14), .ref (q 15), .ref (q 16), .ref (q 17)]))] sz) := by
  refine m_of (y := yX8_strip) (cc := cX8_strip) (nL := 3) (ret := (some .int)) (D := D) (cT := cT) (av := [.ref h0, .int x, .int y]) (wi := [(h0, .inr (8, [.ref (q 0), .int 0, .ref (q 1), .ref (q 2), .ref (q 3), .ref (q 4), .ref (q 5), .ref (q 6), .ref (q 7), .ref (q 8), .ref (q 9), .ref (q 10), .ref (q 11)])), ((q 2), .inr (3, [.int 0, .int 0, .int 0, .int 0, .int 6, .int 6, .int 1, .int 60, .int 0, .int 0, .ref (q 12), .ref (q 13), .ref (q 14), .ref (q 15), .ref (q 16), .ref (q 17)]))]) (fun A => va_Qi (fun (r : Int32) (u : Unit) => r = -2) (fun u t => RW D A ((fun _ : Unit => []) u) t) A) (by decide) (Nat.le_of_ble_eq_true rfl) ?_
  intro p e s m below meth c A hx hb hml hown htg hK hN hr hlk hnm hsz hP hD hS hA ls hl
  have hown : s.vm.findClass RX8 = some m.cls := hown
  have hl : lv_has ls 3 [(0, .ref h0), (1, .int x), (2, .int y)] := hl
  refine lv_aload_n hx hb dX8_strip_0 rfl (lv_at hl 0 rfl) ?_
  refine va_get (D := D) (ci := 8) (v := .ref (q 2)) (C := RX8) (T := TX8) (N := 13) hx hb htg gRX8 hown hK hP 0 rfl rfl 3 (by decide) (htg _ wi_470) (fun _ h9 => h9) rfl dX8_strip_1 ?_
  refine lv_iload_n hx hb dX8_strip_4 rfl (lv_at hl 1 rfl) ?_
  refine xk_i (wr := [(h0, .inr (8, [.ref (q 0), .int 0, .ref (q 1), .ref (q 2), .ref (q 3), .ref (q 4), .ref (q 5), .ref (q 6), .ref (q 7), .ref (q 8), .ref (q 9), .ref (q 10), .ref (q 11)]))]) (xr_VN (n := 1) (As := [.int x]) (rest := []) ⟨hx, hb, hml, hown, htg⟩ hK hN hP hD [1] rfl (by decide) (c_hasStrip l D cT _ ((q 2)) (fun k => [(q 12), (q 13), (q 14), (q 15), (q 16), (q 17)].getD k 0) (x)) ni_666 wi_668 wi_18 wi_123 wi_669 rfl rfl rfl ⟨rfl, by decide +kernel⟩ ⟨Nat.le_of_ble_eq_true rfl, Nat.le_of_ble_eq_true rfl⟩ rfl hl.1 rfl (Nat.le_of_ble_eq_true rfl) dX8_strip_5 ⟨Nat.le_of_ble_eq_true rfl, Nat.le_of_ble_eq_true rfl⟩) hP hD hS hA [1] [0] rfl rfl (by decide) (by decide) (fun r_2 u_1 H locs hwr_2 hP hD hS => ?_)
  have hP : va_P D classes [(h0, .inr (8, [.ref (q 0), .int 0, .ref (q 1), .ref (q 2), .ref (q 3), .ref (q 4), .ref (q 5), .ref (q 6), .ref (q 7), .ref (q 8), .ref (q 9), .ref (q 10), .ref (q 11)])), ((q 2), .inr (3, [.int 0, .int 0, .int 0, .int 0, .int 6, .int 6, .int 1, .int 60, .int 0, .int 0, .ref (q 12), .ref (q 13), .ref (q 14), .ref (q 15), .ref (q 16), .ref (q 17)]))] _ := hP
  have hD : va_D A [(h0, .inr (8, [.ref (q 0), .int 0, .ref (q 1), .ref (q 2), .ref (q 3), .ref (q 4), .ref (q 5), .ref (q 6), .ref (q 7), .ref (q 8), .ref (q 9), .ref (q 10), .ref (q 11)])), ((q 2), .inr (3, [.int 0, .int 0, .int 0, .int 0, .int 6, .int 6, .int 1, .int 60, .int 0, .int 0, .ref (q 12), .ref (q 13), .ref (q 14), .ref (q 15), .ref (q 16), .ref (q 17)]))] := hD
  have hwr_2 : r_2 = 0 := hwr_2
  subst hwr_2
  refine lv_if_ne (tgt := 14) hx hb dX8_strip_8 (by decide) (fun h => absurd rfl h) (fun _ => ?_)
  refine lv_bipush (v := (-2)) hx hb dX8_strip_11 (by decide) ?_
  exact x_iret hx hb hr hlk hP hD hS [] (()) rfl (by decide) (by first | rfl | decide | (exfalso; omega) | (try simp only [ti_0, ti_1, ti_2, ti_3, ti_4, ti_5, ti_6, ti_7, ti_8, ti_9, ti_10, ti_11, ti_12]); (repeat (first | rw [if_pos (by first | assumption | omega | trivial)] | rw [if_neg (by first | assumption | omega)]))) (by decide) (by decide) dX8_strip_13
set_option maxHeartbeats 4000000 in
set_option maxRecDepth 100000 in
theorem k_light (l : Launch) (D : va_G) (cT : Nat → ClassId) (sz : Nat) (h0 : Nat) (q : Nat → Nat) (x : Int32) (y : Int32) : Met l yX8_light (wsc yX8_light cX8_light 3 (some .int)) { frames := 3, cells := 0, slots := 0, locals := 121 } (va_Pc [.ref h0, .int x, .int y] (PX D cT sz [(h0, .inr (8, [.ref (q 0), .int 0, .ref (q 1), .ref (q 2), .ref (q 3), .ref (q 4), .ref (q 5), .ref (q 6), .ref (q 7), .ref (q 8), .ref (q 9), .ref (q 10), .ref (q 11)])), ((q 2), .inr (3, [.int 0, .int 0, .int 0, .int 0, .int 6, .int 6, .int 1, .int 60, .int 0, .int 0, .ref (q 12), .ref (q 13), .ref (q 14), .ref (q 15), .ref (q 16), .ref (q 17)]))])) (va_Qi (fun (r : Int32) (u : Unit) => r = -2) (fun u t => RW D (va_A [(h0, .inr (8, [.ref (q 0), .int 0, .ref (q 1), .ref (q 2), .ref (q 3), .ref (q 4), .ref (q 5), .ref (q 6), .ref (q 7), .ref (q 8), .ref (q 9), .ref (q 10), .ref (q 11)])), ((q 2), .inr (3, [.int 0, .int 0, .int 0, .int 0, .int 6, .int 6, .int 1, .int 60, .int 0, .int 0, .ref (q 12), .ref (q 13), .ref (q 14), .ref (q 15), .ref (q 16), .ref (q 17)]))] sz) ((fun _ : Unit => []) u) t) (va_A [(h0, .inr (8, [.ref (q 0), .int 0, .ref (q 1), .ref (q 2), .ref (q 3), .ref (q 4), .ref (q 5), .ref (q 6), .ref (q 7), .ref (q 8), .ref (q 9), .ref (q 10), .ref (q 11)])), ((q 2), .inr (3, [.int 0, .int 0, .int 0, .int 0, .int 6, .int 6, .int 1, .int 60, .int 0, .int 0, .ref (q 12), .ref (q 13), .ref (q 14), .ref (q 15), .ref (q 16), .ref (q 17)]))] sz)) 0 0 (va_A [(h0, .inr (8, [.ref (q 0), .int 0, .ref (q 1), .ref (q 2), .ref (q 3), .ref (q 4), .ref (q 5), .ref (q 6), .ref (q 7), .ref (q 8), .ref (q 9), .ref (q 10), .ref (q 11)])), ((q 2), .inr (3, [.int 0, .int 0, .int 0, .int 0, .int 6, .int 6, .int 1, .int 60, .int 0, .int 0, .ref (q 12), .ref (q 13), .ref (q 14), .ref (q 15), .ref (q 16), .ref (q 17)]))] sz) := by
  refine m_of (y := yX8_light) (cc := cX8_light) (nL := 3) (ret := (some .int)) (D := D) (cT := cT) (av := [.ref h0, .int x, .int y]) (wi := [(h0, .inr (8, [.ref (q 0), .int 0, .ref (q 1), .ref (q 2), .ref (q 3), .ref (q 4), .ref (q 5), .ref (q 6), .ref (q 7), .ref (q 8), .ref (q 9), .ref (q 10), .ref (q 11)])), ((q 2), .inr (3, [.int 0, .int 0, .int 0, .int 0, .int 6, .int 6, .int 1, .int 60, .int 0, .int 0, .ref (q 12), .ref (q 13), .ref (q 14), .ref (q 15), .ref (q 16), .ref (q 17)]))]) (fun A => va_Qi (fun (r : Int32) (u : Unit) => r = -2) (fun u t => RW D A ((fun _ : Unit => []) u) t) A) (by decide) (Nat.le_of_ble_eq_true rfl) ?_
  intro p e s m below meth c A hx hb hml hown htg hK hN hr hlk hnm hsz hP hD hS hA ls hl
  have hown : s.vm.findClass RX8 = some m.cls := hown
  have hl : lv_has ls 3 [(0, .ref h0), (1, .int x), (2, .int y)] := hl
  refine lv_aload_n hx hb dX8_light_0 rfl (lv_at hl 0 rfl) ?_
  refine va_get (D := D) (ci := 8) (v := .ref (q 2)) (C := RX8) (T := TX8) (N := 13) hx hb htg gRX8 hown hK hP 0 rfl rfl 3 (by decide) (htg _ wi_470) (fun _ h9 => h9) rfl dX8_light_1 ?_
  refine lv_iload_n hx hb dX8_light_4 rfl (lv_at hl 1 rfl) ?_
  refine xk_i (wr := [(h0, .inr (8, [.ref (q 0), .int 0, .ref (q 1), .ref (q 2), .ref (q 3), .ref (q 4), .ref (q 5), .ref (q 6), .ref (q 7), .ref (q 8), .ref (q 9), .ref (q 10), .ref (q 11)]))]) (xr_VN (n := 1) (As := [.int x]) (rest := []) ⟨hx, hb, hml, hown, htg⟩ hK hN hP hD [1] rfl (by decide) (c_hasStrip l D cT _ ((q 2)) (fun k => [(q 12), (q 13), (q 14), (q 15), (q 16), (q 17)].getD k 0) (x)) ni_666 wi_668 wi_18 wi_123 wi_669 rfl rfl rfl ⟨rfl, by decide +kernel⟩ ⟨Nat.le_of_ble_eq_true rfl, Nat.le_of_ble_eq_true rfl⟩ rfl hl.1 rfl (Nat.le_of_ble_eq_true rfl) dX8_light_5 ⟨Nat.le_of_ble_eq_true rfl, Nat.le_of_ble_eq_true rfl⟩) hP hD hS hA [1] [0] rfl rfl (by decide) (by decide) (fun r_2 u_1 H locs hwr_2 hP hD hS => ?_)
  have hP : va_P D classes [(h0, .inr (8, [.ref (q 0), .int 0, .ref (q 1), .ref (q 2), .ref (q 3), .ref (q 4), .ref (q 5), .ref (q 6), .ref (q 7), .ref (q 8), .ref (q 9), .ref (q 10), .ref (q 11)])), ((q 2), .inr (3, [.int 0, .int 0, .int 0, .int 0, .int 6, .int 6, .int 1, .int 60, .int 0, .int 0, .ref (q 12), .ref (q 13), .ref (q 14), .ref (q 15), .ref (q 16), .ref (q 17)]))] _ := hP
  have hD : va_D A [(h0, .inr (8, [.ref (q 0), .int 0, .ref (q 1), .ref (q 2), .ref (q 3), .ref (q 4), .ref (q 5), .ref (q 6), .ref (q 7), .ref (q 8), .ref (q 9), .ref (q 10), .ref (q 11)])), ((q 2), .inr (3, [.int 0, .int 0, .int 0, .int 0, .int 6, .int 6, .int 1, .int 60, .int 0, .int 0, .ref (q 12), .ref (q 13), .ref (q 14), .ref (q 15), .ref (q 16), .ref (q 17)]))] := hD
  have hwr_2 : r_2 = 0 := hwr_2
  subst hwr_2
  refine lv_if_eq (tgt := 22) hx hb dX8_light_8 (by decide) (fun _ => ?_) (fun h => absurd (by decide) h)
  refine lv_bipush (v := (-2)) hx hb dX8_light_22 (by decide) ?_
  exact x_iret hx hb hr hlk hP hD hS [] (()) rfl (by decide) (by first | rfl | decide | (exfalso; omega) | (try simp only [ti_0, ti_1, ti_2, ti_3, ti_4, ti_5, ti_6, ti_7, ti_8, ti_9, ti_10, ti_11, ti_12]); (repeat (first | rw [if_pos (by first | assumption | omega | trivial)] | rw [if_neg (by first | assumption | omega)]))) (by decide) (by decide) dX8_light_24
set_option maxHeartbeats 4000000 in
set_option maxRecDepth 100000 in
theorem k_lit (l : Launch) (D : va_G) (cT : Nat → ClassId) (sz : Nat) (h0 : Nat) (q : Nat → Nat) (x : Int32) : Met l yX8_lit (wsc yX8_lit cX8_lit 2 (some .int)) { frames := 3, cells := 0, slots := 0, locals := 121 } (va_Pc [.ref h0, .int x] (PX D cT sz [(h0, .inr (8, [.ref (q 0), .int 0, .ref (q 1), .ref (q 2), .ref (q 3), .ref (q 4), .ref (q 5), .ref (q 6), .ref (q 7), .ref (q 8), .ref (q 9), .ref (q 10), .ref (q 11)])), ((q 2), .inr (3, [.int 0, .int 0, .int 0, .int 0, .int 6, .int 6, .int 1, .int 60, .int 0, .int 0, .ref (q 12), .ref (q 13), .ref (q 14), .ref (q 15), .ref (q 16), .ref (q 17)]))])) (va_Qi (fun (r : Int32) (u : Unit) => r = -2) (fun u t => RW D (va_A [(h0, .inr (8, [.ref (q 0), .int 0, .ref (q 1), .ref (q 2), .ref (q 3), .ref (q 4), .ref (q 5), .ref (q 6), .ref (q 7), .ref (q 8), .ref (q 9), .ref (q 10), .ref (q 11)])), ((q 2), .inr (3, [.int 0, .int 0, .int 0, .int 0, .int 6, .int 6, .int 1, .int 60, .int 0, .int 0, .ref (q 12), .ref (q 13), .ref (q 14), .ref (q 15), .ref (q 16), .ref (q 17)]))] sz) ((fun _ : Unit => []) u) t) (va_A [(h0, .inr (8, [.ref (q 0), .int 0, .ref (q 1), .ref (q 2), .ref (q 3), .ref (q 4), .ref (q 5), .ref (q 6), .ref (q 7), .ref (q 8), .ref (q 9), .ref (q 10), .ref (q 11)])), ((q 2), .inr (3, [.int 0, .int 0, .int 0, .int 0, .int 6, .int 6, .int 1, .int 60, .int 0, .int 0, .ref (q 12), .ref (q 13), .ref (q 14), .ref (q 15), .ref (q 16), .ref (q 17)]))] sz)) 0 0 (va_A [(h0, .inr (8, [.ref (q 0), .int 0, .ref (q 1), .ref (q 2), .ref (q 3), .ref (q 4), .ref (q 5), .ref (q 6), .ref (q 7), .ref (q 8), .ref (q 9), .ref (q 10), .ref (q 11)])), ((q 2), .inr (3, [.int 0, .int 0, .int 0, .int 0, .int 6, .int 6, .int 1, .int 60, .int 0, .int 0, .ref (q 12), .ref (q 13), .ref (q 14), .ref (q 15), .ref (q 16), .ref (q 17)]))] sz) := by
  refine m_of (y := yX8_lit) (cc := cX8_lit) (nL := 2) (ret := (some .int)) (D := D) (cT := cT) (av := [.ref h0, .int x]) (wi := [(h0, .inr (8, [.ref (q 0), .int 0, .ref (q 1), .ref (q 2), .ref (q 3), .ref (q 4), .ref (q 5), .ref (q 6), .ref (q 7), .ref (q 8), .ref (q 9), .ref (q 10), .ref (q 11)])), ((q 2), .inr (3, [.int 0, .int 0, .int 0, .int 0, .int 6, .int 6, .int 1, .int 60, .int 0, .int 0, .ref (q 12), .ref (q 13), .ref (q 14), .ref (q 15), .ref (q 16), .ref (q 17)]))]) (fun A => va_Qi (fun (r : Int32) (u : Unit) => r = -2) (fun u t => RW D A ((fun _ : Unit => []) u) t) A) (by decide) (Nat.le_of_ble_eq_true rfl) ?_
  intro p e s m below meth c A hx hb hml hown htg hK hN hr hlk hnm hsz hP hD hS hA ls hl
  have hown : s.vm.findClass RX8 = some m.cls := hown
  have hl : lv_has ls 2 [(0, .ref h0), (1, .int x)] := hl
  refine lv_aload_n hx hb dX8_lit_0 rfl (lv_at hl 0 rfl) ?_
  refine va_get (D := D) (ci := 8) (v := .ref (q 2)) (C := RX8) (T := TX8) (N := 13) hx hb htg gRX8 hown hK hP 0 rfl rfl 3 (by decide) (htg _ wi_470) (fun _ h9 => h9) rfl dX8_lit_1 ?_
  refine lv_iload_n hx hb dX8_lit_4 rfl (lv_at hl 1 rfl) ?_
  refine xk_i (wr := [(h0, .inr (8, [.ref (q 0), .int 0, .ref (q 1), .ref (q 2), .ref (q 3), .ref (q 4), .ref (q 5), .ref (q 6), .ref (q 7), .ref (q 8), .ref (q 9), .ref (q 10), .ref (q 11)]))]) (xr_VN (n := 1) (As := [.int x]) (rest := []) ⟨hx, hb, hml, hown, htg⟩ hK hN hP hD [1] rfl (by decide) (c_hasStrip l D cT _ ((q 2)) (fun k => [(q 12), (q 13), (q 14), (q 15), (q 16), (q 17)].getD k 0) (x)) ni_666 wi_668 wi_18 wi_123 wi_669 rfl rfl rfl ⟨rfl, by decide +kernel⟩ ⟨Nat.le_of_ble_eq_true rfl, Nat.le_of_ble_eq_true rfl⟩ rfl hl.1 rfl (Nat.le_of_ble_eq_true rfl) dX8_lit_5 ⟨Nat.le_of_ble_eq_true rfl, Nat.le_of_ble_eq_true rfl⟩) hP hD hS hA [1] [0] rfl rfl (by decide) (by decide) (fun r_2 u_1 H locs hwr_2 hP hD hS => ?_)
  have hP : va_P D classes [(h0, .inr (8, [.ref (q 0), .int 0, .ref (q 1), .ref (q 2), .ref (q 3), .ref (q 4), .ref (q 5), .ref (q 6), .ref (q 7), .ref (q 8), .ref (q 9), .ref (q 10), .ref (q 11)])), ((q 2), .inr (3, [.int 0, .int 0, .int 0, .int 0, .int 6, .int 6, .int 1, .int 60, .int 0, .int 0, .ref (q 12), .ref (q 13), .ref (q 14), .ref (q 15), .ref (q 16), .ref (q 17)]))] _ := hP
  have hD : va_D A [(h0, .inr (8, [.ref (q 0), .int 0, .ref (q 1), .ref (q 2), .ref (q 3), .ref (q 4), .ref (q 5), .ref (q 6), .ref (q 7), .ref (q 8), .ref (q 9), .ref (q 10), .ref (q 11)])), ((q 2), .inr (3, [.int 0, .int 0, .int 0, .int 0, .int 6, .int 6, .int 1, .int 60, .int 0, .int 0, .ref (q 12), .ref (q 13), .ref (q 14), .ref (q 15), .ref (q 16), .ref (q 17)]))] := hD
  have hwr_2 : r_2 = 0 := hwr_2
  subst hwr_2
  refine lv_if_ne (tgt := 14) hx hb dX8_lit_8 (by decide) (fun h => absurd rfl h) (fun _ => ?_)
  refine lv_bipush (v := (-2)) hx hb dX8_lit_11 (by decide) ?_
  exact x_iret hx hb hr hlk hP hD hS [] (()) rfl (by decide) (by first | rfl | decide | (exfalso; omega) | (try simp only [ti_0, ti_1, ti_2, ti_3, ti_4, ti_5, ti_6, ti_7, ti_8, ti_9, ti_10, ti_11, ti_12]); (repeat (first | rw [if_pos (by first | assumption | omega | trivial)] | rw [if_neg (by first | assumption | omega)]))) (by decide) (by decide) dX8_lit_13
