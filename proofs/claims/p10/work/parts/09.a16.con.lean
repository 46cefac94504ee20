set_option maxHeartbeats 4000000 in
set_option maxRecDepth 100000 in
theorem g_tapeIntX (l : Launch) (D : va_G) (cT : Nat → ClassId) (sz : Nat) (h0 : Nat) (q : Nat → Nat) (n1 : Int32) (hn1 : 0 ≤ n1.toInt ∧ n1.toInt ≤ 900) (hn8 : n1.toInt ≤ 896) (bf : Nat → Int32) (fitb : sb_Fit bf) (x : Int32) : Met l yX8_tapeInt (wsc yX8_tapeInt cX8_tapeInt 3 none) { frames := 2, cells := 0, slots := 0, locals := 100 } (va_Pc [.ref h0, .int x] (PX D cT sz [(sw_8 h0 q n1), (sw_by cT (q 0) 900 bf)])) (va_Qv (fun (u : Int32 × (Nat → Int32)) => (0 ≤ u.1.toInt ∧ u.1.toInt ≤ 900) ∧ (sb_Fit u.2) ∧ (u.1.toInt = n1.toInt + 4) ∧ (∀ j : Nat, (j : Int) < n1.toInt → u.2 j = bf j) ∧ (u.2 (n1.toInt.toNat + 0) &&& 255 = byI x 24) ∧ (u.2 (n1.toInt.toNat + 1) &&& 255 = byI x 16) ∧ (u.2 (n1.toInt.toNat + 2) &&& 255 = byI x 8) ∧ (u.2 (n1.toInt.toNat + 3) &&& 255 = byI x 0) ∧ (True)) (fun u t => RW D (va_A [(sw_8 h0 q n1), (sw_by cT (q 0) 900 bf)] sz) ((fun u : Int32 × (Nat → Int32) => [(sw_8 h0 q u.1), (sw_by cT (q 0) 900 u.2)]) u) t) (va_A [(sw_8 h0 q n1), (sw_by cT (q 0) 900 bf)] sz)) 0 0 (va_A [(sw_8 h0 q n1), (sw_by cT (q 0) 900 bf)] sz) := by
  refine m_of (y := yX8_tapeInt) (cc := cX8_tapeInt) (nL := 3) (ret := none) (D := D) (cT := cT) (av := [.ref h0, .int x]) (wi := [(sw_8 h0 q n1), (sw_by cT (q 0) 900 bf)]) (fun A => va_Qv (fun (u : Int32 × (Nat → Int32)) => (0 ≤ u.1.toInt ∧ u.1.toInt ≤ 900) ∧ (sb_Fit u.2) ∧ (u.1.toInt = n1.toInt + 4) ∧ (∀ j : Nat, (j : Int) < n1.toInt → u.2 j = bf j) ∧ (u.2 (n1.toInt.toNat + 0) &&& 255 = byI x 24) ∧ (u.2 (n1.toInt.toNat + 1) &&& 255 = byI x 16) ∧ (u.2 (n1.toInt.toNat + 2) &&& 255 = byI x 8) ∧ (u.2 (n1.toInt.toNat + 3) &&& 255 = byI x 0) ∧ (True)) (fun u t => RW D A ((fun u : Int32 × (Nat → Int32) => [(sw_8 h0 q u.1), (sw_by cT (q 0) 900 u.2)]) u) t) A) (by decide) (Nat.le_of_ble_eq_true rfl) ?_
  intro p e s m below meth c A hx hb hml hown htg hK hN hr hlk hnm hsz hP hD hS hA ls hl
  have hown : s.vm.findClass RX8 = some m.cls := hown
  have hl : lv_has ls 3 [(0, .ref h0), (1, .int x)] := hl
  refine lv_bipush (v := 24) hx hb dX8_tapeInt_0 (by decide) ?_
  refine lv_istore_n (lv' := [(2, .int 24), (0, .ref h0), (1, .int x)]) hx hb dX8_tapeInt_2 rfl hl (by decide) rfl (fun ls hl => ?_)
  refine lv_iload_n hx hb dX8_tapeInt_3 rfl (lv_at hl 0 rfl) ?_
  refine lv_if_lt (tgt := 46) hx hb dX8_tapeInt_4 (by decide) (fun h => absurd h (by decide)) (fun _ => ?_)
  refine lv_aload_n hx hb dX8_tapeInt_7 rfl (lv_at hl 1 rfl) ?_
  refine va_get (D := D) (ci := 8) (v := .int n1) (C := RX8) (T := TX8) (N := 13) hx hb htg gRX8 hown hK hP 0 rfl rfl 1 (by decide) (htg _ wi_468) (fun _ h9 => h9) rfl dX8_tapeInt_8 ?_
  refine lv_sipush (v := 900) hx hb dX8_tapeInt_11 (by decide) ?_
  refine lv_icmp_ge (tgt := 46) hx hb dX8_tapeInt_14 (by decide) (fun c_1 => ?_) (fun c_1 => ?_)
  · have ic_1 : 900 ≤ n1.toInt := ile c_1 (by decide) (rfl)
    exact x_vret hx hb hr hlk hP hD hS [0, 1] ((n1, bf)) rfl (by decide) ⟨(by exfalso; omega), (by exfalso; omega), (by exfalso; omega), (by exfalso; omega), (by exfalso; omega), (by exfalso; omega), (by exfalso; omega), (by exfalso; omega), trivial⟩ (by decide) (by decide) dX8_tapeInt_46
  · have ic_1 : n1.toInt < 900 := inle c_1 (by decide) (rfl)
    refine lv_aload_n hx hb dX8_tapeInt_17 rfl (lv_at hl 1 rfl) ?_
    refine va_get (D := D) (ci := 8) (v := .ref (q 0)) (C := RX8) (T := TX8) (N := 13) hx hb htg gRX8 hown hK hP 0 rfl rfl 0 (by decide) (htg _ wi_467) (fun _ h9 => h9) rfl dX8_tapeInt_18 ?_
    refine lv_aload_n hx hb dX8_tapeInt_21 rfl (lv_at hl 1 rfl) ?_
    refine va_get (D := D) (ci := 8) (v := .int n1) (C := RX8) (T := TX8) (N := 13) hx hb htg gRX8 hown hK hP 0 rfl rfl 1 (by decide) (htg _ wi_468) (fun _ h9 => h9) rfl dX8_tapeInt_22 ?_
    refine lv_iload_n hx hb dX8_tapeInt_25 rfl (lv_at hl 2 rfl) ?_
    refine lv_iload_n hx hb dX8_tapeInt_26 rfl (lv_at hl 0 rfl) ?_
    obtain ⟨z_2, ez_2⟩ : ∃ w : Int32, w = (x.toUInt32 >>> ((24 : Int32).toUInt32 &&& Int32.toUInt32 31)).toInt32 := ⟨_, rfl⟩
    refine lv_iushr (v := z_2) hx hb dX8_tapeInt_27 ez_2.symm ?_
    have iz_2 : 0 ≤ z_2.toInt ∧ z_2.toInt ≤ 255 := ushrI (k := 24) ez_2 (by decide) (by decide) (by decide)
    have jz_2 : 0 ≤ x.toInt → z_2.toInt = x.toInt / 16777216 := ushrQ (k := 24) ez_2 (rfl) (by decide) (by decide)
    obtain ⟨z_3, ez_3⟩ : ∃ w : Int32, w = z_2.toInt8.toInt32 := ⟨_, rfl⟩
    refine lv_i2b (v := z_3) hx hb dX8_tapeInt_28 ez_3.symm ?_
    refine va_bast hx hb hK hP hD hS 1 2 rfl rfl (vp_in_iff.mpr (by omega)) dX8_tapeInt_29 (fun H locs hP hD hS => ?_)
    obtain ⟨f_4, ef_4, hP, hD⟩ : ∃ f_4 : Nat → Int32, f_4 = upd (bf) (n1 : Int32).toNatClampNeg (vp_nar .byte z_3) ∧ PD D A [(sw_8 h0 q n1), (sw_by cT (q 0) 900 f_4)] H := ⟨_, rfl, hP, hD⟩
    have qf_4 : sb_Fit f_4 := by rw [ef_4]; exact sb_fitU fitb (by rw [vp_nar_byte]; exact pk_fb _)
    refine lv_aload_n hx hb dX8_tapeInt_30 rfl (lv_at hl 1 rfl) ?_
    refine lv_dup hx hb dX8_tapeInt_31 rfl ?_
    refine va_get (D := D) (ci := 8) (v := .int n1) (C := RX8) (T := TX8) (N := 13) hx hb htg gRX8 hown hK hP 0 rfl rfl 1 (by decide) (htg _ wi_468) (fun _ h9 => h9) rfl dX8_tapeInt_32 ?_
    refine lv_iconst (v := 1) hx hb dX8_tapeInt_35 (by decide) ?_
    refine lv_iadd hx hb dX8_tapeInt_36 ?_
    refine lv_topi (fun z_5 ez_5 => ?_)
    have iz_5 : z_5.toInt = n1.toInt + 1 := toInt_addI ez_5 (rfl) (by decide) (by omega)
    refine va_put (D := D) (ci := 8) (v := .int z_5) (ty := .int) (C := RX8) (T := TX8) (N := 13) hx hb htg gRX8 tyX8 tyX8_ok nmX8 hown hK hP hD hS 0 rfl rfl 1 (by decide) (htg _ wi_468) (fun _ h9 => h9) rfl (by decide +kernel) rfl rfl (Nat.le_of_ble_eq_true rfl) dX8_tapeInt_37 (fun H locs hP hD hS => ?_)
    obtain ⟨hP, hD⟩ : PD D A [(sw_8 h0 q z_5), (sw_by cT (q 0) 900 f_4)] _ := ⟨hP, hD⟩
    refine lv_iinc (v := 16) (lv' := [(2, .int 16), (0, .ref h0), (1, .int x)]) hx hb dX8_tapeInt_40 hl (k := 0) rfl (by decide) (by decide) rfl (fun ls hl => ?_)
    refine lv_goto (tgt := 3) hx hb dX8_tapeInt_43 (by decide) ?_
    refine lv_iload_n hx hb dX8_tapeInt_3 rfl (lv_at hl 0 rfl) ?_
    refine lv_if_lt (tgt := 46) hx hb dX8_tapeInt_4 (by decide) (fun h => absurd h (by decide)) (fun _ => ?_)
    refine lv_aload_n hx hb dX8_tapeInt_7 rfl (lv_at hl 1 rfl) ?_
    refine va_get (D := D) (ci := 8) (v := .int z_5) (C := RX8) (T := TX8) (N := 13) hx hb htg gRX8 hown hK hP 0 rfl rfl 1 (by decide) (htg _ wi_468) (fun _ h9 => h9) rfl dX8_tapeInt_8 ?_
    refine lv_sipush (v := 900) hx hb dX8_tapeInt_11 (by decide) ?_
    refine lv_icmp_ge (tgt := 46) hx hb dX8_tapeInt_14 (by decide) (fun c_6 => ?_) (fun c_6 => ?_)
    · have ic_6 : 900 ≤ z_5.toInt := ile c_6 (by decide) (rfl)
      exact x_vret hx hb hr hlk hP hD hS [0, 1] ((z_5, f_4)) rfl (by decide) ⟨(by exfalso; omega), (by exfalso; omega), (by exfalso; omega), (by exfalso; omega), (by exfalso; omega), (by exfalso; omega), (by exfalso; omega), (by exfalso; omega), trivial⟩ (by decide) (by decide) dX8_tapeInt_46
    · have ic_6 : z_5.toInt < 900 := inle c_6 (by decide) (rfl)
      refine lv_aload_n hx hb dX8_tapeInt_17 rfl (lv_at hl 1 rfl) ?_
      refine va_get (D := D) (ci := 8) (v := .ref (q 0)) (C := RX8) (T := TX8) (N := 13) hx hb htg gRX8 hown hK hP 0 rfl rfl 0 (by decide) (htg _ wi_467) (fun _ h9 => h9) rfl dX8_tapeInt_18 ?_
      refine lv_aload_n hx hb dX8_tapeInt_21 rfl (lv_at hl 1 rfl) ?_
      refine va_get (D := D) (ci := 8) (v := .int z_5) (C := RX8) (T := TX8) (N := 13) hx hb htg gRX8 hown hK hP 0 rfl rfl 1 (by decide) (htg _ wi_468) (fun _ h9 => h9) rfl dX8_tapeInt_22 ?_
      refine lv_iload_n hx hb dX8_tapeInt_25 rfl (lv_at hl 2 rfl) ?_
      refine lv_iload_n hx hb dX8_tapeInt_26 rfl (lv_at hl 0 rfl) ?_
      obtain ⟨z_7, ez_7⟩ : ∃ w : Int32, w = (x.toUInt32 >>> ((16 : Int32).toUInt32 &&& Int32.toUInt32 31)).toInt32 := ⟨_, rfl⟩
      refine lv_iushr (v := z_7) hx hb dX8_tapeInt_27 ez_7.symm ?_
      have iz_7 : 0 ≤ z_7.toInt ∧ z_7.toInt ≤ 65535 := ushrI (k := 16) ez_7 (by decide) (by decide) (by decide)
      have jz_7 : 0 ≤ x.toInt → z_7.toInt = x.toInt / 65536 := ushrQ (k := 16) ez_7 (rfl) (by decide) (by decide)
      obtain ⟨z_8, ez_8⟩ : ∃ w : Int32, w = z_7.toInt8.toInt32 := ⟨_, rfl⟩
      refine lv_i2b (v := z_8) hx hb dX8_tapeInt_28 ez_8.symm ?_
      refine va_bast hx hb hK hP hD hS 1 2 rfl rfl (vp_in_iff.mpr (by omega)) dX8_tapeInt_29 (fun H locs hP hD hS => ?_)
      obtain ⟨f_9, ef_9, hP, hD⟩ : ∃ f_9 : Nat → Int32, f_9 = upd (f_4) (z_5 : Int32).toNatClampNeg (vp_nar .byte z_8) ∧ PD D A [(sw_8 h0 q z_5), (sw_by cT (q 0) 900 f_9)] H := ⟨_, rfl, hP, hD⟩
      have qf_9 : sb_Fit f_9 := by rw [ef_9]; exact sb_fitU qf_4 (by rw [vp_nar_byte]; exact pk_fb _)
      refine lv_aload_n hx hb dX8_tapeInt_30 rfl (lv_at hl 1 rfl) ?_
      refine lv_dup hx hb dX8_tapeInt_31 rfl ?_
      refine va_get (D := D) (ci := 8) (v := .int z_5) (C := RX8) (T := TX8) (N := 13) hx hb htg gRX8 hown hK hP 0 rfl rfl 1 (by decide) (htg _ wi_468) (fun _ h9 => h9) rfl dX8_tapeInt_32 ?_
      refine lv_iconst (v := 1) hx hb dX8_tapeInt_35 (by decide) ?_
      refine lv_iadd hx hb dX8_tapeInt_36 ?_
      refine lv_topi (fun z_10 ez_10 => ?_)
      have iz_10 : z_10.toInt = z_5.toInt + 1 := toInt_addI ez_10 (rfl) (by decide) (by omega)
      refine va_put (D := D) (ci := 8) (v := .int z_10) (ty := .int) (C := RX8) (T := TX8) (N := 13) hx hb htg gRX8 tyX8 tyX8_ok nmX8 hown hK hP hD hS 0 rfl rfl 1 (by decide) (htg _ wi_468) (fun _ h9 => h9) rfl (by decide +kernel) rfl rfl (Nat.le_of_ble_eq_true rfl) dX8_tapeInt_37 (fun H locs hP hD hS => ?_)
      obtain ⟨hP, hD⟩ : PD D A [(sw_8 h0 q z_10), (sw_by cT (q 0) 900 f_9)] _ := ⟨hP, hD⟩
      refine lv_iinc (v := 8) (lv' := [(2, .int 8), (0, .ref h0), (1, .int x)]) hx hb dX8_tapeInt_40 hl (k := 0) rfl (by decide) (by decide) rfl (fun ls hl => ?_)
      refine lv_goto (tgt := 3) hx hb dX8_tapeInt_43 (by decide) ?_
      refine lv_iload_n hx hb dX8_tapeInt_3 rfl (lv_at hl 0 rfl) ?_
      refine lv_if_lt (tgt := 46) hx hb dX8_tapeInt_4 (by decide) (fun h => absurd h (by decide)) (fun _ => ?_)
      refine lv_aload_n hx hb dX8_tapeInt_7 rfl (lv_at hl 1 rfl) ?_
      refine va_get (D := D) (ci := 8) (v := .int z_10) (C := RX8) (T := TX8) (N := 13) hx hb htg gRX8 hown hK hP 0 rfl rfl 1 (by decide) (htg _ wi_468) (fun _ h9 => h9) rfl dX8_tapeInt_8 ?_
      refine lv_sipush (v := 900) hx hb dX8_tapeInt_11 (by decide) ?_
      refine lv_icmp_ge (tgt := 46) hx hb dX8_tapeInt_14 (by decide) (fun c_11 => ?_) (fun c_11 => ?_)
      · have ic_11 : 900 ≤ z_10.toInt := ile c_11 (by decide) (rfl)
        exact x_vret hx hb hr hlk hP hD hS [0, 1] ((z_10, f_9)) rfl (by decide) ⟨(by exfalso; omega), (by exfalso; omega), (by exfalso; omega), (by exfalso; omega), (by exfalso; omega), (by exfalso; omega), (by exfalso; omega), (by exfalso; omega), trivial⟩ (by decide) (by decide) dX8_tapeInt_46
      · have ic_11 : z_10.toInt < 900 := inle c_11 (by decide) (rfl)
        refine lv_aload_n hx hb dX8_tapeInt_17 rfl (lv_at hl 1 rfl) ?_
        refine va_get (D := D) (ci := 8) (v := .ref (q 0)) (C := RX8) (T := TX8) (N := 13) hx hb htg gRX8 hown hK hP 0 rfl rfl 0 (by decide) (htg _ wi_467) (fun _ h9 => h9) rfl dX8_tapeInt_18 ?_
        refine lv_aload_n hx hb dX8_tapeInt_21 rfl (lv_at hl 1 rfl) ?_
        refine va_get (D := D) (ci := 8) (v := .int z_10) (C := RX8) (T := TX8) (N := 13) hx hb htg gRX8 hown hK hP 0 rfl rfl 1 (by decide) (htg _ wi_468) (fun _ h9 => h9) rfl dX8_tapeInt_22 ?_
        refine lv_iload_n hx hb dX8_tapeInt_25 rfl (lv_at hl 2 rfl) ?_
        refine lv_iload_n hx hb dX8_tapeInt_26 rfl (lv_at hl 0 rfl) ?_
        obtain ⟨z_12, ez_12⟩ : ∃ w : Int32, w = (x.toUInt32 >>> ((8 : Int32).toUInt32 &&& Int32.toUInt32 31)).toInt32 := ⟨_, rfl⟩
        refine lv_iushr (v := z_12) hx hb dX8_tapeInt_27 ez_12.symm ?_
        have iz_12 : 0 ≤ z_12.toInt ∧ z_12.toInt ≤ 16777215 := ushrI (k := 8) ez_12 (by decide) (by decide) (by decide)
        have jz_12 : 0 ≤ x.toInt → z_12.toInt = x.toInt / 256 := ushrQ (k := 8) ez_12 (rfl) (by decide) (by decide)
        obtain ⟨z_13, ez_13⟩ : ∃ w : Int32, w = z_12.toInt8.toInt32 := ⟨_, rfl⟩
        refine lv_i2b (v := z_13) hx hb dX8_tapeInt_28 ez_13.symm ?_
        refine va_bast hx hb hK hP hD hS 1 2 rfl rfl (vp_in_iff.mpr (by omega)) dX8_tapeInt_29 (fun H locs hP hD hS => ?_)
        obtain ⟨f_14, ef_14, hP, hD⟩ : ∃ f_14 : Nat → Int32, f_14 = upd (f_9) (z_10 : Int32).toNatClampNeg (vp_nar .byte z_13) ∧ PD D A [(sw_8 h0 q z_10), (sw_by cT (q 0) 900 f_14)] H := ⟨_, rfl, hP, hD⟩
        have qf_14 : sb_Fit f_14 := by rw [ef_14]; exact sb_fitU qf_9 (by rw [vp_nar_byte]; exact pk_fb _)
        refine lv_aload_n hx hb dX8_tapeInt_30 rfl (lv_at hl 1 rfl) ?_
        refine lv_dup hx hb dX8_tapeInt_31 rfl ?_
        refine va_get (D := D) (ci := 8) (v := .int z_10) (C := RX8) (T := TX8) (N := 13) hx hb htg gRX8 hown hK hP 0 rfl rfl 1 (by decide) (htg _ wi_468) (fun _ h9 => h9) rfl dX8_tapeInt_32 ?_
        refine lv_iconst (v := 1) hx hb dX8_tapeInt_35 (by decide) ?_
        refine lv_iadd hx hb dX8_tapeInt_36 ?_
        refine lv_topi (fun z_15 ez_15 => ?_)
        have iz_15 : z_15.toInt = z_10.toInt + 1 := toInt_addI ez_15 (rfl) (by decide) (by omega)
        refine va_put (D := D) (ci := 8) (v := .int z_15) (ty := .int) (C := RX8) (T := TX8) (N := 13) hx hb htg gRX8 tyX8 tyX8_ok nmX8 hown hK hP hD hS 0 rfl rfl 1 (by decide) (htg _ wi_468) (fun _ h9 => h9) rfl (by decide +kernel) rfl rfl (Nat.le_of_ble_eq_true rfl) dX8_tapeInt_37 (fun H locs hP hD hS => ?_)
        obtain ⟨hP, hD⟩ : PD D A [(sw_8 h0 q z_15), (sw_by cT (q 0) 900 f_14)] _ := ⟨hP, hD⟩
        refine lv_iinc (v := 0) (lv' := [(2, .int 0), (0, .ref h0), (1, .int x)]) hx hb dX8_tapeInt_40 hl (k := 0) rfl (by decide) (by decide) rfl (fun ls hl => ?_)
        refine lv_goto (tgt := 3) hx hb dX8_tapeInt_43 (by decide) ?_
        refine lv_iload_n hx hb dX8_tapeInt_3 rfl (lv_at hl 0 rfl) ?_
        refine lv_if_lt (tgt := 46) hx hb dX8_tapeInt_4 (by decide) (fun h => absurd h (by decide)) (fun _ => ?_)
        refine lv_aload_n hx hb dX8_tapeInt_7 rfl (lv_at hl 1 rfl) ?_
        refine va_get (D := D) (ci := 8) (v := .int z_15) (C := RX8) (T := TX8) (N := 13) hx hb htg gRX8 hown hK hP 0 rfl rfl 1 (by decide) (htg _ wi_468) (fun _ h9 => h9) rfl dX8_tapeInt_8 ?_
        refine lv_sipush (v := 900) hx hb dX8_tapeInt_11 (by decide) ?_
        refine lv_icmp_ge (tgt := 46) hx hb dX8_tapeInt_14 (by decide) (fun c_16 => ?_) (fun c_16 => ?_)
        · have ic_16 : 900 ≤ z_15.toInt := ile c_16 (by decide) (rfl)
          exact x_vret hx hb hr hlk hP hD hS [0, 1] ((z_15, f_14)) rfl (by decide) ⟨(by exfalso; omega), (by exfalso; omega), (by exfalso; omega), (by exfalso; omega), (by exfalso; omega), (by exfalso; omega), (by exfalso; omega), (by exfalso; omega), trivial⟩ (by decide) (by decide) dX8_tapeInt_46
        · have ic_16 : z_15.toInt < 900 := inle c_16 (by decide) (rfl)
          refine lv_aload_n hx hb dX8_tapeInt_17 rfl (lv_at hl 1 rfl) ?_
          refine va_get (D := D) (ci := 8) (v := .ref (q 0)) (C := RX8) (T := TX8) (N := 13) hx hb htg gRX8 hown hK hP 0 rfl rfl 0 (by decide) (htg _ wi_467) (fun _ h9 => h9) rfl dX8_tapeInt_18 ?_
          refine lv_aload_n hx hb dX8_tapeInt_21 rfl (lv_at hl 1 rfl) ?_
          refine va_get (D := D) (ci := 8) (v := .int z_15) (C := RX8) (T := TX8) (N := 13) hx hb htg gRX8 hown hK hP 0 rfl rfl 1 (by decide) (htg _ wi_468) (fun _ h9 => h9) rfl dX8_tapeInt_22 ?_
          refine lv_iload_n hx hb dX8_tapeInt_25 rfl (lv_at hl 2 rfl) ?_
          refine lv_iload_n hx hb dX8_tapeInt_26 rfl (lv_at hl 0 rfl) ?_
          obtain ⟨z_17, ez_17⟩ : ∃ w : Int32, w = (x.toUInt32 >>> ((0 : Int32).toUInt32 &&& Int32.toUInt32 31)).toInt32 := ⟨_, rfl⟩
          refine lv_iushr (v := z_17) hx hb dX8_tapeInt_27 ez_17.symm ?_
          obtain ⟨z_18, ez_18⟩ : ∃ w : Int32, w = z_17.toInt8.toInt32 := ⟨_, rfl⟩
          refine lv_i2b (v := z_18) hx hb dX8_tapeInt_28 ez_18.symm ?_
          refine va_bast hx hb hK hP hD hS 1 2 rfl rfl (vp_in_iff.mpr (by omega)) dX8_tapeInt_29 (fun H locs hP hD hS => ?_)
          obtain ⟨f_19, ef_19, hP, hD⟩ : ∃ f_19 : Nat → Int32, f_19 = upd (f_14) (z_15 : Int32).toNatClampNeg (vp_nar .byte z_18) ∧ PD D A [(sw_8 h0 q z_15), (sw_by cT (q 0) 900 f_19)] H := ⟨_, rfl, hP, hD⟩
          have qf_19 : sb_Fit f_19 := by rw [ef_19]; exact sb_fitU qf_14 (by rw [vp_nar_byte]; exact pk_fb _)
          refine lv_aload_n hx hb dX8_tapeInt_30 rfl (lv_at hl 1 rfl) ?_
          refine lv_dup hx hb dX8_tapeInt_31 rfl ?_
          refine va_get (D := D) (ci := 8) (v := .int z_15) (C := RX8) (T := TX8) (N := 13) hx hb htg gRX8 hown hK hP 0 rfl rfl 1 (by decide) (htg _ wi_468) (fun _ h9 => h9) rfl dX8_tapeInt_32 ?_
          refine lv_iconst (v := 1) hx hb dX8_tapeInt_35 (by decide) ?_
          refine lv_iadd hx hb dX8_tapeInt_36 ?_
          refine lv_topi (fun z_20 ez_20 => ?_)
          have iz_20 : z_20.toInt = z_15.toInt + 1 := toInt_addI ez_20 (rfl) (by decide) (by omega)
          refine va_put (D := D) (ci := 8) (v := .int z_20) (ty := .int) (C := RX8) (T := TX8) (N := 13) hx hb htg gRX8 tyX8 tyX8_ok nmX8 hown hK hP hD hS 0 rfl rfl 1 (by decide) (htg _ wi_468) (fun _ h9 => h9) rfl (by decide +kernel) rfl rfl (Nat.le_of_ble_eq_true rfl) dX8_tapeInt_37 (fun H locs hP hD hS => ?_)
          obtain ⟨hP, hD⟩ : PD D A [(sw_8 h0 q z_20), (sw_by cT (q 0) 900 f_19)] _ := ⟨hP, hD⟩
          refine lv_iinc (v := (-8)) (lv' := [(2, .int (-8)), (0, .ref h0), (1, .int x)]) hx hb dX8_tapeInt_40 hl (k := 0) rfl (by decide) (by decide) rfl (fun ls hl => ?_)
          refine lv_goto (tgt := 3) hx hb dX8_tapeInt_43 (by decide) ?_
          refine lv_iload_n hx hb dX8_tapeInt_3 rfl (lv_at hl 0 rfl) ?_
          refine lv_if_lt (tgt := 46) hx hb dX8_tapeInt_4 (by decide) (fun _ => ?_) (fun h => absurd (by decide) h)
          exact x_vret hx hb hr hlk hP hD hS [0, 1] ((z_20, f_19)) rfl (by decide) ⟨(by first | with_reducible rfl | ((try dsimp only); first | assumption | decide | omega | (simp only [ti_0, ti_1, ti_2, ti_3, ti_4, ti_5, ti_6, ti_7, ti_8, ti_9, ti_10, ti_11, ti_12, ti_m1]; omega))), (by first | with_reducible rfl | ((try dsimp only); first | assumption | decide | omega | (simp only [ti_0, ti_1, ti_2, ti_3, ti_4, ti_5, ti_6, ti_7, ti_8, ti_9, ti_10, ti_11, ti_12, ti_m1]; omega))), (by first | with_reducible rfl | ((try dsimp only); first | assumption | decide | omega | (simp only [ti_0, ti_1, ti_2, ti_3, ti_4, ti_5, ti_6, ti_7, ti_8, ti_9, ti_10, ti_11, ti_12, ti_m1]; omega))), (fun j hj => by (try dsimp only); rw [ef_19, upd_no (by omega) (by omega)]; rw [ef_14, upd_no (by omega) (by omega)]; rw [ef_9, upd_no (by omega) (by omega)]; rw [ef_4, upd_no (by omega) (by omega)]), (by (try dsimp only); rw [ef_19, upd_no (by omega) (by omega)]; rw [ef_14, upd_no (by omega) (by omega)]; rw [ef_9, upd_no (by omega) (by omega)]; rw [ef_4, upd_at2 (by omega)]; exact by_c (s := 24) (by decide) ez_2 ez_3), (by (try dsimp only); rw [ef_19, upd_no (by omega) (by omega)]; rw [ef_14, upd_no (by omega) (by omega)]; rw [ef_9, upd_at2 (by omega)]; exact by_c (s := 16) (by decide) ez_7 ez_8), (by (try dsimp only); rw [ef_19, upd_no (by omega) (by omega)]; rw [ef_14, upd_at2 (by omega)]; exact by_c (s := 8) (by decide) ez_12 ez_13), (by (try dsimp only); rw [ef_19, upd_at2 (by omega)]; exact by_c (s := 0) (by decide) ez_17 ez_18), trivial⟩ (by decide) (by decide) dX8_tapeInt_46
