set_option maxHeartbeats 4000000 in
set_option maxRecDepth 100000 in
theorem g_addStripR (l : Launch) (D : va_G) (cT : Nat → ClassId) (sz : Nat) (h0 : Nat) (a : Nat → Nat) (p0 : Int32) (p1 : Int32) (p2 : Int32) (p3 : Int32) (p4 : Int32) (p5 : Int32) (p6 : Int32) (p7 : Int32) (p8 : Int32) (p9 : Int32) (hs15 : 0 ≤ p0.toInt ∧ p0.toInt ≤ 15) (hs : 0 ≤ p0.toInt ∧ p0.toInt ≤ 16) (x : Int32) (y : Int32) (z : Int32) (v : Int32) (hv : 0 ≤ v.toInt ∧ v.toInt ≤ 5) (f0 : Nat → Int32) (f1 : Nat → Int32) (f2 : Nat → Int32) (f3 : Nat → Int32) (f4 : Nat → Int32) (e3 : EL f3 16 0 5) : Met l yX3_addStrip (wsc yX3_addStrip cX3_addStrip 5 none) { frames := 2, cells := 0, slots := 0, locals := 100 } (va_Pc [.ref h0, .int x, .int y, .int z, .int v] (PX D cT sz [(sw_3 h0 p0 p1 p2 p3 p4 p5 p6 p7 p8 p9 (a 0) (a 1) (a 2) (a 3) (a 4) (a 5)), (sw_in cT (a 0) 16 f0), (sw_in cT (a 1) 16 f1), (sw_in cT (a 2) 16 f2), (sw_in cT (a 3) 16 f3), (sw_in cT (a 4) 16 f4)])) (va_Qv (fun (u : Int32) => (u.toInt = p0.toInt + 1) ∧ (0 ≤ u.toInt ∧ u.toInt ≤ 16) ∧ (EL (upd (f3) (p0 : Int32).toNatClampNeg (v)) 16 0 5) ∧ (True)) (fun u t => RW D (va_A [(sw_3 h0 p0 p1 p2 p3 p4 p5 p6 p7 p8 p9 (a 0) (a 1) (a 2) (a 3) (a 4) (a 5)), (sw_in cT (a 0) 16 f0), (sw_in cT (a 1) 16 f1), (sw_in cT (a 2) 16 f2), (sw_in cT (a 3) 16 f3), (sw_in cT (a 4) 16 f4)] sz) ((fun u : Int32 => [(sw_3 h0 u p1 p2 p3 p4 p5 p6 p7 p8 p9 (a 0) (a 1) (a 2) (a 3) (a 4) (a 5)), (sw_in cT (a 0) 16 (upd (f0) (p0 : Int32).toNatClampNeg (x))), (sw_in cT (a 1) 16 (upd (f1) (p0 : Int32).toNatClampNeg (y))), (sw_in cT (a 2) 16 (upd (f2) (p0 : Int32).toNatClampNeg (z))), (sw_in cT (a 3) 16 (upd (f3) (p0 : Int32).toNatClampNeg (v))), (sw_in cT (a 4) 16 (upd (f4) (p0 : Int32).toNatClampNeg (0)))]) u) t) (va_A [(sw_3 h0 p0 p1 p2 p3 p4 p5 p6 p7 p8 p9 (a 0) (a 1) (a 2) (a 3) (a 4) (a 5)), (sw_in cT (a 0) 16 f0), (sw_in cT (a 1) 16 f1), (sw_in cT (a 2) 16 f2), (sw_in cT (a 3) 16 f3), (sw_in cT (a 4) 16 f4)] sz)) 0 0 (va_A [(sw_3 h0 p0 p1 p2 p3 p4 p5 p6 p7 p8 p9 (a 0) (a 1) (a 2) (a 3) (a 4) (a 5)), (sw_in cT (a 0) 16 f0), (sw_in cT (a 1) 16 f1), (sw_in cT (a 2) 16 f2), (sw_in cT (a 3) 16 f3), (sw_in cT (a 4) 16 f4)] sz) := by
  refine m_of (y := yX3_addStrip) (cc := cX3_addStrip) (nL := 5) (ret := none) (D := D) (cT := cT) (av := [.ref h0, .int x, .int y, .int z, .int v]) (wi := [(sw_3 h0 p0 p1 p2 p3 p4 p5 p6 p7 p8 p9 (a 0) (a 1) (a 2) (a 3) (a 4) (a 5)), (sw_in cT (a 0) 16 f0), (sw_in cT (a 1) 16 f1), (sw_in cT (a 2) 16 f2), (sw_in cT (a 3) 16 f3), (sw_in cT (a 4) 16 f4)]) (fun A => va_Qv (fun (u : Int32) => (u.toInt = p0.toInt + 1) ∧ (0 ≤ u.toInt ∧ u.toInt ≤ 16) ∧ (EL (upd (f3) (p0 : Int32).toNatClampNeg (v)) 16 0 5) ∧ (True)) (fun u t => RW D A ((fun u : Int32 => [(sw_3 h0 u p1 p2 p3 p4 p5 p6 p7 p8 p9 (a 0) (a 1) (a 2) (a 3) (a 4) (a 5)), (sw_in cT (a 0) 16 (upd (f0) (p0 : Int32).toNatClampNeg (x))), (sw_in cT (a 1) 16 (upd (f1) (p0 : Int32).toNatClampNeg (y))), (sw_in cT (a 2) 16 (upd (f2) (p0 : Int32).toNatClampNeg (z))), (sw_in cT (a 3) 16 (upd (f3) (p0 : Int32).toNatClampNeg (v))), (sw_in cT (a 4) 16 (upd (f4) (p0 : Int32).toNatClampNeg (0)))]) u) t) A) (by decide) (Nat.le_of_ble_eq_true rfl) ?_
  intro p e s m below meth c A hx hb hml hown htg hK hN hr hlk hnm hsz hP hD hS hA ls hl
  have hown : s.vm.findClass RX3 = some m.cls := hown
  have hl : lv_has ls 5 [(0, .ref h0), (1, .int x), (2, .int y), (3, .int z), (4, .int v)] := hl
  refine lv_aload_n hx hb dX3_addStrip_0 rfl (lv_at hl 0 rfl) ?_
  refine va_get (D := D) (ci := 3) (v := .int p0) (C := RX3) (T := TX3) (N := 16) hx hb htg gRX3 hown hK hP 0 rfl rfl 0 (by decide) (htg _ wi_166) (fun _ h9 => h9) rfl dX3_addStrip_1 ?_
  refine lv_bipush (v := 16) hx hb dX3_addStrip_4 (by decide) ?_
  refine lv_icmp_ge (tgt := 70) hx hb dX3_addStrip_6 (by decide) (fun h => absurd h (fun h => absurd (ile h (show (16 : Int32).toInt = 16 from by decide) rfl) (by omega))) (fun _ => ?_)
  refine lv_aload_n hx hb dX3_addStrip_9 rfl (lv_at hl 0 rfl) ?_
  refine va_get (D := D) (ci := 3) (v := .ref (a 0)) (C := RX3) (T := TX3) (N := 16) hx hb htg gRX3 hown hK hP 0 rfl rfl 10 (by decide) (htg _ wi_199) (fun _ h9 => h9) rfl dX3_addStrip_10 ?_
  refine lv_aload_n hx hb dX3_addStrip_13 rfl (lv_at hl 0 rfl) ?_
  refine va_get (D := D) (ci := 3) (v := .int p0) (C := RX3) (T := TX3) (N := 16) hx hb htg gRX3 hown hK hP 0 rfl rfl 0 (by decide) (htg _ wi_166) (fun _ h9 => h9) rfl dX3_addStrip_14 ?_
  refine lv_iload_n hx hb dX3_addStrip_17 rfl (lv_at hl 1 rfl) ?_
  refine va_iast hx hb hK hP hD hS 1 0 rfl rfl (vp_in_iff.mpr (by omega)) dX3_addStrip_18 (fun H locs hP hD hS => ?_)
  obtain ⟨hP, hD⟩ : PD D A [(sw_3 h0 p0 p1 p2 p3 p4 p5 p6 p7 p8 p9 (a 0) (a 1) (a 2) (a 3) (a 4) (a 5)), (sw_in cT (a 0) 16 (upd (f0) (p0 : Int32).toNatClampNeg (x))), (sw_in cT (a 1) 16 f1), (sw_in cT (a 2) 16 f2), (sw_in cT (a 3) 16 f3), (sw_in cT (a 4) 16 f4)] _ := ⟨hP, hD⟩
  refine lv_aload_n hx hb dX3_addStrip_19 rfl (lv_at hl 0 rfl) ?_
  refine va_get (D := D) (ci := 3) (v := .ref (a 1)) (C := RX3) (T := TX3) (N := 16) hx hb htg gRX3 hown hK hP 0 rfl rfl 11 (by decide) (htg _ wi_203) (fun _ h9 => h9) rfl dX3_addStrip_20 ?_
  refine lv_aload_n hx hb dX3_addStrip_23 rfl (lv_at hl 0 rfl) ?_
  refine va_get (D := D) (ci := 3) (v := .int p0) (C := RX3) (T := TX3) (N := 16) hx hb htg gRX3 hown hK hP 0 rfl rfl 0 (by decide) (htg _ wi_166) (fun _ h9 => h9) rfl dX3_addStrip_24 ?_
  refine lv_iload_n hx hb dX3_addStrip_27 rfl (lv_at hl 2 rfl) ?_
  refine va_iast hx hb hK hP hD hS 2 0 rfl rfl (vp_in_iff.mpr (by omega)) dX3_addStrip_28 (fun H locs hP hD hS => ?_)
  obtain ⟨hP, hD⟩ : PD D A [(sw_3 h0 p0 p1 p2 p3 p4 p5 p6 p7 p8 p9 (a 0) (a 1) (a 2) (a 3) (a 4) (a 5)), (sw_in cT (a 0) 16 (upd (f0) (p0 : Int32).toNatClampNeg (x))), (sw_in cT (a 1) 16 (upd (f1) (p0 : Int32).toNatClampNeg (y))), (sw_in cT (a 2) 16 f2), (sw_in cT (a 3) 16 f3), (sw_in cT (a 4) 16 f4)] _ := ⟨hP, hD⟩
  refine lv_aload_n hx hb dX3_addStrip_29 rfl (lv_at hl 0 rfl) ?_
  refine va_get (D := D) (ci := 3) (v := .ref (a 2)) (C := RX3) (T := TX3) (N := 16) hx hb htg gRX3 hown hK hP 0 rfl rfl 12 (by decide) (htg _ wi_206) (fun _ h9 => h9) rfl dX3_addStrip_30 ?_
  refine lv_aload_n hx hb dX3_addStrip_33 rfl (lv_at hl 0 rfl) ?_
  refine va_get (D := D) (ci := 3) (v := .int p0) (C := RX3) (T := TX3) (N := 16) hx hb htg gRX3 hown hK hP 0 rfl rfl 0 (by decide) (htg _ wi_166) (fun _ h9 => h9) rfl dX3_addStrip_34 ?_
  refine lv_iload_n hx hb dX3_addStrip_37 rfl (lv_at hl 3 rfl) ?_
  refine va_iast hx hb hK hP hD hS 3 0 rfl rfl (vp_in_iff.mpr (by omega)) dX3_addStrip_38 (fun H locs hP hD hS => ?_)
  obtain ⟨hP, hD⟩ : PD D A [(sw_3 h0 p0 p1 p2 p3 p4 p5 p6 p7 p8 p9 (a 0) (a 1) (a 2) (a 3) (a 4) (a 5)), (sw_in cT (a 0) 16 (upd (f0) (p0 : Int32).toNatClampNeg (x))), (sw_in cT (a 1) 16 (upd (f1) (p0 : Int32).toNatClampNeg (y))), (sw_in cT (a 2) 16 (upd (f2) (p0 : Int32).toNatClampNeg (z))), (sw_in cT (a 3) 16 f3), (sw_in cT (a 4) 16 f4)] _ := ⟨hP, hD⟩
  refine lv_aload_n hx hb dX3_addStrip_39 rfl (lv_at hl 0 rfl) ?_
  refine va_get (D := D) (ci := 3) (v := .ref (a 3)) (C := RX3) (T := TX3) (N := 16) hx hb htg gRX3 hown hK hP 0 rfl rfl 13 (by decide) (htg _ wi_208) (fun _ h9 => h9) rfl dX3_addStrip_40 ?_
  refine lv_aload_n hx hb dX3_addStrip_43 rfl (lv_at hl 0 rfl) ?_
  refine va_get (D := D) (ci := 3) (v := .int p0) (C := RX3) (T := TX3) (N := 16) hx hb htg gRX3 hown hK hP 0 rfl rfl 0 (by decide) (htg _ wi_166) (fun _ h9 => h9) rfl dX3_addStrip_44 ?_
  refine lv_iload hx hb dX3_addStrip_47 (lv_at hl 4 rfl) ?_
  refine va_iast hx hb hK hP hD hS 4 0 rfl rfl (vp_in_iff.mpr (by omega)) dX3_addStrip_49 (fun H locs hP hD hS => ?_)
  obtain ⟨hP, hD⟩ : PD D A [(sw_3 h0 p0 p1 p2 p3 p4 p5 p6 p7 p8 p9 (a 0) (a 1) (a 2) (a 3) (a 4) (a 5)), (sw_in cT (a 0) 16 (upd (f0) (p0 : Int32).toNatClampNeg (x))), (sw_in cT (a 1) 16 (upd (f1) (p0 : Int32).toNatClampNeg (y))), (sw_in cT (a 2) 16 (upd (f2) (p0 : Int32).toNatClampNeg (z))), (sw_in cT (a 3) 16 (upd (f3) (p0 : Int32).toNatClampNeg (v))), (sw_in cT (a 4) 16 f4)] _ := ⟨hP, hD⟩
  refine lv_aload_n hx hb dX3_addStrip_50 rfl (lv_at hl 0 rfl) ?_
  refine va_get (D := D) (ci := 3) (v := .ref (a 4)) (C := RX3) (T := TX3) (N := 16) hx hb htg gRX3 hown hK hP 0 rfl rfl 14 (by decide) (htg _ wi_211) (fun _ h9 => h9) rfl dX3_addStrip_51 ?_
  refine lv_aload_n hx hb dX3_addStrip_54 rfl (lv_at hl 0 rfl) ?_
  refine va_get (D := D) (ci := 3) (v := .int p0) (C := RX3) (T := TX3) (N := 16) hx hb htg gRX3 hown hK hP 0 rfl rfl 0 (by decide) (htg _ wi_166) (fun _ h9 => h9) rfl dX3_addStrip_55 ?_
  refine lv_iconst (v := 0) hx hb dX3_addStrip_58 (by decide) ?_
  refine va_iast hx hb hK hP hD hS 5 0 rfl rfl (vp_in_iff.mpr (by omega)) dX3_addStrip_59 (fun H locs hP hD hS => ?_)
  obtain ⟨hP, hD⟩ : PD D A [(sw_3 h0 p0 p1 p2 p3 p4 p5 p6 p7 p8 p9 (a 0) (a 1) (a 2) (a 3) (a 4) (a 5)), (sw_in cT (a 0) 16 (upd (f0) (p0 : Int32).toNatClampNeg (x))), (sw_in cT (a 1) 16 (upd (f1) (p0 : Int32).toNatClampNeg (y))), (sw_in cT (a 2) 16 (upd (f2) (p0 : Int32).toNatClampNeg (z))), (sw_in cT (a 3) 16 (upd (f3) (p0 : Int32).toNatClampNeg (v))), (sw_in cT (a 4) 16 (upd (f4) (p0 : Int32).toNatClampNeg (0)))] _ := ⟨hP, hD⟩
  refine lv_aload_n hx hb dX3_addStrip_60 rfl (lv_at hl 0 rfl) ?_
  refine lv_dup hx hb dX3_addStrip_61 rfl ?_
  refine va_get (D := D) (ci := 3) (v := .int p0) (C := RX3) (T := TX3) (N := 16) hx hb htg gRX3 hown hK hP 0 rfl rfl 0 (by decide) (htg _ wi_166) (fun _ h9 => h9) rfl dX3_addStrip_62 ?_
  refine lv_iconst (v := 1) hx hb dX3_addStrip_65 (by decide) ?_
  refine lv_iadd hx hb dX3_addStrip_66 ?_
  refine lv_topi (fun z_1 ez_1 => ?_)
  have iz_1 : z_1.toInt = p0.toInt + 1 := toInt_addI ez_1 (rfl) (by decide) (by omega)
  refine va_put (D := D) (ci := 3) (v := .int z_1) (ty := .int) (C := RX3) (T := TX3) (N := 16) hx hb htg gRX3 tyX3 tyX3_ok nmX3 hown hK hP hD hS 0 rfl rfl 0 (by decide) (htg _ wi_166) (fun _ h9 => h9) rfl (by decide +kernel) rfl rfl (Nat.le_of_ble_eq_true rfl) dX3_addStrip_67 (fun H locs hP hD hS => ?_)
  obtain ⟨hP, hD⟩ : PD D A [(sw_3 h0 z_1 p1 p2 p3 p4 p5 p6 p7 p8 p9 (a 0) (a 1) (a 2) (a 3) (a 4) (a 5)), (sw_in cT (a 0) 16 (upd (f0) (p0 : Int32).toNatClampNeg (x))), (sw_in cT (a 1) 16 (upd (f1) (p0 : Int32).toNatClampNeg (y))), (sw_in cT (a 2) 16 (upd (f2) (p0 : Int32).toNatClampNeg (z))), (sw_in cT (a 3) 16 (upd (f3) (p0 : Int32).toNatClampNeg (v))), (sw_in cT (a 4) 16 (upd (f4) (p0 : Int32).toNatClampNeg (0)))] _ := ⟨hP, hD⟩
  exact x_vret hx hb hr hlk hP hD hS [0, 1, 2, 3, 4, 5] (z_1) rfl (by decide) ⟨(by (try dsimp only); omega), (by (try dsimp only); omega), (by first | exact el_upd e3 rfl (by omega) | (exfalso; omega)), trivial⟩ (by decide) (by decide) dX3_addStrip_70
