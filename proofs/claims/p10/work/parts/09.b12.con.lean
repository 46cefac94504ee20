set_option maxHeartbeats 4000000 in
set_option maxRecDepth 100000 in
theorem m_feedX (l : Launch) (D : va_G) (cT : Nat → ClassId) (sz : Nat) (h0 : Nat) (g : Nat → Nat) (b0 : Int32) (b5 : Int32) (b6 : Int32) (b7 : Int32) (b8 : Int32) (b9 : Int32) (b10 : Int32) (b11 : Int32) (b12 : Int32) (b13 : Int32) (b14 : Int32) (b17 : Int32) (b18 : Int32) (b19 : Int32) (b23 : Int32) (b24 : Int32) (b25 : Int32) (b26 : Int32) (b27 : Int32) (b29 : Int32) (b31 : Int32) (b32 : Int32) (b33 : Int32) (hb5 : 0 ≤ b5.toInt ∧ b5.toInt ≤ 900) (a2 : Nat → Int32) (x : Int32) (y : Int32) (z : Int32) (v : Int32) (w : Int32) : Met l yX9_feed (wsc yX9_feed cX9_feed 8 (some .int)) { frames := 2, cells := 0, slots := 0, locals := 100 } (va_Pc [.ref h0, .int x, .int y, .int z, .int v, .int w] (PX D cT sz [(sw_9 h0 g b0 b5 b6 b7 b8 b9 b10 b11 b12 b13 b14 b17 b18 b19 b23 b24 b25 b26 b27 b29 b31 b32 b33), (sw_in cT (g 2) 900 a2)])) (va_Qi (fun (r : Int32) (u : Int32 × Int32 × (Nat → Int32)) => (0 ≤ u.2.1.toInt ∧ u.2.1.toInt ≤ 900) ∧ ((b5.toInt ≤ 880 ∧ u.2.1.toInt = b5.toInt + 20 ∧ r.toInt = b5.toInt + 20) ∨ (880 < b5.toInt ∧ u.2.1.toInt = b5.toInt ∧ r.toInt = -5)) ∧ (Hd (b5.toInt ≤ 880) (∀ j : Nat, (j : Int) < b5.toInt → u.2.2 j = a2 j)) ∧ (Hd (880 < b5.toInt) (u.2.2 = a2)) ∧ (Hd (b5.toInt ≤ 880) (u.2.2 (b5.toInt.toNat + 0) = byI x 24)) ∧ (Hd (b5.toInt ≤ 880) (u.2.2 (b5.toInt.toNat + 1) = byI x 16)) ∧ (Hd (b5.toInt ≤ 880) (u.2.2 (b5.toInt.toNat + 2) = byI x 8)) ∧ (Hd (b5.toInt ≤ 880) (u.2.2 (b5.toInt.toNat + 3) = byI x 0)) ∧ (Hd (b5.toInt ≤ 880) (u.2.2 (b5.toInt.toNat + 4) = byI y 24)) ∧ (Hd (b5.toInt ≤ 880) (u.2.2 (b5.toInt.toNat + 5) = byI y 16)) ∧ (Hd (b5.toInt ≤ 880) (u.2.2 (b5.toInt.toNat + 6) = byI y 8)) ∧ (Hd (b5.toInt ≤ 880) (u.2.2 (b5.toInt.toNat + 7) = byI y 0)) ∧ (Hd (b5.toInt ≤ 880) (u.2.2 (b5.toInt.toNat + 8) = byI z 24)) ∧ (Hd (b5.toInt ≤ 880) (u.2.2 (b5.toInt.toNat + 9) = byI z 16)) ∧ (Hd (b5.toInt ≤ 880) (u.2.2 (b5.toInt.toNat + 10) = byI z 8)) ∧ (Hd (b5.toInt ≤ 880) (u.2.2 (b5.toInt.toNat + 11) = byI z 0)) ∧ (Hd (b5.toInt ≤ 880) (u.2.2 (b5.toInt.toNat + 12) = byI v 24)) ∧ (Hd (b5.toInt ≤ 880) (u.2.2 (b5.toInt.toNat + 13) = byI v 16)) ∧ (Hd (b5.toInt ≤ 880) (u.2.2 (b5.toInt.toNat + 14) = byI v 8)) ∧ (Hd (b5.toInt ≤ 880) (u.2.2 (b5.toInt.toNat + 15) = byI v 0)) ∧ (Hd (b5.toInt ≤ 880) (u.2.2 (b5.toInt.toNat + 16) = byI w 24)) ∧ (Hd (b5.toInt ≤ 880) (u.2.2 (b5.toInt.toNat + 17) = byI w 16)) ∧ (Hd (b5.toInt ≤ 880) (u.2.2 (b5.toInt.toNat + 18) = byI w 8)) ∧ (Hd (b5.toInt ≤ 880) (u.2.2 (b5.toInt.toNat + 19) = byI w 0)) ∧ (True)) (fun u t => RW D (va_A [(sw_9 h0 g b0 b5 b6 b7 b8 b9 b10 b11 b12 b13 b14 b17 b18 b19 b23 b24 b25 b26 b27 b29 b31 b32 b33), (sw_in cT (g 2) 900 a2)] sz) ((fun u : Int32 × Int32 × (Nat → Int32) => [(sw_9 h0 g u.1 u.2.1 b6 b7 b8 b9 b10 b11 b12 b13 b14 b17 b18 b19 b23 b24 b25 b26 b27 b29 b31 b32 b33), (sw_in cT (g 2) 900 u.2.2)]) u) t) (va_A [(sw_9 h0 g b0 b5 b6 b7 b8 b9 b10 b11 b12 b13 b14 b17 b18 b19 b23 b24 b25 b26 b27 b29 b31 b32 b33), (sw_in cT (g 2) 900 a2)] sz)) 0 0 (va_A [(sw_9 h0 g b0 b5 b6 b7 b8 b9 b10 b11 b12 b13 b14 b17 b18 b19 b23 b24 b25 b26 b27 b29 b31 b32 b33), (sw_in cT (g 2) 900 a2)] sz) := by
  refine m_of (y := yX9_feed) (cc := cX9_feed) (nL := 8) (ret := (some .int)) (D := D) (cT := cT) (av := [.ref h0, .int x, .int y, .int z, .int v, .int w]) (wi := [(sw_9 h0 g b0 b5 b6 b7 b8 b9 b10 b11 b12 b13 b14 b17 b18 b19 b23 b24 b25 b26 b27 b29 b31 b32 b33), (sw_in cT (g 2) 900 a2)]) (fun A => va_Qi (fun (r : Int32) (u : Int32 × Int32 × (Nat → Int32)) => (0 ≤ u.2.1.toInt ∧ u.2.1.toInt ≤ 900) ∧ ((b5.toInt ≤ 880 ∧ u.2.1.toInt = b5.toInt + 20 ∧ r.toInt = b5.toInt + 20) ∨ (880 < b5.toInt ∧ u.2.1.toInt = b5.toInt ∧ r.toInt = -5)) ∧ (Hd (b5.toInt ≤ 880) (∀ j : Nat, (j : Int) < b5.toInt → u.2.2 j = a2 j)) ∧ (Hd (880 < b5.toInt) (u.2.2 = a2)) ∧ (Hd (b5.toInt ≤ 880) (u.2.2 (b5.toInt.toNat + 0) = byI x 24)) ∧ (Hd (b5.toInt ≤ 880) (u.2.2 (b5.toInt.toNat + 1) = byI x 16)) ∧ (Hd (b5.toInt ≤ 880) (u.2.2 (b5.toInt.toNat + 2) = byI x 8)) ∧ (Hd (b5.toInt ≤ 880) (u.2.2 (b5.toInt.toNat + 3) = byI x 0)) ∧ (Hd (b5.toInt ≤ 880) (u.2.2 (b5.toInt.toNat + 4) = byI y 24)) ∧ (Hd (b5.toInt ≤ 880) (u.2.2 (b5.toInt.toNat + 5) = byI y 16)) ∧ (Hd (b5.toInt ≤ 880) (u.2.2 (b5.toInt.toNat + 6) = byI y 8)) ∧ (Hd (b5.toInt ≤ 880) (u.2.2 (b5.toInt.toNat + 7) = byI y 0)) ∧ (Hd (b5.toInt ≤ 880) (u.2.2 (b5.toInt.toNat + 8) = byI z 24)) ∧ (Hd (b5.toInt ≤ 880) (u.2.2 (b5.toInt.toNat + 9) = byI z 16)) ∧ (Hd (b5.toInt ≤ 880) (u.2.2 (b5.toInt.toNat + 10) = byI z 8)) ∧ (Hd (b5.toInt ≤ 880) (u.2.2 (b5.toInt.toNat + 11) = byI z 0)) ∧ (Hd (b5.toInt ≤ 880) (u.2.2 (b5.toInt.toNat + 12) = byI v 24)) ∧ (Hd (b5.toInt ≤ 880) (u.2.2 (b5.toInt.toNat + 13) = byI v 16)) ∧ (Hd (b5.toInt ≤ 880) (u.2.2 (b5.toInt.toNat + 14) = byI v 8)) ∧ (Hd (b5.toInt ≤ 880) (u.2.2 (b5.toInt.toNat + 15) = byI v 0)) ∧ (Hd (b5.toInt ≤ 880) (u.2.2 (b5.toInt.toNat + 16) = byI w 24)) ∧ (Hd (b5.toInt ≤ 880) (u.2.2 (b5.toInt.toNat + 17) = byI w 16)) ∧ (Hd (b5.toInt ≤ 880) (u.2.2 (b5.toInt.toNat + 18) = byI w 8)) ∧ (Hd (b5.toInt ≤ 880) (u.2.2 (b5.toInt.toNat + 19) = byI w 0)) ∧ (True)) (fun u t => RW D A ((fun u : Int32 × Int32 × (Nat → Int32) => [(sw_9 h0 g u.1 u.2.1 b6 b7 b8 b9 b10 b11 b12 b13 b14 b17 b18 b19 b23 b24 b25 b26 b27 b29 b31 b32 b33), (sw_in cT (g 2) 900 u.2.2)]) u) t) A) (by decide) (Nat.le_of_ble_eq_true rfl) ?_
  intro p e s m below meth c A hx hb hml hown htg hK hN hr hlk hnm hsz hP hD hS hA ls hl
  have hown : s.vm.findClass RX9 = some m.cls := hown
  have hl : lv_has ls 8 [(0, .ref h0), (1, .int x), (2, .int y), (3, .int z), (4, .int v), (5, .int w)] := hl
  have tc_m5 : ((-5) : Int32).toInt = (-5) := by decide
  have tc_0 : (0 : Int32).toInt = 0 := by decide
  have tc_1 : (1 : Int32).toInt = 1 := by decide
  have tc_4 : (4 : Int32).toInt = 4 := by decide
  have tc_8 : (8 : Int32).toInt = 8 := by decide
  have tc_12 : (12 : Int32).toInt = 12 := by decide
  have tc_16 : (16 : Int32).toInt = 16 := by decide
  have tc_20 : (20 : Int32).toInt = 20 := by decide
  have tc_24 : (24 : Int32).toInt = 24 := by decide
  have tc_255 : (255 : Int32).toInt = 255 := by decide
  have tc_900 : (900 : Int32).toInt = 900 := by decide
  refine lv_aload_n hx hb dX9_feed_0 rfl (lv_at hl 0 rfl) ?_
  refine lv_iconst (v := 0) hx hb dX9_feed_1 (by decide) ?_
  refine va_put (D := D) (ci := 9) (v := .int 0) (ty := .int) (C := RX9) (T := TX9) (N := 37) hx hb htg gRX9 tyX9 tyX9_ok nmX9 hown hK hP hD hS 0 rfl rfl 0 (by decide) (htg _ wi_1150) (fun _ h9 => h9) rfl (by decide +kernel) rfl rfl (Nat.le_of_ble_eq_true rfl) dX9_feed_2 (fun H locs hP hD hS => ?_)
  obtain ⟨hP, hD⟩ : PD D A [(sw_9 h0 g 0 b5 b6 b7 b8 b9 b10 b11 b12 b13 b14 b17 b18 b19 b23 b24 b25 b26 b27 b29 b31 b32 b33), (sw_in cT (g 2) 900 a2)] _ := ⟨hP, hD⟩
  refine lv_aload_n hx hb dX9_feed_5 rfl (lv_at hl 0 rfl) ?_
  refine va_get (D := D) (ci := 9) (v := .int b5) (C := RX9) (T := TX9) (N := 37) hx hb htg gRX9 hown hK hP 0 rfl rfl 5 (by decide) (htg _ wi_1155) (fun _ h9 => h9) rfl dX9_feed_6 ?_
  refine lv_bipush (v := 20) hx hb dX9_feed_9 (by decide) ?_
  refine lv_iadd hx hb dX9_feed_11 ?_
  refine lv_topi (fun z_1 ez_1 => ?_)
  have iz_1 : z_1.toInt = b5.toInt + 20 := toInt_addI ez_1 (rfl) (by decide) (by omega)
  refine lv_sipush (v := 900) hx hb dX9_feed_12 (by decide) ?_
  refine lv_icmp_le (tgt := 21) hx hb dX9_feed_15 (by decide) (fun c_2 => ?_) (fun c_2 => ?_)
  · have ic_2 : z_1.toInt ≤ 900 := ile c_2 (rfl) (by decide)
    refine lv_iconst (v := 0) hx hb dX9_feed_21 (by decide) ?_
    refine lv_istore (lv' := [(6, .int 0), (0, .ref h0), (1, .int x), (2, .int y), (3, .int z), (4, .int v), (5, .int w)]) hx hb dX9_feed_22 hl (by decide) rfl (fun ls hl => ?_)
    refine lv_iload hx hb dX9_feed_24 (lv_at hl 0 rfl) ?_
    refine lv_bipush (v := 20) hx hb dX9_feed_26 (by decide) ?_
    refine lv_icmp_ge (tgt := 121) hx hb dX9_feed_28 (by decide) (fun h => absurd h (by decide)) (fun _ => ?_)
    refine lv_iload hx hb dX9_feed_31 (lv_at hl 0 rfl) ?_
    refine lv_iconst (v := 4) hx hb dX9_feed_33 (by decide) ?_
    refine lv_icmp_ge (tgt := 41) hx hb dX9_feed_34 (by decide) (fun h => absurd h (by decide)) (fun _ => ?_)
    refine lv_iload_n hx hb dX9_feed_37 rfl (lv_at hl 2 rfl) ?_
    refine lv_goto (tgt := 77) hx hb dX9_feed_38 (by decide) ?_
    refine lv_istore (lv' := [(7, .int x), (6, .int 0), (0, .ref h0), (1, .int x), (2, .int y), (3, .int z), (4, .int v), (5, .int w)]) hx hb dX9_feed_77 hl (by decide) rfl (fun ls hl => ?_)
    refine lv_aload_n hx hb dX9_feed_79 rfl (lv_at hl 2 rfl) ?_
    refine va_get (D := D) (ci := 9) (v := .ref (g 2)) (C := RX9) (T := TX9) (N := 37) hx hb htg gRX9 hown hK hP 0 rfl rfl 3 (by decide) (htg _ wi_1153) (fun _ h9 => h9) rfl dX9_feed_80 ?_
    refine lv_aload_n hx hb dX9_feed_83 rfl (lv_at hl 2 rfl) ?_
    refine va_get (D := D) (ci := 9) (v := .int b5) (C := RX9) (T := TX9) (N := 37) hx hb htg gRX9 hown hK hP 0 rfl rfl 5 (by decide) (htg _ wi_1155) (fun _ h9 => h9) rfl dX9_feed_84 ?_
    refine lv_iload hx hb dX9_feed_87 (lv_at hl 0 rfl) ?_
    refine lv_bipush (v := 24) hx hb dX9_feed_89 (by decide) ?_
    refine lv_bipush (v := 8) hx hb dX9_feed_91 (by decide) ?_
    refine lv_iload hx hb dX9_feed_93 (lv_at hl 1 rfl) ?_
    refine lv_iconst (v := 4) hx hb dX9_feed_95 (by decide) ?_
    refine lv_irem hx hb dX9_feed_96 (by decide) ?_
    refine lv_is (y := 0) (by decide) ?_
    refine lv_imul hx hb dX9_feed_97 ?_
    refine lv_is (y := 0) (by decide) ?_
    refine lv_isub hx hb dX9_feed_98 ?_
    refine lv_is (y := 24) (by decide) ?_
    refine lv_ishr hx hb dX9_feed_99 ?_
    refine lv_topi (fun z_3 ez_3 => ?_)
    refine lv_sipush (v := 255) hx hb dX9_feed_100 (by decide) ?_
    refine lv_iand hx hb dX9_feed_103 ?_
    refine lv_topi (fun z_4 ez_4 => ?_)
    have iz_4 : 0 ≤ z_4.toInt ∧ z_4.toInt ≤ 255 := andI ez_4 (by decide) (by decide)
    refine va_iast hx hb hK hP hD hS 1 0 rfl rfl (vp_in_iff.mpr (by omega)) dX9_feed_104 (fun H locs hP hD hS => ?_)
    obtain ⟨f_5, ef_5, hP, hD⟩ : ∃ f_5 : Nat → Int32, f_5 = upd (a2) (b5 : Int32).toNatClampNeg z_4 ∧ PD D A [(sw_9 h0 g 0 b5 b6 b7 b8 b9 b10 b11 b12 b13 b14 b17 b18 b19 b23 b24 b25 b26 b27 b29 b31 b32 b33), (sw_in cT (g 2) 900 f_5)] H := ⟨_, rfl, hP, hD⟩
    have hfd_1 : FD a2 b5.toInt 1 (fdW x y z v w) f_5 := FD_s 0 (FD_0 _ _ _) ef_5 (by omega) (by omega) (by rw [ez_4]; first | rfl | (rw [ez_3]; rfl))
    refine lv_aload_n hx hb dX9_feed_105 rfl (lv_at hl 2 rfl) ?_
    refine lv_dup hx hb dX9_feed_106 rfl ?_
    refine va_get (D := D) (ci := 9) (v := .int b5) (C := RX9) (T := TX9) (N := 37) hx hb htg gRX9 hown hK hP 0 rfl rfl 5 (by decide) (htg _ wi_1155) (fun _ h9 => h9) rfl dX9_feed_107 ?_
    refine lv_iconst (v := 1) hx hb dX9_feed_110 (by decide) ?_
    refine lv_iadd hx hb dX9_feed_111 ?_
    refine lv_topi (fun z_6 ez_6 => ?_)
    have iz_6 : z_6.toInt = b5.toInt + 1 := toInt_addI ez_6 (rfl) (by decide) (by omega)
    refine va_put (D := D) (ci := 9) (v := .int z_6) (ty := .int) (C := RX9) (T := TX9) (N := 37) hx hb htg gRX9 tyX9 tyX9_ok nmX9 hown hK hP hD hS 0 rfl rfl 5 (by decide) (htg _ wi_1155) (fun _ h9 => h9) rfl (by decide +kernel) rfl rfl (Nat.le_of_ble_eq_true rfl) dX9_feed_112 (fun H locs hP hD hS => ?_)
    obtain ⟨hP, hD⟩ : PD D A [(sw_9 h0 g 0 z_6 b6 b7 b8 b9 b10 b11 b12 b13 b14 b17 b18 b19 b23 b24 b25 b26 b27 b29 b31 b32 b33), (sw_in cT (g 2) 900 f_5)] _ := ⟨hP, hD⟩
    refine lv_iinc (v := 1) (lv' := [(6, .int 1), (7, .int x), (0, .ref h0), (1, .int x), (2, .int y), (3, .int z), (4, .int v), (5, .int w)]) hx hb dX9_feed_115 hl (k := 1) rfl (by decide) (by decide) rfl (fun ls hl => ?_)
    refine lv_goto (tgt := 24) hx hb dX9_feed_118 (by decide) ?_
    refine lv_iload hx hb dX9_feed_24 (lv_at hl 0 rfl) ?_
    refine lv_bipush (v := 20) hx hb dX9_feed_26 (by decide) ?_
    refine lv_icmp_ge (tgt := 121) hx hb dX9_feed_28 (by decide) (fun h => absurd h (by decide)) (fun _ => ?_)
    refine lv_iload hx hb dX9_feed_31 (lv_at hl 0 rfl) ?_
    refine lv_iconst (v := 4) hx hb dX9_feed_33 (by decide) ?_
    refine lv_icmp_ge (tgt := 41) hx hb dX9_feed_34 (by decide) (fun h => absurd h (by decide)) (fun _ => ?_)
    refine lv_iload_n hx hb dX9_feed_37 rfl (lv_at hl 3 rfl) ?_
    refine lv_goto (tgt := 77) hx hb dX9_feed_38 (by decide) ?_
    refine lv_istore (lv' := [(7, .int x), (6, .int 1), (0, .ref h0), (1, .int x), (2, .int y), (3, .int z), (4, .int v), (5, .int w)]) hx hb dX9_feed_77 hl (by decide) rfl (fun ls hl => ?_)
    refine lv_aload_n hx hb dX9_feed_79 rfl (lv_at hl 2 rfl) ?_
    refine va_get (D := D) (ci := 9) (v := .ref (g 2)) (C := RX9) (T := TX9) (N := 37) hx hb htg gRX9 hown hK hP 0 rfl rfl 3 (by decide) (htg _ wi_1153) (fun _ h9 => h9) rfl dX9_feed_80 ?_
    refine lv_aload_n hx hb dX9_feed_83 rfl (lv_at hl 2 rfl) ?_
    refine va_get (D := D) (ci := 9) (v := .int z_6) (C := RX9) (T := TX9) (N := 37) hx hb htg gRX9 hown hK hP 0 rfl rfl 5 (by decide) (htg _ wi_1155) (fun _ h9 => h9) rfl dX9_feed_84 ?_
    refine lv_iload hx hb dX9_feed_87 (lv_at hl 0 rfl) ?_
    refine lv_bipush (v := 24) hx hb dX9_feed_89 (by decide) ?_
    refine lv_bipush (v := 8) hx hb dX9_feed_91 (by decide) ?_
    refine lv_iload hx hb dX9_feed_93 (lv_at hl 1 rfl) ?_
    refine lv_iconst (v := 4) hx hb dX9_feed_95 (by decide) ?_
    refine lv_irem hx hb dX9_feed_96 (by decide) ?_
    refine lv_is (y := 1) (by decide) ?_
    refine lv_imul hx hb dX9_feed_97 ?_
    refine lv_is (y := 8) (by decide) ?_
    refine lv_isub hx hb dX9_feed_98 ?_
    refine lv_is (y := 16) (by decide) ?_
    refine lv_ishr hx hb dX9_feed_99 ?_
    refine lv_topi (fun z_7 ez_7 => ?_)
    refine lv_sipush (v := 255) hx hb dX9_feed_100 (by decide) ?_
    refine lv_iand hx hb dX9_feed_103 ?_
    refine lv_topi (fun z_8 ez_8 => ?_)
    have iz_8 : 0 ≤ z_8.toInt ∧ z_8.toInt ≤ 255 := andI ez_8 (by decide) (by decide)
    refine va_iast hx hb hK hP hD hS 1 0 rfl rfl (vp_in_iff.mpr (by omega)) dX9_feed_104 (fun H locs hP hD hS => ?_)
    obtain ⟨f_9, ef_9, hP, hD⟩ : ∃ f_9 : Nat → Int32, f_9 = upd (f_5) (z_6 : Int32).toNatClampNeg z_8 ∧ PD D A [(sw_9 h0 g 0 z_6 b6 b7 b8 b9 b10 b11 b12 b13 b14 b17 b18 b19 b23 b24 b25 b26 b27 b29 b31 b32 b33), (sw_in cT (g 2) 900 f_9)] H := ⟨_, rfl, hP, hD⟩
    have hfd_2 : FD a2 b5.toInt 2 (fdW x y z v w) f_9 := FD_s 1 hfd_1 ef_9 (by omega) (by omega) (by rw [ez_8]; first | rfl | (rw [ez_7]; rfl))
    refine lv_aload_n hx hb dX9_feed_105 rfl (lv_at hl 2 rfl) ?_
    refine lv_dup hx hb dX9_feed_106 rfl ?_
    refine va_get (D := D) (ci := 9) (v := .int z_6) (C := RX9) (T := TX9) (N := 37) hx hb htg gRX9 hown hK hP 0 rfl rfl 5 (by decide) (htg _ wi_1155) (fun _ h9 => h9) rfl dX9_feed_107 ?_
    refine lv_iconst (v := 1) hx hb dX9_feed_110 (by decide) ?_
    refine lv_iadd hx hb dX9_feed_111 ?_
    refine lv_topi (fun z_10 ez_10 => ?_)
    have iz_10 : z_10.toInt = z_6.toInt + 1 := toInt_addI ez_10 (rfl) (by decide) (by omega)
    refine va_put (D := D) (ci := 9) (v := .int z_10) (ty := .int) (C := RX9) (T := TX9) (N := 37) hx hb htg gRX9 tyX9 tyX9_ok nmX9 hown hK hP hD hS 0 rfl rfl 5 (by decide) (htg _ wi_1155) (fun _ h9 => h9) rfl (by decide +kernel) rfl rfl (Nat.le_of_ble_eq_true rfl) dX9_feed_112 (fun H locs hP hD hS => ?_)
    obtain ⟨hP, hD⟩ : PD D A [(sw_9 h0 g 0 z_10 b6 b7 b8 b9 b10 b11 b12 b13 b14 b17 b18 b19 b23 b24 b25 b26 b27 b29 b31 b32 b33), (sw_in cT (g 2) 900 f_9)] _ := ⟨hP, hD⟩
    refine lv_iinc (v := 2) (lv' := [(6, .int 2), (7, .int x), (0, .ref h0), (1, .int x), (2, .int y), (3, .int z), (4, .int v), (5, .int w)]) hx hb dX9_feed_115 hl (k := 1) rfl (by decide) (by decide) rfl (fun ls hl => ?_)
    refine lv_goto (tgt := 24) hx hb dX9_feed_118 (by decide) ?_
    refine lv_iload hx hb dX9_feed_24 (lv_at hl 0 rfl) ?_
    refine lv_bipush (v := 20) hx hb dX9_feed_26 (by decide) ?_
    refine lv_icmp_ge (tgt := 121) hx hb dX9_feed_28 (by decide) (fun h => absurd h (by decide)) (fun _ => ?_)
    refine lv_iload hx hb dX9_feed_31 (lv_at hl 0 rfl) ?_
    refine lv_iconst (v := 4) hx hb dX9_feed_33 (by decide) ?_
    refine lv_icmp_ge (tgt := 41) hx hb dX9_feed_34 (by decide) (fun h => absurd h (by decide)) (fun _ => ?_)
    refine lv_iload_n hx hb dX9_feed_37 rfl (lv_at hl 3 rfl) ?_
    refine lv_goto (tgt := 77) hx hb dX9_feed_38 (by decide) ?_
    refine lv_istore (lv' := [(7, .int x), (6, .int 2), (0, .ref h0), (1, .int x), (2, .int y), (3, .int z), (4, .int v), (5, .int w)]) hx hb dX9_feed_77 hl (by decide) rfl (fun ls hl => ?_)
    refine lv_aload_n hx hb dX9_feed_79 rfl (lv_at hl 2 rfl) ?_
    refine va_get (D := D) (ci := 9) (v := .ref (g 2)) (C := RX9) (T := TX9) (N := 37) hx hb htg gRX9 hown hK hP 0 rfl rfl 3 (by decide) (htg _ wi_1153) (fun _ h9 => h9) rfl dX9_feed_80 ?_
    refine lv_aload_n hx hb dX9_feed_83 rfl (lv_at hl 2 rfl) ?_
    refine va_get (D := D) (ci := 9) (v := .int z_10) (C := RX9) (T := TX9) (N := 37) hx hb htg gRX9 hown hK hP 0 rfl rfl 5 (by decide) (htg _ wi_1155) (fun _ h9 => h9) rfl dX9_feed_84 ?_
    refine lv_iload hx hb dX9_feed_87 (lv_at hl 0 rfl) ?_
    refine lv_bipush (v := 24) hx hb dX9_feed_89 (by decide) ?_
    refine lv_bipush (v := 8) hx hb dX9_feed_91 (by decide) ?_
    refine lv_iload hx hb dX9_feed_93 (lv_at hl 1 rfl) ?_
    refine lv_iconst (v := 4) hx hb dX9_feed_95 (by decide) ?_
    refine lv_irem hx hb dX9_feed_96 (by decide) ?_
    refine lv_is (y := 2) (by decide) ?_
    refine lv_imul hx hb dX9_feed_97 ?_
    refine lv_is (y := 16) (by decide) ?_
    refine lv_isub hx hb dX9_feed_98 ?_
    refine lv_is (y := 8) (by decide) ?_
    refine lv_ishr hx hb dX9_feed_99 ?_
    refine lv_topi (fun z_11 ez_11 => ?_)
    refine lv_sipush (v := 255) hx hb dX9_feed_100 (by decide) ?_
    refine lv_iand hx hb dX9_feed_103 ?_
    refine lv_topi (fun z_12 ez_12 => ?_)
    have iz_12 : 0 ≤ z_12.toInt ∧ z_12.toInt ≤ 255 := andI ez_12 (by decide) (by decide)
    refine va_iast hx hb hK hP hD hS 1 0 rfl rfl (vp_in_iff.mpr (by omega)) dX9_feed_104 (fun H locs hP hD hS => ?_)
    obtain ⟨f_13, ef_13, hP, hD⟩ : ∃ f_13 : Nat → Int32, f_13 = upd (f_9) (z_10 : Int32).toNatClampNeg z_12 ∧ PD D A [(sw_9 h0 g 0 z_10 b6 b7 b8 b9 b10 b11 b12 b13 b14 b17 b18 b19 b23 b24 b25 b26 b27 b29 b31 b32 b33), (sw_in cT (g 2) 900 f_13)] H := ⟨_, rfl, hP, hD⟩
    have hfd_3 : FD a2 b5.toInt 3 (fdW x y z v w) f_13 := FD_s 2 hfd_2 ef_13 (by omega) (by omega) (by rw [ez_12]; first | rfl | (rw [ez_11]; rfl))
    refine lv_aload_n hx hb dX9_feed_105 rfl (lv_at hl 2 rfl) ?_
    refine lv_dup hx hb dX9_feed_106 rfl ?_
    refine va_get (D := D) (ci := 9) (v := .int z_10) (C := RX9) (T := TX9) (N := 37) hx hb htg gRX9 hown hK hP 0 rfl rfl 5 (by decide) (htg _ wi_1155) (fun _ h9 => h9) rfl dX9_feed_107 ?_
    refine lv_iconst (v := 1) hx hb dX9_feed_110 (by decide) ?_
    refine lv_iadd hx hb dX9_feed_111 ?_
    refine lv_topi (fun z_14 ez_14 => ?_)
    have iz_14 : z_14.toInt = z_10.toInt + 1 := toInt_addI ez_14 (rfl) (by decide) (by omega)
    refine va_put (D := D) (ci := 9) (v := .int z_14) (ty := .int) (C := RX9) (T := TX9) (N := 37) hx hb htg gRX9 tyX9 tyX9_ok nmX9 hown hK hP hD hS 0 rfl rfl 5 (by decide) (htg _ wi_1155) (fun _ h9 => h9) rfl (by decide +kernel) rfl rfl (Nat.le_of_ble_eq_true rfl) dX9_feed_112 (fun H locs hP hD hS => ?_)
    obtain ⟨hP, hD⟩ : PD D A [(sw_9 h0 g 0 z_14 b6 b7 b8 b9 b10 b11 b12 b13 b14 b17 b18 b19 b23 b24 b25 b26 b27 b29 b31 b32 b33), (sw_in cT (g 2) 900 f_13)] _ := ⟨hP, hD⟩
    refine lv_iinc (v := 3) (lv' := [(6, .int 3), (7, .int x), (0, .ref h0), (1, .int x), (2, .int y), (3, .int z), (4, .int v), (5, .int w)]) hx hb dX9_feed_115 hl (k := 1) rfl (by decide) (by decide) rfl (fun ls hl => ?_)
    refine lv_goto (tgt := 24) hx hb dX9_feed_118 (by decide) ?_
    refine lv_iload hx hb dX9_feed_24 (lv_at hl 0 rfl) ?_
    refine lv_bipush (v := 20) hx hb dX9_feed_26 (by decide) ?_
    refine lv_icmp_ge (tgt := 121) hx hb dX9_feed_28 (by decide) (fun h => absurd h (by decide)) (fun _ => ?_)
    refine lv_iload hx hb dX9_feed_31 (lv_at hl 0 rfl) ?_
    refine lv_iconst (v := 4) hx hb dX9_feed_33 (by decide) ?_
    refine lv_icmp_ge (tgt := 41) hx hb dX9_feed_34 (by decide) (fun h => absurd h (by decide)) (fun _ => ?_)
    refine lv_iload_n hx hb dX9_feed_37 rfl (lv_at hl 3 rfl) ?_
    refine lv_goto (tgt := 77) hx hb dX9_feed_38 (by decide) ?_
    refine lv_istore (lv' := [(7, .int x), (6, .int 3), (0, .ref h0), (1, .int x), (2, .int y), (3, .int z), (4, .int v), (5, .int w)]) hx hb dX9_feed_77 hl (by decide) rfl (fun ls hl => ?_)
    refine lv_aload_n hx hb dX9_feed_79 rfl (lv_at hl 2 rfl) ?_
    refine va_get (D := D) (ci := 9) (v := .ref (g 2)) (C := RX9) (T := TX9) (N := 37) hx hb htg gRX9 hown hK hP 0 rfl rfl 3 (by decide) (htg _ wi_1153) (fun _ h9 => h9) rfl dX9_feed_80 ?_
    refine lv_aload_n hx hb dX9_feed_83 rfl (lv_at hl 2 rfl) ?_
    refine va_get (D := D) (ci := 9) (v := .int z_14) (C := RX9) (T := TX9) (N := 37) hx hb htg gRX9 hown hK hP 0 rfl rfl 5 (by decide) (htg _ wi_1155) (fun _ h9 => h9) rfl dX9_feed_84 ?_
    refine lv_iload hx hb dX9_feed_87 (lv_at hl 0 rfl) ?_
    refine lv_bipush (v := 24) hx hb dX9_feed_89 (by decide) ?_
    refine lv_bipush (v := 8) hx hb dX9_feed_91 (by decide) ?_
    refine lv_iload hx hb dX9_feed_93 (lv_at hl 1 rfl) ?_
    refine lv_iconst (v := 4) hx hb dX9_feed_95 (by decide) ?_
    refine lv_irem hx hb dX9_feed_96 (by decide) ?_
    refine lv_is (y := 3) (by decide) ?_
    refine lv_imul hx hb dX9_feed_97 ?_
    refine lv_is (y := 24) (by decide) ?_
    refine lv_isub hx hb dX9_feed_98 ?_
    refine lv_is (y := 0) (by decide) ?_
    refine lv_ishr hx hb dX9_feed_99 ?_
    refine lv_topi (fun z_15 ez_15 => ?_)
    refine lv_sipush (v := 255) hx hb dX9_feed_100 (by decide) ?_
    refine lv_iand hx hb dX9_feed_103 ?_
    refine lv_topi (fun z_16 ez_16 => ?_)
    have iz_16 : 0 ≤ z_16.toInt ∧ z_16.toInt ≤ 255 := andI ez_16 (by decide) (by decide)
    refine va_iast hx hb hK hP hD hS 1 0 rfl rfl (vp_in_iff.mpr (by omega)) dX9_feed_104 (fun H locs hP hD hS => ?_)
    obtain ⟨f_17, ef_17, hP, hD⟩ : ∃ f_17 : Nat → Int32, f_17 = upd (f_13) (z_14 : Int32).toNatClampNeg z_16 ∧ PD D A [(sw_9 h0 g 0 z_14 b6 b7 b8 b9 b10 b11 b12 b13 b14 b17 b18 b19 b23 b24 b25 b26 b27 b29 b31 b32 b33), (sw_in cT (g 2) 900 f_17)] H := ⟨_, rfl, hP, hD⟩
    have hfd_4 : FD a2 b5.toInt 4 (fdW x y z v w) f_17 := FD_s 3 hfd_3 ef_17 (by omega) (by omega) (by rw [ez_16]; first | rfl | (rw [ez_15]; rfl))
    refine lv_aload_n hx hb dX9_feed_105 rfl (lv_at hl 2 rfl) ?_
    refine lv_dup hx hb dX9_feed_106 rfl ?_
    refine va_get (D := D) (ci := 9) (v := .int z_14) (C := RX9) (T := TX9) (N := 37) hx hb htg gRX9 hown hK hP 0 rfl rfl 5 (by decide) (htg _ wi_1155) (fun _ h9 => h9) rfl dX9_feed_107 ?_
    refine lv_iconst (v := 1) hx hb dX9_feed_110 (by decide) ?_
    refine lv_iadd hx hb dX9_feed_111 ?_
    refine lv_topi (fun z_18 ez_18 => ?_)
    have iz_18 : z_18.toInt = z_14.toInt + 1 := toInt_addI ez_18 (rfl) (by decide) (by omega)
    refine va_put (D := D) (ci := 9) (v := .int z_18) (ty := .int) (C := RX9) (T := TX9) (N := 37) hx hb htg gRX9 tyX9 tyX9_ok nmX9 hown hK hP hD hS 0 rfl rfl 5 (by decide) (htg _ wi_1155) (fun _ h9 => h9) rfl (by decide +kernel) rfl rfl (Nat.le_of_ble_eq_true rfl) dX9_feed_112 (fun H locs hP hD hS => ?_)
    obtain ⟨hP, hD⟩ : PD D A [(sw_9 h0 g 0 z_18 b6 b7 b8 b9 b10 b11 b12 b13 b14 b17 b18 b19 b23 b24 b25 b26 b27 b29 b31 b32 b33), (sw_in cT (g 2) 900 f_17)] _ := ⟨hP, hD⟩
    refine lv_iinc (v := 4) (lv' := [(6, .int 4), (7, .int x), (0, .ref h0), (1, .int x), (2, .int y), (3, .int z), (4, .int v), (5, .int w)]) hx hb dX9_feed_115 hl (k := 1) rfl (by decide) (by decide) rfl (fun ls hl => ?_)
    refine lv_goto (tgt := 24) hx hb dX9_feed_118 (by decide) ?_
    refine lv_iload hx hb dX9_feed_24 (lv_at hl 0 rfl) ?_
    refine lv_bipush (v := 20) hx hb dX9_feed_26 (by decide) ?_
    refine lv_icmp_ge (tgt := 121) hx hb dX9_feed_28 (by decide) (fun h => absurd h (by decide)) (fun _ => ?_)
    refine lv_iload hx hb dX9_feed_31 (lv_at hl 0 rfl) ?_
    refine lv_iconst (v := 4) hx hb dX9_feed_33 (by decide) ?_
    refine lv_icmp_ge (tgt := 41) hx hb dX9_feed_34 (by decide) (fun _ => ?_) (fun h => absurd (by decide) h)
    refine lv_iload hx hb dX9_feed_41 (lv_at hl 0 rfl) ?_
    refine lv_bipush (v := 8) hx hb dX9_feed_43 (by decide) ?_
    refine lv_icmp_ge (tgt := 52) hx hb dX9_feed_45 (by decide) (fun h => absurd h (by decide)) (fun _ => ?_)
    refine lv_iload_n hx hb dX9_feed_48 rfl (lv_at hl 4 rfl) ?_
    refine lv_goto (tgt := 77) hx hb dX9_feed_49 (by decide) ?_
    refine lv_istore (lv' := [(7, .int y), (6, .int 4), (0, .ref h0), (1, .int x), (2, .int y), (3, .int z), (4, .int v), (5, .int w)]) hx hb dX9_feed_77 hl (by decide) rfl (fun ls hl => ?_)
    refine lv_aload_n hx hb dX9_feed_79 rfl (lv_at hl 2 rfl) ?_
    refine va_get (D := D) (ci := 9) (v := .ref (g 2)) (C := RX9) (T := TX9) (N := 37) hx hb htg gRX9 hown hK hP 0 rfl rfl 3 (by decide) (htg _ wi_1153) (fun _ h9 => h9) rfl dX9_feed_80 ?_
    refine lv_aload_n hx hb dX9_feed_83 rfl (lv_at hl 2 rfl) ?_
    refine va_get (D := D) (ci := 9) (v := .int z_18) (C := RX9) (T := TX9) (N := 37) hx hb htg gRX9 hown hK hP 0 rfl rfl 5 (by decide) (htg _ wi_1155) (fun _ h9 => h9) rfl dX9_feed_84 ?_
    refine lv_iload hx hb dX9_feed_87 (lv_at hl 0 rfl) ?_
    refine lv_bipush (v := 24) hx hb dX9_feed_89 (by decide) ?_
    refine lv_bipush (v := 8) hx hb dX9_feed_91 (by decide) ?_
    refine lv_iload hx hb dX9_feed_93 (lv_at hl 1 rfl) ?_
    refine lv_iconst (v := 4) hx hb dX9_feed_95 (by decide) ?_
    refine lv_irem hx hb dX9_feed_96 (by decide) ?_
    refine lv_is (y := 0) (by decide) ?_
    refine lv_imul hx hb dX9_feed_97 ?_
    refine lv_is (y := 0) (by decide) ?_
    refine lv_isub hx hb dX9_feed_98 ?_
    refine lv_is (y := 24) (by decide) ?_
    refine lv_ishr hx hb dX9_feed_99 ?_
    refine lv_topi (fun z_19 ez_19 => ?_)
    refine lv_sipush (v := 255) hx hb dX9_feed_100 (by decide) ?_
    refine lv_iand hx hb dX9_feed_103 ?_
    refine lv_topi (fun z_20 ez_20 => ?_)
    have iz_20 : 0 ≤ z_20.toInt ∧ z_20.toInt ≤ 255 := andI ez_20 (by decide) (by decide)
    refine va_iast hx hb hK hP hD hS 1 0 rfl rfl (vp_in_iff.mpr (by omega)) dX9_feed_104 (fun H locs hP hD hS => ?_)
    obtain ⟨f_21, ef_21, hP, hD⟩ : ∃ f_21 : Nat → Int32, f_21 = upd (f_17) (z_18 : Int32).toNatClampNeg z_20 ∧ PD D A [(sw_9 h0 g 0 z_18 b6 b7 b8 b9 b10 b11 b12 b13 b14 b17 b18 b19 b23 b24 b25 b26 b27 b29 b31 b32 b33), (sw_in cT (g 2) 900 f_21)] H := ⟨_, rfl, hP, hD⟩
    have hfd_5 : FD a2 b5.toInt 5 (fdW x y z v w) f_21 := FD_s 4 hfd_4 ef_21 (by omega) (by omega) (by rw [ez_20]; first | rfl | (rw [ez_19]; rfl))
    refine lv_aload_n hx hb dX9_feed_105 rfl (lv_at hl 2 rfl) ?_
    refine lv_dup hx hb dX9_feed_106 rfl ?_
    refine va_get (D := D) (ci := 9) (v := .int z_18) (C := RX9) (T := TX9) (N := 37) hx hb htg gRX9 hown hK hP 0 rfl rfl 5 (by decide) (htg _ wi_1155) (fun _ h9 => h9) rfl dX9_feed_107 ?_
    refine lv_iconst (v := 1) hx hb dX9_feed_110 (by decide) ?_
    refine lv_iadd hx hb dX9_feed_111 ?_
    refine lv_topi (fun z_22 ez_22 => ?_)
    have iz_22 : z_22.toInt = z_18.toInt + 1 := toInt_addI ez_22 (rfl) (by decide) (by omega)
    refine va_put (D := D) (ci := 9) (v := .int z_22) (ty := .int) (C := RX9) (T := TX9) (N := 37) hx hb htg gRX9 tyX9 tyX9_ok nmX9 hown hK hP hD hS 0 rfl rfl 5 (by decide) (htg _ wi_1155) (fun _ h9 => h9) rfl (by decide +kernel) rfl rfl (Nat.le_of_ble_eq_true rfl) dX9_feed_112 (fun H locs hP hD hS => ?_)
    obtain ⟨hP, hD⟩ : PD D A [(sw_9 h0 g 0 z_22 b6 b7 b8 b9 b10 b11 b12 b13 b14 b17 b18 b19 b23 b24 b25 b26 b27 b29 b31 b32 b33), (sw_in cT (g 2) 900 f_21)] _ := ⟨hP, hD⟩
    refine lv_iinc (v := 5) (lv' := [(6, .int 5), (7, .int y), (0, .ref h0), (1, .int x), (2, .int y), (3, .int z), (4, .int v), (5, .int w)]) hx hb dX9_feed_115 hl (k := 1) rfl (by decide) (by decide) rfl (fun ls hl => ?_)
    refine lv_goto (tgt := 24) hx hb dX9_feed_118 (by decide) ?_
    refine lv_iload hx hb dX9_feed_24 (lv_at hl 0 rfl) ?_
    refine lv_bipush (v := 20) hx hb dX9_feed_26 (by decide) ?_
    refine lv_icmp_ge (tgt := 121) hx hb dX9_feed_28 (by decide) (fun h => absurd h (by decide)) (fun _ => ?_)
    refine lv_iload hx hb dX9_feed_31 (lv_at hl 0 rfl) ?_
    refine lv_iconst (v := 4) hx hb dX9_feed_33 (by decide) ?_
    refine lv_icmp_ge (tgt := 41) hx hb dX9_feed_34 (by decide) (fun _ => ?_) (fun h => absurd (by decide) h)
    refine lv_iload hx hb dX9_feed_41 (lv_at hl 0 rfl) ?_
    refine lv_bipush (v := 8) hx hb dX9_feed_43 (by decide) ?_
    refine lv_icmp_ge (tgt := 52) hx hb dX9_feed_45 (by decide) (fun h => absurd h (by decide)) (fun _ => ?_)
    refine lv_iload_n hx hb dX9_feed_48 rfl (lv_at hl 4 rfl) ?_
    refine lv_goto (tgt := 77) hx hb dX9_feed_49 (by decide) ?_
    refine lv_istore (lv' := [(7, .int y), (6, .int 5), (0, .ref h0), (1, .int x), (2, .int y), (3, .int z), (4, .int v), (5, .int w)]) hx hb dX9_feed_77 hl (by decide) rfl (fun ls hl => ?_)
    refine lv_aload_n hx hb dX9_feed_79 rfl (lv_at hl 2 rfl) ?_
    refine va_get (D := D) (ci := 9) (v := .ref (g 2)) (C := RX9) (T := TX9) (N := 37) hx hb htg gRX9 hown hK hP 0 rfl rfl 3 (by decide) (htg _ wi_1153) (fun _ h9 => h9) rfl dX9_feed_80 ?_
    refine lv_aload_n hx hb dX9_feed_83 rfl (lv_at hl 2 rfl) ?_
    refine va_get (D := D) (ci := 9) (v := .int z_22) (C := RX9) (T := TX9) (N := 37) hx hb htg gRX9 hown hK hP 0 rfl rfl 5 (by decide) (htg _ wi_1155) (fun _ h9 => h9) rfl dX9_feed_84 ?_
    refine lv_iload hx hb dX9_feed_87 (lv_at hl 0 rfl) ?_
    refine lv_bipush (v := 24) hx hb dX9_feed_89 (by decide) ?_
    refine lv_bipush (v := 8) hx hb dX9_feed_91 (by decide) ?_
    refine lv_iload hx hb dX9_feed_93 (lv_at hl 1 rfl) ?_
    refine lv_iconst (v := 4) hx hb dX9_feed_95 (by decide) ?_
    refine lv_irem hx hb dX9_feed_96 (by decide) ?_
    refine lv_is (y := 1) (by decide) ?_
    refine lv_imul hx hb dX9_feed_97 ?_
    refine lv_is (y := 8) (by decide) ?_
    refine lv_isub hx hb dX9_feed_98 ?_
    refine lv_is (y := 16) (by decide) ?_
    refine lv_ishr hx hb dX9_feed_99 ?_
    refine lv_topi (fun z_23 ez_23 => ?_)
    refine lv_sipush (v := 255) hx hb dX9_feed_100 (by decide) ?_
    refine lv_iand hx hb dX9_feed_103 ?_
    refine lv_topi (fun z_24 ez_24 => ?_)
    have iz_24 : 0 ≤ z_24.toInt ∧ z_24.toInt ≤ 255 := andI ez_24 (by decide) (by decide)
    refine va_iast hx hb hK hP hD hS 1 0 rfl rfl (vp_in_iff.mpr (by omega)) dX9_feed_104 (fun H locs hP hD hS => ?_)
    obtain ⟨f_25, ef_25, hP, hD⟩ : ∃ f_25 : Nat → Int32, f_25 = upd (f_21) (z_22 : Int32).toNatClampNeg z_24 ∧ PD D A [(sw_9 h0 g 0 z_22 b6 b7 b8 b9 b10 b11 b12 b13 b14 b17 b18 b19 b23 b24 b25 b26 b27 b29 b31 b32 b33), (sw_in cT (g 2) 900 f_25)] H := ⟨_, rfl, hP, hD⟩
    have hfd_6 : FD a2 b5.toInt 6 (fdW x y z v w) f_25 := FD_s 5 hfd_5 ef_25 (by omega) (by omega) (by rw [ez_24]; first | rfl | (rw [ez_23]; rfl))
    refine lv_aload_n hx hb dX9_feed_105 rfl (lv_at hl 2 rfl) ?_
    refine lv_dup hx hb dX9_feed_106 rfl ?_
    refine va_get (D := D) (ci := 9) (v := .int z_22) (C := RX9) (T := TX9) (N := 37) hx hb htg gRX9 hown hK hP 0 rfl rfl 5 (by decide) (htg _ wi_1155) (fun _ h9 => h9) rfl dX9_feed_107 ?_
    refine lv_iconst (v := 1) hx hb dX9_feed_110 (by decide) ?_
    refine lv_iadd hx hb dX9_feed_111 ?_
    refine lv_topi (fun z_26 ez_26 => ?_)
    have iz_26 : z_26.toInt = z_22.toInt + 1 := toInt_addI ez_26 (rfl) (by decide) (by omega)
    refine va_put (D := D) (ci := 9) (v := .int z_26) (ty := .int) (C := RX9) (T := TX9) (N := 37) hx hb htg gRX9 tyX9 tyX9_ok nmX9 hown hK hP hD hS 0 rfl rfl 5 (by decide) (htg _ wi_1155) (fun _ h9 => h9) rfl (by decide +kernel) rfl rfl (Nat.le_of_ble_eq_true rfl) dX9_feed_112 (fun H locs hP hD hS => ?_)
    obtain ⟨hP, hD⟩ : PD D A [(sw_9 h0 g 0 z_26 b6 b7 b8 b9 b10 b11 b12 b13 b14 b17 b18 b19 b23 b24 b25 b26 b27 b29 b31 b32 b33), (sw_in cT (g 2) 900 f_25)] _ := ⟨hP, hD⟩
    refine lv_iinc (v := 6) (lv' := [(6, .int 6), (7, .int y), (0, .ref h0), (1, .int x), (2, .int y), (3, .int z), (4, .int v), (5, .int w)]) hx hb dX9_feed_115 hl (k := 1) rfl (by decide) (by decide) rfl (fun ls hl => ?_)
    refine lv_goto (tgt := 24) hx hb dX9_feed_118 (by decide) ?_
    refine lv_iload hx hb dX9_feed_24 (lv_at hl 0 rfl) ?_
    refine lv_bipush (v := 20) hx hb dX9_feed_26 (by decide) ?_
    refine lv_icmp_ge (tgt := 121) hx hb dX9_feed_28 (by decide) (fun h => absurd h (by decide)) (fun _ => ?_)
    refine lv_iload hx hb dX9_feed_31 (lv_at hl 0 rfl) ?_
    refine lv_iconst (v := 4) hx hb dX9_feed_33 (by decide) ?_
    refine lv_icmp_ge (tgt := 41) hx hb dX9_feed_34 (by decide) (fun _ => ?_) (fun h => absurd (by decide) h)
    refine lv_iload hx hb dX9_feed_41 (lv_at hl 0 rfl) ?_
    refine lv_bipush (v := 8) hx hb dX9_feed_43 (by decide) ?_
    refine lv_icmp_ge (tgt := 52) hx hb dX9_feed_45 (by decide) (fun h => absurd h (by decide)) (fun _ => ?_)
    refine lv_iload_n hx hb dX9_feed_48 rfl (lv_at hl 4 rfl) ?_
    refine lv_goto (tgt := 77) hx hb dX9_feed_49 (by decide) ?_
    refine lv_istore (lv' := [(7, .int y), (6, .int 6), (0, .ref h0), (1, .int x), (2, .int y), (3, .int z), (4, .int v), (5, .int w)]) hx hb dX9_feed_77 hl (by decide) rfl (fun ls hl => ?_)
    refine lv_aload_n hx hb dX9_feed_79 rfl (lv_at hl 2 rfl) ?_
    refine va_get (D := D) (ci := 9) (v := .ref (g 2)) (C := RX9) (T := TX9) (N := 37) hx hb htg gRX9 hown hK hP 0 rfl rfl 3 (by decide) (htg _ wi_1153) (fun _ h9 => h9) rfl dX9_feed_80 ?_
    refine lv_aload_n hx hb dX9_feed_83 rfl (lv_at hl 2 rfl) ?_
    refine va_get (D := D) (ci := 9) (v := .int z_26) (C := RX9) (T := TX9) (N := 37) hx hb htg gRX9 hown hK hP 0 rfl rfl 5 (by decide) (htg _ wi_1155) (fun _ h9 => h9) rfl dX9_feed_84 ?_
    refine lv_iload hx hb dX9_feed_87 (lv_at hl 0 rfl) ?_
    refine lv_bipush (v := 24) hx hb dX9_feed_89 (by decide) ?_
    refine lv_bipush (v := 8) hx hb dX9_feed_91 (by decide) ?_
    refine lv_iload hx hb dX9_feed_93 (lv_at hl 1 rfl) ?_
    refine lv_iconst (v := 4) hx hb dX9_feed_95 (by decide) ?_
    refine lv_irem hx hb dX9_feed_96 (by decide) ?_
    refine lv_is (y := 2) (by decide) ?_
    refine lv_imul hx hb dX9_feed_97 ?_
    refine lv_is (y := 16) (by decide) ?_
    refine lv_isub hx hb dX9_feed_98 ?_
    refine lv_is (y := 8) (by decide) ?_
    refine lv_ishr hx hb dX9_feed_99 ?_
    refine lv_topi (fun z_27 ez_27 => ?_)
    refine lv_sipush (v := 255) hx hb dX9_feed_100 (by decide) ?_
    refine lv_iand hx hb dX9_feed_103 ?_
    refine lv_topi (fun z_28 ez_28 => ?_)
    have iz_28 : 0 ≤ z_28.toInt ∧ z_28.toInt ≤ 255 := andI ez_28 (by decide) (by decide)
    refine va_iast hx hb hK hP hD hS 1 0 rfl rfl (vp_in_iff.mpr (by omega)) dX9_feed_104 (fun H locs hP hD hS => ?_)
    obtain ⟨f_29, ef_29, hP, hD⟩ : ∃ f_29 : Nat → Int32, f_29 = upd (f_25) (z_26 : Int32).toNatClampNeg z_28 ∧ PD D A [(sw_9 h0 g 0 z_26 b6 b7 b8 b9 b10 b11 b12 b13 b14 b17 b18 b19 b23 b24 b25 b26 b27 b29 b31 b32 b33), (sw_in cT (g 2) 900 f_29)] H := ⟨_, rfl, hP, hD⟩
    have hfd_7 : FD a2 b5.toInt 7 (fdW x y z v w) f_29 := FD_s 6 hfd_6 ef_29 (by omega) (by omega) (by rw [ez_28]; first | rfl | (rw [ez_27]; rfl))
    refine lv_aload_n hx hb dX9_feed_105 rfl (lv_at hl 2 rfl) ?_
    refine lv_dup hx hb dX9_feed_106 rfl ?_
    refine va_get (D := D) (ci := 9) (v := .int z_26) (C := RX9) (T := TX9) (N := 37) hx hb htg gRX9 hown hK hP 0 rfl rfl 5 (by decide) (htg _ wi_1155) (fun _ h9 => h9) rfl dX9_feed_107 ?_
    refine lv_iconst (v := 1) hx hb dX9_feed_110 (by decide) ?_
    refine lv_iadd hx hb dX9_feed_111 ?_
    refine lv_topi (fun z_30 ez_30 => ?_)
    have iz_30 : z_30.toInt = z_26.toInt + 1 := toInt_addI ez_30 (rfl) (by decide) (by omega)
    refine va_put (D := D) (ci := 9) (v := .int z_30) (ty := .int) (C := RX9) (T := TX9) (N := 37) hx hb htg gRX9 tyX9 tyX9_ok nmX9 hown hK hP hD hS 0 rfl rfl 5 (by decide) (htg _ wi_1155) (fun _ h9 => h9) rfl (by decide +kernel) rfl rfl (Nat.le_of_ble_eq_true rfl) dX9_feed_112 (fun H locs hP hD hS => ?_)
    obtain ⟨hP, hD⟩ : PD D A [(sw_9 h0 g 0 z_30 b6 b7 b8 b9 b10 b11 b12 b13 b14 b17 b18 b19 b23 b24 b25 b26 b27 b29 b31 b32 b33), (sw_in cT (g 2) 900 f_29)] _ := ⟨hP, hD⟩
    refine lv_iinc (v := 7) (lv' := [(6, .int 7), (7, .int y), (0, .ref h0), (1, .int x), (2, .int y), (3, .int z), (4, .int v), (5, .int w)]) hx hb dX9_feed_115 hl (k := 1) rfl (by decide) (by decide) rfl (fun ls hl => ?_)
    refine lv_goto (tgt := 24) hx hb dX9_feed_118 (by decide) ?_
    refine lv_iload hx hb dX9_feed_24 (lv_at hl 0 rfl) ?_
    refine lv_bipush (v := 20) hx hb dX9_feed_26 (by decide) ?_
    refine lv_icmp_ge (tgt := 121) hx hb dX9_feed_28 (by decide) (fun h => absurd h (by decide)) (fun _ => ?_)
    refine lv_iload hx hb dX9_feed_31 (lv_at hl 0 rfl) ?_
    refine lv_iconst (v := 4) hx hb dX9_feed_33 (by decide) ?_
    refine lv_icmp_ge (tgt := 41) hx hb dX9_feed_34 (by decide) (fun _ => ?_) (fun h => absurd (by decide) h)
    refine lv_iload hx hb dX9_feed_41 (lv_at hl 0 rfl) ?_
    refine lv_bipush (v := 8) hx hb dX9_feed_43 (by decide) ?_
    refine lv_icmp_ge (tgt := 52) hx hb dX9_feed_45 (by decide) (fun h => absurd h (by decide)) (fun _ => ?_)
    refine lv_iload_n hx hb dX9_feed_48 rfl (lv_at hl 4 rfl) ?_
    refine lv_goto (tgt := 77) hx hb dX9_feed_49 (by decide) ?_
    refine lv_istore (lv' := [(7, .int y), (6, .int 7), (0, .ref h0), (1, .int x), (2, .int y), (3, .int z), (4, .int v), (5, .int w)]) hx hb dX9_feed_77 hl (by decide) rfl (fun ls hl => ?_)
    refine lv_aload_n hx hb dX9_feed_79 rfl (lv_at hl 2 rfl) ?_
    refine va_get (D := D) (ci := 9) (v := .ref (g 2)) (C := RX9) (T := TX9) (N := 37) hx hb htg gRX9 hown hK hP 0 rfl rfl 3 (by decide) (htg _ wi_1153) (fun _ h9 => h9) rfl dX9_feed_80 ?_
    refine lv_aload_n hx hb dX9_feed_83 rfl (lv_at hl 2 rfl) ?_
    refine va_get (D := D) (ci := 9) (v := .int z_30) (C := RX9) (T := TX9) (N := 37) hx hb htg gRX9 hown hK hP 0 rfl rfl 5 (by decide) (htg _ wi_1155) (fun _ h9 => h9) rfl dX9_feed_84 ?_
    refine lv_iload hx hb dX9_feed_87 (lv_at hl 0 rfl) ?_
    refine lv_bipush (v := 24) hx hb dX9_feed_89 (by decide) ?_
    refine lv_bipush (v := 8) hx hb dX9_feed_91 (by decide) ?_
    refine lv_iload hx hb dX9_feed_93 (lv_at hl 1 rfl) ?_
    refine lv_iconst (v := 4) hx hb dX9_feed_95 (by decide) ?_
    refine lv_irem hx hb dX9_feed_96 (by decide) ?_
    refine lv_is (y := 3) (by decide) ?_
    refine lv_imul hx hb dX9_feed_97 ?_
    refine lv_is (y := 24) (by decide) ?_
    refine lv_isub hx hb dX9_feed_98 ?_
    refine lv_is (y := 0) (by decide) ?_
    refine lv_ishr hx hb dX9_feed_99 ?_
    refine lv_topi (fun z_31 ez_31 => ?_)
    refine lv_sipush (v := 255) hx hb dX9_feed_100 (by decide) ?_
    refine lv_iand hx hb dX9_feed_103 ?_
    refine lv_topi (fun z_32 ez_32 => ?_)
    have iz_32 : 0 ≤ z_32.toInt ∧ z_32.toInt ≤ 255 := andI ez_32 (by decide) (by decide)
    refine va_iast hx hb hK hP hD hS 1 0 rfl rfl (vp_in_iff.mpr (by omega)) dX9_feed_104 (fun H locs hP hD hS => ?_)
    obtain ⟨f_33, ef_33, hP, hD⟩ : ∃ f_33 : Nat → Int32, f_33 = upd (f_29) (z_30 : Int32).toNatClampNeg z_32 ∧ PD D A [(sw_9 h0 g 0 z_30 b6 b7 b8 b9 b10 b11 b12 b13 b14 b17 b18 b19 b23 b24 b25 b26 b27 b29 b31 b32 b33), (sw_in cT (g 2) 900 f_33)] H := ⟨_, rfl, hP, hD⟩
    have hfd_8 : FD a2 b5.toInt 8 (fdW x y z v w) f_33 := FD_s 7 hfd_7 ef_33 (by omega) (by omega) (by rw [ez_32]; first | rfl | (rw [ez_31]; rfl))
    refine lv_aload_n hx hb dX9_feed_105 rfl (lv_at hl 2 rfl) ?_
    refine lv_dup hx hb dX9_feed_106 rfl ?_
    refine va_get (D := D) (ci := 9) (v := .int z_30) (C := RX9) (T := TX9) (N := 37) hx hb htg gRX9 hown hK hP 0 rfl rfl 5 (by decide) (htg _ wi_1155) (fun _ h9 => h9) rfl dX9_feed_107 ?_
    refine lv_iconst (v := 1) hx hb dX9_feed_110 (by decide) ?_
    refine lv_iadd hx hb dX9_feed_111 ?_
    refine lv_topi (fun z_34 ez_34 => ?_)
    have iz_34 : z_34.toInt = z_30.toInt + 1 := toInt_addI ez_34 (rfl) (by decide) (by omega)
    refine va_put (D := D) (ci := 9) (v := .int z_34) (ty := .int) (C := RX9) (T := TX9) (N := 37) hx hb htg gRX9 tyX9 tyX9_ok nmX9 hown hK hP hD hS 0 rfl rfl 5 (by decide) (htg _ wi_1155) (fun _ h9 => h9) rfl (by decide +kernel) rfl rfl (Nat.le_of_ble_eq_true rfl) dX9_feed_112 (fun H locs hP hD hS => ?_)
    obtain ⟨hP, hD⟩ : PD D A [(sw_9 h0 g 0 z_34 b6 b7 b8 b9 b10 b11 b12 b13 b14 b17 b18 b19 b23 b24 b25 b26 b27 b29 b31 b32 b33), (sw_in cT (g 2) 900 f_33)] _ := ⟨hP, hD⟩
    refine lv_iinc (v := 8) (lv' := [(6, .int 8), (7, .int y), (0, .ref h0), (1, .int x), (2, .int y), (3, .int z), (4, .int v), (5, .int w)]) hx hb dX9_feed_115 hl (k := 1) rfl (by decide) (by decide) rfl (fun ls hl => ?_)
    refine lv_goto (tgt := 24) hx hb dX9_feed_118 (by decide) ?_
    refine lv_iload hx hb dX9_feed_24 (lv_at hl 0 rfl) ?_
    refine lv_bipush (v := 20) hx hb dX9_feed_26 (by decide) ?_
    refine lv_icmp_ge (tgt := 121) hx hb dX9_feed_28 (by decide) (fun h => absurd h (by decide)) (fun _ => ?_)
    refine lv_iload hx hb dX9_feed_31 (lv_at hl 0 rfl) ?_
    refine lv_iconst (v := 4) hx hb dX9_feed_33 (by decide) ?_
    refine lv_icmp_ge (tgt := 41) hx hb dX9_feed_34 (by decide) (fun _ => ?_) (fun h => absurd (by decide) h)
    refine lv_iload hx hb dX9_feed_41 (lv_at hl 0 rfl) ?_
    refine lv_bipush (v := 8) hx hb dX9_feed_43 (by decide) ?_
    refine lv_icmp_ge (tgt := 52) hx hb dX9_feed_45 (by decide) (fun _ => ?_) (fun h => absurd (by decide) h)
    refine lv_iload hx hb dX9_feed_52 (lv_at hl 0 rfl) ?_
    refine lv_bipush (v := 12) hx hb dX9_feed_54 (by decide) ?_
    refine lv_icmp_ge (tgt := 63) hx hb dX9_feed_56 (by decide) (fun h => absurd h (by decide)) (fun _ => ?_)
    refine lv_iload_n hx hb dX9_feed_59 rfl (lv_at hl 5 rfl) ?_
    refine lv_goto (tgt := 77) hx hb dX9_feed_60 (by decide) ?_
    refine lv_istore (lv' := [(7, .int z), (6, .int 8), (0, .ref h0), (1, .int x), (2, .int y), (3, .int z), (4, .int v), (5, .int w)]) hx hb dX9_feed_77 hl (by decide) rfl (fun ls hl => ?_)
    refine lv_aload_n hx hb dX9_feed_79 rfl (lv_at hl 2 rfl) ?_
    refine va_get (D := D) (ci := 9) (v := .ref (g 2)) (C := RX9) (T := TX9) (N := 37) hx hb htg gRX9 hown hK hP 0 rfl rfl 3 (by decide) (htg _ wi_1153) (fun _ h9 => h9) rfl dX9_feed_80 ?_
    refine lv_aload_n hx hb dX9_feed_83 rfl (lv_at hl 2 rfl) ?_
    refine va_get (D := D) (ci := 9) (v := .int z_34) (C := RX9) (T := TX9) (N := 37) hx hb htg gRX9 hown hK hP 0 rfl rfl 5 (by decide) (htg _ wi_1155) (fun _ h9 => h9) rfl dX9_feed_84 ?_
    refine lv_iload hx hb dX9_feed_87 (lv_at hl 0 rfl) ?_
    refine lv_bipush (v := 24) hx hb dX9_feed_89 (by decide) ?_
    refine lv_bipush (v := 8) hx hb dX9_feed_91 (by decide) ?_
    refine lv_iload hx hb dX9_feed_93 (lv_at hl 1 rfl) ?_
    refine lv_iconst (v := 4) hx hb dX9_feed_95 (by decide) ?_
    refine lv_irem hx hb dX9_feed_96 (by decide) ?_
    refine lv_is (y := 0) (by decide) ?_
    refine lv_imul hx hb dX9_feed_97 ?_
    refine lv_is (y := 0) (by decide) ?_
    refine lv_isub hx hb dX9_feed_98 ?_
    refine lv_is (y := 24) (by decide) ?_
    refine lv_ishr hx hb dX9_feed_99 ?_
    refine lv_topi (fun z_35 ez_35 => ?_)
    refine lv_sipush (v := 255) hx hb dX9_feed_100 (by decide) ?_
    refine lv_iand hx hb dX9_feed_103 ?_
    refine lv_topi (fun z_36 ez_36 => ?_)
    have iz_36 : 0 ≤ z_36.toInt ∧ z_36.toInt ≤ 255 := andI ez_36 (by decide) (by decide)
    refine va_iast hx hb hK hP hD hS 1 0 rfl rfl (vp_in_iff.mpr (by omega)) dX9_feed_104 (fun H locs hP hD hS => ?_)
    obtain ⟨f_37, ef_37, hP, hD⟩ : ∃ f_37 : Nat → Int32, f_37 = upd (f_33) (z_34 : Int32).toNatClampNeg z_36 ∧ PD D A [(sw_9 h0 g 0 z_34 b6 b7 b8 b9 b10 b11 b12 b13 b14 b17 b18 b19 b23 b24 b25 b26 b27 b29 b31 b32 b33), (sw_in cT (g 2) 900 f_37)] H := ⟨_, rfl, hP, hD⟩
    have hfd_9 : FD a2 b5.toInt 9 (fdW x y z v w) f_37 := FD_s 8 hfd_8 ef_37 (by omega) (by omega) (by rw [ez_36]; first | rfl | (rw [ez_35]; rfl))
    refine lv_aload_n hx hb dX9_feed_105 rfl (lv_at hl 2 rfl) ?_
    refine lv_dup hx hb dX9_feed_106 rfl ?_
    refine va_get (D := D) (ci := 9) (v := .int z_34) (C := RX9) (T := TX9) (N := 37) hx hb htg gRX9 hown hK hP 0 rfl rfl 5 (by decide) (htg _ wi_1155) (fun _ h9 => h9) rfl dX9_feed_107 ?_
    refine lv_iconst (v := 1) hx hb dX9_feed_110 (by decide) ?_
    refine lv_iadd hx hb dX9_feed_111 ?_
    refine lv_topi (fun z_38 ez_38 => ?_)
    have iz_38 : z_38.toInt = z_34.toInt + 1 := toInt_addI ez_38 (rfl) (by decide) (by omega)
    refine va_put (D := D) (ci := 9) (v := .int z_38) (ty := .int) (C := RX9) (T := TX9) (N := 37) hx hb htg gRX9 tyX9 tyX9_ok nmX9 hown hK hP hD hS 0 rfl rfl 5 (by decide) (htg _ wi_1155) (fun _ h9 => h9) rfl (by decide +kernel) rfl rfl (Nat.le_of_ble_eq_true rfl) dX9_feed_112 (fun H locs hP hD hS => ?_)
    obtain ⟨hP, hD⟩ : PD D A [(sw_9 h0 g 0 z_38 b6 b7 b8 b9 b10 b11 b12 b13 b14 b17 b18 b19 b23 b24 b25 b26 b27 b29 b31 b32 b33), (sw_in cT (g 2) 900 f_37)] _ := ⟨hP, hD⟩
    refine lv_iinc (v := 9) (lv' := [(6, .int 9), (7, .int z), (0, .ref h0), (1, .int x), (2, .int y), (3, .int z), (4, .int v), (5, .int w)]) hx hb dX9_feed_115 hl (k := 1) rfl (by decide) (by decide) rfl (fun ls hl => ?_)
    refine lv_goto (tgt := 24) hx hb dX9_feed_118 (by decide) ?_
    refine lv_iload hx hb dX9_feed_24 (lv_at hl 0 rfl) ?_
    refine lv_bipush (v := 20) hx hb dX9_feed_26 (by decide) ?_
    refine lv_icmp_ge (tgt := 121) hx hb dX9_feed_28 (by decide) (fun h => absurd h (by decide)) (fun _ => ?_)
    refine lv_iload hx hb dX9_feed_31 (lv_at hl 0 rfl) ?_
    refine lv_iconst (v := 4) hx hb dX9_feed_33 (by decide) ?_
    refine lv_icmp_ge (tgt := 41) hx hb dX9_feed_34 (by decide) (fun _ => ?_) (fun h => absurd (by decide) h)
    refine lv_iload hx hb dX9_feed_41 (lv_at hl 0 rfl) ?_
    refine lv_bipush (v := 8) hx hb dX9_feed_43 (by decide) ?_
    refine lv_icmp_ge (tgt := 52) hx hb dX9_feed_45 (by decide) (fun _ => ?_) (fun h => absurd (by decide) h)
    refine lv_iload hx hb dX9_feed_52 (lv_at hl 0 rfl) ?_
    refine lv_bipush (v := 12) hx hb dX9_feed_54 (by decide) ?_
    refine lv_icmp_ge (tgt := 63) hx hb dX9_feed_56 (by decide) (fun h => absurd h (by decide)) (fun _ => ?_)
    refine lv_iload_n hx hb dX9_feed_59 rfl (lv_at hl 5 rfl) ?_
    refine lv_goto (tgt := 77) hx hb dX9_feed_60 (by decide) ?_
    refine lv_istore (lv' := [(7, .int z), (6, .int 9), (0, .ref h0), (1, .int x), (2, .int y), (3, .int z), (4, .int v), (5, .int w)]) hx hb dX9_feed_77 hl (by decide) rfl (fun ls hl => ?_)
    refine lv_aload_n hx hb dX9_feed_79 rfl (lv_at hl 2 rfl) ?_
    refine va_get (D := D) (ci := 9) (v := .ref (g 2)) (C := RX9) (T := TX9) (N := 37) hx hb htg gRX9 hown hK hP 0 rfl rfl 3 (by decide) (htg _ wi_1153) (fun _ h9 => h9) rfl dX9_feed_80 ?_
    refine lv_aload_n hx hb dX9_feed_83 rfl (lv_at hl 2 rfl) ?_
    refine va_get (D := D) (ci := 9) (v := .int z_38) (C := RX9) (T := TX9) (N := 37) hx hb htg gRX9 hown hK hP 0 rfl rfl 5 (by decide) (htg _ wi_1155) (fun _ h9 => h9) rfl dX9_feed_84 ?_
    refine lv_iload hx hb dX9_feed_87 (lv_at hl 0 rfl) ?_
    refine lv_bipush (v := 24) hx hb dX9_feed_89 (by decide) ?_
    refine lv_bipush (v := 8) hx hb dX9_feed_91 (by decide) ?_
    refine lv_iload hx hb dX9_feed_93 (lv_at hl 1 rfl) ?_
    refine lv_iconst (v := 4) hx hb dX9_feed_95 (by decide) ?_
    refine lv_irem hx hb dX9_feed_96 (by decide) ?_
    refine lv_is (y := 1) (by decide) ?_
    refine lv_imul hx hb dX9_feed_97 ?_
    refine lv_is (y := 8) (by decide) ?_
    refine lv_isub hx hb dX9_feed_98 ?_
    refine lv_is (y := 16) (by decide) ?_
    refine lv_ishr hx hb dX9_feed_99 ?_
    refine lv_topi (fun z_39 ez_39 => ?_)
    refine lv_sipush (v := 255) hx hb dX9_feed_100 (by decide) ?_
    refine lv_iand hx hb dX9_feed_103 ?_
    refine lv_topi (fun z_40 ez_40 => ?_)
    have iz_40 : 0 ≤ z_40.toInt ∧ z_40.toInt ≤ 255 := andI ez_40 (by decide) (by decide)
    refine va_iast hx hb hK hP hD hS 1 0 rfl rfl (vp_in_iff.mpr (by omega)) dX9_feed_104 (fun H locs hP hD hS => ?_)
    obtain ⟨f_41, ef_41, hP, hD⟩ : ∃ f_41 : Nat → Int32, f_41 = upd (f_37) (z_38 : Int32).toNatClampNeg z_40 ∧ PD D A [(sw_9 h0 g 0 z_38 b6 b7 b8 b9 b10 b11 b12 b13 b14 b17 b18 b19 b23 b24 b25 b26 b27 b29 b31 b32 b33), (sw_in cT (g 2) 900 f_41)] H := ⟨_, rfl, hP, hD⟩
    have hfd_10 : FD a2 b5.toInt 10 (fdW x y z v w) f_41 := FD_s 9 hfd_9 ef_41 (by omega) (by omega) (by rw [ez_40]; first | rfl | (rw [ez_39]; rfl))
    refine lv_aload_n hx hb dX9_feed_105 rfl (lv_at hl 2 rfl) ?_
    refine lv_dup hx hb dX9_feed_106 rfl ?_
    refine va_get (D := D) (ci := 9) (v := .int z_38) (C := RX9) (T := TX9) (N := 37) hx hb htg gRX9 hown hK hP 0 rfl rfl 5 (by decide) (htg _ wi_1155) (fun _ h9 => h9) rfl dX9_feed_107 ?_
    refine lv_iconst (v := 1) hx hb dX9_feed_110 (by decide) ?_
    refine lv_iadd hx hb dX9_feed_111 ?_
    refine lv_topi (fun z_42 ez_42 => ?_)
    have iz_42 : z_42.toInt = z_38.toInt + 1 := toInt_addI ez_42 (rfl) (by decide) (by omega)
    refine va_put (D := D) (ci := 9) (v := .int z_42) (ty := .int) (C := RX9) (T := TX9) (N := 37) hx hb htg gRX9 tyX9 tyX9_ok nmX9 hown hK hP hD hS 0 rfl rfl 5 (by decide) (htg _ wi_1155) (fun _ h9 => h9) rfl (by decide +kernel) rfl rfl (Nat.le_of_ble_eq_true rfl) dX9_feed_112 (fun H locs hP hD hS => ?_)
    obtain ⟨hP, hD⟩ : PD D A [(sw_9 h0 g 0 z_42 b6 b7 b8 b9 b10 b11 b12 b13 b14 b17 b18 b19 b23 b24 b25 b26 b27 b29 b31 b32 b33), (sw_in cT (g 2) 900 f_41)] _ := ⟨hP, hD⟩
    refine lv_iinc (v := 10) (lv' := [(6, .int 10), (7, .int z), (0, .ref h0), (1, .int x), (2, .int y), (3, .int z), (4, .int v), (5, .int w)]) hx hb dX9_feed_115 hl (k := 1) rfl (by decide) (by decide) rfl (fun ls hl => ?_)
    refine lv_goto (tgt := 24) hx hb dX9_feed_118 (by decide) ?_
    refine lv_iload hx hb dX9_feed_24 (lv_at hl 0 rfl) ?_
    refine lv_bipush (v := 20) hx hb dX9_feed_26 (by decide) ?_
    refine lv_icmp_ge (tgt := 121) hx hb dX9_feed_28 (by decide) (fun h => absurd h (by decide)) (fun _ => ?_)
    refine lv_iload hx hb dX9_feed_31 (lv_at hl 0 rfl) ?_
    refine lv_iconst (v := 4) hx hb dX9_feed_33 (by decide) ?_
    refine lv_icmp_ge (tgt := 41) hx hb dX9_feed_34 (by decide) (fun _ => ?_) (fun h => absurd (by decide) h)
    refine lv_iload hx hb dX9_feed_41 (lv_at hl 0 rfl) ?_
    refine lv_bipush (v := 8) hx hb dX9_feed_43 (by decide) ?_
    refine lv_icmp_ge (tgt := 52) hx hb dX9_feed_45 (by decide) (fun _ => ?_) (fun h => absurd (by decide) h)
    refine lv_iload hx hb dX9_feed_52 (lv_at hl 0 rfl) ?_
    refine lv_bipush (v := 12) hx hb dX9_feed_54 (by decide) ?_
    refine lv_icmp_ge (tgt := 63) hx hb dX9_feed_56 (by decide) (fun h => absurd h (by decide)) (fun _ => ?_)
    refine lv_iload_n hx hb dX9_feed_59 rfl (lv_at hl 5 rfl) ?_
    refine lv_goto (tgt := 77) hx hb dX9_feed_60 (by decide) ?_
    refine lv_istore (lv' := [(7, .int z), (6, .int 10), (0, .ref h0), (1, .int x), (2, .int y), (3, .int z), (4, .int v), (5, .int w)]) hx hb dX9_feed_77 hl (by decide) rfl (fun ls hl => ?_)
    refine lv_aload_n hx hb dX9_feed_79 rfl (lv_at hl 2 rfl) ?_
    refine va_get (D := D) (ci := 9) (v := .ref (g 2)) (C := RX9) (T := TX9) (N := 37) hx hb htg gRX9 hown hK hP 0 rfl rfl 3 (by decide) (htg _ wi_1153) (fun _ h9 => h9) rfl dX9_feed_80 ?_
    refine lv_aload_n hx hb dX9_feed_83 rfl (lv_at hl 2 rfl) ?_
    refine va_get (D := D) (ci := 9) (v := .int z_42) (C := RX9) (T := TX9) (N := 37) hx hb htg gRX9 hown hK hP 0 rfl rfl 5 (by decide) (htg _ wi_1155) (fun _ h9 => h9) rfl dX9_feed_84 ?_
    refine lv_iload hx hb dX9_feed_87 (lv_at hl 0 rfl) ?_
    refine lv_bipush (v := 24) hx hb dX9_feed_89 (by decide) ?_
    refine lv_bipush (v := 8) hx hb dX9_feed_91 (by decide) ?_
    refine lv_iload hx hb dX9_feed_93 (lv_at hl 1 rfl) ?_
    refine lv_iconst (v := 4) hx hb dX9_feed_95 (by decide) ?_
    refine lv_irem hx hb dX9_feed_96 (by decide) ?_
    refine lv_is (y := 2) (by decide) ?_
    refine lv_imul hx hb dX9_feed_97 ?_
    refine lv_is (y := 16) (by decide) ?_
    refine lv_isub hx hb dX9_feed_98 ?_
    refine lv_is (y := 8) (by decide) ?_
    refine lv_ishr hx hb dX9_feed_99 ?_
    refine lv_topi (fun z_43 ez_43 => ?_)
    refine lv_sipush (v := 255) hx hb dX9_feed_100 (by decide) ?_
    refine lv_iand hx hb dX9_feed_103 ?_
    refine lv_topi (fun z_44 ez_44 => ?_)
    have iz_44 : 0 ≤ z_44.toInt ∧ z_44.toInt ≤ 255 := andI ez_44 (by decide) (by decide)
    refine va_iast hx hb hK hP hD hS 1 0 rfl rfl (vp_in_iff.mpr (by omega)) dX9_feed_104 (fun H locs hP hD hS => ?_)
    obtain ⟨f_45, ef_45, hP, hD⟩ : ∃ f_45 : Nat → Int32, f_45 = upd (f_41) (z_42 : Int32).toNatClampNeg z_44 ∧ PD D A [(sw_9 h0 g 0 z_42 b6 b7 b8 b9 b10 b11 b12 b13 b14 b17 b18 b19 b23 b24 b25 b26 b27 b29 b31 b32 b33), (sw_in cT (g 2) 900 f_45)] H := ⟨_, rfl, hP, hD⟩
    have hfd_11 : FD a2 b5.toInt 11 (fdW x y z v w) f_45 := FD_s 10 hfd_10 ef_45 (by omega) (by omega) (by rw [ez_44]; first | rfl | (rw [ez_43]; rfl))
    refine lv_aload_n hx hb dX9_feed_105 rfl (lv_at hl 2 rfl) ?_
    refine lv_dup hx hb dX9_feed_106 rfl ?_
    refine va_get (D := D) (ci := 9) (v := .int z_42) (C := RX9) (T := TX9) (N := 37) hx hb htg gRX9 hown hK hP 0 rfl rfl 5 (by decide) (htg _ wi_1155) (fun _ h9 => h9) rfl dX9_feed_107 ?_
    refine lv_iconst (v := 1) hx hb dX9_feed_110 (by decide) ?_
    refine lv_iadd hx hb dX9_feed_111 ?_
    refine lv_topi (fun z_46 ez_46 => ?_)
    have iz_46 : z_46.toInt = z_42.toInt + 1 := toInt_addI ez_46 (rfl) (by decide) (by omega)
    refine va_put (D := D) (ci := 9) (v := .int z_46) (ty := .int) (C := RX9) (T := TX9) (N := 37) hx hb htg gRX9 tyX9 tyX9_ok nmX9 hown hK hP hD hS 0 rfl rfl 5 (by decide) (htg _ wi_1155) (fun _ h9 => h9) rfl (by decide +kernel) rfl rfl (Nat.le_of_ble_eq_true rfl) dX9_feed_112 (fun H locs hP hD hS => ?_)
    obtain ⟨hP, hD⟩ : PD D A [(sw_9 h0 g 0 z_46 b6 b7 b8 b9 b10 b11 b12 b13 b14 b17 b18 b19 b23 b24 b25 b26 b27 b29 b31 b32 b33), (sw_in cT (g 2) 900 f_45)] _ := ⟨hP, hD⟩
    refine lv_iinc (v := 11) (lv' := [(6, .int 11), (7, .int z), (0, .ref h0), (1, .int x), (2, .int y), (3, .int z), (4, .int v), (5, .int w)]) hx hb dX9_feed_115 hl (k := 1) rfl (by decide) (by decide) rfl (fun ls hl => ?_)
    refine lv_goto (tgt := 24) hx hb dX9_feed_118 (by decide) ?_
    refine lv_iload hx hb dX9_feed_24 (lv_at hl 0 rfl) ?_
    refine lv_bipush (v := 20) hx hb dX9_feed_26 (by decide) ?_
    refine lv_icmp_ge (tgt := 121) hx hb dX9_feed_28 (by decide) (fun h => absurd h (by decide)) (fun _ => ?_)
    refine lv_iload hx hb dX9_feed_31 (lv_at hl 0 rfl) ?_
    refine lv_iconst (v := 4) hx hb dX9_feed_33 (by decide) ?_
    refine lv_icmp_ge (tgt := 41) hx hb dX9_feed_34 (by decide) (fun _ => ?_) (fun h => absurd (by decide) h)
    refine lv_iload hx hb dX9_feed_41 (lv_at hl 0 rfl) ?_
    refine lv_bipush (v := 8) hx hb dX9_feed_43 (by decide) ?_
    refine lv_icmp_ge (tgt := 52) hx hb dX9_feed_45 (by decide) (fun _ => ?_) (fun h => absurd (by decide) h)
    refine lv_iload hx hb dX9_feed_52 (lv_at hl 0 rfl) ?_
    refine lv_bipush (v := 12) hx hb dX9_feed_54 (by decide) ?_
    refine lv_icmp_ge (tgt := 63) hx hb dX9_feed_56 (by decide) (fun h => absurd h (by decide)) (fun _ => ?_)
    refine lv_iload_n hx hb dX9_feed_59 rfl (lv_at hl 5 rfl) ?_
    refine lv_goto (tgt := 77) hx hb dX9_feed_60 (by decide) ?_
    refine lv_istore (lv' := [(7, .int z), (6, .int 11), (0, .ref h0), (1, .int x), (2, .int y), (3, .int z), (4, .int v), (5, .int w)]) hx hb dX9_feed_77 hl (by decide) rfl (fun ls hl => ?_)
    refine lv_aload_n hx hb dX9_feed_79 rfl (lv_at hl 2 rfl) ?_
    refine va_get (D := D) (ci := 9) (v := .ref (g 2)) (C := RX9) (T := TX9) (N := 37) hx hb htg gRX9 hown hK hP 0 rfl rfl 3 (by decide) (htg _ wi_1153) (fun _ h9 => h9) rfl dX9_feed_80 ?_
    refine lv_aload_n hx hb dX9_feed_83 rfl (lv_at hl 2 rfl) ?_
    refine va_get (D := D) (ci := 9) (v := .int z_46) (C := RX9) (T := TX9) (N := 37) hx hb htg gRX9 hown hK hP 0 rfl rfl 5 (by decide) (htg _ wi_1155) (fun _ h9 => h9) rfl dX9_feed_84 ?_
    refine lv_iload hx hb dX9_feed_87 (lv_at hl 0 rfl) ?_
    refine lv_bipush (v := 24) hx hb dX9_feed_89 (by decide) ?_
    refine lv_bipush (v := 8) hx hb dX9_feed_91 (by decide) ?_
    refine lv_iload hx hb dX9_feed_93 (lv_at hl 1 rfl) ?_
    refine lv_iconst (v := 4) hx hb dX9_feed_95 (by decide) ?_
    refine lv_irem hx hb dX9_feed_96 (by decide) ?_
    refine lv_is (y := 3) (by decide) ?_
    refine lv_imul hx hb dX9_feed_97 ?_
    refine lv_is (y := 24) (by decide) ?_
    refine lv_isub hx hb dX9_feed_98 ?_
    refine lv_is (y := 0) (by decide) ?_
    refine lv_ishr hx hb dX9_feed_99 ?_
    refine lv_topi (fun z_47 ez_47 => ?_)
    refine lv_sipush (v := 255) hx hb dX9_feed_100 (by decide) ?_
    refine lv_iand hx hb dX9_feed_103 ?_
    refine lv_topi (fun z_48 ez_48 => ?_)
    have iz_48 : 0 ≤ z_48.toInt ∧ z_48.toInt ≤ 255 := andI ez_48 (by decide) (by decide)
    refine va_iast hx hb hK hP hD hS 1 0 rfl rfl (vp_in_iff.mpr (by omega)) dX9_feed_104 (fun H locs hP hD hS => ?_)
    obtain ⟨f_49, ef_49, hP, hD⟩ : ∃ f_49 : Nat → Int32, f_49 = upd (f_45) (z_46 : Int32).toNatClampNeg z_48 ∧ PD D A [(sw_9 h0 g 0 z_46 b6 b7 b8 b9 b10 b11 b12 b13 b14 b17 b18 b19 b23 b24 b25 b26 b27 b29 b31 b32 b33), (sw_in cT (g 2) 900 f_49)] H := ⟨_, rfl, hP, hD⟩
    have hfd_12 : FD a2 b5.toInt 12 (fdW x y z v w) f_49 := FD_s 11 hfd_11 ef_49 (by omega) (by omega) (by rw [ez_48]; first | rfl | (rw [ez_47]; rfl))
    refine lv_aload_n hx hb dX9_feed_105 rfl (lv_at hl 2 rfl) ?_
    refine lv_dup hx hb dX9_feed_106 rfl ?_
    refine va_get (D := D) (ci := 9) (v := .int z_46) (C := RX9) (T := TX9) (N := 37) hx hb htg gRX9 hown hK hP 0 rfl rfl 5 (by decide) (htg _ wi_1155) (fun _ h9 => h9) rfl dX9_feed_107 ?_
    refine lv_iconst (v := 1) hx hb dX9_feed_110 (by decide) ?_
    refine lv_iadd hx hb dX9_feed_111 ?_
    refine lv_topi (fun z_50 ez_50 => ?_)
    have iz_50 : z_50.toInt = z_46.toInt + 1 := toInt_addI ez_50 (rfl) (by decide) (by omega)
    refine va_put (D := D) (ci := 9) (v := .int z_50) (ty := .int) (C := RX9) (T := TX9) (N := 37) hx hb htg gRX9 tyX9 tyX9_ok nmX9 hown hK hP hD hS 0 rfl rfl 5 (by decide) (htg _ wi_1155) (fun _ h9 => h9) rfl (by decide +kernel) rfl rfl (Nat.le_of_ble_eq_true rfl) dX9_feed_112 (fun H locs hP hD hS => ?_)
    obtain ⟨hP, hD⟩ : PD D A [(sw_9 h0 g 0 z_50 b6 b7 b8 b9 b10 b11 b12 b13 b14 b17 b18 b19 b23 b24 b25 b26 b27 b29 b31 b32 b33), (sw_in cT (g 2) 900 f_49)] _ := ⟨hP, hD⟩
    refine lv_iinc (v := 12) (lv' := [(6, .int 12), (7, .int z), (0, .ref h0), (1, .int x), (2, .int y), (3, .int z), (4, .int v), (5, .int w)]) hx hb dX9_feed_115 hl (k := 1) rfl (by decide) (by decide) rfl (fun ls hl => ?_)
    refine lv_goto (tgt := 24) hx hb dX9_feed_118 (by decide) ?_
    refine lv_iload hx hb dX9_feed_24 (lv_at hl 0 rfl) ?_
    refine lv_bipush (v := 20) hx hb dX9_feed_26 (by decide) ?_
    refine lv_icmp_ge (tgt := 121) hx hb dX9_feed_28 (by decide) (fun h => absurd h (by decide)) (fun _ => ?_)
    refine lv_iload hx hb dX9_feed_31 (lv_at hl 0 rfl) ?_
    refine lv_iconst (v := 4) hx hb dX9_feed_33 (by decide) ?_
    refine lv_icmp_ge (tgt := 41) hx hb dX9_feed_34 (by decide) (fun _ => ?_) (fun h => absurd (by decide) h)
    refine lv_iload hx hb dX9_feed_41 (lv_at hl 0 rfl) ?_
    refine lv_bipush (v := 8) hx hb dX9_feed_43 (by decide) ?_
    refine lv_icmp_ge (tgt := 52) hx hb dX9_feed_45 (by decide) (fun _ => ?_) (fun h => absurd (by decide) h)
    refine lv_iload hx hb dX9_feed_52 (lv_at hl 0 rfl) ?_
    refine lv_bipush (v := 12) hx hb dX9_feed_54 (by decide) ?_
    refine lv_icmp_ge (tgt := 63) hx hb dX9_feed_56 (by decide) (fun _ => ?_) (fun h => absurd (by decide) h)
    refine lv_iload hx hb dX9_feed_63 (lv_at hl 0 rfl) ?_
    refine lv_bipush (v := 16) hx hb dX9_feed_65 (by decide) ?_
    refine lv_icmp_ge (tgt := 75) hx hb dX9_feed_67 (by decide) (fun h => absurd h (by decide)) (fun _ => ?_)
    refine lv_iload hx hb dX9_feed_70 (lv_at hl 6 rfl) ?_
    refine lv_goto (tgt := 77) hx hb dX9_feed_72 (by decide) ?_
    refine lv_istore (lv' := [(7, .int v), (6, .int 12), (0, .ref h0), (1, .int x), (2, .int y), (3, .int z), (4, .int v), (5, .int w)]) hx hb dX9_feed_77 hl (by decide) rfl (fun ls hl => ?_)
    refine lv_aload_n hx hb dX9_feed_79 rfl (lv_at hl 2 rfl) ?_
    refine va_get (D := D) (ci := 9) (v := .ref (g 2)) (C := RX9) (T := TX9) (N := 37) hx hb htg gRX9 hown hK hP 0 rfl rfl 3 (by decide) (htg _ wi_1153) (fun _ h9 => h9) rfl dX9_feed_80 ?_
    refine lv_aload_n hx hb dX9_feed_83 rfl (lv_at hl 2 rfl) ?_
    refine va_get (D := D) (ci := 9) (v := .int z_50) (C := RX9) (T := TX9) (N := 37) hx hb htg gRX9 hown hK hP 0 rfl rfl 5 (by decide) (htg _ wi_1155) (fun _ h9 => h9) rfl dX9_feed_84 ?_
    refine lv_iload hx hb dX9_feed_87 (lv_at hl 0 rfl) ?_
    refine lv_bipush (v := 24) hx hb dX9_feed_89 (by decide) ?_
    refine lv_bipush (v := 8) hx hb dX9_feed_91 (by decide) ?_
    refine lv_iload hx hb dX9_feed_93 (lv_at hl 1 rfl) ?_
    refine lv_iconst (v := 4) hx hb dX9_feed_95 (by decide) ?_
    refine lv_irem hx hb dX9_feed_96 (by decide) ?_
    refine lv_is (y := 0) (by decide) ?_
    refine lv_imul hx hb dX9_feed_97 ?_
    refine lv_is (y := 0) (by decide) ?_
    refine lv_isub hx hb dX9_feed_98 ?_
    refine lv_is (y := 24) (by decide) ?_
    refine lv_ishr hx hb dX9_feed_99 ?_
    refine lv_topi (fun z_51 ez_51 => ?_)
    refine lv_sipush (v := 255) hx hb dX9_feed_100 (by decide) ?_
    refine lv_iand hx hb dX9_feed_103 ?_
    refine lv_topi (fun z_52 ez_52 => ?_)
    have iz_52 : 0 ≤ z_52.toInt ∧ z_52.toInt ≤ 255 := andI ez_52 (by decide) (by decide)
    refine va_iast hx hb hK hP hD hS 1 0 rfl rfl (vp_in_iff.mpr (by omega)) dX9_feed_104 (fun H locs hP hD hS => ?_)
    obtain ⟨f_53, ef_53, hP, hD⟩ : ∃ f_53 : Nat → Int32, f_53 = upd (f_49) (z_50 : Int32).toNatClampNeg z_52 ∧ PD D A [(sw_9 h0 g 0 z_50 b6 b7 b8 b9 b10 b11 b12 b13 b14 b17 b18 b19 b23 b24 b25 b26 b27 b29 b31 b32 b33), (sw_in cT (g 2) 900 f_53)] H := ⟨_, rfl, hP, hD⟩
    have hfd_13 : FD a2 b5.toInt 13 (fdW x y z v w) f_53 := FD_s 12 hfd_12 ef_53 (by omega) (by omega) (by rw [ez_52]; first | rfl | (rw [ez_51]; rfl))
    refine lv_aload_n hx hb dX9_feed_105 rfl (lv_at hl 2 rfl) ?_
    refine lv_dup hx hb dX9_feed_106 rfl ?_
    refine va_get (D := D) (ci := 9) (v := .int z_50) (C := RX9) (T := TX9) (N := 37) hx hb htg gRX9 hown hK hP 0 rfl rfl 5 (by decide) (htg _ wi_1155) (fun _ h9 => h9) rfl dX9_feed_107 ?_
    refine lv_iconst (v := 1) hx hb dX9_feed_110 (by decide) ?_
    refine lv_iadd hx hb dX9_feed_111 ?_
    refine lv_topi (fun z_54 ez_54 => ?_)
    have iz_54 : z_54.toInt = z_50.toInt + 1 := toInt_addI ez_54 (rfl) (by decide) (by omega)
    refine va_put (D := D) (ci := 9) (v := .int z_54) (ty := .int) (C := RX9) (T := TX9) (N := 37) hx hb htg gRX9 tyX9 tyX9_ok nmX9 hown hK hP hD hS 0 rfl rfl 5 (by decide) (htg _ wi_1155) (fun _ h9 => h9) rfl (by decide +kernel) rfl rfl (Nat.le_of_ble_eq_true rfl) dX9_feed_112 (fun H locs hP hD hS => ?_)
    obtain ⟨hP, hD⟩ : PD D A [(sw_9 h0 g 0 z_54 b6 b7 b8 b9 b10 b11 b12 b13 b14 b17 b18 b19 b23 b24 b25 b26 b27 b29 b31 b32 b33), (sw_in cT (g 2) 900 f_53)] _ := ⟨hP, hD⟩
    refine lv_iinc (v := 13) (lv' := [(6, .int 13), (7, .int v), (0, .ref h0), (1, .int x), (2, .int y), (3, .int z), (4, .int v), (5, .int w)]) hx hb dX9_feed_115 hl (k := 1) rfl (by decide) (by decide) rfl (fun ls hl => ?_)
    refine lv_goto (tgt := 24) hx hb dX9_feed_118 (by decide) ?_
    refine lv_iload hx hb dX9_feed_24 (lv_at hl 0 rfl) ?_
    refine lv_bipush (v := 20) hx hb dX9_feed_26 (by decide) ?_
    refine lv_icmp_ge (tgt := 121) hx hb dX9_feed_28 (by decide) (fun h => absurd h (by decide)) (fun _ => ?_)
    refine lv_iload hx hb dX9_feed_31 (lv_at hl 0 rfl) ?_
    refine lv_iconst (v := 4) hx hb dX9_feed_33 (by decide) ?_
    refine lv_icmp_ge (tgt := 41) hx hb dX9_feed_34 (by decide) (fun _ => ?_) (fun h => absurd (by decide) h)
    refine lv_iload hx hb dX9_feed_41 (lv_at hl 0 rfl) ?_
    refine lv_bipush (v := 8) hx hb dX9_feed_43 (by decide) ?_
    refine lv_icmp_ge (tgt := 52) hx hb dX9_feed_45 (by decide) (fun _ => ?_) (fun h => absurd (by decide) h)
    refine lv_iload hx hb dX9_feed_52 (lv_at hl 0 rfl) ?_
    refine lv_bipush (v := 12) hx hb dX9_feed_54 (by decide) ?_
    refine lv_icmp_ge (tgt := 63) hx hb dX9_feed_56 (by decide) (fun _ => ?_) (fun h => absurd (by decide) h)
    refine lv_iload hx hb dX9_feed_63 (lv_at hl 0 rfl) ?_
    refine lv_bipush (v := 16) hx hb dX9_feed_65 (by decide) ?_
    refine lv_icmp_ge (tgt := 75) hx hb dX9_feed_67 (by decide) (fun h => absurd h (by decide)) (fun _ => ?_)
    refine lv_iload hx hb dX9_feed_70 (lv_at hl 6 rfl) ?_
    refine lv_goto (tgt := 77) hx hb dX9_feed_72 (by decide) ?_
    refine lv_istore (lv' := [(7, .int v), (6, .int 13), (0, .ref h0), (1, .int x), (2, .int y), (3, .int z), (4, .int v), (5, .int w)]) hx hb dX9_feed_77 hl (by decide) rfl (fun ls hl => ?_)
    refine lv_aload_n hx hb dX9_feed_79 rfl (lv_at hl 2 rfl) ?_
    refine va_get (D := D) (ci := 9) (v := .ref (g 2)) (C := RX9) (T := TX9) (N := 37) hx hb htg gRX9 hown hK hP 0 rfl rfl 3 (by decide) (htg _ wi_1153) (fun _ h9 => h9) rfl dX9_feed_80 ?_
    refine lv_aload_n hx hb dX9_feed_83 rfl (lv_at hl 2 rfl) ?_
    refine va_get (D := D) (ci := 9) (v := .int z_54) (C := RX9) (T := TX9) (N := 37) hx hb htg gRX9 hown hK hP 0 rfl rfl 5 (by decide) (htg _ wi_1155) (fun _ h9 => h9) rfl dX9_feed_84 ?_
    refine lv_iload hx hb dX9_feed_87 (lv_at hl 0 rfl) ?_
    refine lv_bipush (v := 24) hx hb dX9_feed_89 (by decide) ?_
    refine lv_bipush (v := 8) hx hb dX9_feed_91 (by decide) ?_
    refine lv_iload hx hb dX9_feed_93 (lv_at hl 1 rfl) ?_
    refine lv_iconst (v := 4) hx hb dX9_feed_95 (by decide) ?_
    refine lv_irem hx hb dX9_feed_96 (by decide) ?_
    refine lv_is (y := 1) (by decide) ?_
    refine lv_imul hx hb dX9_feed_97 ?_
    refine lv_is (y := 8) (by decide) ?_
    refine lv_isub hx hb dX9_feed_98 ?_
    refine lv_is (y := 16) (by decide) ?_
    refine lv_ishr hx hb dX9_feed_99 ?_
    refine lv_topi (fun z_55 ez_55 => ?_)
    refine lv_sipush (v := 255) hx hb dX9_feed_100 (by decide) ?_
    refine lv_iand hx hb dX9_feed_103 ?_
    refine lv_topi (fun z_56 ez_56 => ?_)
    have iz_56 : 0 ≤ z_56.toInt ∧ z_56.toInt ≤ 255 := andI ez_56 (by decide) (by decide)
    refine va_iast hx hb hK hP hD hS 1 0 rfl rfl (vp_in_iff.mpr (by omega)) dX9_feed_104 (fun H locs hP hD hS => ?_)
    obtain ⟨f_57, ef_57, hP, hD⟩ : ∃ f_57 : Nat → Int32, f_57 = upd (f_53) (z_54 : Int32).toNatClampNeg z_56 ∧ PD D A [(sw_9 h0 g 0 z_54 b6 b7 b8 b9 b10 b11 b12 b13 b14 b17 b18 b19 b23 b24 b25 b26 b27 b29 b31 b32 b33), (sw_in cT (g 2) 900 f_57)] H := ⟨_, rfl, hP, hD⟩
    have hfd_14 : FD a2 b5.toInt 14 (fdW x y z v w) f_57 := FD_s 13 hfd_13 ef_57 (by omega) (by omega) (by rw [ez_56]; first | rfl | (rw [ez_55]; rfl))
    refine lv_aload_n hx hb dX9_feed_105 rfl (lv_at hl 2 rfl) ?_
    refine lv_dup hx hb dX9_feed_106 rfl ?_
    refine va_get (D := D) (ci := 9) (v := .int z_54) (C := RX9) (T := TX9) (N := 37) hx hb htg gRX9 hown hK hP 0 rfl rfl 5 (by decide) (htg _ wi_1155) (fun _ h9 => h9) rfl dX9_feed_107 ?_
    refine lv_iconst (v := 1) hx hb dX9_feed_110 (by decide) ?_
    refine lv_iadd hx hb dX9_feed_111 ?_
    refine lv_topi (fun z_58 ez_58 => ?_)
    have iz_58 : z_58.toInt = z_54.toInt + 1 := toInt_addI ez_58 (rfl) (by decide) (by omega)
    refine va_put (D := D) (ci := 9) (v := .int z_58) (ty := .int) (C := RX9) (T := TX9) (N := 37) hx hb htg gRX9 tyX9 tyX9_ok nmX9 hown hK hP hD hS 0 rfl rfl 5 (by decide) (htg _ wi_1155) (fun _ h9 => h9) rfl (by decide +kernel) rfl rfl (Nat.le_of_ble_eq_true rfl) dX9_feed_112 (fun H locs hP hD hS => ?_)
    obtain ⟨hP, hD⟩ : PD D A [(sw_9 h0 g 0 z_58 b6 b7 b8 b9 b10 b11 b12 b13 b14 b17 b18 b19 b23 b24 b25 b26 b27 b29 b31 b32 b33), (sw_in cT (g 2) 900 f_57)] _ := ⟨hP, hD⟩
    refine lv_iinc (v := 14) (lv' := [(6, .int 14), (7, .int v), (0, .ref h0), (1, .int x), (2, .int y), (3, .int z), (4, .int v), (5, .int w)]) hx hb dX9_feed_115 hl (k := 1) rfl (by decide) (by decide) rfl (fun ls hl => ?_)
    refine lv_goto (tgt := 24) hx hb dX9_feed_118 (by decide) ?_
    refine lv_iload hx hb dX9_feed_24 (lv_at hl 0 rfl) ?_
    refine lv_bipush (v := 20) hx hb dX9_feed_26 (by decide) ?_
    refine lv_icmp_ge (tgt := 121) hx hb dX9_feed_28 (by decide) (fun h => absurd h (by decide)) (fun _ => ?_)
    refine lv_iload hx hb dX9_feed_31 (lv_at hl 0 rfl) ?_
    refine lv_iconst (v := 4) hx hb dX9_feed_33 (by decide) ?_
    refine lv_icmp_ge (tgt := 41) hx hb dX9_feed_34 (by decide) (fun _ => ?_) (fun h => absurd (by decide) h)
    refine lv_iload hx hb dX9_feed_41 (lv_at hl 0 rfl) ?_
    refine lv_bipush (v := 8) hx hb dX9_feed_43 (by decide) ?_
    refine lv_icmp_ge (tgt := 52) hx hb dX9_feed_45 (by decide) (fun _ => ?_) (fun h => absurd (by decide) h)
    refine lv_iload hx hb dX9_feed_52 (lv_at hl 0 rfl) ?_
    refine lv_bipush (v := 12) hx hb dX9_feed_54 (by decide) ?_
    refine lv_icmp_ge (tgt := 63) hx hb dX9_feed_56 (by decide) (fun _ => ?_) (fun h => absurd (by decide) h)
    refine lv_iload hx hb dX9_feed_63 (lv_at hl 0 rfl) ?_
    refine lv_bipush (v := 16) hx hb dX9_feed_65 (by decide) ?_
    refine lv_icmp_ge (tgt := 75) hx hb dX9_feed_67 (by decide) (fun h => absurd h (by decide)) (fun _ => ?_)
    refine lv_iload hx hb dX9_feed_70 (lv_at hl 6 rfl) ?_
    refine lv_goto (tgt := 77) hx hb dX9_feed_72 (by decide) ?_
    refine lv_istore (lv' := [(7, .int v), (6, .int 14), (0, .ref h0), (1, .int x), (2, .int y), (3, .int z), (4, .int v), (5, .int w)]) hx hb dX9_feed_77 hl (by decide) rfl (fun ls hl => ?_)
    refine lv_aload_n hx hb dX9_feed_79 rfl (lv_at hl 2 rfl) ?_
    refine va_get (D := D) (ci := 9) (v := .ref (g 2)) (C := RX9) (T := TX9) (N := 37) hx hb htg gRX9 hown hK hP 0 rfl rfl 3 (by decide) (htg _ wi_1153) (fun _ h9 => h9) rfl dX9_feed_80 ?_
    refine lv_aload_n hx hb dX9_feed_83 rfl (lv_at hl 2 rfl) ?_
    refine va_get (D := D) (ci := 9) (v := .int z_58) (C := RX9) (T := TX9) (N := 37) hx hb htg gRX9 hown hK hP 0 rfl rfl 5 (by decide) (htg _ wi_1155) (fun _ h9 => h9) rfl dX9_feed_84 ?_
    refine lv_iload hx hb dX9_feed_87 (lv_at hl 0 rfl) ?_
    refine lv_bipush (v := 24) hx hb dX9_feed_89 (by decide) ?_
    refine lv_bipush (v := 8) hx hb dX9_feed_91 (by decide) ?_
    refine lv_iload hx hb dX9_feed_93 (lv_at hl 1 rfl) ?_
    refine lv_iconst (v := 4) hx hb dX9_feed_95 (by decide) ?_
    refine lv_irem hx hb dX9_feed_96 (by decide) ?_
    refine lv_is (y := 2) (by decide) ?_
    refine lv_imul hx hb dX9_feed_97 ?_
    refine lv_is (y := 16) (by decide) ?_
    refine lv_isub hx hb dX9_feed_98 ?_
    refine lv_is (y := 8) (by decide) ?_
    refine lv_ishr hx hb dX9_feed_99 ?_
    refine lv_topi (fun z_59 ez_59 => ?_)
    refine lv_sipush (v := 255) hx hb dX9_feed_100 (by decide) ?_
    refine lv_iand hx hb dX9_feed_103 ?_
    refine lv_topi (fun z_60 ez_60 => ?_)
    have iz_60 : 0 ≤ z_60.toInt ∧ z_60.toInt ≤ 255 := andI ez_60 (by decide) (by decide)
    refine va_iast hx hb hK hP hD hS 1 0 rfl rfl (vp_in_iff.mpr (by omega)) dX9_feed_104 (fun H locs hP hD hS => ?_)
    obtain ⟨f_61, ef_61, hP, hD⟩ : ∃ f_61 : Nat → Int32, f_61 = upd (f_57) (z_58 : Int32).toNatClampNeg z_60 ∧ PD D A [(sw_9 h0 g 0 z_58 b6 b7 b8 b9 b10 b11 b12 b13 b14 b17 b18 b19 b23 b24 b25 b26 b27 b29 b31 b32 b33), (sw_in cT (g 2) 900 f_61)] H := ⟨_, rfl, hP, hD⟩
    have hfd_15 : FD a2 b5.toInt 15 (fdW x y z v w) f_61 := FD_s 14 hfd_14 ef_61 (by omega) (by omega) (by rw [ez_60]; first | rfl | (rw [ez_59]; rfl))
    refine lv_aload_n hx hb dX9_feed_105 rfl (lv_at hl 2 rfl) ?_
    refine lv_dup hx hb dX9_feed_106 rfl ?_
    refine va_get (D := D) (ci := 9) (v := .int z_58) (C := RX9) (T := TX9) (N := 37) hx hb htg gRX9 hown hK hP 0 rfl rfl 5 (by decide) (htg _ wi_1155) (fun _ h9 => h9) rfl dX9_feed_107 ?_
    refine lv_iconst (v := 1) hx hb dX9_feed_110 (by decide) ?_
    refine lv_iadd hx hb dX9_feed_111 ?_
    refine lv_topi (fun z_62 ez_62 => ?_)
    have iz_62 : z_62.toInt = z_58.toInt + 1 := toInt_addI ez_62 (rfl) (by decide) (by omega)
    refine va_put (D := D) (ci := 9) (v := .int z_62) (ty := .int) (C := RX9) (T := TX9) (N := 37) hx hb htg gRX9 tyX9 tyX9_ok nmX9 hown hK hP hD hS 0 rfl rfl 5 (by decide) (htg _ wi_1155) (fun _ h9 => h9) rfl (by decide +kernel) rfl rfl (Nat.le_of_ble_eq_true rfl) dX9_feed_112 (fun H locs hP hD hS => ?_)
    obtain ⟨hP, hD⟩ : PD D A [(sw_9 h0 g 0 z_62 b6 b7 b8 b9 b10 b11 b12 b13 b14 b17 b18 b19 b23 b24 b25 b26 b27 b29 b31 b32 b33), (sw_in cT (g 2) 900 f_61)] _ := ⟨hP, hD⟩
    refine lv_iinc (v := 15) (lv' := [(6, .int 15), (7, .int v), (0, .ref h0), (1, .int x), (2, .int y), (3, .int z), (4, .int v), (5, .int w)]) hx hb dX9_feed_115 hl (k := 1) rfl (by decide) (by decide) rfl (fun ls hl => ?_)
    refine lv_goto (tgt := 24) hx hb dX9_feed_118 (by decide) ?_
    refine lv_iload hx hb dX9_feed_24 (lv_at hl 0 rfl) ?_
    refine lv_bipush (v := 20) hx hb dX9_feed_26 (by decide) ?_
    refine lv_icmp_ge (tgt := 121) hx hb dX9_feed_28 (by decide) (fun h => absurd h (by decide)) (fun _ => ?_)
    refine lv_iload hx hb dX9_feed_31 (lv_at hl 0 rfl) ?_
    refine lv_iconst (v := 4) hx hb dX9_feed_33 (by decide) ?_
    refine lv_icmp_ge (tgt := 41) hx hb dX9_feed_34 (by decide) (fun _ => ?_) (fun h => absurd (by decide) h)
    refine lv_iload hx hb dX9_feed_41 (lv_at hl 0 rfl) ?_
    refine lv_bipush (v := 8) hx hb dX9_feed_43 (by decide) ?_
    refine lv_icmp_ge (tgt := 52) hx hb dX9_feed_45 (by decide) (fun _ => ?_) (fun h => absurd (by decide) h)
    refine lv_iload hx hb dX9_feed_52 (lv_at hl 0 rfl) ?_
    refine lv_bipush (v := 12) hx hb dX9_feed_54 (by decide) ?_
    refine lv_icmp_ge (tgt := 63) hx hb dX9_feed_56 (by decide) (fun _ => ?_) (fun h => absurd (by decide) h)
    refine lv_iload hx hb dX9_feed_63 (lv_at hl 0 rfl) ?_
    refine lv_bipush (v := 16) hx hb dX9_feed_65 (by decide) ?_
    refine lv_icmp_ge (tgt := 75) hx hb dX9_feed_67 (by decide) (fun h => absurd h (by decide)) (fun _ => ?_)
    refine lv_iload hx hb dX9_feed_70 (lv_at hl 6 rfl) ?_
    refine lv_goto (tgt := 77) hx hb dX9_feed_72 (by decide) ?_
    refine lv_istore (lv' := [(7, .int v), (6, .int 15), (0, .ref h0), (1, .int x), (2, .int y), (3, .int z), (4, .int v), (5, .int w)]) hx hb dX9_feed_77 hl (by decide) rfl (fun ls hl => ?_)
    refine lv_aload_n hx hb dX9_feed_79 rfl (lv_at hl 2 rfl) ?_
    refine va_get (D := D) (ci := 9) (v := .ref (g 2)) (C := RX9) (T := TX9) (N := 37) hx hb htg gRX9 hown hK hP 0 rfl rfl 3 (by decide) (htg _ wi_1153) (fun _ h9 => h9) rfl dX9_feed_80 ?_
    refine lv_aload_n hx hb dX9_feed_83 rfl (lv_at hl 2 rfl) ?_
    refine va_get (D := D) (ci := 9) (v := .int z_62) (C := RX9) (T := TX9) (N := 37) hx hb htg gRX9 hown hK hP 0 rfl rfl 5 (by decide) (htg _ wi_1155) (fun _ h9 => h9) rfl dX9_feed_84 ?_
    refine lv_iload hx hb dX9_feed_87 (lv_at hl 0 rfl) ?_
    refine lv_bipush (v := 24) hx hb dX9_feed_89 (by decide) ?_
    refine lv_bipush (v := 8) hx hb dX9_feed_91 (by decide) ?_
    refine lv_iload hx hb dX9_feed_93 (lv_at hl 1 rfl) ?_
    refine lv_iconst (v := 4) hx hb dX9_feed_95 (by decide) ?_
    refine lv_irem hx hb dX9_feed_96 (by decide) ?_
    refine lv_is (y := 3) (by decide) ?_
    refine lv_imul hx hb dX9_feed_97 ?_
    refine lv_is (y := 24) (by decide) ?_
    refine lv_isub hx hb dX9_feed_98 ?_
    refine lv_is (y := 0) (by decide) ?_
    refine lv_ishr hx hb dX9_feed_99 ?_
    refine lv_topi (fun z_63 ez_63 => ?_)
    refine lv_sipush (v := 255) hx hb dX9_feed_100 (by decide) ?_
    refine lv_iand hx hb dX9_feed_103 ?_
    refine lv_topi (fun z_64 ez_64 => ?_)
    have iz_64 : 0 ≤ z_64.toInt ∧ z_64.toInt ≤ 255 := andI ez_64 (by decide) (by decide)
    refine va_iast hx hb hK hP hD hS 1 0 rfl rfl (vp_in_iff.mpr (by omega)) dX9_feed_104 (fun H locs hP hD hS => ?_)
    obtain ⟨f_65, ef_65, hP, hD⟩ : ∃ f_65 : Nat → Int32, f_65 = upd (f_61) (z_62 : Int32).toNatClampNeg z_64 ∧ PD D A [(sw_9 h0 g 0 z_62 b6 b7 b8 b9 b10 b11 b12 b13 b14 b17 b18 b19 b23 b24 b25 b26 b27 b29 b31 b32 b33), (sw_in cT (g 2) 900 f_65)] H := ⟨_, rfl, hP, hD⟩
    have hfd_16 : FD a2 b5.toInt 16 (fdW x y z v w) f_65 := FD_s 15 hfd_15 ef_65 (by omega) (by omega) (by rw [ez_64]; first | rfl | (rw [ez_63]; rfl))
    refine lv_aload_n hx hb dX9_feed_105 rfl (lv_at hl 2 rfl) ?_
    refine lv_dup hx hb dX9_feed_106 rfl ?_
    refine va_get (D := D) (ci := 9) (v := .int z_62) (C := RX9) (T := TX9) (N := 37) hx hb htg gRX9 hown hK hP 0 rfl rfl 5 (by decide) (htg _ wi_1155) (fun _ h9 => h9) rfl dX9_feed_107 ?_
    refine lv_iconst (v := 1) hx hb dX9_feed_110 (by decide) ?_
    refine lv_iadd hx hb dX9_feed_111 ?_
    refine lv_topi (fun z_66 ez_66 => ?_)
    have iz_66 : z_66.toInt = z_62.toInt + 1 := toInt_addI ez_66 (rfl) (by decide) (by omega)
    refine va_put (D := D) (ci := 9) (v := .int z_66) (ty := .int) (C := RX9) (T := TX9) (N := 37) hx hb htg gRX9 tyX9 tyX9_ok nmX9 hown hK hP hD hS 0 rfl rfl 5 (by decide) (htg _ wi_1155) (fun _ h9 => h9) rfl (by decide +kernel) rfl rfl (Nat.le_of_ble_eq_true rfl) dX9_feed_112 (fun H locs hP hD hS => ?_)
    obtain ⟨hP, hD⟩ : PD D A [(sw_9 h0 g 0 z_66 b6 b7 b8 b9 b10 b11 b12 b13 b14 b17 b18 b19 b23 b24 b25 b26 b27 b29 b31 b32 b33), (sw_in cT (g 2) 900 f_65)] _ := ⟨hP, hD⟩
    refine lv_iinc (v := 16) (lv' := [(6, .int 16), (7, .int v), (0, .ref h0), (1, .int x), (2, .int y), (3, .int z), (4, .int v), (5, .int w)]) hx hb dX9_feed_115 hl (k := 1) rfl (by decide) (by decide) rfl (fun ls hl => ?_)
    refine lv_goto (tgt := 24) hx hb dX9_feed_118 (by decide) ?_
    refine lv_iload hx hb dX9_feed_24 (lv_at hl 0 rfl) ?_
    refine lv_bipush (v := 20) hx hb dX9_feed_26 (by decide) ?_
    refine lv_icmp_ge (tgt := 121) hx hb dX9_feed_28 (by decide) (fun h => absurd h (by decide)) (fun _ => ?_)
    refine lv_iload hx hb dX9_feed_31 (lv_at hl 0 rfl) ?_
    refine lv_iconst (v := 4) hx hb dX9_feed_33 (by decide) ?_
    refine lv_icmp_ge (tgt := 41) hx hb dX9_feed_34 (by decide) (fun _ => ?_) (fun h => absurd (by decide) h)
    refine lv_iload hx hb dX9_feed_41 (lv_at hl 0 rfl) ?_
    refine lv_bipush (v := 8) hx hb dX9_feed_43 (by decide) ?_
    refine lv_icmp_ge (tgt := 52) hx hb dX9_feed_45 (by decide) (fun _ => ?_) (fun h => absurd (by decide) h)
    refine lv_iload hx hb dX9_feed_52 (lv_at hl 0 rfl) ?_
    refine lv_bipush (v := 12) hx hb dX9_feed_54 (by decide) ?_
    refine lv_icmp_ge (tgt := 63) hx hb dX9_feed_56 (by decide) (fun _ => ?_) (fun h => absurd (by decide) h)
    refine lv_iload hx hb dX9_feed_63 (lv_at hl 0 rfl) ?_
    refine lv_bipush (v := 16) hx hb dX9_feed_65 (by decide) ?_
    refine lv_icmp_ge (tgt := 75) hx hb dX9_feed_67 (by decide) (fun _ => ?_) (fun h => absurd (by decide) h)
    refine lv_iload hx hb dX9_feed_75 (lv_at hl 7 rfl) ?_
    refine lv_istore (lv' := [(7, .int w), (6, .int 16), (0, .ref h0), (1, .int x), (2, .int y), (3, .int z), (4, .int v), (5, .int w)]) hx hb dX9_feed_77 hl (by decide) rfl (fun ls hl => ?_)
    refine lv_aload_n hx hb dX9_feed_79 rfl (lv_at hl 2 rfl) ?_
    refine va_get (D := D) (ci := 9) (v := .ref (g 2)) (C := RX9) (T := TX9) (N := 37) hx hb htg gRX9 hown hK hP 0 rfl rfl 3 (by decide) (htg _ wi_1153) (fun _ h9 => h9) rfl dX9_feed_80 ?_
    refine lv_aload_n hx hb dX9_feed_83 rfl (lv_at hl 2 rfl) ?_
    refine va_get (D := D) (ci := 9) (v := .int z_66) (C := RX9) (T := TX9) (N := 37) hx hb htg gRX9 hown hK hP 0 rfl rfl 5 (by decide) (htg _ wi_1155) (fun _ h9 => h9) rfl dX9_feed_84 ?_
    refine lv_iload hx hb dX9_feed_87 (lv_at hl 0 rfl) ?_
    refine lv_bipush (v := 24) hx hb dX9_feed_89 (by decide) ?_
    refine lv_bipush (v := 8) hx hb dX9_feed_91 (by decide) ?_
    refine lv_iload hx hb dX9_feed_93 (lv_at hl 1 rfl) ?_
    refine lv_iconst (v := 4) hx hb dX9_feed_95 (by decide) ?_
    refine lv_irem hx hb dX9_feed_96 (by decide) ?_
    refine lv_is (y := 0) (by decide) ?_
    refine lv_imul hx hb dX9_feed_97 ?_
    refine lv_is (y := 0) (by decide) ?_
    refine lv_isub hx hb dX9_feed_98 ?_
    refine lv_is (y := 24) (by decide) ?_
    refine lv_ishr hx hb dX9_feed_99 ?_
    refine lv_topi (fun z_67 ez_67 => ?_)
    refine lv_sipush (v := 255) hx hb dX9_feed_100 (by decide) ?_
    refine lv_iand hx hb dX9_feed_103 ?_
    refine lv_topi (fun z_68 ez_68 => ?_)
    have iz_68 : 0 ≤ z_68.toInt ∧ z_68.toInt ≤ 255 := andI ez_68 (by decide) (by decide)
    refine va_iast hx hb hK hP hD hS 1 0 rfl rfl (vp_in_iff.mpr (by omega)) dX9_feed_104 (fun H locs hP hD hS => ?_)
    obtain ⟨f_69, ef_69, hP, hD⟩ : ∃ f_69 : Nat → Int32, f_69 = upd (f_65) (z_66 : Int32).toNatClampNeg z_68 ∧ PD D A [(sw_9 h0 g 0 z_66 b6 b7 b8 b9 b10 b11 b12 b13 b14 b17 b18 b19 b23 b24 b25 b26 b27 b29 b31 b32 b33), (sw_in cT (g 2) 900 f_69)] H := ⟨_, rfl, hP, hD⟩
    have hfd_17 : FD a2 b5.toInt 17 (fdW x y z v w) f_69 := FD_s 16 hfd_16 ef_69 (by omega) (by omega) (by rw [ez_68]; first | rfl | (rw [ez_67]; rfl))
    refine lv_aload_n hx hb dX9_feed_105 rfl (lv_at hl 2 rfl) ?_
    refine lv_dup hx hb dX9_feed_106 rfl ?_
    refine va_get (D := D) (ci := 9) (v := .int z_66) (C := RX9) (T := TX9) (N := 37) hx hb htg gRX9 hown hK hP 0 rfl rfl 5 (by decide) (htg _ wi_1155) (fun _ h9 => h9) rfl dX9_feed_107 ?_
    refine lv_iconst (v := 1) hx hb dX9_feed_110 (by decide) ?_
    refine lv_iadd hx hb dX9_feed_111 ?_
    refine lv_topi (fun z_70 ez_70 => ?_)
    have iz_70 : z_70.toInt = z_66.toInt + 1 := toInt_addI ez_70 (rfl) (by decide) (by omega)
    refine va_put (D := D) (ci := 9) (v := .int z_70) (ty := .int) (C := RX9) (T := TX9) (N := 37) hx hb htg gRX9 tyX9 tyX9_ok nmX9 hown hK hP hD hS 0 rfl rfl 5 (by decide) (htg _ wi_1155) (fun _ h9 => h9) rfl (by decide +kernel) rfl rfl (Nat.le_of_ble_eq_true rfl) dX9_feed_112 (fun H locs hP hD hS => ?_)
    obtain ⟨hP, hD⟩ : PD D A [(sw_9 h0 g 0 z_70 b6 b7 b8 b9 b10 b11 b12 b13 b14 b17 b18 b19 b23 b24 b25 b26 b27 b29 b31 b32 b33), (sw_in cT (g 2) 900 f_69)] _ := ⟨hP, hD⟩
    refine lv_iinc (v := 17) (lv' := [(6, .int 17), (7, .int w), (0, .ref h0), (1, .int x), (2, .int y), (3, .int z), (4, .int v), (5, .int w)]) hx hb dX9_feed_115 hl (k := 1) rfl (by decide) (by decide) rfl (fun ls hl => ?_)
    refine lv_goto (tgt := 24) hx hb dX9_feed_118 (by decide) ?_
    refine lv_iload hx hb dX9_feed_24 (lv_at hl 0 rfl) ?_
    refine lv_bipush (v := 20) hx hb dX9_feed_26 (by decide) ?_
    refine lv_icmp_ge (tgt := 121) hx hb dX9_feed_28 (by decide) (fun h => absurd h (by decide)) (fun _ => ?_)
    refine lv_iload hx hb dX9_feed_31 (lv_at hl 0 rfl) ?_
    refine lv_iconst (v := 4) hx hb dX9_feed_33 (by decide) ?_
    refine lv_icmp_ge (tgt := 41) hx hb dX9_feed_34 (by decide) (fun _ => ?_) (fun h => absurd (by decide) h)
    refine lv_iload hx hb dX9_feed_41 (lv_at hl 0 rfl) ?_
    refine lv_bipush (v := 8) hx hb dX9_feed_43 (by decide) ?_
    refine lv_icmp_ge (tgt := 52) hx hb dX9_feed_45 (by decide) (fun _ => ?_) (fun h => absurd (by decide) h)
    refine lv_iload hx hb dX9_feed_52 (lv_at hl 0 rfl) ?_
    refine lv_bipush (v := 12) hx hb dX9_feed_54 (by decide) ?_
    refine lv_icmp_ge (tgt := 63) hx hb dX9_feed_56 (by decide) (fun _ => ?_) (fun h => absurd (by decide) h)
    refine lv_iload hx hb dX9_feed_63 (lv_at hl 0 rfl) ?_
    refine lv_bipush (v := 16) hx hb dX9_feed_65 (by decide) ?_
    refine lv_icmp_ge (tgt := 75) hx hb dX9_feed_67 (by decide) (fun _ => ?_) (fun h => absurd (by decide) h)
    refine lv_iload hx hb dX9_feed_75 (lv_at hl 7 rfl) ?_
    refine lv_istore (lv' := [(7, .int w), (6, .int 17), (0, .ref h0), (1, .int x), (2, .int y), (3, .int z), (4, .int v), (5, .int w)]) hx hb dX9_feed_77 hl (by decide) rfl (fun ls hl => ?_)
    refine lv_aload_n hx hb dX9_feed_79 rfl (lv_at hl 2 rfl) ?_
    refine va_get (D := D) (ci := 9) (v := .ref (g 2)) (C := RX9) (T := TX9) (N := 37) hx hb htg gRX9 hown hK hP 0 rfl rfl 3 (by decide) (htg _ wi_1153) (fun _ h9 => h9) rfl dX9_feed_80 ?_
    refine lv_aload_n hx hb dX9_feed_83 rfl (lv_at hl 2 rfl) ?_
    refine va_get (D := D) (ci := 9) (v := .int z_70) (C := RX9) (T := TX9) (N := 37) hx hb htg gRX9 hown hK hP 0 rfl rfl 5 (by decide) (htg _ wi_1155) (fun _ h9 => h9) rfl dX9_feed_84 ?_
    refine lv_iload hx hb dX9_feed_87 (lv_at hl 0 rfl) ?_
    refine lv_bipush (v := 24) hx hb dX9_feed_89 (by decide) ?_
    refine lv_bipush (v := 8) hx hb dX9_feed_91 (by decide) ?_
    refine lv_iload hx hb dX9_feed_93 (lv_at hl 1 rfl) ?_
    refine lv_iconst (v := 4) hx hb dX9_feed_95 (by decide) ?_
    refine lv_irem hx hb dX9_feed_96 (by decide) ?_
    refine lv_is (y := 1) (by decide) ?_
    refine lv_imul hx hb dX9_feed_97 ?_
    refine lv_is (y := 8) (by decide) ?_
    refine lv_isub hx hb dX9_feed_98 ?_
    refine lv_is (y := 16) (by decide) ?_
    refine lv_ishr hx hb dX9_feed_99 ?_
    refine lv_topi (fun z_71 ez_71 => ?_)
    refine lv_sipush (v := 255) hx hb dX9_feed_100 (by decide) ?_
    refine lv_iand hx hb dX9_feed_103 ?_
    refine lv_topi (fun z_72 ez_72 => ?_)
    have iz_72 : 0 ≤ z_72.toInt ∧ z_72.toInt ≤ 255 := andI ez_72 (by decide) (by decide)
    refine va_iast hx hb hK hP hD hS 1 0 rfl rfl (vp_in_iff.mpr (by omega)) dX9_feed_104 (fun H locs hP hD hS => ?_)
    obtain ⟨f_73, ef_73, hP, hD⟩ : ∃ f_73 : Nat → Int32, f_73 = upd (f_69) (z_70 : Int32).toNatClampNeg z_72 ∧ PD D A [(sw_9 h0 g 0 z_70 b6 b7 b8 b9 b10 b11 b12 b13 b14 b17 b18 b19 b23 b24 b25 b26 b27 b29 b31 b32 b33), (sw_in cT (g 2) 900 f_73)] H := ⟨_, rfl, hP, hD⟩
    have hfd_18 : FD a2 b5.toInt 18 (fdW x y z v w) f_73 := FD_s 17 hfd_17 ef_73 (by omega) (by omega) (by rw [ez_72]; first | rfl | (rw [ez_71]; rfl))
    refine lv_aload_n hx hb dX9_feed_105 rfl (lv_at hl 2 rfl) ?_
    refine lv_dup hx hb dX9_feed_106 rfl ?_
    refine va_get (D := D) (ci := 9) (v := .int z_70) (C := RX9) (T := TX9) (N := 37) hx hb htg gRX9 hown hK hP 0 rfl rfl 5 (by decide) (htg _ wi_1155) (fun _ h9 => h9) rfl dX9_feed_107 ?_
    refine lv_iconst (v := 1) hx hb dX9_feed_110 (by decide) ?_
    refine lv_iadd hx hb dX9_feed_111 ?_
    refine lv_topi (fun z_74 ez_74 => ?_)
    have iz_74 : z_74.toInt = z_70.toInt + 1 := toInt_addI ez_74 (rfl) (by decide) (by omega)
    refine va_put (D := D) (ci := 9) (v := .int z_74) (ty := .int) (C := RX9) (T := TX9) (N := 37) hx hb htg gRX9 tyX9 tyX9_ok nmX9 hown hK hP hD hS 0 rfl rfl 5 (by decide) (htg _ wi_1155) (fun _ h9 => h9) rfl (by decide +kernel) rfl rfl (Nat.le_of_ble_eq_true rfl) dX9_feed_112 (fun H locs hP hD hS => ?_)
    obtain ⟨hP, hD⟩ : PD D A [(sw_9 h0 g 0 z_74 b6 b7 b8 b9 b10 b11 b12 b13 b14 b17 b18 b19 b23 b24 b25 b26 b27 b29 b31 b32 b33), (sw_in cT (g 2) 900 f_73)] _ := ⟨hP, hD⟩
    refine lv_iinc (v := 18) (lv' := [(6, .int 18), (7, .int w), (0, .ref h0), (1, .int x), (2, .int y), (3, .int z), (4, .int v), (5, .int w)]) hx hb dX9_feed_115 hl (k := 1) rfl (by decide) (by decide) rfl (fun ls hl => ?_)
    refine lv_goto (tgt := 24) hx hb dX9_feed_118 (by decide) ?_
    refine lv_iload hx hb dX9_feed_24 (lv_at hl 0 rfl) ?_
    refine lv_bipush (v := 20) hx hb dX9_feed_26 (by decide) ?_
    refine lv_icmp_ge (tgt := 121) hx hb dX9_feed_28 (by decide) (fun h => absurd h (by decide)) (fun _ => ?_)
    refine lv_iload hx hb dX9_feed_31 (lv_at hl 0 rfl) ?_
    refine lv_iconst (v := 4) hx hb dX9_feed_33 (by decide) ?_
    refine lv_icmp_ge (tgt := 41) hx hb dX9_feed_34 (by decide) (fun _ => ?_) (fun h => absurd (by decide) h)
    refine lv_iload hx hb dX9_feed_41 (lv_at hl 0 rfl) ?_
    refine lv_bipush (v := 8) hx hb dX9_feed_43 (by decide) ?_
    refine lv_icmp_ge (tgt := 52) hx hb dX9_feed_45 (by decide) (fun _ => ?_) (fun h => absurd (by decide) h)
    refine lv_iload hx hb dX9_feed_52 (lv_at hl 0 rfl) ?_
    refine lv_bipush (v := 12) hx hb dX9_feed_54 (by decide) ?_
    refine lv_icmp_ge (tgt := 63) hx hb dX9_feed_56 (by decide) (fun _ => ?_) (fun h => absurd (by decide) h)
    refine lv_iload hx hb dX9_feed_63 (lv_at hl 0 rfl) ?_
    refine lv_bipush (v := 16) hx hb dX9_feed_65 (by decide) ?_
    refine lv_icmp_ge (tgt := 75) hx hb dX9_feed_67 (by decide) (fun _ => ?_) (fun h => absurd (by decide) h)
    refine lv_iload hx hb dX9_feed_75 (lv_at hl 7 rfl) ?_
    refine lv_istore (lv' := [(7, .int w), (6, .int 18), (0, .ref h0), (1, .int x), (2, .int y), (3, .int z), (4, .int v), (5, .int w)]) hx hb dX9_feed_77 hl (by decide) rfl (fun ls hl => ?_)
    refine lv_aload_n hx hb dX9_feed_79 rfl (lv_at hl 2 rfl) ?_
    refine va_get (D := D) (ci := 9) (v := .ref (g 2)) (C := RX9) (T := TX9) (N := 37) hx hb htg gRX9 hown hK hP 0 rfl rfl 3 (by decide) (htg _ wi_1153) (fun _ h9 => h9) rfl dX9_feed_80 ?_
    refine lv_aload_n hx hb dX9_feed_83 rfl (lv_at hl 2 rfl) ?_
    refine va_get (D := D) (ci := 9) (v := .int z_74) (C := RX9) (T := TX9) (N := 37) hx hb htg gRX9 hown hK hP 0 rfl rfl 5 (by decide) (htg _ wi_1155) (fun _ h9 => h9) rfl dX9_feed_84 ?_
    refine lv_iload hx hb dX9_feed_87 (lv_at hl 0 rfl) ?_
    refine lv_bipush (v := 24) hx hb dX9_feed_89 (by decide) ?_
    refine lv_bipush (v := 8) hx hb dX9_feed_91 (by decide) ?_
    refine lv_iload hx hb dX9_feed_93 (lv_at hl 1 rfl) ?_
    refine lv_iconst (v := 4) hx hb dX9_feed_95 (by decide) ?_
    refine lv_irem hx hb dX9_feed_96 (by decide) ?_
    refine lv_is (y := 2) (by decide) ?_
    refine lv_imul hx hb dX9_feed_97 ?_
    refine lv_is (y := 16) (by decide) ?_
    refine lv_isub hx hb dX9_feed_98 ?_
    refine lv_is (y := 8) (by decide) ?_
    refine lv_ishr hx hb dX9_feed_99 ?_
    refine lv_topi (fun z_75 ez_75 => ?_)
    refine lv_sipush (v := 255) hx hb dX9_feed_100 (by decide) ?_
    refine lv_iand hx hb dX9_feed_103 ?_
    refine lv_topi (fun z_76 ez_76 => ?_)
    have iz_76 : 0 ≤ z_76.toInt ∧ z_76.toInt ≤ 255 := andI ez_76 (by decide) (by decide)
    refine va_iast hx hb hK hP hD hS 1 0 rfl rfl (vp_in_iff.mpr (by omega)) dX9_feed_104 (fun H locs hP hD hS => ?_)
    obtain ⟨f_77, ef_77, hP, hD⟩ : ∃ f_77 : Nat → Int32, f_77 = upd (f_73) (z_74 : Int32).toNatClampNeg z_76 ∧ PD D A [(sw_9 h0 g 0 z_74 b6 b7 b8 b9 b10 b11 b12 b13 b14 b17 b18 b19 b23 b24 b25 b26 b27 b29 b31 b32 b33), (sw_in cT (g 2) 900 f_77)] H := ⟨_, rfl, hP, hD⟩
    have hfd_19 : FD a2 b5.toInt 19 (fdW x y z v w) f_77 := FD_s 18 hfd_18 ef_77 (by omega) (by omega) (by rw [ez_76]; first | rfl | (rw [ez_75]; rfl))
    refine lv_aload_n hx hb dX9_feed_105 rfl (lv_at hl 2 rfl) ?_
    refine lv_dup hx hb dX9_feed_106 rfl ?_
    refine va_get (D := D) (ci := 9) (v := .int z_74) (C := RX9) (T := TX9) (N := 37) hx hb htg gRX9 hown hK hP 0 rfl rfl 5 (by decide) (htg _ wi_1155) (fun _ h9 => h9) rfl dX9_feed_107 ?_
    refine lv_iconst (v := 1) hx hb dX9_feed_110 (by decide) ?_
    refine lv_iadd hx hb dX9_feed_111 ?_
    refine lv_topi (fun z_78 ez_78 => ?_)
    have iz_78 : z_78.toInt = z_74.toInt + 1 := toInt_addI ez_78 (rfl) (by decide) (by omega)
    refine va_put (D := D) (ci := 9) (v := .int z_78) (ty := .int) (C := RX9) (T := TX9) (N := 37) hx hb htg gRX9 tyX9 tyX9_ok nmX9 hown hK hP hD hS 0 rfl rfl 5 (by decide) (htg _ wi_1155) (fun _ h9 => h9) rfl (by decide +kernel) rfl rfl (Nat.le_of_ble_eq_true rfl) dX9_feed_112 (fun H locs hP hD hS => ?_)
    obtain ⟨hP, hD⟩ : PD D A [(sw_9 h0 g 0 z_78 b6 b7 b8 b9 b10 b11 b12 b13 b14 b17 b18 b19 b23 b24 b25 b26 b27 b29 b31 b32 b33), (sw_in cT (g 2) 900 f_77)] _ := ⟨hP, hD⟩
    refine lv_iinc (v := 19) (lv' := [(6, .int 19), (7, .int w), (0, .ref h0), (1, .int x), (2, .int y), (3, .int z), (4, .int v), (5, .int w)]) hx hb dX9_feed_115 hl (k := 1) rfl (by decide) (by decide) rfl (fun ls hl => ?_)
    refine lv_goto (tgt := 24) hx hb dX9_feed_118 (by decide) ?_
    refine lv_iload hx hb dX9_feed_24 (lv_at hl 0 rfl) ?_
    refine lv_bipush (v := 20) hx hb dX9_feed_26 (by decide) ?_
    refine lv_icmp_ge (tgt := 121) hx hb dX9_feed_28 (by decide) (fun h => absurd h (by decide)) (fun _ => ?_)
    refine lv_iload hx hb dX9_feed_31 (lv_at hl 0 rfl) ?_
    refine lv_iconst (v := 4) hx hb dX9_feed_33 (by decide) ?_
    refine lv_icmp_ge (tgt := 41) hx hb dX9_feed_34 (by decide) (fun _ => ?_) (fun h => absurd (by decide) h)
    refine lv_iload hx hb dX9_feed_41 (lv_at hl 0 rfl) ?_
    refine lv_bipush (v := 8) hx hb dX9_feed_43 (by decide) ?_
    refine lv_icmp_ge (tgt := 52) hx hb dX9_feed_45 (by decide) (fun _ => ?_) (fun h => absurd (by decide) h)
    refine lv_iload hx hb dX9_feed_52 (lv_at hl 0 rfl) ?_
    refine lv_bipush (v := 12) hx hb dX9_feed_54 (by decide) ?_
    refine lv_icmp_ge (tgt := 63) hx hb dX9_feed_56 (by decide) (fun _ => ?_) (fun h => absurd (by decide) h)
    refine lv_iload hx hb dX9_feed_63 (lv_at hl 0 rfl) ?_
    refine lv_bipush (v := 16) hx hb dX9_feed_65 (by decide) ?_
    refine lv_icmp_ge (tgt := 75) hx hb dX9_feed_67 (by decide) (fun _ => ?_) (fun h => absurd (by decide) h)
    refine lv_iload hx hb dX9_feed_75 (lv_at hl 7 rfl) ?_
    refine lv_istore (lv' := [(7, .int w), (6, .int 19), (0, .ref h0), (1, .int x), (2, .int y), (3, .int z), (4, .int v), (5, .int w)]) hx hb dX9_feed_77 hl (by decide) rfl (fun ls hl => ?_)
    refine lv_aload_n hx hb dX9_feed_79 rfl (lv_at hl 2 rfl) ?_
    refine va_get (D := D) (ci := 9) (v := .ref (g 2)) (C := RX9) (T := TX9) (N := 37) hx hb htg gRX9 hown hK hP 0 rfl rfl 3 (by decide) (htg _ wi_1153) (fun _ h9 => h9) rfl dX9_feed_80 ?_
    refine lv_aload_n hx hb dX9_feed_83 rfl (lv_at hl 2 rfl) ?_
    refine va_get (D := D) (ci := 9) (v := .int z_78) (C := RX9) (T := TX9) (N := 37) hx hb htg gRX9 hown hK hP 0 rfl rfl 5 (by decide) (htg _ wi_1155) (fun _ h9 => h9) rfl dX9_feed_84 ?_
    refine lv_iload hx hb dX9_feed_87 (lv_at hl 0 rfl) ?_
    refine lv_bipush (v := 24) hx hb dX9_feed_89 (by decide) ?_
    refine lv_bipush (v := 8) hx hb dX9_feed_91 (by decide) ?_
    refine lv_iload hx hb dX9_feed_93 (lv_at hl 1 rfl) ?_
    refine lv_iconst (v := 4) hx hb dX9_feed_95 (by decide) ?_
    refine lv_irem hx hb dX9_feed_96 (by decide) ?_
    refine lv_is (y := 3) (by decide) ?_
    refine lv_imul hx hb dX9_feed_97 ?_
    refine lv_is (y := 24) (by decide) ?_
    refine lv_isub hx hb dX9_feed_98 ?_
    refine lv_is (y := 0) (by decide) ?_
    refine lv_ishr hx hb dX9_feed_99 ?_
    refine lv_topi (fun z_79 ez_79 => ?_)
    refine lv_sipush (v := 255) hx hb dX9_feed_100 (by decide) ?_
    refine lv_iand hx hb dX9_feed_103 ?_
    refine lv_topi (fun z_80 ez_80 => ?_)
    have iz_80 : 0 ≤ z_80.toInt ∧ z_80.toInt ≤ 255 := andI ez_80 (by decide) (by decide)
    refine va_iast hx hb hK hP hD hS 1 0 rfl rfl (vp_in_iff.mpr (by omega)) dX9_feed_104 (fun H locs hP hD hS => ?_)
    obtain ⟨f_81, ef_81, hP, hD⟩ : ∃ f_81 : Nat → Int32, f_81 = upd (f_77) (z_78 : Int32).toNatClampNeg z_80 ∧ PD D A [(sw_9 h0 g 0 z_78 b6 b7 b8 b9 b10 b11 b12 b13 b14 b17 b18 b19 b23 b24 b25 b26 b27 b29 b31 b32 b33), (sw_in cT (g 2) 900 f_81)] H := ⟨_, rfl, hP, hD⟩
    have hfd_20 : FD a2 b5.toInt 20 (fdW x y z v w) f_81 := FD_s 19 hfd_19 ef_81 (by omega) (by omega) (by rw [ez_80]; first | rfl | (rw [ez_79]; rfl))
    refine lv_aload_n hx hb dX9_feed_105 rfl (lv_at hl 2 rfl) ?_
    refine lv_dup hx hb dX9_feed_106 rfl ?_
    refine va_get (D := D) (ci := 9) (v := .int z_78) (C := RX9) (T := TX9) (N := 37) hx hb htg gRX9 hown hK hP 0 rfl rfl 5 (by decide) (htg _ wi_1155) (fun _ h9 => h9) rfl dX9_feed_107 ?_
    refine lv_iconst (v := 1) hx hb dX9_feed_110 (by decide) ?_
    refine lv_iadd hx hb dX9_feed_111 ?_
    refine lv_topi (fun z_82 ez_82 => ?_)
    have iz_82 : z_82.toInt = z_78.toInt + 1 := toInt_addI ez_82 (rfl) (by decide) (by omega)
    refine va_put (D := D) (ci := 9) (v := .int z_82) (ty := .int) (C := RX9) (T := TX9) (N := 37) hx hb htg gRX9 tyX9 tyX9_ok nmX9 hown hK hP hD hS 0 rfl rfl 5 (by decide) (htg _ wi_1155) (fun _ h9 => h9) rfl (by decide +kernel) rfl rfl (Nat.le_of_ble_eq_true rfl) dX9_feed_112 (fun H locs hP hD hS => ?_)
    obtain ⟨hP, hD⟩ : PD D A [(sw_9 h0 g 0 z_82 b6 b7 b8 b9 b10 b11 b12 b13 b14 b17 b18 b19 b23 b24 b25 b26 b27 b29 b31 b32 b33), (sw_in cT (g 2) 900 f_81)] _ := ⟨hP, hD⟩
    refine lv_iinc (v := 20) (lv' := [(6, .int 20), (7, .int w), (0, .ref h0), (1, .int x), (2, .int y), (3, .int z), (4, .int v), (5, .int w)]) hx hb dX9_feed_115 hl (k := 1) rfl (by decide) (by decide) rfl (fun ls hl => ?_)
    refine lv_goto (tgt := 24) hx hb dX9_feed_118 (by decide) ?_
    refine lv_iload hx hb dX9_feed_24 (lv_at hl 0 rfl) ?_
    refine lv_bipush (v := 20) hx hb dX9_feed_26 (by decide) ?_
    refine lv_icmp_ge (tgt := 121) hx hb dX9_feed_28 (by decide) (fun _ => ?_) (fun h => absurd (by decide) h)
    refine lv_aload_n hx hb dX9_feed_121 rfl (lv_at hl 2 rfl) ?_
    refine va_get (D := D) (ci := 9) (v := .int z_82) (C := RX9) (T := TX9) (N := 37) hx hb htg gRX9 hown hK hP 0 rfl rfl 5 (by decide) (htg _ wi_1155) (fun _ h9 => h9) rfl dX9_feed_122 ?_
    exact x_iret hx hb hr hlk hP hD hS [0, 1] ((0, z_82, f_81)) rfl (by decide) ⟨by (try dsimp only); first | assumption | omega | decide | exact Or.inl (by decide) | (intro h9; exact absurd h9 (by decide)) | (intro _; omega) | (intro _; assumption) | (intro _; decide), by (try dsimp only); first | assumption | omega | decide | exact Or.inl (by decide) | (intro h9; exact absurd h9 (by decide)) | (intro _; omega) | (intro _; assumption) | (intro _; decide), (fun _ j hj => hfd_20.1 j hj), (fun h9 => by exfalso; omega), (fun _ => hfd_20.2 0 (by decide)), (fun _ => hfd_20.2 1 (by decide)), (fun _ => hfd_20.2 2 (by decide)), (fun _ => hfd_20.2 3 (by decide)), (fun _ => hfd_20.2 4 (by decide)), (fun _ => hfd_20.2 5 (by decide)), (fun _ => hfd_20.2 6 (by decide)), (fun _ => hfd_20.2 7 (by decide)), (fun _ => hfd_20.2 8 (by decide)), (fun _ => hfd_20.2 9 (by decide)), (fun _ => hfd_20.2 10 (by decide)), (fun _ => hfd_20.2 11 (by decide)), (fun _ => hfd_20.2 12 (by decide)), (fun _ => hfd_20.2 13 (by decide)), (fun _ => hfd_20.2 14 (by decide)), (fun _ => hfd_20.2 15 (by decide)), (fun _ => hfd_20.2 16 (by decide)), (fun _ => hfd_20.2 17 (by decide)), (fun _ => hfd_20.2 18 (by decide)), (fun _ => hfd_20.2 19 (by decide)), trivial⟩ (by decide) (by decide) dX9_feed_125
  · have ic_2 : 900 < z_1.toInt := inle c_2 (rfl) (by decide)
    refine lv_bipush (v := (-5)) hx hb dX9_feed_18 (by decide) ?_
    exact x_iret hx hb hr hlk hP hD hS [0, 1] ((0, b5, a2)) rfl (by decide) ⟨by (try dsimp only); first | assumption | omega | decide | exact Or.inl (by decide) | (intro h9; exact absurd h9 (by decide)) | (intro _; omega) | (intro _; assumption) | (intro _; decide), by (try dsimp only); first | assumption | omega | decide | exact Or.inl (by decide) | (intro h9; exact absurd h9 (by decide)) | (intro _; omega) | (intro _; assumption) | (intro _; decide), (fun h9 => by exfalso; omega), (fun _ => rfl), (fun h9 => by exfalso; omega), (fun h9 => by exfalso; omega), (fun h9 => by exfalso; omega), (fun h9 => by exfalso; omega), (fun h9 => by exfalso; omega), (fun h9 => by exfalso; omega), (fun h9 => by exfalso; omega), (fun h9 => by exfalso; omega), (fun h9 => by exfalso; omega), (fun h9 => by exfalso; omega), (fun h9 => by exfalso; omega), (fun h9 => by exfalso; omega), (fun h9 => by exfalso; omega), (fun h9 => by exfalso; omega), (fun h9 => by exfalso; omega), (fun h9 => by exfalso; omega), (fun h9 => by exfalso; omega), (fun h9 => by exfalso; omega), (fun h9 => by exfalso; omega), (fun h9 => by exfalso; omega), trivial⟩ (by decide) (by decide) dX9_feed_20
