set_option maxHeartbeats 4000000 in
set_option maxRecDepth 100000 in
theorem c_fewest (l : Launch) (D : va_G) (cT : Nat → ClassId) (sz : Nat) (h0 : Nat) (h1 : Nat) (b0 : Nat) (b1 : Nat) (a : Nat → Nat) (f : Nat → Int32) : Met l yX0_fewest (wsc yX0_fewest cX0_fewest 5 (some .int)) { frames := 4, cells := 0, slots := 0, locals := 146 } (va_Pc [.ref h0, .ref h1, .int 0] (PX D cT sz [(h0, .inr (0, [.ref b0, .ref b1])), (h1, .inr (3, [.int 0, .int 0, .int 0, .int 0, .int 6, .int 6, .int 1, .int 60, .int 0, .int 0, .ref (a 0), .ref (a 1), .ref (a 2), .ref (a 3), .ref (a 4), .ref (a 5)])), (b1, .inl (cT 0, 16, .inl (f)))])) (va_Qi (fun (r : Int32) (u : Unit) => r = 0) (fun u t => RW D (va_A [(h0, .inr (0, [.ref b0, .ref b1])), (h1, .inr (3, [.int 0, .int 0, .int 0, .int 0, .int 6, .int 6, .int 1, .int 60, .int 0, .int 0, .ref (a 0), .ref (a 1), .ref (a 2), .ref (a 3), .ref (a 4), .ref (a 5)])), (b1, .inl (cT 0, 16, .inl (f)))] sz) ((fun _ : Unit => []) u) t) (va_A [(h0, .inr (0, [.ref b0, .ref b1])), (h1, .inr (3, [.int 0, .int 0, .int 0, .int 0, .int 6, .int 6, .int 1, .int 60, .int 0, .int 0, .ref (a 0), .ref (a 1), .ref (a 2), .ref (a 3), .ref (a 4), .ref (a 5)])), (b1, .inl (cT 0, 16, .inl (f)))] sz)) 0 0 (va_A [(h0, .inr (0, [.ref b0, .ref b1])), (h1, .inr (3, [.int 0, .int 0, .int 0, .int 0, .int 6, .int 6, .int 1, .int 60, .int 0, .int 0, .ref (a 0), .ref (a 1), .ref (a 2), .ref (a 3), .ref (a 4), .ref (a 5)])), (b1, .inl (cT 0, 16, .inl (f)))] sz) := by
  refine m_of (y := yX0_fewest) (cc := cX0_fewest) (nL := 5) (ret := (some .int)) (D := D) (cT := cT) (av := [.ref h0, .ref h1, .int 0]) (wi := [(h0, .inr (0, [.ref b0, .ref b1])), (h1, .inr (3, [.int 0, .int 0, .int 0, .int 0, .int 6, .int 6, .int 1, .int 60, .int 0, .int 0, .ref (a 0), .ref (a 1), .ref (a 2), .ref (a 3), .ref (a 4), .ref (a 5)])), (b1, .inl (cT 0, 16, .inl (f)))]) (fun A => va_Qi (fun (r : Int32) (u : Unit) => r = 0) (fun u t => RW D A ((fun _ : Unit => []) u) t) A) (by decide) (Nat.le_of_ble_eq_true rfl) ?_
  intro p e s m below meth c A hx hb hml hown htg hK hN hr hlk hnm hsz hP hD hS hA ls hl
  have hown : s.vm.findClass RX0 = some m.cls := hown
  have hl : lv_has ls 5 [(0, .ref h0), (1, .ref h1), (2, .int 0)] := hl
  refine lv_aload_n hx hb dX0_fewest_0 rfl (lv_at hl 0 rfl) ?_
  refine lv_aload_n hx hb dX0_fewest_1 rfl (lv_at hl 1 rfl) ?_
  refine xk_v (wr := []) (xr_V (n := 1) (As := [.ref h1]) (rest := []) ⟨hx, hb, hml, hown, htg⟩ hK hN hP hD [0, 1, 2] rfl (by decide) (c_look l D cT _ (h0) (h1) (b0) (b1) (a) (f)) wi_1016 wi_1018 wi_66 wi_129 wi_1019 rfl rfl rfl ⟨rfl, by decide +kernel⟩ ⟨Nat.le_of_ble_eq_true rfl, Nat.le_of_ble_eq_true rfl⟩ rfl hl.1 rfl (Nat.le_of_ble_eq_true rfl) dX0_fewest_2 ⟨Nat.le_of_ble_eq_true rfl, Nat.le_of_ble_eq_true rfl⟩) hP hD hS hA [0, 1, 2] [] rfl rfl (by decide) (by decide) (fun u_1 H locs hwr_2 hP hD hS => ?_)
  have hP : va_P D classes [(h0, .inr (0, [.ref b0, .ref b1])), (h1, .inr (3, [.int 0, .int 0, .int 0, .int 0, .int 6, .int 6, .int 1, .int 60, .int 0, .int 0, .ref (a 0), .ref (a 1), .ref (a 2), .ref (a 3), .ref (a 4), .ref (a 5)]))] _ := hP
  have hD : va_D A [(h0, .inr (0, [.ref b0, .ref b1])), (h1, .inr (3, [.int 0, .int 0, .int 0, .int 0, .int 6, .int 6, .int 1, .int 60, .int 0, .int 0, .ref (a 0), .ref (a 1), .ref (a 2), .ref (a 3), .ref (a 4), .ref (a 5)]))] := hD
  refine lv_aload_n hx hb dX0_fewest_5 rfl (lv_at hl 1 rfl) ?_
  refine xk_i (wr := [(h0, .inr (0, [.ref b0, .ref b1]))]) (xr_VN (n := 0) (As := []) (rest := []) ⟨hx, hb, hml, hown, htg⟩ hK hN hP hD [1] rfl (by decide) (c_allStrips l D cT _ (h1) (a)) ni_1022 wi_739 wi_28 wi_123 wi_740 rfl rfl rfl ⟨rfl, by decide +kernel⟩ ⟨Nat.le_of_ble_eq_true rfl, Nat.le_of_ble_eq_true rfl⟩ rfl hl.1 rfl (Nat.le_of_ble_eq_true rfl) dX0_fewest_6 ⟨Nat.le_of_ble_eq_true rfl, Nat.le_of_ble_eq_true rfl⟩) hP hD hS hA [1] [0] rfl rfl (by decide) (by decide) (fun r_4 u_3 H locs hwr_4 hP hD hS => ?_)
  have hP : va_P D classes [(h0, .inr (0, [.ref b0, .ref b1])), (h1, .inr (3, [.int 0, .int 0, .int 0, .int 0, .int 6, .int 6, .int 1, .int 60, .int 0, .int 0, .ref (a 0), .ref (a 1), .ref (a 2), .ref (a 3), .ref (a 4), .ref (a 5)]))] _ := hP
  have hD : va_D A [(h0, .inr (0, [.ref b0, .ref b1])), (h1, .inr (3, [.int 0, .int 0, .int 0, .int 0, .int 6, .int 6, .int 1, .int 60, .int 0, .int 0, .ref (a 0), .ref (a 1), .ref (a 2), .ref (a 3), .ref (a 4), .ref (a 5)]))] := hD
  have hwr_4 : r_4 = 0 := hwr_4
  subst hwr_4
  refine lv_istore_n (lv' := [(3, .int 0), (0, .ref h0), (1, .ref h1), (2, .int 0)]) hx hb dX0_fewest_9 rfl hl (by decide) rfl (fun ls hl => ?_)
  refine lv_iconst (v := 0) hx hb dX0_fewest_10 (by decide) ?_
  refine lv_istore (lv' := [(4, .int 0), (3, .int 0), (0, .ref h0), (1, .ref h1), (2, .int 0)]) hx hb dX0_fewest_11 hl (by decide) rfl (fun ls hl => ?_)
  refine lv_iload hx hb dX0_fewest_13 (lv_at hl 0 rfl) ?_
  refine lv_aload_n hx hb dX0_fewest_15 rfl (lv_at hl 3 rfl) ?_
  refine va_getN (D := D) (ci := 3) (v := .int 0) (C := RX3) (T := TX3) (N := 16) hx hb htg gRX3 hown hK hP 1 rfl rfl 0 (by decide) (va_Nw.use rfl (hN.1 _ ni_168)) (fun _ h9 => h9) rfl dX0_fewest_16 ?_
  refine lv_icmp_gt (tgt := 46) hx hb dX0_fewest_19 (by decide) (fun h => absurd h (by decide)) (fun _ => ?_)
  refine lv_aload_n hx hb dX0_fewest_22 rfl (lv_at hl 2 rfl) ?_
  refine va_get (D := D) (ci := 0) (v := .ref b0) (C := RX0) (T := TX0) (N := 2) hx hb htg gRX0 hown hK hP 0 rfl rfl 0 (by decide) (htg _ wi_439) (fun _ h9 => h9) rfl dX0_fewest_23 ?_
  refine lv_aload_n hx hb dX0_fewest_26 rfl (lv_at hl 2 rfl) ?_
  refine va_get (D := D) (ci := 0) (v := .ref b1) (C := RX0) (T := TX0) (N := 2) hx hb htg gRX0 hown hK hP 0 rfl rfl 1 (by decide) (htg _ wi_440) (fun _ h9 => h9) rfl dX0_fewest_27 ?_
  refine lv_iload_n hx hb dX0_fewest_30 rfl (lv_at hl 4 rfl) ?_
  refine lv_iload_n hx hb dX0_fewest_31 rfl (lv_at hl 1 rfl) ?_
  refine lv_iload hx hb dX0_fewest_32 (lv_at hl 0 rfl) ?_
  refine xk_i (wr := [(h0, .inr (0, [.ref b0, .ref b1])), (h1, .inr (3, [.int 0, .int 0, .int 0, .int 0, .int 6, .int 6, .int 1, .int 60, .int 0, .int 0, .ref (a 0), .ref (a 1), .ref (a 2), .ref (a 3), .ref (a 4), .ref (a 5)]))]) (xr_S (n := 5) (As := [.ref b0, .ref b1, .int 0, .int 0, .int 0]) (rest := []) ⟨hx, hb, hml, hown, htg⟩ hK hN hP hD [] rfl (by decide) (c_canLight l D cT _ (b0) (b1)) wi_1023 wi_1024 wi_129 wi_1025 ⟨rfl, by decide +kernel⟩ ⟨Nat.le_of_ble_eq_true rfl, Nat.le_of_ble_eq_true rfl⟩ rfl hl.1 rfl (Nat.le_of_ble_eq_true rfl) dX0_fewest_34 ⟨Nat.le_of_ble_eq_true rfl, Nat.le_of_ble_eq_true rfl⟩) hP hD hS hA [] [0, 1] rfl rfl (by decide) (by decide) (fun r_6 u_5 H locs hwr_6 hP hD hS => ?_)
  have hP : va_P D classes [(h0, .inr (0, [.ref b0, .ref b1])), (h1, .inr (3, [.int 0, .int 0, .int 0, .int 0, .int 6, .int 6, .int 1, .int 60, .int 0, .int 0, .ref (a 0), .ref (a 1), .ref (a 2), .ref (a 3), .ref (a 4), .ref (a 5)]))] _ := hP
  have hD : va_D A [(h0, .inr (0, [.ref b0, .ref b1])), (h1, .inr (3, [.int 0, .int 0, .int 0, .int 0, .int 6, .int 6, .int 1, .int 60, .int 0, .int 0, .ref (a 0), .ref (a 1), .ref (a 2), .ref (a 3), .ref (a 4), .ref (a 5)]))] := hD
  have hwr_6 : r_6 = 1 := hwr_6
  subst hwr_6
  refine lv_if_ne (tgt := 46) hx hb dX0_fewest_37 (by decide) (fun _ => ?_) (fun h => absurd h (by decide))
  refine lv_iload hx hb dX0_fewest_46 (lv_at hl 0 rfl) ?_
  refine lv_aload_n hx hb dX0_fewest_48 rfl (lv_at hl 3 rfl) ?_
  refine va_getN (D := D) (ci := 3) (v := .int 0) (C := RX3) (T := TX3) (N := 16) hx hb htg gRX3 hown hK hP 1 rfl rfl 0 (by decide) (va_Nw.use rfl (hN.1 _ ni_168)) (fun _ h9 => h9) rfl dX0_fewest_49 ?_
  refine lv_icmp_le (tgt := 57) hx hb dX0_fewest_52 (by decide) (fun _ => ?_) (fun h => absurd (by decide) h)
  refine lv_aload_n hx hb dX0_fewest_57 rfl (lv_at hl 2 rfl) ?_
  refine lv_aload_n hx hb dX0_fewest_58 rfl (lv_at hl 3 rfl) ?_
  refine va_getN (D := D) (ci := 3) (v := .int 0) (C := RX3) (T := TX3) (N := 16) hx hb htg gRX3 hown hK hP 1 rfl rfl 0 (by decide) (va_Nw.use rfl (hN.1 _ ni_168)) (fun _ h9 => h9) rfl dX0_fewest_59 ?_
  refine lv_iload_n hx hb dX0_fewest_62 rfl (lv_at hl 4 rfl) ?_
  refine lv_iload hx hb dX0_fewest_63 (lv_at hl 0 rfl) ?_
  refine xk_i (wr := [(h1, .inr (3, [.int 0, .int 0, .int 0, .int 0, .int 6, .int 6, .int 1, .int 60, .int 0, .int 0, .ref (a 0), .ref (a 1), .ref (a 2), .ref (a 3), .ref (a 4), .ref (a 5)]))]) (xr_V (n := 3) (As := [.int 0, .int 0, .int 0]) (rest := []) ⟨hx, hb, hml, hown, htg⟩ hK hN hP hD [0] rfl (by decide) (c_leastBits l D cT _ (h0) (b0) (b1)) wi_1030 wi_1032 wi_67 wi_129 wi_1033 rfl rfl rfl ⟨rfl, by decide +kernel⟩ ⟨Nat.le_of_ble_eq_true rfl, Nat.le_of_ble_eq_true rfl⟩ rfl hl.1 rfl (Nat.le_of_ble_eq_true rfl) dX0_fewest_65 ⟨Nat.le_of_ble_eq_true rfl, Nat.le_of_ble_eq_true rfl⟩) hP hD hS hA [0] [1] rfl rfl (by decide) (by decide) (fun r_8 u_7 H locs hwr_8 hP hD hS => ?_)
  have hP : va_P D classes [(h1, .inr (3, [.int 0, .int 0, .int 0, .int 0, .int 6, .int 6, .int 1, .int 60, .int 0, .int 0, .ref (a 0), .ref (a 1), .ref (a 2), .ref (a 3), .ref (a 4), .ref (a 5)]))] _ := hP
  have hD : va_D A [(h1, .inr (3, [.int 0, .int 0, .int 0, .int 0, .int 6, .int 6, .int 1, .int 60, .int 0, .int 0, .ref (a 0), .ref (a 1), .ref (a 2), .ref (a 3), .ref (a 4), .ref (a 5)]))] := hD
  have hwr_8 : r_8 = 0 := hwr_8
  subst hwr_8
  exact x_iret hx hb hr hlk hP hD hS [] (()) rfl (by decide) (by first | rfl | decide | (exfalso; omega) | (try simp only [ti_0, ti_1, ti_2, ti_3, ti_4, ti_5, ti_6, ti_7, ti_8, ti_9, ti_10, ti_11, ti_12]); (repeat (first | rw [if_pos (by first | assumption | omega | trivial)] | rw [if_neg (by first | assumption | omega)]))) (by decide) (by decide) dX0_fewest_68
set_option maxHeartbeats 4000000 in
set_option maxRecDepth 100000 in
theorem c_reader (l : Launch) (D : va_G) (cT : Nat → ClassId) (sz : Nat) (h0 : Nat) : Met l yX6_init (wsc yX6_init cX6_init 1 none) { frames := 5, cells := 8, slots := 1002, locals := 163 } (va_Pc [.ref h0] (PX D cT sz [(h0, .inr (6, [.null, .int 0, .int 0, .null, .int 0, .int 0, .int 0, .int 0, .int 0]))])) (va_Qv (fun (u : Nat → Nat) => True) (fun u t => RW D (va_A [(h0, .inr (6, [.null, .int 0, .int 0, .null, .int 0, .int 0, .int 0, .int 0, .int 0]))] sz) ((fun u : Nat → Nat => [(h0, .inr (6, [.ref (u 0), .int 0, .int (-1), .ref (u 1), .int 0, .int 0, .int 0, .int 0, .int 0])), ((u 0), .inr (3, [.int 0, .int 0, .int 0, .int 0, .int 6, .int 6, .int 1, .int 60, .int 0, .int 0, .ref (u 2), .ref (u 3), .ref (u 4), .ref (u 5), .ref (u 6), .ref (u 7)])), ((u 1), .inl (cT 2, 900, .inl (fun _ => 0))), ((u 2), .inl (cT 0, 16, .inl (fun _ => 0))), ((u 3), .inl (cT 0, 16, .inl (fun _ => 0))), ((u 4), .inl (cT 0, 16, .inl (fun _ => 0))), ((u 5), .inl (cT 0, 16, .inl (fun _ => 0))), ((u 6), .inl (cT 0, 16, .inl (fun _ => 0))), ((u 7), .inl (cT 0, 6, .inl (fillF (fun _ => 0) 6 (1))))]) u) t) (va_A [(h0, .inr (6, [.null, .int 0, .int 0, .null, .int 0, .int 0, .int 0, .int 0, .int 0]))] sz)) 8 1002 (va_A [(h0, .inr (6, [.null, .int 0, .int 0, .null, .int 0, .int 0, .int 0, .int 0, .int 0]))] sz) := by
  refine m_of (y := yX6_init) (cc := cX6_init) (nL := 1) (ret := none) (D := D) (cT := cT) (av := [.ref h0]) (wi := [(h0, .inr (6, [.null, .int 0, .int 0, .null, .int 0, .int 0, .int 0, .int 0, .int 0]))]) (fun A => va_Qv (fun (u : Nat → Nat) => True) (fun u t => RW D A ((fun u : Nat → Nat => [(h0, .inr (6, [.ref (u 0), .int 0, .int (-1), .ref (u 1), .int 0, .int 0, .int 0, .int 0, .int 0])), ((u 0), .inr (3, [.int 0, .int 0, .int 0, .int 0, .int 6, .int 6, .int 1, .int 60, .int 0, .int 0, .ref (u 2), .ref (u 3), .ref (u 4), .ref (u 5), .ref (u 6), .ref (u 7)])), ((u 1), .inl (cT 2, 900, .inl (fun _ => 0))), ((u 2), .inl (cT 0, 16, .inl (fun _ => 0))), ((u 3), .inl (cT 0, 16, .inl (fun _ => 0))), ((u 4), .inl (cT 0, 16, .inl (fun _ => 0))), ((u 5), .inl (cT 0, 16, .inl (fun _ => 0))), ((u 6), .inl (cT 0, 16, .inl (fun _ => 0))), ((u 7), .inl (cT 0, 6, .inl (fillF (fun _ => 0) 6 (1))))]) u) t) A) (by decide) (Nat.le_of_ble_eq_true rfl) ?_
  intro p e s m below meth c A hx hb hml hown htg hK hN hr hlk hnm hsz hP hD hS hA ls hl
  have hown : s.vm.findClass RX6 = some m.cls := hown
  have hl : lv_has ls 1 [(0, .ref h0)] := hl
  refine lv_aload_n hx hb dX6_init_0 rfl (lv_at hl 0 rfl) ?_
  refine W.objInit hx hb hown (htg _ wi_152) (htg _ wi_145) (htg _ wi_146) rfl (by rw [hml]; exact hl.1) rfl dX6_init_1 (Nat.le_of_ble_eq_true rfl) (Nat.le_of_ble_eq_true rfl) ?_
  refine W.eq (g2 := F0 m 4 ls []) rfl ?_
  refine lv_aload_n hx hb dX6_init_4 rfl (lv_at hl 0 rfl) ?_
  refine va_new (ci := 3) (fs := [.int 0, .int 0, .int 0, .int 0, .int 0, .int 0, .int 0, .int 0, .int 0, .int 0, .null, .null, .null, .null, .null, .null]) (C := RX3) (T := TX3) (N := 16) hx hb htg gRX3 tyX3 tyX3_ok hown (htg _ wi_153) (htg _ wi_154) (htg _ wi_123) hK hP hD hS hA rfl (by decide) (by decide) (by decide) dX6_init_5 (fun o_1 H hP hD hS => ?_)
  have hP : va_P D classes [(h0, .inr (6, [.null, .int 0, .int 0, .null, .int 0, .int 0, .int 0, .int 0, .int 0])), (o_1, .inr (3, [.int 0, .int 0, .int 0, .int 0, .int 0, .int 0, .int 0, .int 0, .int 0, .int 0, .null, .null, .null, .null, .null, .null]))] _ := hP
  have hD : va_D A [(h0, .inr (6, [.null, .int 0, .int 0, .null, .int 0, .int 0, .int 0, .int 0, .int 0])), (o_1, .inr (3, [.int 0, .int 0, .int 0, .int 0, .int 0, .int 0, .int 0, .int 0, .int 0, .int 0, .null, .null, .null, .null, .null, .null]))] := hD
  refine lv_dup hx hb dX6_init_8 rfl ?_
  refine xk_v (wr := [(h0, .inr (6, [.null, .int 0, .int 0, .null, .int 0, .int 0, .int 0, .int 0, .int 0]))]) (xr_IN (n := 0) (As := []) (rest := [.ref o_1, .ref h0]) ⟨hx, hb, hml, hown, htg⟩ hK hN hP hD [1] rfl (by decide) (c_plain l D cT _ (o_1)) ni_155 wi_156 wi_123 wi_157 rfl ⟨rfl, by decide +kernel⟩ ⟨Nat.le_of_ble_eq_true rfl, Nat.le_of_ble_eq_true rfl⟩ rfl hl.1 rfl (Nat.le_of_ble_eq_true rfl) dX6_init_9 ⟨Nat.le_of_ble_eq_true rfl, Nat.le_of_ble_eq_true rfl⟩) hP hD hS hA [1] [0] rfl rfl (by decide) (by decide) (fun u_2 H locs hwr_3 hP hD hS => ?_)
  have hP : va_P D classes [(h0, .inr (6, [.null, .int 0, .int 0, .null, .int 0, .int 0, .int 0, .int 0, .int 0])), (o_1, .inr (3, [.int 0, .int 0, .int 0, .int 0, .int 6, .int 6, .int 1, .int 60, .int 0, .int 0, .ref (u_2 0), .ref (u_2 1), .ref (u_2 2), .ref (u_2 3), .ref (u_2 4), .ref (u_2 5)])), ((u_2 0), .inl (cT 0, 16, .inl (fun _ => 0))), ((u_2 1), .inl (cT 0, 16, .inl (fun _ => 0))), ((u_2 2), .inl (cT 0, 16, .inl (fun _ => 0))), ((u_2 3), .inl (cT 0, 16, .inl (fun _ => 0))), ((u_2 4), .inl (cT 0, 16, .inl (fun _ => 0))), ((u_2 5), .inl (cT 0, 6, .inl (fillF (fun _ => 0) 6 (1))))] _ := hP
  have hD : va_D A [(h0, .inr (6, [.null, .int 0, .int 0, .null, .int 0, .int 0, .int 0, .int 0, .int 0])), (o_1, .inr (3, [.int 0, .int 0, .int 0, .int 0, .int 6, .int 6, .int 1, .int 60, .int 0, .int 0, .ref (u_2 0), .ref (u_2 1), .ref (u_2 2), .ref (u_2 3), .ref (u_2 4), .ref (u_2 5)])), ((u_2 0), .inl (cT 0, 16, .inl (fun _ => 0))), ((u_2 1), .inl (cT 0, 16, .inl (fun _ => 0))), ((u_2 2), .inl (cT 0, 16, .inl (fun _ => 0))), ((u_2 3), .inl (cT 0, 16, .inl (fun _ => 0))), ((u_2 4), .inl (cT 0, 16, .inl (fun _ => 0))), ((u_2 5), .inl (cT 0, 6, .inl (fillF (fun _ => 0) 6 (1))))] := hD
  refine va_putF (D := D) (ci := 6) (v := .ref o_1) (ty := .object "RopeMoon$Plain") (C := RX6) (T := TX6) (N := 9) hx hb htg gRX6 tyX6 tyX6_ok nmX6 hown hK hP hD hS 0 rfl rfl 0 (by decide) (htg _ wi_252) (fun _ h9 => h9) rfl hnm rfl (by decide +kernel) rfl rfl (Nat.le_of_ble_eq_true rfl) dX6_init_12 (fun H locs hP hD hS => ?_)
  have hP : va_P D classes [(h0, .inr (6, [.ref o_1, .int 0, .int 0, .null, .int 0, .int 0, .int 0, .int 0, .int 0])), (o_1, .inr (3, [.int 0, .int 0, .int 0, .int 0, .int 6, .int 6, .int 1, .int 60, .int 0, .int 0, .ref (u_2 0), .ref (u_2 1), .ref (u_2 2), .ref (u_2 3), .ref (u_2 4), .ref (u_2 5)])), ((u_2 0), .inl (cT 0, 16, .inl (fun _ => 0))), ((u_2 1), .inl (cT 0, 16, .inl (fun _ => 0))), ((u_2 2), .inl (cT 0, 16, .inl (fun _ => 0))), ((u_2 3), .inl (cT 0, 16, .inl (fun _ => 0))), ((u_2 4), .inl (cT 0, 16, .inl (fun _ => 0))), ((u_2 5), .inl (cT 0, 6, .inl (fillF (fun _ => 0) 6 (1))))] _ := hP
  have hD : va_D A [(h0, .inr (6, [.ref o_1, .int 0, .int 0, .null, .int 0, .int 0, .int 0, .int 0, .int 0])), (o_1, .inr (3, [.int 0, .int 0, .int 0, .int 0, .int 6, .int 6, .int 1, .int 60, .int 0, .int 0, .ref (u_2 0), .ref (u_2 1), .ref (u_2 2), .ref (u_2 3), .ref (u_2 4), .ref (u_2 5)])), ((u_2 0), .inl (cT 0, 16, .inl (fun _ => 0))), ((u_2 1), .inl (cT 0, 16, .inl (fun _ => 0))), ((u_2 2), .inl (cT 0, 16, .inl (fun _ => 0))), ((u_2 3), .inl (cT 0, 16, .inl (fun _ => 0))), ((u_2 4), .inl (cT 0, 16, .inl (fun _ => 0))), ((u_2 5), .inl (cT 0, 6, .inl (fillF (fun _ => 0) 6 (1))))] := hD
  refine lv_aload_n hx hb dX6_init_15 rfl (lv_at hl 0 rfl) ?_
  refine lv_iconst (v := 0) hx hb dX6_init_16 (by decide) ?_
  refine va_put (D := D) (ci := 6) (v := .int 0) (ty := .int) (C := RX6) (T := TX6) (N := 9) hx hb htg gRX6 tyX6 tyX6_ok nmX6 hown hK hP hD hS 0 rfl rfl 1 (by decide) (htg _ wi_254) (fun _ h9 => h9) rfl (by decide +kernel) rfl rfl (Nat.le_of_ble_eq_true rfl) dX6_init_17 (fun H locs hP hD hS => ?_)
  have hP : va_P D classes [(h0, .inr (6, [.ref o_1, .int 0, .int 0, .null, .int 0, .int 0, .int 0, .int 0, .int 0])), (o_1, .inr (3, [.int 0, .int 0, .int 0, .int 0, .int 6, .int 6, .int 1, .int 60, .int 0, .int 0, .ref (u_2 0), .ref (u_2 1), .ref (u_2 2), .ref (u_2 3), .ref (u_2 4), .ref (u_2 5)])), ((u_2 0), .inl (cT 0, 16, .inl (fun _ => 0))), ((u_2 1), .inl (cT 0, 16, .inl (fun _ => 0))), ((u_2 2), .inl (cT 0, 16, .inl (fun _ => 0))), ((u_2 3), .inl (cT 0, 16, .inl (fun _ => 0))), ((u_2 4), .inl (cT 0, 16, .inl (fun _ => 0))), ((u_2 5), .inl (cT 0, 6, .inl (fillF (fun _ => 0) 6 (1))))] _ := hP
  have hD : va_D A [(h0, .inr (6, [.ref o_1, .int 0, .int 0, .null, .int 0, .int 0, .int 0, .int 0, .int 0])), (o_1, .inr (3, [.int 0, .int 0, .int 0, .int 0, .int 6, .int 6, .int 1, .int 60, .int 0, .int 0, .ref (u_2 0), .ref (u_2 1), .ref (u_2 2), .ref (u_2 3), .ref (u_2 4), .ref (u_2 5)])), ((u_2 0), .inl (cT 0, 16, .inl (fun _ => 0))), ((u_2 1), .inl (cT 0, 16, .inl (fun _ => 0))), ((u_2 2), .inl (cT 0, 16, .inl (fun _ => 0))), ((u_2 3), .inl (cT 0, 16, .inl (fun _ => 0))), ((u_2 4), .inl (cT 0, 16, .inl (fun _ => 0))), ((u_2 5), .inl (cT 0, 6, .inl (fillF (fun _ => 0) 6 (1))))] := hD
  refine lv_aload_n hx hb dX6_init_20 rfl (lv_at hl 0 rfl) ?_
  refine lv_iconst (v := (-1)) hx hb dX6_init_21 (by decide) ?_
  refine va_put (D := D) (ci := 6) (v := .int (-1)) (ty := .int) (C := RX6) (T := TX6) (N := 9) hx hb htg gRX6 tyX6 tyX6_ok nmX6 hown hK hP hD hS 0 rfl rfl 2 (by decide) (htg _ wi_256) (fun _ h9 => h9) rfl (by decide +kernel) rfl rfl (Nat.le_of_ble_eq_true rfl) dX6_init_22 (fun H locs hP hD hS => ?_)
  have hP : va_P D classes [(h0, .inr (6, [.ref o_1, .int 0, .int (-1), .null, .int 0, .int 0, .int 0, .int 0, .int 0])), (o_1, .inr (3, [.int 0, .int 0, .int 0, .int 0, .int 6, .int 6, .int 1, .int 60, .int 0, .int 0, .ref (u_2 0), .ref (u_2 1), .ref (u_2 2), .ref (u_2 3), .ref (u_2 4), .ref (u_2 5)])), ((u_2 0), .inl (cT 0, 16, .inl (fun _ => 0))), ((u_2 1), .inl (cT 0, 16, .inl (fun _ => 0))), ((u_2 2), .inl (cT 0, 16, .inl (fun _ => 0))), ((u_2 3), .inl (cT 0, 16, .inl (fun _ => 0))), ((u_2 4), .inl (cT 0, 16, .inl (fun _ => 0))), ((u_2 5), .inl (cT 0, 6, .inl (fillF (fun _ => 0) 6 (1))))] _ := hP
  have hD : va_D A [(h0, .inr (6, [.ref o_1, .int 0, .int (-1), .null, .int 0, .int 0, .int 0, .int 0, .int 0])), (o_1, .inr (3, [.int 0, .int 0, .int 0, .int 0, .int 6, .int 6, .int 1, .int 60, .int 0, .int 0, .ref (u_2 0), .ref (u_2 1), .ref (u_2 2), .ref (u_2 3), .ref (u_2 4), .ref (u_2 5)])), ((u_2 0), .inl (cT 0, 16, .inl (fun _ => 0))), ((u_2 1), .inl (cT 0, 16, .inl (fun _ => 0))), ((u_2 2), .inl (cT 0, 16, .inl (fun _ => 0))), ((u_2 3), .inl (cT 0, 16, .inl (fun _ => 0))), ((u_2 4), .inl (cT 0, 16, .inl (fun _ => 0))), ((u_2 5), .inl (cT 0, 6, .inl (fillF (fun _ => 0) 6 (1))))] := hD
  refine lv_aload_n hx hb dX6_init_25 rfl (lv_at hl 0 rfl) ?_
  refine lv_sipush (v := 900) hx hb dX6_init_26 (by decide) ?_
  refine x_newa hx hb (ty := .byte) rfl (htg _ wi_250) hK hP hD hS hA 900 2 rfl (900, .inl (fun _ => 0)) (fun _ => rfl) (by decide) (by decide) (by decide) (by decide) (by decide) dX6_init_29 (fun a_4 H hP hD hS => ?_)
  have hP : va_P D classes [(h0, .inr (6, [.ref o_1, .int 0, .int (-1), .null, .int 0, .int 0, .int 0, .int 0, .int 0])), (o_1, .inr (3, [.int 0, .int 0, .int 0, .int 0, .int 6, .int 6, .int 1, .int 60, .int 0, .int 0, .ref (u_2 0), .ref (u_2 1), .ref (u_2 2), .ref (u_2 3), .ref (u_2 4), .ref (u_2 5)])), ((u_2 0), .inl (cT 0, 16, .inl (fun _ => 0))), ((u_2 1), .inl (cT 0, 16, .inl (fun _ => 0))), ((u_2 2), .inl (cT 0, 16, .inl (fun _ => 0))), ((u_2 3), .inl (cT 0, 16, .inl (fun _ => 0))), ((u_2 4), .inl (cT 0, 16, .inl (fun _ => 0))), ((u_2 5), .inl (cT 0, 6, .inl (fillF (fun _ => 0) 6 (1)))), (a_4, .inl (cT 2, 900, .inl (fun _ => 0)))] _ := hP
  have hD : va_D A [(h0, .inr (6, [.ref o_1, .int 0, .int (-1), .null, .int 0, .int 0, .int 0, .int 0, .int 0])), (o_1, .inr (3, [.int 0, .int 0, .int 0, .int 0, .int 6, .int 6, .int 1, .int 60, .int 0, .int 0, .ref (u_2 0), .ref (u_2 1), .ref (u_2 2), .ref (u_2 3), .ref (u_2 4), .ref (u_2 5)])), ((u_2 0), .inl (cT 0, 16, .inl (fun _ => 0))), ((u_2 1), .inl (cT 0, 16, .inl (fun _ => 0))), ((u_2 2), .inl (cT 0, 16, .inl (fun _ => 0))), ((u_2 3), .inl (cT 0, 16, .inl (fun _ => 0))), ((u_2 4), .inl (cT 0, 16, .inl (fun _ => 0))), ((u_2 5), .inl (cT 0, 6, .inl (fillF (fun _ => 0) 6 (1)))), (a_4, .inl (cT 2, 900, .inl (fun _ => 0)))] := hD
  refine va_putF (D := D) (ci := 6) (v := .ref a_4) (ty := .array .byte) (C := RX6) (T := TX6) (N := 9) hx hb htg gRX6 tyX6 tyX6_ok nmX6 hown hK hP hD hS 0 rfl rfl 3 (by decide) (htg _ wi_258) (fun _ h9 => h9) rfl hnm rfl (by decide +kernel) rfl rfl (Nat.le_of_ble_eq_true rfl) dX6_init_31 (fun H locs hP hD hS => ?_)
  have hP : va_P D classes [(h0, .inr (6, [.ref o_1, .int 0, .int (-1), .ref a_4, .int 0, .int 0, .int 0, .int 0, .int 0])), (o_1, .inr (3, [.int 0, .int 0, .int 0, .int 0, .int 6, .int 6, .int 1, .int 60, .int 0, .int 0, .ref (u_2 0), .ref (u_2 1), .ref (u_2 2), .ref (u_2 3), .ref (u_2 4), .ref (u_2 5)])), ((u_2 0), .inl (cT 0, 16, .inl (fun _ => 0))), ((u_2 1), .inl (cT 0, 16, .inl (fun _ => 0))), ((u_2 2), .inl (cT 0, 16, .inl (fun _ => 0))), ((u_2 3), .inl (cT 0, 16, .inl (fun _ => 0))), ((u_2 4), .inl (cT 0, 16, .inl (fun _ => 0))), ((u_2 5), .inl (cT 0, 6, .inl (fillF (fun _ => 0) 6 (1)))), (a_4, .inl (cT 2, 900, .inl (fun _ => 0)))] _ := hP
  have hD : va_D A [(h0, .inr (6, [.ref o_1, .int 0, .int (-1), .ref a_4, .int 0, .int 0, .int 0, .int 0, .int 0])), (o_1, .inr (3, [.int 0, .int 0, .int 0, .int 0, .int 6, .int 6, .int 1, .int 60, .int 0, .int 0, .ref (u_2 0), .ref (u_2 1), .ref (u_2 2), .ref (u_2 3), .ref (u_2 4), .ref (u_2 5)])), ((u_2 0), .inl (cT 0, 16, .inl (fun _ => 0))), ((u_2 1), .inl (cT 0, 16, .inl (fun _ => 0))), ((u_2 2), .inl (cT 0, 16, .inl (fun _ => 0))), ((u_2 3), .inl (cT 0, 16, .inl (fun _ => 0))), ((u_2 4), .inl (cT 0, 16, .inl (fun _ => 0))), ((u_2 5), .inl (cT 0, 6, .inl (fillF (fun _ => 0) 6 (1)))), (a_4, .inl (cT 2, 900, .inl (fun _ => 0)))] := hD
  refine lv_aload_n hx hb dX6_init_34 rfl (lv_at hl 0 rfl) ?_
  refine lv_iconst (v := 0) hx hb dX6_init_35 (by decide) ?_
  refine va_put (D := D) (ci := 6) (v := .int 0) (ty := .int) (C := RX6) (T := TX6) (N := 9) hx hb htg gRX6 tyX6 tyX6_ok nmX6 hown hK hP hD hS 0 rfl rfl 4 (by decide) (htg _ wi_259) (fun _ h9 => h9) rfl (by decide +kernel) rfl rfl (Nat.le_of_ble_eq_true rfl) dX6_init_36 (fun H locs hP hD hS => ?_)
  have hP : va_P D classes [(h0, .inr (6, [.ref o_1, .int 0, .int (-1), .ref a_4, .int 0, .int 0, .int 0, .int 0, .int 0])), (o_1, .inr (3, [.int 0, .int 0, .int 0, .int 0, .int 6, .int 6, .int 1, .int 60, .int 0, .int 0, .ref (u_2 0), .ref (u_2 1), .ref (u_2 2), .ref (u_2 3), .ref (u_2 4), .ref (u_2 5)])), ((u_2 0), .inl (cT 0, 16, .inl (fun _ => 0))), ((u_2 1), .inl (cT 0, 16, .inl (fun _ => 0))), ((u_2 2), .inl (cT 0, 16, .inl (fun _ => 0))), ((u_2 3), .inl (cT 0, 16, .inl (fun _ => 0))), ((u_2 4), .inl (cT 0, 16, .inl (fun _ => 0))), ((u_2 5), .inl (cT 0, 6, .inl (fillF (fun _ => 0) 6 (1)))), (a_4, .inl (cT 2, 900, .inl (fun _ => 0)))] _ := hP
  have hD : va_D A [(h0, .inr (6, [.ref o_1, .int 0, .int (-1), .ref a_4, .int 0, .int 0, .int 0, .int 0, .int 0])), (o_1, .inr (3, [.int 0, .int 0, .int 0, .int 0, .int 6, .int 6, .int 1, .int 60, .int 0, .int 0, .ref (u_2 0), .ref (u_2 1), .ref (u_2 2), .ref (u_2 3), .ref (u_2 4), .ref (u_2 5)])), ((u_2 0), .inl (cT 0, 16, .inl (fun _ => 0))), ((u_2 1), .inl (cT 0, 16, .inl (fun _ => 0))), ((u_2 2), .inl (cT 0, 16, .inl (fun _ => 0))), ((u_2 3), .inl (cT 0, 16, .inl (fun _ => 0))), ((u_2 4), .inl (cT 0, 16, .inl (fun _ => 0))), ((u_2 5), .inl (cT 0, 6, .inl (fillF (fun _ => 0) 6 (1)))), (a_4, .inl (cT 2, 900, .inl (fun _ => 0)))] := hD
  refine lv_aload_n hx hb dX6_init_39 rfl (lv_at hl 0 rfl) ?_
  refine lv_iconst (v := 0) hx hb dX6_init_40 (by decide) ?_
  refine va_put (D := D) (ci := 6) (v := .int 0) (ty := .int) (C := RX6) (T := TX6) (N := 9) hx hb htg gRX6 tyX6 tyX6_ok nmX6 hown hK hP hD hS 0 rfl rfl 5 (by decide) (htg _ wi_260) (fun _ h9 => h9) rfl (by decide +kernel) rfl rfl (Nat.le_of_ble_eq_true rfl) dX6_init_41 (fun H locs hP hD hS => ?_)
  have hP : va_P D classes [(h0, .inr (6, [.ref o_1, .int 0, .int (-1), .ref a_4, .int 0, .int 0, .int 0, .int 0, .int 0])), (o_1, .inr (3, [.int 0, .int 0, .int 0, .int 0, .int 6, .int 6, .int 1, .int 60, .int 0, .int 0, .ref (u_2 0), .ref (u_2 1), .ref (u_2 2), .ref (u_2 3), .ref (u_2 4), .ref (u_2 5)])), ((u_2 0), .inl (cT 0, 16, .inl (fun _ => 0))), ((u_2 1), .inl (cT 0, 16, .inl (fun _ => 0))), ((u_2 2), .inl (cT 0, 16, .inl (fun _ => 0))), ((u_2 3), .inl (cT 0, 16, .inl (fun _ => 0))), ((u_2 4), .inl (cT 0, 16, .inl (fun _ => 0))), ((u_2 5), .inl (cT 0, 6, .inl (fillF (fun _ => 0) 6 (1)))), (a_4, .inl (cT 2, 900, .inl (fun _ => 0)))] _ := hP
  have hD : va_D A [(h0, .inr (6, [.ref o_1, .int 0, .int (-1), .ref a_4, .int 0, .int 0, .int 0, .int 0, .int 0])), (o_1, .inr (3, [.int 0, .int 0, .int 0, .int 0, .int 6, .int 6, .int 1, .int 60, .int 0, .int 0, .ref (u_2 0), .ref (u_2 1), .ref (u_2 2), .ref (u_2 3), .ref (u_2 4), .ref (u_2 5)])), ((u_2 0), .inl (cT 0, 16, .inl (fun _ => 0))), ((u_2 1), .inl (cT 0, 16, .inl (fun _ => 0))), ((u_2 2), .inl (cT 0, 16, .inl (fun _ => 0))), ((u_2 3), .inl (cT 0, 16, .inl (fun _ => 0))), ((u_2 4), .inl (cT 0, 16, .inl (fun _ => 0))), ((u_2 5), .inl (cT 0, 6, .inl (fillF (fun _ => 0) 6 (1)))), (a_4, .inl (cT 2, 900, .inl (fun _ => 0)))] := hD
  refine lv_aload_n hx hb dX6_init_44 rfl (lv_at hl 0 rfl) ?_
  refine lv_iconst (v := 0) hx hb dX6_init_45 (by decide) ?_
  refine va_put (D := D) (ci := 6) (v := .int 0) (ty := .int) (C := RX6) (T := TX6) (N := 9) hx hb htg gRX6 tyX6 tyX6_ok nmX6 hown hK hP hD hS 0 rfl rfl 6 (by decide) (htg _ wi_261) (fun _ h9 => h9) rfl (by decide +kernel) rfl rfl (Nat.le_of_ble_eq_true rfl) dX6_init_46 (fun H locs hP hD hS => ?_)
  have hP : va_P D classes [(h0, .inr (6, [.ref o_1, .int 0, .int (-1), .ref a_4, .int 0, .int 0, .int 0, .int 0, .int 0])), (o_1, .inr (3, [.int 0, .int 0, .int 0, .int 0, .int 6, .int 6, .int 1, .int 60, .int 0, .int 0, .ref (u_2 0), .ref (u_2 1), .ref (u_2 2), .ref (u_2 3), .ref (u_2 4), .ref (u_2 5)])), ((u_2 0), .inl (cT 0, 16, .inl (fun _ => 0))), ((u_2 1), .inl (cT 0, 16, .inl (fun _ => 0))), ((u_2 2), .inl (cT 0, 16, .inl (fun _ => 0))), ((u_2 3), .inl (cT 0, 16, .inl (fun _ => 0))), ((u_2 4), .inl (cT 0, 16, .inl (fun _ => 0))), ((u_2 5), .inl (cT 0, 6, .inl (fillF (fun _ => 0) 6 (1)))), (a_4, .inl (cT 2, 900, .inl (fun _ => 0)))] _ := hP
  have hD : va_D A [(h0, .inr (6, [.ref o_1, .int 0, .int (-1), .ref a_4, .int 0, .int 0, .int 0, .int 0, .int 0])), (o_1, .inr (3, [.int 0, .int 0, .int 0, .int 0, .int 6, .int 6, .int 1, .int 60, .int 0, .int 0, .ref (u_2 0), .ref (u_2 1), .ref (u_2 2), .ref (u_2 3), .ref (u_2 4), .ref (u_2 5)])), ((u_2 0), .inl (cT 0, 16, .inl (fun _ => 0))), ((u_2 1), .inl (cT 0, 16, .inl (fun _ => 0))), ((u_2 2), .inl (cT 0, 16, .inl (fun _ => 0))), ((u_2 3), .inl (cT 0, 16, .inl (fun _ => 0))), ((u_2 4), .inl (cT 0, 16, .inl (fun _ => 0))), ((u_2 5), .inl (cT 0, 6, .inl (fillF (fun _ => 0) 6 (1)))), (a_4, .inl (cT 2, 900, .inl (fun _ => 0)))] := hD
  refine lv_aload_n hx hb dX6_init_49 rfl (lv_at hl 0 rfl) ?_
  refine lv_iconst (v := 0) hx hb dX6_init_50 (by decide) ?_
  refine va_put (D := D) (ci := 6) (v := .int 0) (ty := .int) (C := RX6) (T := TX6) (N := 9) hx hb htg gRX6 tyX6 tyX6_ok nmX6 hown hK hP hD hS 0 rfl rfl 7 (by decide) (htg _ wi_262) (fun _ h9 => h9) rfl (by decide +kernel) rfl rfl (Nat.le_of_ble_eq_true rfl) dX6_init_51 (fun H locs hP hD hS => ?_)
  have hP : va_P D classes [(h0, .inr (6, [.ref o_1, .int 0, .int (-1), .ref a_4, .int 0, .int 0, .int 0, .int 0, .int 0])), (o_1, .inr (3, [.int 0, .int 0, .int 0, .int 0, .int 6, .int 6, .int 1, .int 60, .int 0, .int 0, .ref (u_2 0), .ref (u_2 1), .ref (u_2 2), .ref (u_2 3), .ref (u_2 4), .ref (u_2 5)])), ((u_2 0), .inl (cT 0, 16, .inl (fun _ => 0))), ((u_2 1), .inl (cT 0, 16, .inl (fun _ => 0))), ((u_2 2), .inl (cT 0, 16, .inl (fun _ => 0))), ((u_2 3), .inl (cT 0, 16, .inl (fun _ => 0))), ((u_2 4), .inl (cT 0, 16, .inl (fun _ => 0))), ((u_2 5), .inl (cT 0, 6, .inl (fillF (fun _ => 0) 6 (1)))), (a_4, .inl (cT 2, 900, .inl (fun _ => 0)))] _ := hP
  have hD : va_D A [(h0, .inr (6, [.ref o_1, .int 0, .int (-1), .ref a_4, .int 0, .int 0, .int 0, .int 0, .int 0])), (o_1, .inr (3, [.int 0, .int 0, .int 0, .int 0, .int 6, .int 6, .int 1, .int 60, .int 0, .int 0, .ref (u_2 0), .ref (u_2 1), .ref (u_2 2), .ref (u_2 3), .ref (u_2 4), .ref (u_2 5)])), ((u_2 0), .inl (cT 0, 16, .inl (fun _ => 0))), ((u_2 1), .inl (cT 0, 16, .inl (fun _ => 0))), ((u_2 2), .inl (cT 0, 16, .inl (fun _ => 0))), ((u_2 3), .inl (cT 0, 16, .inl (fun _ => 0))), ((u_2 4), .inl (cT 0, 16, .inl (fun _ => 0))), ((u_2 5), .inl (cT 0, 6, .inl (fillF (fun _ => 0) 6 (1)))), (a_4, .inl (cT 2, 900, .inl (fun _ => 0)))] := hD
  refine lv_aload_n hx hb dX6_init_54 rfl (lv_at hl 0 rfl) ?_
  refine lv_iconst (v := 0) hx hb dX6_init_55 (by decide) ?_
  refine va_put (D := D) (ci := 6) (v := .int 0) (ty := .int) (C := RX6) (T := TX6) (N := 9) hx hb htg gRX6 tyX6 tyX6_ok nmX6 hown hK hP hD hS 0 rfl rfl 8 (by decide) (htg _ wi_263) (fun _ h9 => h9) rfl (by decide +kernel) rfl rfl (Nat.le_of_ble_eq_true rfl) dX6_init_56 (fun H locs hP hD hS => ?_)
  have hP : va_P D classes [(h0, .inr (6, [.ref o_1, .int 0, .int (-1), .ref a_4, .int 0, .int 0, .int 0, .int 0, .int 0])), (o_1, .inr (3, [.int 0, .int 0, .int 0, .int 0, .int 6, .int 6, .int 1, .int 60, .int 0, .int 0, .ref (u_2 0), .ref (u_2 1), .ref (u_2 2), .ref (u_2 3), .ref (u_2 4), .ref (u_2 5)])), ((u_2 0), .inl (cT 0, 16, .inl (fun _ => 0))), ((u_2 1), .inl (cT 0, 16, .inl (fun _ => 0))), ((u_2 2), .inl (cT 0, 16, .inl (fun _ => 0))), ((u_2 3), .inl (cT 0, 16, .inl (fun _ => 0))), ((u_2 4), .inl (cT 0, 16, .inl (fun _ => 0))), ((u_2 5), .inl (cT 0, 6, .inl (fillF (fun _ => 0) 6 (1)))), (a_4, .inl (cT 2, 900, .inl (fun _ => 0)))] _ := hP
  have hD : va_D A [(h0, .inr (6, [.ref o_1, .int 0, .int (-1), .ref a_4, .int 0, .int 0, .int 0, .int 0, .int 0])), (o_1, .inr (3, [.int 0, .int 0, .int 0, .int 0, .int 6, .int 6, .int 1, .int 60, .int 0, .int 0, .ref (u_2 0), .ref (u_2 1), .ref (u_2 2), .ref (u_2 3), .ref (u_2 4), .ref (u_2 5)])), ((u_2 0), .inl (cT 0, 16, .inl (fun _ => 0))), ((u_2 1), .inl (cT 0, 16, .inl (fun _ => 0))), ((u_2 2), .inl (cT 0, 16, .inl (fun _ => 0))), ((u_2 3), .inl (cT 0, 16, .inl (fun _ => 0))), ((u_2 4), .inl (cT 0, 16, .inl (fun _ => 0))), ((u_2 5), .inl (cT 0, 6, .inl (fillF (fun _ => 0) 6 (1)))), (a_4, .inl (cT 2, 900, .inl (fun _ => 0)))] := hD
  exact x_vret hx hb hr hlk hP hD hS [0, 1, 8, 2, 3, 4, 5, 6, 7] (fun k => [o_1, a_4, (u_2 0), (u_2 1), (u_2 2), (u_2 3), (u_2 4), (u_2 5)].getD k 0) rfl (by decide) trivial (by decide) (by decide) dX6_init_59
set_option maxHeartbeats 4000000 in
set_option maxRecDepth 100000 in
theorem c_kindAt (l : Launch) (D : va_G) (cT : Nat → ClassId) (sz : Nat) (h0 : Nat) (b0 : Nat) (b1 : Nat) : Met l yX6_kindAt (wsc yX6_kindAt cX6_kindAt 3 (some .int)) { frames := 2, cells := 0, slots := 0, locals := 100 } (va_Pc [.ref h0, .int 0] (PX D cT sz [(h0, .inr (6, [.ref b0, .int 0, .int (-1), .ref b1, .int 0, .int 0, .int 0, .int 0, .int 0]))])) (va_Qi (fun (r : Int32) (u : Unit) => r = 0) (fun u t => RW D (va_A [(h0, .inr (6, [.ref b0, .int 0, .int (-1), .ref b1, .int 0, .int 0, .int 0, .int 0, .int 0]))] sz) ((fun _ : Unit => [(h0, .inr (6, [.ref b0, .int 0, .int (-1), .ref b1, .int 0, .int 0, .int 0, .int 0, .int 0]))]) u) t) (va_A [(h0, .inr (6, [.ref b0, .int 0, .int (-1), .ref b1, .int 0, .int 0, .int 0, .int 0, .int 0]))] sz)) 0 0 (va_A [(h0, .inr (6, [.ref b0, .int 0, .int (-1), .ref b1, .int 0, .int 0, .int 0, .int 0, .int 0]))] sz) := by
  refine m_of (y := yX6_kindAt) (cc := cX6_kindAt) (nL := 3) (ret := (some .int)) (D := D) (cT := cT) (av := [.ref h0, .int 0]) (wi := [(h0, .inr (6, [.ref b0, .int 0, .int (-1), .ref b1, .int 0, .int 0, .int 0, .int 0, .int 0]))]) (fun A => va_Qi (fun (r : Int32) (u : Unit) => r = 0) (fun u t => RW D A ((fun _ : Unit => [(h0, .inr (6, [.ref b0, .int 0, .int (-1), .ref b1, .int 0, .int 0, .int 0, .int 0, .int 0]))]) u) t) A) (by decide) (Nat.le_of_ble_eq_true rfl) ?_
  intro p e s m below meth c A hx hb hml hown htg hK hN hr hlk hnm hsz hP hD hS hA ls hl
  have hown : s.vm.findClass RX6 = some m.cls := hown
  have hl : lv_has ls 3 [(0, .ref h0), (1, .int 0)] := hl
  refine lv_iload_n hx hb dX6_kindAt_0 rfl (lv_at hl 1 rfl) ?_
  refine lv_if_lt (tgt := 12) hx hb dX6_kindAt_1 (by decide) (fun h => absurd h (by decide)) (fun _ => ?_)
  refine lv_iload_n hx hb dX6_kindAt_4 rfl (lv_at hl 1 rfl) ?_
  refine lv_aload_n hx hb dX6_kindAt_5 rfl (lv_at hl 0 rfl) ?_
  refine va_get (D := D) (ci := 6) (v := .int 0) (C := RX6) (T := TX6) (N := 9) hx hb htg gRX6 hown hK hP 0 rfl rfl 4 (by decide) (htg _ wi_259) (fun _ h9 => h9) rfl dX6_kindAt_6 ?_
  refine lv_icmp_lt (tgt := 14) hx hb dX6_kindAt_9 (by decide) (fun h => absurd h (by decide)) (fun _ => ?_)
  refine lv_iconst (v := 0) hx hb dX6_kindAt_12 (by decide) ?_
  exact x_iret hx hb hr hlk hP hD hS [0] (()) rfl (by decide) (by first | rfl | decide | (exfalso; omega) | (try simp only [ti_0, ti_1, ti_2, ti_3, ti_4, ti_5, ti_6, ti_7, ti_8, ti_9, ti_10, ti_11, ti_12]); (repeat (first | rw [if_pos (by first | assumption | omega | trivial)] | rw [if_neg (by first | assumption | omega)]))) (by decide) (by decide) dX6_kindAt_13
set_option maxHeartbeats 4000000 in
set_option maxRecDepth 100000 in
theorem c_kindAt2 (l : Launch) (D : va_G) (cT : Nat → ClassId) (sz : Nat) (h0 : Nat) (b0 : Nat) (b1 : Nat) : Met l yX6_kindAt (wsc yX6_kindAt cX6_kindAt 3 (some .int)) { frames := 2, cells := 0, slots := 0, locals := 100 } (va_Pc [.ref h0, .int 0] (PX D cT sz [(h0, .inr (6, [.ref b0, .int 0, .int (-1), .ref b1, .int 0, .int 0, .int 1, .int 0, .int 0]))])) (va_Qi (fun (r : Int32) (u : Unit) => r = 0) (fun u t => RW D (va_A [(h0, .inr (6, [.ref b0, .int 0, .int (-1), .ref b1, .int 0, .int 0, .int 1, .int 0, .int 0]))] sz) ((fun _ : Unit => [(h0, .inr (6, [.ref b0, .int 0, .int (-1), .ref b1, .int 0, .int 0, .int 1, .int 0, .int 0]))]) u) t) (va_A [(h0, .inr (6, [.ref b0, .int 0, .int (-1), .ref b1, .int 0, .int 0, .int 1, .int 0, .int 0]))] sz)) 0 0 (va_A [(h0, .inr (6, [.ref b0, .int 0, .int (-1), .ref b1, .int 0, .int 0, .int 1, .int 0, .int 0]))] sz) := by
  refine m_of (y := yX6_kindAt) (cc := cX6_kindAt) (nL := 3) (ret := (some .int)) (D := D) (cT := cT) (av := [.ref h0, .int 0]) (wi := [(h0, .inr (6, [.ref b0, .int 0, .int (-1), .ref b1, .int 0, .int 0, .int 1, .int 0, .int 0]))]) (fun A => va_Qi (fun (r : Int32) (u : Unit) => r = 0) (fun u t => RW D A ((fun _ : Unit => [(h0, .inr (6, [.ref b0, .int 0, .int (-1), .ref b1, .int 0, .int 0, .int 1, .int 0, .int 0]))]) u) t) A) (by decide) (Nat.le_of_ble_eq_true rfl) ?_
  intro p e s m below meth c A hx hb hml hown htg hK hN hr hlk hnm hsz hP hD hS hA ls hl
  have hown : s.vm.findClass RX6 = some m.cls := hown
  have hl : lv_has ls 3 [(0, .ref h0), (1, .int 0)] := hl
  refine lv_iload_n hx hb dX6_kindAt_0 rfl (lv_at hl 1 rfl) ?_
  refine lv_if_lt (tgt := 12) hx hb dX6_kindAt_1 (by decide) (fun h => absurd h (by decide)) (fun _ => ?_)
  refine lv_iload_n hx hb dX6_kindAt_4 rfl (lv_at hl 1 rfl) ?_
  refine lv_aload_n hx hb dX6_kindAt_5 rfl (lv_at hl 0 rfl) ?_
  refine va_get (D := D) (ci := 6) (v := .int 0) (C := RX6) (T := TX6) (N := 9) hx hb htg gRX6 hown hK hP 0 rfl rfl 4 (by decide) (htg _ wi_259) (fun _ h9 => h9) rfl dX6_kindAt_6 ?_
  refine lv_icmp_lt (tgt := 14) hx hb dX6_kindAt_9 (by decide) (fun h => absurd h (by decide)) (fun _ => ?_)
  refine lv_iconst (v := 0) hx hb dX6_kindAt_12 (by decide) ?_
  exact x_iret hx hb hr hlk hP hD hS [0] (()) rfl (by decide) (by first | rfl | decide | (exfalso; omega) | (try simp only [ti_0, ti_1, ti_2, ti_3, ti_4, ti_5, ti_6, ti_7, ti_8, ti_9, ti_10, ti_11, ti_12]); (repeat (first | rw [if_pos (by first | assumption | omega | trivial)] | rw [if_neg (by first | assumption | omega)]))) (by decide) (by decide) dX6_kindAt_13
set_option maxHeartbeats 4000000 in
set_option maxRecDepth 100000 in
theorem c_endOf (l : Launch) (D : va_G) (cT : Nat → ClassId) (sz : Nat) (h0 : Nat) (b0 : Nat) (b1 : Nat) : Met l yX6_endOf (wsc yX6_endOf cX6_endOf 4 (some .int)) { frames := 2, cells := 0, slots := 0, locals := 100 } (va_Pc [.ref h0, .int 1, .int 0] (PX D cT sz [(h0, .inr (6, [.ref b0, .int 0, .int (-1), .ref b1, .int 0, .int 0, .int 0, .int 0, .int 0]))])) (va_Qi (fun (r : Int32) (u : Unit) => r = 0) (fun u t => RW D (va_A [(h0, .inr (6, [.ref b0, .int 0, .int (-1), .ref b1, .int 0, .int 0, .int 0, .int 0, .int 0]))] sz) ((fun _ : Unit => [(h0, .inr (6, [.ref b0, .int 0, .int (-1), .ref b1, .int 0, .int 0, .int 0, .int 0, .int 0]))]) u) t) (va_A [(h0, .inr (6, [.ref b0, .int 0, .int (-1), .ref b1, .int 0, .int 0, .int 0, .int 0, .int 0]))] sz)) 0 0 (va_A [(h0, .inr (6, [.ref b0, .int 0, .int (-1), .ref b1, .int 0, .int 0, .int 0, .int 0, .int 0]))] sz) := by
  refine m_of (y := yX6_endOf) (cc := cX6_endOf) (nL := 4) (ret := (some .int)) (D := D) (cT := cT) (av := [.ref h0, .int 1, .int 0]) (wi := [(h0, .inr (6, [.ref b0, .int 0, .int (-1), .ref b1, .int 0, .int 0, .int 0, .int 0, .int 0]))]) (fun A => va_Qi (fun (r : Int32) (u : Unit) => r = 0) (fun u t => RW D A ((fun _ : Unit => [(h0, .inr (6, [.ref b0, .int 0, .int (-1), .ref b1, .int 0, .int 0, .int 0, .int 0, .int 0]))]) u) t) A) (by decide) (Nat.le_of_ble_eq_true rfl) ?_
  intro p e s m below meth c A hx hb hml hown htg hK hN hr hlk hnm hsz hP hD hS hA ls hl
  have hown : s.vm.findClass RX6 = some m.cls := hown
  have hl : lv_has ls 4 [(0, .ref h0), (1, .int 1), (2, .int 0)] := hl
  refine lv_iload_n hx hb dX6_endOf_0 rfl (lv_at hl 2 rfl) ?_
  refine lv_istore_n (lv' := [(3, .int 0), (0, .ref h0), (1, .int 1), (2, .int 0)]) hx hb dX6_endOf_1 rfl hl (by decide) rfl (fun ls hl => ?_)
  refine lv_iload_n hx hb dX6_endOf_2 rfl (lv_at hl 0 rfl) ?_
  refine lv_aload_n hx hb dX6_endOf_3 rfl (lv_at hl 1 rfl) ?_
  refine va_get (D := D) (ci := 6) (v := .int 0) (C := RX6) (T := TX6) (N := 9) hx hb htg gRX6 hown hK hP 0 rfl rfl 4 (by decide) (htg _ wi_259) (fun _ h9 => h9) rfl dX6_endOf_4 ?_
  refine lv_icmp_ge (tgt := 25) hx hb dX6_endOf_7 (by decide) (fun _ => ?_) (fun h => absurd (by decide) h)
  refine lv_iload_n hx hb dX6_endOf_25 rfl (lv_at hl 0 rfl) ?_
  exact x_iret hx hb hr hlk hP hD hS [0] (()) rfl (by decide) (by first | rfl | decide | (exfalso; omega) | (try simp only [ti_0, ti_1, ti_2, ti_3, ti_4, ti_5, ti_6, ti_7, ti_8, ti_9, ti_10, ti_11, ti_12]); (repeat (first | rw [if_pos (by first | assumption | omega | trivial)] | rw [if_neg (by first | assumption | omega)]))) (by decide) (by decide) dX6_endOf_26
set_option maxHeartbeats 4000000 in
set_option maxRecDepth 100000 in
theorem c_advance (l : Launch) (D : va_G) (cT : Nat → ClassId) (sz : Nat) (h0 : Nat) (b0 : Nat) (b1 : Nat) : Met l yX6_advance (wsc yX6_advance cX6_advance 1 none) { frames := 3, cells := 0, slots := 0, locals := 123 } (va_Pc [.ref h0] (PX D cT sz [(h0, .inr (6, [.ref b0, .int 0, .int (-1), .ref b1, .int 0, .int 0, .int 0, .int 0, .int 0]))])) (va_Qv (fun (u : Unit) => True) (fun u t => RW D (va_A [(h0, .inr (6, [.ref b0, .int 0, .int (-1), .ref b1, .int 0, .int 0, .int 0, .int 0, .int 0]))] sz) ((fun _ : Unit => [(h0, .inr (6, [.ref b0, .int 0, .int (-1), .ref b1, .int 0, .int 0, .int 0, .int 0, .int 0]))]) u) t) (va_A [(h0, .inr (6, [.ref b0, .int 0, .int (-1), .ref b1, .int 0, .int 0, .int 0, .int 0, .int 0]))] sz)) 0 0 (va_A [(h0, .inr (6, [.ref b0, .int 0, .int (-1), .ref b1, .int 0, .int 0, .int 0, .int 0, .int 0]))] sz) := by
  refine m_of (y := yX6_advance) (cc := cX6_advance) (nL := 1) (ret := none) (D := D) (cT := cT) (av := [.ref h0]) (wi := [(h0, .inr (6, [.ref b0, .int 0, .int (-1), .ref b1, .int 0, .int 0, .int 0, .int 0, .int 0]))]) (fun A => va_Qv (fun (u : Unit) => True) (fun u t => RW D A ((fun _ : Unit => [(h0, .inr (6, [.ref b0, .int 0, .int (-1), .ref b1, .int 0, .int 0, .int 0, .int 0, .int 0]))]) u) t) A) (by decide) (Nat.le_of_ble_eq_true rfl) ?_
  intro p e s m below meth c A hx hb hml hown htg hK hN hr hlk hnm hsz hP hD hS hA ls hl
  have hown : s.vm.findClass RX6 = some m.cls := hown
  have hl : lv_has ls 1 [(0, .ref h0)] := hl
  refine lv_aload_n hx hb dX6_advance_0 rfl (lv_at hl 0 rfl) ?_
  refine lv_aload_n hx hb dX6_advance_1 rfl (lv_at hl 0 rfl) ?_
  refine lv_iconst (v := 1) hx hb dX6_advance_2 (by decide) ?_
  refine lv_aload_n hx hb dX6_advance_3 rfl (lv_at hl 0 rfl) ?_
  refine va_get (D := D) (ci := 6) (v := .int 0) (C := RX6) (T := TX6) (N := 9) hx hb htg gRX6 hown hK hP 0 rfl rfl 6 (by decide) (htg _ wi_261) (fun _ h9 => h9) rfl dX6_advance_4 ?_
  refine xk_i (wr := []) (xr_V (n := 2) (As := [.int 1, .int 0]) (rest := [.ref h0]) ⟨hx, hb, hml, hown, htg⟩ hK hN hP hD [0] rfl (by decide) (c_endOf l D cT _ (h0) (b0) (b1)) wi_537 wi_539 wi_4 wi_122 wi_540 rfl rfl rfl ⟨rfl, by decide +kernel⟩ ⟨Nat.le_of_ble_eq_true rfl, Nat.le_of_ble_eq_true rfl⟩ rfl hl.1 rfl (Nat.le_of_ble_eq_true rfl) dX6_advance_7 ⟨Nat.le_of_ble_eq_true rfl, Nat.le_of_ble_eq_true rfl⟩) hP hD hS hA [0] [] rfl rfl (by decide) (by decide) (fun r_2 u_1 H locs hwr_2 hP hD hS => ?_)
  have hP : va_P D classes [(h0, .inr (6, [.ref b0, .int 0, .int (-1), .ref b1, .int 0, .int 0, .int 0, .int 0, .int 0]))] _ := hP
  have hD : va_D A [(h0, .inr (6, [.ref b0, .int 0, .int (-1), .ref b1, .int 0, .int 0, .int 0, .int 0, .int 0]))] := hD
  have hwr_2 : r_2 = 0 := hwr_2
  subst hwr_2
  refine va_put (D := D) (ci := 6) (v := .int 0) (ty := .int) (C := RX6) (T := TX6) (N := 9) hx hb htg gRX6 tyX6 tyX6_ok nmX6 hown hK hP hD hS 0 rfl rfl 5 (by decide) (htg _ wi_260) (fun _ h9 => h9) rfl (by decide +kernel) rfl rfl (Nat.le_of_ble_eq_true rfl) dX6_advance_10 (fun H locs hP hD hS => ?_)
  have hP : va_P D classes [(h0, .inr (6, [.ref b0, .int 0, .int (-1), .ref b1, .int 0, .int 0, .int 0, .int 0, .int 0]))] _ := hP
  have hD : va_D A [(h0, .inr (6, [.ref b0, .int 0, .int (-1), .ref b1, .int 0, .int 0, .int 0, .int 0, .int 0]))] := hD
  refine lv_aload_n hx hb dX6_advance_13 rfl (lv_at hl 0 rfl) ?_
  refine lv_aload_n hx hb dX6_advance_14 rfl (lv_at hl 0 rfl) ?_
  refine va_get (D := D) (ci := 6) (v := .int 0) (C := RX6) (T := TX6) (N := 9) hx hb htg gRX6 hown hK hP 0 rfl rfl 5 (by decide) (htg _ wi_260) (fun _ h9 => h9) rfl dX6_advance_15 ?_
  refine lv_iconst (v := 1) hx hb dX6_advance_18 (by decide) ?_
  refine lv_iadd hx hb dX6_advance_19 ?_
  refine lv_is (y := 1) (by decide) ?_
  refine va_put (D := D) (ci := 6) (v := .int 1) (ty := .int) (C := RX6) (T := TX6) (N := 9) hx hb htg gRX6 tyX6 tyX6_ok nmX6 hown hK hP hD hS 0 rfl rfl 6 (by decide) (htg _ wi_261) (fun _ h9 => h9) rfl (by decide +kernel) rfl rfl (Nat.le_of_ble_eq_true rfl) dX6_advance_20 (fun H locs hP hD hS => ?_)
  have hP : va_P D classes [(h0, .inr (6, [.ref b0, .int 0, .int (-1), .ref b1, .int 0, .int 0, .int 1, .int 0, .int 0]))] _ := hP
  have hD : va_D A [(h0, .inr (6, [.ref b0, .int 0, .int (-1), .ref b1, .int 0, .int 0, .int 1, .int 0, .int 0]))] := hD
  refine lv_aload_n hx hb dX6_advance_23 rfl (lv_at hl 0 rfl) ?_
  refine lv_aload_n hx hb dX6_advance_24 rfl (lv_at hl 0 rfl) ?_
  refine va_get (D := D) (ci := 6) (v := .int 0) (C := RX6) (T := TX6) (N := 9) hx hb htg gRX6 hown hK hP 0 rfl rfl 5 (by decide) (htg _ wi_260) (fun _ h9 => h9) rfl dX6_advance_25 ?_
  refine xk_i (wr := []) (xr_V (n := 1) (As := [.int 0]) (rest := []) ⟨hx, hb, hml, hown, htg⟩ hK hN hP hD [0] rfl (by decide) (c_kindAt2 l D cT _ (h0) (b0) (b1)) wi_541 wi_543 wi_5 wi_122 wi_544 rfl rfl rfl ⟨rfl, by decide +kernel⟩ ⟨Nat.le_of_ble_eq_true rfl, Nat.le_of_ble_eq_true rfl⟩ rfl hl.1 rfl (Nat.le_of_ble_eq_true rfl) dX6_advance_28 ⟨Nat.le_of_ble_eq_true rfl, Nat.le_of_ble_eq_true rfl⟩) hP hD hS hA [0] [] rfl rfl (by decide) (by decide) (fun r_4 u_3 H locs hwr_4 hP hD hS => ?_)
  have hP : va_P D classes [(h0, .inr (6, [.ref b0, .int 0, .int (-1), .ref b1, .int 0, .int 0, .int 1, .int 0, .int 0]))] _ := hP
  have hD : va_D A [(h0, .inr (6, [.ref b0, .int 0, .int (-1), .ref b1, .int 0, .int 0, .int 1, .int 0, .int 0]))] := hD
  have hwr_4 : r_4 = 0 := hwr_4
  subst hwr_4
  refine lv_tableIn (off := 104) (tgt := 135) hx hb dX6_advance_31 (by decide) (by decide) (by decide) (by decide) ?_
  refine lv_aload_n hx hb dX6_advance_135 rfl (lv_at hl 0 rfl) ?_
  refine lv_aload_n hx hb dX6_advance_136 rfl (lv_at hl 0 rfl) ?_
  refine va_get (D := D) (ci := 6) (v := .int 0) (C := RX6) (T := TX6) (N := 9) hx hb htg gRX6 hown hK hP 0 rfl rfl 5 (by decide) (htg _ wi_260) (fun _ h9 => h9) rfl dX6_advance_137 ?_
  refine va_put (D := D) (ci := 6) (v := .int 0) (ty := .int) (C := RX6) (T := TX6) (N := 9) hx hb htg gRX6 tyX6 tyX6_ok nmX6 hown hK hP hD hS 0 rfl rfl 6 (by decide) (htg _ wi_261) (fun _ h9 => h9) rfl (by decide +kernel) rfl rfl (Nat.le_of_ble_eq_true rfl) dX6_advance_140 (fun H locs hP hD hS => ?_)
  have hP : va_P D classes [(h0, .inr (6, [.ref b0, .int 0, .int (-1), .ref b1, .int 0, .int 0, .int 0, .int 0, .int 0]))] _ := hP
  have hD : va_D A [(h0, .inr (6, [.ref b0, .int 0, .int (-1), .ref b1, .int 0, .int 0, .int 0, .int 0, .int 0]))] := hD
  refine lv_aload_n hx hb dX6_advance_143 rfl (lv_at hl 0 rfl) ?_
  refine lv_iconst (v := 0) hx hb dX6_advance_144 (by decide) ?_
  refine va_put (D := D) (ci := 6) (v := .int 0) (ty := .int) (C := RX6) (T := TX6) (N := 9) hx hb htg gRX6 tyX6 tyX6_ok nmX6 hown hK hP hD hS 0 rfl rfl 7 (by decide) (htg _ wi_262) (fun _ h9 => h9) rfl (by decide +kernel) rfl rfl (Nat.le_of_ble_eq_true rfl) dX6_advance_145 (fun H locs hP hD hS => ?_)
  have hP : va_P D classes [(h0, .inr (6, [.ref b0, .int 0, .int (-1), .ref b1, .int 0, .int 0, .int 0, .int 0, .int 0]))] _ := hP
  have hD : va_D A [(h0, .inr (6, [.ref b0, .int 0, .int (-1), .ref b1, .int 0, .int 0, .int 0, .int 0, .int 0]))] := hD
  refine lv_goto (tgt := 156) hx hb dX6_advance_148 (by decide) ?_
  exact x_vret hx hb hr hlk hP hD hS [0] (()) rfl (by decide) trivial (by decide) (by decide) dX6_advance_156
set_option maxHeartbeats 4000000 in
set_option maxRecDepth 100000 in
theorem c_readText (l : Launch) (D : va_G) (cT : Nat → ClassId) (sz : Nat) (h0 : Nat) (b0 : Nat) (b1 : Nat) (a : Nat → Nat) (b : Nat) (f : Nat → Int32) (g : Nat → Int32) (k : Nat → Int32) : Met l yX6_readText (wsc yX6_readText cX6_readText 4 (some .int)) { frames := 4, cells := 0, slots := 0, locals := 143 } (va_Pc [.ref h0, .ref b, .int 0] (PX D cT sz [(h0, .inr (6, [.ref b0, .int 0, .int (-1), .ref b1, .int 0, .int 0, .int 0, .int 0, .int 0])), (b0, .inr (3, [.int 0, .int 0, .int 0, .int 0, .int 6, .int 6, .int 1, .int 60, .int 0, .int 0, .ref (a 0), .ref (a 1), .ref (a 2), .ref (a 3), .ref (a 4), .ref (a 5)])), (b1, .inl (cT 2, 900, .inl (f))), ((a 5), .inl (cT 0, 6, .inl (g))), (b, .inl (cT 2, 900, .inl (k)))])) (va_Qi (fun (r : Int32) (u : Unit) => r = 0) (fun u t => RW D (va_A [(h0, .inr (6, [.ref b0, .int 0, .int (-1), .ref b1, .int 0, .int 0, .int 0, .int 0, .int 0])), (b0, .inr (3, [.int 0, .int 0, .int 0, .int 0, .int 6, .int 6, .int 1, .int 60, .int 0, .int 0, .ref (a 0), .ref (a 1), .ref (a 2), .ref (a 3), .ref (a 4), .ref (a 5)])), (b1, .inl (cT 2, 900, .inl (f))), ((a 5), .inl (cT 0, 6, .inl (g))), (b, .inl (cT 2, 900, .inl (k)))] sz) ((fun _ : Unit => [(h0, .inr (6, [.ref b0, .int 0, .int (-1), .ref b1, .int 0, .int 0, .int 0, .int 0, .int 0])), (b0, .inr (3, [.int 0, .int 0, .int 0, .int 0, .int 6, .int 6, .int 1, .int 60, .int 0, .int 0, .ref (a 0), .ref (a 1), .ref (a 2), .ref (a 3), .ref (a 4), .ref (a 5)])), ((a 5), .inl (cT 0, 6, .inl (fillF (g) 6 (1))))]) u) t) (va_A [(h0, .inr (6, [.ref b0, .int 0, .int (-1), .ref b1, .int 0, .int 0, .int 0, .int 0, .int 0])), (b0, .inr (3, [.int 0, .int 0, .int 0, .int 0, .int 6, .int 6, .int 1, .int 60, .int 0, .int 0, .ref (a 0), .ref (a 1), .ref (a 2), .ref (a 3), .ref (a 4), .ref (a 5)])), (b1, .inl (cT 2, 900, .inl (f))), ((a 5), .inl (cT 0, 6, .inl (g))), (b, .inl (cT 2, 900, .inl (k)))] sz)) 0 0 (va_A [(h0, .inr (6, [.ref b0, .int 0, .int (-1), .ref b1, .int 0, .int 0, .int 0, .int 0, .int 0])), (b0, .inr (3, [.int 0, .int 0, .int 0, .int 0, .int 6, .int 6, .int 1, .int 60, .int 0, .int 0, .ref (a 0), .ref (a 1), .ref (a 2), .ref (a 3), .ref (a 4), .ref (a 5)])), (b1, .inl (cT 2, 900, .inl (f))), ((a 5), .inl (cT 0, 6, .inl (g))), (b, .inl (cT 2, 900, .inl (k)))] sz) := by
  refine m_of (y := yX6_readText) (cc := cX6_readText) (nL := 4) (ret := (some .int)) (D := D) (cT := cT) (av := [.ref h0, .ref b, .int 0]) (wi := [(h0, .inr (6, [.ref b0, .int 0, .int (-1), .ref b1, .int 0, .int 0, .int 0, .int 0, .int 0])), (b0, .inr (3, [.int 0, .int 0, .int 0, .int 0, .int 6, .int 6, .int 1, .int 60, .int 0, .int 0, .ref (a 0), .ref (a 1), .ref (a 2), .ref (a 3), .ref (a 4), .ref (a 5)])), (b1, .inl (cT 2, 900, .inl (f))), ((a 5), .inl (cT 0, 6, .inl (g))), (b, .inl (cT 2, 900, .inl (k)))]) (fun A => va_Qi (fun (r : Int32) (u : Unit) => r = 0) (fun u t => RW D A ((fun _ : Unit => [(h0, .inr (6, [.ref b0, .int 0, .int (-1), .ref b1, .int 0, .int 0, .int 0, .int 0, .int 0])), (b0, .inr (3, [.int 0, .int 0, .int 0, .int 0, .int 6, .int 6, .int 1, .int 60, .int 0, .int 0, .ref (a 0), .ref (a 1), .ref (a 2), .ref (a 3), .ref (a 4), .ref (a 5)])), ((a 5), .inl (cT 0, 6, .inl (fillF (g) 6 (1))))]) u) t) A) (by decide) (Nat.le_of_ble_eq_true rfl) ?_
  intro p e s m below meth c A hx hb hml hown htg hK hN hr hlk hnm hsz hP hD hS hA ls hl
  have hown : s.vm.findClass RX6 = some m.cls := hown
  have hl : lv_has ls 4 [(0, .ref h0), (1, .ref b), (2, .int 0)] := hl
  refine lv_aload_n hx hb dX6_readText_0 rfl (lv_at hl 0 rfl) ?_
  refine lv_iconst (v := 0) hx hb dX6_readText_1 (by decide) ?_
  refine lv_iload_n hx hb dX6_readText_2 rfl (lv_at hl 2 rfl) ?_
  refine lv_aload_n hx hb dX6_readText_3 rfl (lv_at hl 1 rfl) ?_
  refine va_alen (v := 900) hx hb hK hP 4 2 rfl rfl rfl dX6_readText_4 ?_
  refine lv_sipush (v := 900) hx hb dX6_readText_5 (by decide) ?_
  refine va_mmin hx hb (by rw [hml]; exact hl.1.symm) hown (htg _ wi_523) (htg _ wi_524) (htg _ wi_132) (htg _ wi_525) (Nat.le_of_ble_eq_true rfl) (Nat.le_of_ble_eq_true rfl) (Nat.le_of_ble_eq_true rfl) (Nat.le_of_ble_eq_true rfl) dX6_readText_8 ?_
  refine lv_is (y := 900) (by decide) ?_
  refine va_mmin hx hb (by rw [hml]; exact hl.1.symm) hown (htg _ wi_523) (htg _ wi_524) (htg _ wi_132) (htg _ wi_525) (Nat.le_of_ble_eq_true rfl) (Nat.le_of_ble_eq_true rfl) (Nat.le_of_ble_eq_true rfl) (Nat.le_of_ble_eq_true rfl) dX6_readText_11 ?_
  refine lv_is (y := 0) (by decide) ?_
  refine va_mmax hx hb (by rw [hml]; exact hl.1.symm) hown (htg _ wi_526) (htg _ wi_527) (htg _ wi_132) (htg _ wi_528) (Nat.le_of_ble_eq_true rfl) (Nat.le_of_ble_eq_true rfl) (Nat.le_of_ble_eq_true rfl) (Nat.le_of_ble_eq_true rfl) dX6_readText_14 ?_
  refine lv_is (y := 0) (by decide) ?_
  refine va_put (D := D) (ci := 6) (v := .int 0) (ty := .int) (C := RX6) (T := TX6) (N := 9) hx hb htg gRX6 tyX6 tyX6_ok nmX6 hown hK hP hD hS 0 rfl rfl 4 (by decide) (htg _ wi_259) (fun _ h9 => h9) rfl (by decide +kernel) rfl rfl (Nat.le_of_ble_eq_true rfl) dX6_readText_17 (fun H locs hP hD hS => ?_)
  have hP : va_P D classes [(h0, .inr (6, [.ref b0, .int 0, .int (-1), .ref b1, .int 0, .int 0, .int 0, .int 0, .int 0])), (b0, .inr (3, [.int 0, .int 0, .int 0, .int 0, .int 6, .int 6, .int 1, .int 60, .int 0, .int 0, .ref (a 0), .ref (a 1), .ref (a 2), .ref (a 3), .ref (a 4), .ref (a 5)])), (b1, .inl (cT 2, 900, .inl (f))), ((a 5), .inl (cT 0, 6, .inl (g))), (b, .inl (cT 2, 900, .inl (k)))] _ := hP
  have hD : va_D A [(h0, .inr (6, [.ref b0, .int 0, .int (-1), .ref b1, .int 0, .int 0, .int 0, .int 0, .int 0])), (b0, .inr (3, [.int 0, .int 0, .int 0, .int 0, .int 6, .int 6, .int 1, .int 60, .int 0, .int 0, .ref (a 0), .ref (a 1), .ref (a 2), .ref (a 3), .ref (a 4), .ref (a 5)])), (b1, .inl (cT 2, 900, .inl (f))), ((a 5), .inl (cT 0, 6, .inl (g))), (b, .inl (cT 2, 900, .inl (k)))] := hD
  refine lv_aload_n hx hb dX6_readText_20 rfl (lv_at hl 1 rfl) ?_
  refine lv_iconst (v := 0) hx hb dX6_readText_21 (by decide) ?_
  refine lv_aload_n hx hb dX6_readText_22 rfl (lv_at hl 0 rfl) ?_
  refine va_get (D := D) (ci := 6) (v := .ref b1) (C := RX6) (T := TX6) (N := 9) hx hb htg gRX6 hown hK hP 0 rfl rfl 3 (by decide) (htg _ wi_258) (fun _ h9 => h9) rfl dX6_readText_23 ?_
  refine lv_iconst (v := 0) hx hb dX6_readText_26 (by decide) ?_
  refine lv_aload_n hx hb dX6_readText_27 rfl (lv_at hl 0 rfl) ?_
  refine va_get (D := D) (ci := 6) (v := .int 0) (C := RX6) (T := TX6) (N := 9) hx hb htg gRX6 hown hK hP 0 rfl rfl 4 (by decide) (htg _ wi_259) (fun _ h9 => h9) rfl dX6_readText_28 ?_
  refine va_copyi hx hb (by rw [hml]; exact hl.1.symm) hown (htg _ wi_529) (htg _ wi_531) (htg _ wi_530) (htg _ wi_133) hK hP hD hS 4 2 2 2 rfl rfl rfl rfl rfl (by decide) (by decide) (by decide) (by decide) (by decide) (fun i h => absurd h (by simp)) (Nat.le_of_ble_eq_true rfl) (Nat.le_of_ble_eq_true rfl) dX6_readText_31 (fun H locs hP hD hS => ?_)
  obtain ⟨f_1, hP, hD⟩ : ∃ f_1 : Nat → Int32, va_P D classes [(h0, .inr (6, [.ref b0, .int 0, .int (-1), .ref b1, .int 0, .int 0, .int 0, .int 0, .int 0])), (b0, .inr (3, [.int 0, .int 0, .int 0, .int 0, .int 6, .int 6, .int 1, .int 60, .int 0, .int 0, .ref (a 0), .ref (a 1), .ref (a 2), .ref (a 3), .ref (a 4), .ref (a 5)])), (b1, .inl (cT 2, 900, .inl (f_1))), ((a 5), .inl (cT 0, 6, .inl (g))), (b, .inl (cT 2, 900, .inl (k)))] H ∧ va_D A [(h0, .inr (6, [.ref b0, .int 0, .int (-1), .ref b1, .int 0, .int 0, .int 0, .int 0, .int 0])), (b0, .inr (3, [.int 0, .int 0, .int 0, .int 0, .int 6, .int 6, .int 1, .int 60, .int 0, .int 0, .ref (a 0), .ref (a 1), .ref (a 2), .ref (a 3), .ref (a 4), .ref (a 5)])), (b1, .inl (cT 2, 900, .inl (f_1))), ((a 5), .inl (cT 0, 6, .inl (g))), (b, .inl (cT 2, 900, .inl (k)))] := ⟨_, hP, hD⟩
  refine lv_aload_n hx hb dX6_readText_34 rfl (lv_at hl 0 rfl) ?_
  refine va_get (D := D) (ci := 6) (v := .ref b0) (C := RX6) (T := TX6) (N := 9) hx hb htg gRX6 hown hK hP 0 rfl rfl 0 (by decide) (htg _ wi_252) (fun _ h9 => h9) rfl dX6_readText_35 ?_
  refine xk_v (wr := [(h0, .inr (6, [.ref b0, .int 0, .int (-1), .ref b1, .int 0, .int 0, .int 0, .int 0, .int 0])), (b1, .inl (cT 2, 900, .inl (f_1))), (b, .inl (cT 2, 900, .inl (k)))]) (xr_VN (n := 0) (As := []) (rest := []) ⟨hx, hb, hml, hown, htg⟩ hK hN hP hD [1, 3] rfl (by decide) (c_empty l D cT _ (b0) (a) (6) (6) (1) (60) (g)) ni_532 wi_161 wi_0 wi_123 wi_162 rfl rfl rfl ⟨rfl, by decide +kernel⟩ ⟨Nat.le_of_ble_eq_true rfl, Nat.le_of_ble_eq_true rfl⟩ rfl hl.1 rfl (Nat.le_of_ble_eq_true rfl) dX6_readText_38 ⟨Nat.le_of_ble_eq_true rfl, Nat.le_of_ble_eq_true rfl⟩) hP hD hS hA [1, 3] [0, 2, 4] rfl rfl (by decide) (by decide) (fun u_2 H locs hwr_3 hP hD hS => ?_)
  have hP : va_P D classes [(h0, .inr (6, [.ref b0, .int 0, .int (-1), .ref b1, .int 0, .int 0, .int 0, .int 0, .int 0])), (b1, .inl (cT 2, 900, .inl (f_1))), (b, .inl (cT 2, 900, .inl (k))), (b0, .inr (3, [.int 0, .int 0, .int 0, .int 0, .int 6, .int 6, .int 1, .int 60, .int 0, .int 0, .ref (a 0), .ref (a 1), .ref (a 2), .ref (a 3), .ref (a 4), .ref (a 5)])), ((a 5), .inl (cT 0, 6, .inl (fillF (g) 6 (1))))] _ := hP
  have hD : va_D A [(h0, .inr (6, [.ref b0, .int 0, .int (-1), .ref b1, .int 0, .int 0, .int 0, .int 0, .int 0])), (b1, .inl (cT 2, 900, .inl (f_1))), (b, .inl (cT 2, 900, .inl (k))), (b0, .inr (3, [.int 0, .int 0, .int 0, .int 0, .int 6, .int 6, .int 1, .int 60, .int 0, .int 0, .ref (a 0), .ref (a 1), .ref (a 2), .ref (a 3), .ref (a 4), .ref (a 5)])), ((a 5), .inl (cT 0, 6, .inl (fillF (g) 6 (1))))] := hD
  refine lv_aload_n hx hb dX6_readText_41 rfl (lv_at hl 0 rfl) ?_
  refine lv_iconst (v := 0) hx hb dX6_readText_42 (by decide) ?_
  refine va_put (D := D) (ci := 6) (v := .int 0) (ty := .int) (C := RX6) (T := TX6) (N := 9) hx hb htg gRX6 tyX6 tyX6_ok nmX6 hown hK hP hD hS 0 rfl rfl 1 (by decide) (htg _ wi_254) (fun _ h9 => h9) rfl (by decide +kernel) rfl rfl (Nat.le_of_ble_eq_true rfl) dX6_readText_43 (fun H locs hP hD hS => ?_)
  have hP : va_P D classes [(h0, .inr (6, [.ref b0, .int 0, .int (-1), .ref b1, .int 0, .int 0, .int 0, .int 0, .int 0])), (b1, .inl (cT 2, 900, .inl (f_1))), (b, .inl (cT 2, 900, .inl (k))), (b0, .inr (3, [.int 0, .int 0, .int 0, .int 0, .int 6, .int 6, .int 1, .int 60, .int 0, .int 0, .ref (a 0), .ref (a 1), .ref (a 2), .ref (a 3), .ref (a 4), .ref (a 5)])), ((a 5), .inl (cT 0, 6, .inl (fillF (g) 6 (1))))] _ := hP
  have hD : va_D A [(h0, .inr (6, [.ref b0, .int 0, .int (-1), .ref b1, .int 0, .int 0, .int 0, .int 0, .int 0])), (b1, .inl (cT 2, 900, .inl (f_1))), (b, .inl (cT 2, 900, .inl (k))), (b0, .inr (3, [.int 0, .int 0, .int 0, .int 0, .int 6, .int 6, .int 1, .int 60, .int 0, .int 0, .ref (a 0), .ref (a 1), .ref (a 2), .ref (a 3), .ref (a 4), .ref (a 5)])), ((a 5), .inl (cT 0, 6, .inl (fillF (g) 6 (1))))] := hD
  refine lv_aload_n hx hb dX6_readText_46 rfl (lv_at hl 0 rfl) ?_
  refine lv_iconst (v := (-1)) hx hb dX6_readText_47 (by decide) ?_
  refine va_put (D := D) (ci := 6) (v := .int (-1)) (ty := .int) (C := RX6) (T := TX6) (N := 9) hx hb htg gRX6 tyX6 tyX6_ok nmX6 hown hK hP hD hS 0 rfl rfl 2 (by decide) (htg _ wi_256) (fun _ h9 => h9) rfl (by decide +kernel) rfl rfl (Nat.le_of_ble_eq_true rfl) dX6_readText_48 (fun H locs hP hD hS => ?_)
  have hP : va_P D classes [(h0, .inr (6, [.ref b0, .int 0, .int (-1), .ref b1, .int 0, .int 0, .int 0, .int 0, .int 0])), (b1, .inl (cT 2, 900, .inl (f_1))), (b, .inl (cT 2, 900, .inl (k))), (b0, .inr (3, [.int 0, .int 0, .int 0, .int 0, .int 6, .int 6, .int 1, .int 60, .int 0, .int 0, .ref (a 0), .ref (a 1), .ref (a 2), .ref (a 3), .ref (a 4), .ref (a 5)])), ((a 5), .inl (cT 0, 6, .inl (fillF (g) 6 (1))))] _ := hP
  have hD : va_D A [(h0, .inr (6, [.ref b0, .int 0, .int (-1), .ref b1, .int 0, .int 0, .int 0, .int 0, .int 0])), (b1, .inl (cT 2, 900, .inl (f_1))), (b, .inl (cT 2, 900, .inl (k))), (b0, .inr (3, [.int 0, .int 0, .int 0, .int 0, .int 6, .int 6, .int 1, .int 60, .int 0, .int 0, .ref (a 0), .ref (a 1), .ref (a 2), .ref (a 3), .ref (a 4), .ref (a 5)])), ((a 5), .inl (cT 0, 6, .inl (fillF (g) 6 (1))))] := hD
  refine lv_aload_n hx hb dX6_readText_51 rfl (lv_at hl 0 rfl) ?_
  refine lv_iconst (v := 0) hx hb dX6_readText_52 (by decide) ?_
  refine va_put (D := D) (ci := 6) (v := .int 0) (ty := .int) (C := RX6) (T := TX6) (N := 9) hx hb htg gRX6 tyX6 tyX6_ok nmX6 hown hK hP hD hS 0 rfl rfl 6 (by decide) (htg _ wi_261) (fun _ h9 => h9) rfl (by decide +kernel) rfl rfl (Nat.le_of_ble_eq_true rfl) dX6_readText_53 (fun H locs hP hD hS => ?_)
  have hP : va_P D classes [(h0, .inr (6, [.ref b0, .int 0, .int (-1), .ref b1, .int 0, .int 0, .int 0, .int 0, .int 0])), (b1, .inl (cT 2, 900, .inl (f_1))), (b, .inl (cT 2, 900, .inl (k))), (b0, .inr (3, [.int 0, .int 0, .int 0, .int 0, .int 6, .int 6, .int 1, .int 60, .int 0, .int 0, .ref (a 0), .ref (a 1), .ref (a 2), .ref (a 3), .ref (a 4), .ref (a 5)])), ((a 5), .inl (cT 0, 6, .inl (fillF (g) 6 (1))))] _ := hP
  have hD : va_D A [(h0, .inr (6, [.ref b0, .int 0, .int (-1), .ref b1, .int 0, .int 0, .int 0, .int 0, .int 0])), (b1, .inl (cT 2, 900, .inl (f_1))), (b, .inl (cT 2, 900, .inl (k))), (b0, .inr (3, [.int 0, .int 0, .int 0, .int 0, .int 6, .int 6, .int 1, .int 60, .int 0, .int 0, .ref (a 0), .ref (a 1), .ref (a 2), .ref (a 3), .ref (a 4), .ref (a 5)])), ((a 5), .inl (cT 0, 6, .inl (fillF (g) 6 (1))))] := hD
  refine lv_aload_n hx hb dX6_readText_56 rfl (lv_at hl 0 rfl) ?_
  refine xk_v (wr := [(b1, .inl (cT 2, 900, .inl (f_1))), (b, .inl (cT 2, 900, .inl (k))), (b0, .inr (3, [.int 0, .int 0, .int 0, .int 0, .int 6, .int 6, .int 1, .int 60, .int 0, .int 0, .ref (a 0), .ref (a 1), .ref (a 2), .ref (a 3), .ref (a 4), .ref (a 5)])), ((a 5), .inl (cT 0, 6, .inl (fillF (g) 6 (1))))]) (xr_V (n := 0) (As := []) (rest := []) ⟨hx, hb, hml, hown, htg⟩ hK hN hP hD [0] rfl (by decide) (c_advance l D cT _ (h0) (b0) (b1)) wi_533 wi_535 wi_3 wi_122 wi_536 rfl rfl rfl ⟨rfl, by decide +kernel⟩ ⟨Nat.le_of_ble_eq_true rfl, Nat.le_of_ble_eq_true rfl⟩ rfl hl.1 rfl (Nat.le_of_ble_eq_true rfl) dX6_readText_57 ⟨Nat.le_of_ble_eq_true rfl, Nat.le_of_ble_eq_true rfl⟩) hP hD hS hA [0] [1, 2, 3, 4] rfl rfl (by decide) (by decide) (fun u_4 H locs hwr_5 hP hD hS => ?_)
  have hP : va_P D classes [(b1, .inl (cT 2, 900, .inl (f_1))), (b, .inl (cT 2, 900, .inl (k))), (b0, .inr (3, [.int 0, .int 0, .int 0, .int 0, .int 6, .int 6, .int 1, .int 60, .int 0, .int 0, .ref (a 0), .ref (a 1), .ref (a 2), .ref (a 3), .ref (a 4), .ref (a 5)])), ((a 5), .inl (cT 0, 6, .inl (fillF (g) 6 (1)))), (h0, .inr (6, [.ref b0, .int 0, .int (-1), .ref b1, .int 0, .int 0, .int 0, .int 0, .int 0]))] _ := hP
  have hD : va_D A [(b1, .inl (cT 2, 900, .inl (f_1))), (b, .inl (cT 2, 900, .inl (k))), (b0, .inr (3, [.int 0, .int 0, .int 0, .int 0, .int 6, .int 6, .int 1, .int 60, .int 0, .int 0, .ref (a 0), .ref (a 1), .ref (a 2), .ref (a 3), .ref (a 4), .ref (a 5)])), ((a 5), .inl (cT 0, 6, .inl (fillF (g) 6 (1)))), (h0, .inr (6, [.ref b0, .int 0, .int (-1), .ref b1, .int 0, .int 0, .int 0, .int 0, .int 0]))] := hD
  refine lv_iconst (v := 0) hx hb dX6_readText_60 (by decide) ?_
  refine lv_istore_n (lv' := [(3, .int 0), (0, .ref h0), (1, .ref b), (2, .int 0)]) hx hb dX6_readText_61 rfl hl (by decide) rfl (fun ls hl => ?_)
  refine lv_iload_n hx hb dX6_readText_62 rfl (lv_at hl 0 rfl) ?_
  refine lv_sipush (v := 900) hx hb dX6_readText_63 (by decide) ?_
  refine lv_icmp_ge (tgt := 93) hx hb dX6_readText_66 (by decide) (fun h => absurd h (by decide)) (fun _ => ?_)
  refine lv_aload_n hx hb dX6_readText_69 rfl (lv_at hl 1 rfl) ?_
  refine va_get (D := D) (ci := 6) (v := .int 0) (C := RX6) (T := TX6) (N := 9) hx hb htg gRX6 hown hK hP 4 rfl rfl 7 (by decide) (htg _ wi_262) (fun _ h9 => h9) rfl dX6_readText_70 ?_
  refine lv_if_eq (tgt := 93) hx hb dX6_readText_73 (by decide) (fun _ => ?_) (fun h => absurd (by decide) h)
  refine lv_aload_n hx hb dX6_readText_93 rfl (lv_at hl 1 rfl) ?_
  refine va_get (D := D) (ci := 6) (v := .int 0) (C := RX6) (T := TX6) (N := 9) hx hb htg gRX6 hown hK hP 4 rfl rfl 1 (by decide) (htg _ wi_254) (fun _ h9 => h9) rfl dX6_readText_94 ?_
  exact x_iret hx hb hr hlk hP hD hS [4, 2, 3] (()) rfl (by decide) (by first | rfl | decide | (exfalso; omega) | (try simp only [ti_0, ti_1, ti_2, ti_3, ti_4, ti_5, ti_6, ti_7, ti_8, ti_9, ti_10, ti_11, ti_12]); (repeat (first | rw [if_pos (by first | assumption | omega | trivial)] | rw [if_neg (by first | assumption | omega)]))) (by decide) (by decide) dX6_readText_97
set_option maxHeartbeats 4000000 in
set_option maxRecDepth 100000 in
theorem c_isFarm (l : Launch) (D : va_G) (cT : Nat → ClassId) (sz : Nat) (x : Int32) : Met l yX8_isFarm (wsc yX8_isFarm cX8_isFarm 1 (some .boolean)) { frames := 2, cells := 0, slots := 0, locals := 100 } (va_Pc [.int x] (PX D cT sz [])) (va_Qi (fun (r : Int32) (u : Unit) => r = if 0 ≤ x.toInt ∧ x.toInt < 6 then 1 else 0) (fun u t => RW D (va_A [] sz) ((fun _ : Unit => []) u) t) (va_A [] sz)) 0 0 (va_A [] sz) := by
  refine m_of (y := yX8_isFarm) (cc := cX8_isFarm) (nL := 1) (ret := (some .boolean)) (D := D) (cT := cT) (av := [.int x]) (wi := []) (fun A => va_Qi (fun (r : Int32) (u : Unit) => r = if 0 ≤ x.toInt ∧ x.toInt < 6 then 1 else 0) (fun u t => RW D A ((fun _ : Unit => []) u) t) A) (by decide) (Nat.le_of_ble_eq_true rfl) ?_
  intro p e s m below meth c A hx hb hml hown htg hK hN hr hlk hnm hsz hP hD hS hA ls hl
  have hown : s.vm.findClass RX8 = some m.cls := hown
  have hl : lv_has ls 1 [(0, .int x)] := hl
  refine lv_iload_n hx hb dX8_isFarm_0 rfl (lv_at hl 0 rfl) ?_
  refine lv_if_lt (tgt := 14) hx hb dX8_isFarm_1 (by decide) (fun c_1 => ?_) (fun c_1 => ?_)
  · have ic_1 : x.toInt < 0 := ilt c_1 (rfl) (by decide)
    refine lv_iconst (v := 0) hx hb dX8_isFarm_14 (by decide) ?_
    exact x_zret hx hb hr hlk hP hD hS [] (()) rfl (by decide) rfl (by first | rfl | decide | (exfalso; omega) | (try simp only [ti_0, ti_1, ti_2, ti_3, ti_4, ti_5, ti_6, ti_7, ti_8, ti_9, ti_10, ti_11, ti_12]); (repeat (first | rw [if_pos (by first | assumption | omega | trivial)] | rw [if_neg (by first | assumption | omega)]))) (by decide) (by decide) dX8_isFarm_15
  · have ic_1 : 0 ≤ x.toInt := inlt c_1 (rfl) (by decide)
    refine lv_iload_n hx hb dX8_isFarm_4 rfl (lv_at hl 0 rfl) ?_
    refine lv_bipush (v := 6) hx hb dX8_isFarm_5 (by decide) ?_
    refine lv_icmp_ge (tgt := 14) hx hb dX8_isFarm_7 (by decide) (fun c_2 => ?_) (fun c_2 => ?_)
    · have ic_2 : 6 ≤ x.toInt := ile c_2 (by decide) (rfl)
      refine lv_iconst (v := 0) hx hb dX8_isFarm_14 (by decide) ?_
      exact x_zret hx hb hr hlk hP hD hS [] (()) rfl (by decide) rfl (by first | rfl | decide | (exfalso; omega) | (try simp only [ti_0, ti_1, ti_2, ti_3, ti_4, ti_5, ti_6, ti_7, ti_8, ti_9, ti_10, ti_11, ti_12]); (repeat (first | rw [if_pos (by first | assumption | omega | trivial)] | rw [if_neg (by first | assumption | omega)]))) (by decide) (by decide) dX8_isFarm_15
    · have ic_2 : x.toInt < 6 := inle c_2 (by decide) (rfl)
      refine lv_iconst (v := 1) hx hb dX8_isFarm_10 (by decide) ?_
      refine lv_goto (tgt := 15) hx hb dX8_isFarm_11 (by decide) ?_
      exact x_zret hx hb hr hlk hP hD hS [] (()) rfl (by decide) rfl (by first | rfl | decide | (exfalso; omega) | (try simp only [ti_0, ti_1, ti_2, ti_3, ti_4, ti_5, ti_6, ti_7, ti_8, ti_9, ti_10, ti_11, ti_12]); (repeat (first | rw [if_pos (by first | assumption | omega | trivial)] | rw [if_neg (by first | assumption | omega)]))) (by decide) (by decide) dX8_isFarm_15
set_option maxHeartbeats 4000000 in
set_option maxRecDepth 100000 in
theorem c_isRow (l : Launch) (D : va_G) (cT : Nat → ClassId) (sz : Nat) (x : Int32) : Met l yX8_isRow (wsc yX8_isRow cX8_isRow 1 (some .boolean)) { frames := 2, cells := 0, slots := 0, locals := 100 } (va_Pc [.int x] (PX D cT sz [])) (va_Qi (fun (r : Int32) (u : Unit) => r = if 0 ≤ x.toInt ∧ x.toInt < 4 then 1 else 0) (fun u t => RW D (va_A [] sz) ((fun _ : Unit => []) u) t) (va_A [] sz)) 0 0 (va_A [] sz) := by
  refine m_of (y := yX8_isRow) (cc := cX8_isRow) (nL := 1) (ret := (some .boolean)) (D := D) (cT := cT) (av := [.int x]) (wi := []) (fun A => va_Qi (fun (r : Int32) (u : Unit) => r = if 0 ≤ x.toInt ∧ x.toInt < 4 then 1 else 0) (fun u t => RW D A ((fun _ : Unit => []) u) t) A) (by decide) (Nat.le_of_ble_eq_true rfl) ?_
  intro p e s m below meth c A hx hb hml hown htg hK hN hr hlk hnm hsz hP hD hS hA ls hl
  have hown : s.vm.findClass RX8 = some m.cls := hown
  have hl : lv_has ls 1 [(0, .int x)] := hl
  refine lv_iload_n hx hb dX8_isRow_0 rfl (lv_at hl 0 rfl) ?_
  refine lv_if_lt (tgt := 13) hx hb dX8_isRow_1 (by decide) (fun c_1 => ?_) (fun c_1 => ?_)
  · have ic_1 : x.toInt < 0 := ilt c_1 (rfl) (by decide)
    refine lv_iconst (v := 0) hx hb dX8_isRow_13 (by decide) ?_
    exact x_zret hx hb hr hlk hP hD hS [] (()) rfl (by decide) rfl (by first | rfl | decide | (exfalso; omega) | (try simp only [ti_0, ti_1, ti_2, ti_3, ti_4, ti_5, ti_6, ti_7, ti_8, ti_9, ti_10, ti_11, ti_12]); (repeat (first | rw [if_pos (by first | assumption | omega | trivial)] | rw [if_neg (by first | assumption | omega)]))) (by decide) (by decide) dX8_isRow_14
  · have ic_1 : 0 ≤ x.toInt := inlt c_1 (rfl) (by decide)
    refine lv_iload_n hx hb dX8_isRow_4 rfl (lv_at hl 0 rfl) ?_
    refine lv_iconst (v := 4) hx hb dX8_isRow_5 (by decide) ?_
    refine lv_icmp_ge (tgt := 13) hx hb dX8_isRow_6 (by decide) (fun c_2 => ?_) (fun c_2 => ?_)
    · have ic_2 : 4 ≤ x.toInt := ile c_2 (by decide) (rfl)
      refine lv_iconst (v := 0) hx hb dX8_isRow_13 (by decide) ?_
      exact x_zret hx hb hr hlk hP hD hS [] (()) rfl (by decide) rfl (by first | rfl | decide | (exfalso; omega) | (try simp only [ti_0, ti_1, ti_2, ti_3, ti_4, ti_5, ti_6, ti_7, ti_8, ti_9, ti_10, ti_11, ti_12]); (repeat (first | rw [if_pos (by first | assumption | omega | trivial)] | rw [if_neg (by first | assumption | omega)]))) (by decide) (by decide) dX8_isRow_14
    · have ic_2 : x.toInt < 4 := inle c_2 (by decide) (rfl)
      refine lv_iconst (v := 1) hx hb dX8_isRow_9 (by decide) ?_
      refine lv_goto (tgt := 14) hx hb dX8_isRow_10 (by decide) ?_
      exact x_zret hx hb hr hlk hP hD hS [] (()) rfl (by decide) rfl (by first | rfl | decide | (exfalso; omega) | (try simp only [ti_0, ti_1, ti_2, ti_3, ti_4, ti_5, ti_6, ti_7, ti_8, ti_9, ti_10, ti_11, ti_12]); (repeat (first | rw [if_pos (by first | assumption | omega | trivial)] | rw [if_neg (by first | assumption | omega)]))) (by decide) (by decide) dX8_isRow_14
set_option maxHeartbeats 4000000 in
set_option maxRecDepth 100000 in
theorem c_isAskable (l : Launch) (D : va_G) (cT : Nat → ClassId) (sz : Nat) (x : Int32) (y : Int32) (n : Int) (en : y.toInt = n) : Met l yX8_isAskable (wsc yX8_isAskable cX8_isAskable 2 (some .boolean)) { frames := 2, cells := 0, slots := 0, locals := 100 } (va_Pc [.int x, .int y] (PX D cT sz [])) (va_Qi (fun (r : Int32) (u : Unit) => r = if (0 ≤ x.toInt ∧ x.toInt ≤ n) ∨ (10 ≤ x.toInt ∧ x.toInt < 18) then 1 else 0) (fun u t => RW D (va_A [] sz) ((fun _ : Unit => []) u) t) (va_A [] sz)) 0 0 (va_A [] sz) := by
  refine m_of (y := yX8_isAskable) (cc := cX8_isAskable) (nL := 2) (ret := (some .boolean)) (D := D) (cT := cT) (av := [.int x, .int y]) (wi := []) (fun A => va_Qi (fun (r : Int32) (u : Unit) => r = if (0 ≤ x.toInt ∧ x.toInt ≤ n) ∨ (10 ≤ x.toInt ∧ x.toInt < 18) then 1 else 0) (fun u t => RW D A ((fun _ : Unit => []) u) t) A) (by decide) (Nat.le_of_ble_eq_true rfl) ?_
  intro p e s m below meth c A hx hb hml hown htg hK hN hr hlk hnm hsz hP hD hS hA ls hl
  have hown : s.vm.findClass RX8 = some m.cls := hown
  have hl : lv_has ls 2 [(0, .int x), (1, .int y)] := hl
  subst en
  refine lv_iload_n hx hb dX8_isAskable_0 rfl (lv_at hl 0 rfl) ?_
  refine lv_if_lt (tgt := 9) hx hb dX8_isAskable_1 (by decide) (fun c_1 => ?_) (fun c_1 => ?_)
  · have ic_1 : x.toInt < 0 := ilt c_1 (rfl) (by decide)
    refine lv_iload_n hx hb dX8_isAskable_9 rfl (lv_at hl 0 rfl) ?_
    refine lv_bipush (v := 10) hx hb dX8_isAskable_10 (by decide) ?_
    refine lv_icmp_lt (tgt := 25) hx hb dX8_isAskable_12 (by decide) (fun c_2 => ?_) (fun c_2 => ?_)
    · have ic_2 : x.toInt < 10 := ilt c_2 (rfl) (by decide)
      refine lv_iconst (v := 0) hx hb dX8_isAskable_25 (by decide) ?_
      exact x_zret hx hb hr hlk hP hD hS [] (()) rfl (by decide) rfl (by first | rfl | decide | (exfalso; omega) | (try simp only [ti_0, ti_1, ti_2, ti_3, ti_4, ti_5, ti_6, ti_7, ti_8, ti_9, ti_10, ti_11, ti_12]); (repeat (first | rw [if_pos (by first | assumption | omega | trivial)] | rw [if_neg (by first | assumption | omega)]))) (by decide) (by decide) dX8_isAskable_26
    · have ic_2 : 10 ≤ x.toInt := inlt c_2 (rfl) (by decide)
      refine lv_iload_n hx hb dX8_isAskable_15 rfl (lv_at hl 0 rfl) ?_
      refine lv_bipush (v := 18) hx hb dX8_isAskable_16 (by decide) ?_
      refine lv_icmp_ge (tgt := 25) hx hb dX8_isAskable_18 (by decide) (fun c_3 => ?_) (fun c_3 => ?_)
      · have ic_3 : 18 ≤ x.toInt := ile c_3 (by decide) (rfl)
        refine lv_iconst (v := 0) hx hb dX8_isAskable_25 (by decide) ?_
        exact x_zret hx hb hr hlk hP hD hS [] (()) rfl (by decide) rfl (by first | rfl | decide | (exfalso; omega) | (try simp only [ti_0, ti_1, ti_2, ti_3, ti_4, ti_5, ti_6, ti_7, ti_8, ti_9, ti_10, ti_11, ti_12]); (repeat (first | rw [if_pos (by first | assumption | omega | trivial)] | rw [if_neg (by first | assumption | omega)]))) (by decide) (by decide) dX8_isAskable_26
      · have ic_3 : x.toInt < 18 := inle c_3 (by decide) (rfl)
        refine lv_iconst (v := 1) hx hb dX8_isAskable_21 (by decide) ?_
        refine lv_goto (tgt := 26) hx hb dX8_isAskable_22 (by decide) ?_
        exact x_zret hx hb hr hlk hP hD hS [] (()) rfl (by decide) rfl (by first | rfl | decide | (exfalso; omega) | (try simp only [ti_0, ti_1, ti_2, ti_3, ti_4, ti_5, ti_6, ti_7, ti_8, ti_9, ti_10, ti_11, ti_12]); (repeat (first | rw [if_pos (by first | assumption | omega | trivial)] | rw [if_neg (by first | assumption | omega)]))) (by decide) (by decide) dX8_isAskable_26
  · have ic_1 : 0 ≤ x.toInt := inlt c_1 (rfl) (by decide)
    refine lv_iload_n hx hb dX8_isAskable_4 rfl (lv_at hl 0 rfl) ?_
    refine lv_iload_n hx hb dX8_isAskable_5 rfl (lv_at hl 1 rfl) ?_
    refine lv_icmp_le (tgt := 21) hx hb dX8_isAskable_6 (by decide) (fun c_4 => ?_) (fun c_4 => ?_)
    · have ic_4 : x.toInt ≤ y.toInt := ile c_4 (rfl) (rfl)
      refine lv_iconst (v := 1) hx hb dX8_isAskable_21 (by decide) ?_
      refine lv_goto (tgt := 26) hx hb dX8_isAskable_22 (by decide) ?_
      exact x_zret hx hb hr hlk hP hD hS [] (()) rfl (by decide) rfl (by first | rfl | decide | (exfalso; omega) | (try simp only [ti_0, ti_1, ti_2, ti_3, ti_4, ti_5, ti_6, ti_7, ti_8, ti_9, ti_10, ti_11, ti_12]); (repeat (first | rw [if_pos (by first | assumption | omega | trivial)] | rw [if_neg (by first | assumption | omega)]))) (by decide) (by decide) dX8_isAskable_26
    · have ic_4 : y.toInt < x.toInt := inle c_4 (rfl) (rfl)
      refine lv_iload_n hx hb dX8_isAskable_9 rfl (lv_at hl 0 rfl) ?_
      refine lv_bipush (v := 10) hx hb dX8_isAskable_10 (by decide) ?_
      refine lv_icmp_lt (tgt := 25) hx hb dX8_isAskable_12 (by decide) (fun c_5 => ?_) (fun c_5 => ?_)
      · have ic_5 : x.toInt < 10 := ilt c_5 (rfl) (by decide)
        refine lv_iconst (v := 0) hx hb dX8_isAskable_25 (by decide) ?_
        exact x_zret hx hb hr hlk hP hD hS [] (()) rfl (by decide) rfl (by first | rfl | decide | (exfalso; omega) | (try simp only [ti_0, ti_1, ti_2, ti_3, ti_4, ti_5, ti_6, ti_7, ti_8, ti_9, ti_10, ti_11, ti_12]); (repeat (first | rw [if_pos (by first | assumption | omega | trivial)] | rw [if_neg (by first | assumption | omega)]))) (by decide) (by decide) dX8_isAskable_26
      · have ic_5 : 10 ≤ x.toInt := inlt c_5 (rfl) (by decide)
        refine lv_iload_n hx hb dX8_isAskable_15 rfl (lv_at hl 0 rfl) ?_
        refine lv_bipush (v := 18) hx hb dX8_isAskable_16 (by decide) ?_
        refine lv_icmp_ge (tgt := 25) hx hb dX8_isAskable_18 (by decide) (fun c_6 => ?_) (fun c_6 => ?_)
        · have ic_6 : 18 ≤ x.toInt := ile c_6 (by decide) (rfl)
          refine lv_iconst (v := 0) hx hb dX8_isAskable_25 (by decide) ?_
          exact x_zret hx hb hr hlk hP hD hS [] (()) rfl (by decide) rfl (by first | rfl | decide | (exfalso; omega) | (try simp only [ti_0, ti_1, ti_2, ti_3, ti_4, ti_5, ti_6, ti_7, ti_8, ti_9, ti_10, ti_11, ti_12]); (repeat (first | rw [if_pos (by first | assumption | omega | trivial)] | rw [if_neg (by first | assumption | omega)]))) (by decide) (by decide) dX8_isAskable_26
        · have ic_6 : x.toInt < 18 := inle c_6 (by decide) (rfl)
          refine lv_iconst (v := 1) hx hb dX8_isAskable_21 (by decide) ?_
          refine lv_goto (tgt := 26) hx hb dX8_isAskable_22 (by decide) ?_
          exact x_zret hx hb hr hlk hP hD hS [] (()) rfl (by decide) rfl (by first | rfl | decide | (exfalso; omega) | (try simp only [ti_0, ti_1, ti_2, ti_3, ti_4, ti_5, ti_6, ti_7, ti_8, ti_9, ti_10, ti_11, ti_12]); (repeat (first | rw [if_pos (by first | assumption | omega | trivial)] | rw [if_neg (by first | assumption | omega)]))) (by decide) (by decide) dX8_isAskable_26
set_option maxHeartbeats 4000000 in
set_option maxRecDepth 100000 in
theorem c_refusedSearch (l : Launch) (D : va_G) (cT : Nat → ClassId) (sz : Nat) (h0 : Nat) (q : Nat → Nat) (w : Int32) (x : Int32) (y : Int32) (n : Int) (en : y.toInt = n) (P : Prop) [dP : Decidable P] (hk : w = if P then 1 else 0) : Met l yX8_refusedSearch (wsc yX8_refusedSearch cX8_refusedSearch 4 (some .int)) { frames := 2, cells := 0, slots := 0, locals := 100 } (va_Pc [.ref h0, .int w, .int x, .int y] (PX D cT sz [(h0, .inr (8, [.ref (q 0), .int 0, .ref (q 1), .ref (q 2), .ref (q 3), .ref (q 4), .ref (q 5), .ref (q 6), .ref (q 7), .ref (q 8), .ref (q 9), .ref (q 10), .ref (q 11)])), ((q 2), .inr (3, [.int 0, .int 0, .int 0, .int 0, .int 6, .int 6, .int 1, .int 60, .int 0, .int 0, .ref (q 12), .ref (q 13), .ref (q 14), .ref (q 15), .ref (q 16), .ref (q 17)]))])) (va_Qi (fun (r : Int32) (u : Unit) => r = if P then (if 1 ≤ x.toInt ∧ x.toInt ≤ n then -5 else -3) else -2) (fun u t => RW D (va_A [(h0, .inr (8, [.ref (q 0), .int 0, .ref (q 1), .ref (q 2), .ref (q 3), .ref (q 4), .ref (q 5), .ref (q 6), .ref (q 7), .ref (q 8), .ref (q 9), .ref (q 10), .ref (q 11)])), ((q 2), .inr (3, [.int 0, .int 0, .int 0, .int 0, .int 6, .int 6, .int 1, .int 60, .int 0, .int 0, .ref (q 12), .ref (q 13), .ref (q 14), .ref (q 15), .ref (q 16), .ref (q 17)]))] sz) ((fun _ : Unit => []) u) t) (va_A [(h0, .inr (8, [.ref (q 0), .int 0, .ref (q 1), .ref (q 2), .ref (q 3), .ref (q 4), .ref (q 5), .ref (q 6), .ref (q 7), .ref (q 8), .ref (q 9), .ref (q 10), .ref (q 11)])), ((q 2), .inr (3, [.int 0, .int 0, .int 0, .int 0, .int 6, .int 6, .int 1, .int 60, .int 0, .int 0, .ref (q 12), .ref (q 13), .ref (q 14), .ref (q 15), .ref (q 16), .ref (q 17)]))] sz)) 0 0 (va_A [(h0, .inr (8, [.ref (q 0), .int 0, .ref (q 1), .ref (q 2), .ref (q 3), .ref (q 4), .ref (q 5), .ref (q 6), .ref (q 7), .ref (q 8), .ref (q 9), .ref (q 10), .ref (q 11)])), ((q 2), .inr (3, [.int 0, .int 0, .int 0, .int 0, .int 6, .int 6, .int 1, .int 60, .int 0, .int 0, .ref (q 12), .ref (q 13), .ref (q 14), .ref (q 15), .ref (q 16), .ref (q 17)]))] sz) := by
  refine m_of (y := yX8_refusedSearch) (cc := cX8_refusedSearch) (nL := 4) (ret := (some .int)) (D := D) (cT := cT) (av := [.ref h0, .int w, .int x, .int y]) (wi := [(h0, .inr (8, [.ref (q 0), .int 0, .ref (q 1), .ref (q 2), .ref (q 3), .ref (q 4), .ref (q 5), .ref (q 6), .ref (q 7), .ref (q 8), .ref (q 9), .ref (q 10), .ref (q 11)])), ((q 2), .inr (3, [.int 0, .int 0, .int 0, .int 0, .int 6, .int 6, .int 1, .int 60, .int 0, .int 0, .ref (q 12), .ref (q 13), .ref (q 14), .ref (q 15), .ref (q 16), .ref (q 17)]))]) (fun A => va_Qi (fun (r : Int32) (u : Unit) => r = if P then (if 1 ≤ x.toInt ∧ x.toInt ≤ n then -5 else -3) else -2) (fun u t => RW D A ((fun _ : Unit => []) u) t) A) (by decide) (Nat.le_of_ble_eq_true rfl) ?_
  intro p e s m below meth c A hx hb hml hown htg hK hN hr hlk hnm hsz hP hD hS hA ls hl
  have hown : s.vm.findClass RX8 = some m.cls := hown
  have hl : lv_has ls 4 [(0, .ref h0), (1, .int w), (2, .int x), (3, .int y)] := hl
  subst en
  refine lv_iload_n hx hb dX8_refusedSearch_0 rfl (lv_at hl 1 rfl) ?_
  refine lv_if_ne (tgt := 7) hx hb dX8_refusedSearch_1 (by decide) (fun c_1 => ?_) (fun c_1 => ?_)
  · have ic_1 := if1 hk c_1
    refine lv_iload_n hx hb dX8_refusedSearch_7 rfl (lv_at hl 2 rfl) ?_
    refine lv_iconst (v := 1) hx hb dX8_refusedSearch_8 (by decide) ?_
    refine lv_icmp_lt (tgt := 17) hx hb dX8_refusedSearch_9 (by decide) (fun c_2 => ?_) (fun c_2 => ?_)
    · have ic_2 : x.toInt < 1 := ilt c_2 (rfl) (by decide)
      refine lv_bipush (v := (-3)) hx hb dX8_refusedSearch_17 (by decide) ?_
      exact x_iret hx hb hr hlk hP hD hS [] (()) rfl (by decide) (by first | rfl | decide | (exfalso; omega) | (try simp only [ti_0, ti_1, ti_2, ti_3, ti_4, ti_5, ti_6, ti_7, ti_8, ti_9, ti_10, ti_11, ti_12]); (repeat (first | rw [if_pos (by first | assumption | omega | trivial)] | rw [if_neg (by first | assumption | omega)]))) (by decide) (by decide) dX8_refusedSearch_19
    · have ic_2 : 1 ≤ x.toInt := inlt c_2 (rfl) (by decide)
      refine lv_iload_n hx hb dX8_refusedSearch_12 rfl (lv_at hl 2 rfl) ?_
      refine lv_iload_n hx hb dX8_refusedSearch_13 rfl (lv_at hl 3 rfl) ?_
      refine lv_icmp_le (tgt := 20) hx hb dX8_refusedSearch_14 (by decide) (fun c_3 => ?_) (fun c_3 => ?_)
      · have ic_3 : x.toInt ≤ y.toInt := ile c_3 (rfl) (rfl)
        refine lv_aload_n hx hb dX8_refusedSearch_20 rfl (lv_at hl 0 rfl) ?_
        refine va_get (D := D) (ci := 8) (v := .ref (q 2)) (C := RX8) (T := TX8) (N := 13) hx hb htg gRX8 hown hK hP 0 rfl rfl 3 (by decide) (htg _ wi_470) (fun _ h9 => h9) rfl dX8_refusedSearch_21 ?_
        refine va_getN (D := D) (ci := 3) (v := .int 0) (C := RX3) (T := TX3) (N := 16) hx hb htg gRX3 hown hK hP 1 rfl rfl 0 (by decide) (va_Nw.use rfl (hN.1 _ ni_172)) (fun _ h9 => h9) rfl dX8_refusedSearch_24 ?_
        refine lv_if_ne (tgt := 35) hx hb dX8_refusedSearch_27 (by decide) (fun h => absurd rfl h) (fun _ => ?_)
        refine lv_bipush (v := (-5)) hx hb dX8_refusedSearch_30 (by decide) ?_
        refine lv_goto (tgt := 36) hx hb dX8_refusedSearch_32 (by decide) ?_
        exact x_iret hx hb hr hlk hP hD hS [] (()) rfl (by decide) (by first | rfl | decide | (exfalso; omega) | (try simp only [ti_0, ti_1, ti_2, ti_3, ti_4, ti_5, ti_6, ti_7, ti_8, ti_9, ti_10, ti_11, ti_12]); (repeat (first | rw [if_pos (by first | assumption | omega | trivial)] | rw [if_neg (by first | assumption | omega)]))) (by decide) (by decide) dX8_refusedSearch_36
      · have ic_3 : y.toInt < x.toInt := inle c_3 (rfl) (rfl)
        refine lv_bipush (v := (-3)) hx hb dX8_refusedSearch_17 (by decide) ?_
        exact x_iret hx hb hr hlk hP hD hS [] (()) rfl (by decide) (by first | rfl | decide | (exfalso; omega) | (try simp only [ti_0, ti_1, ti_2, ti_3, ti_4, ti_5, ti_6, ti_7, ti_8, ti_9, ti_10, ti_11, ti_12]); (repeat (first | rw [if_pos (by first | assumption | omega | trivial)] | rw [if_neg (by first | assumption | omega)]))) (by decide) (by decide) dX8_refusedSearch_19
  · have ic_1 := if0 hk c_1
    refine lv_bipush (v := (-2)) hx hb dX8_refusedSearch_4 (by decide) ?_
    exact x_iret hx hb hr hlk hP hD hS [] (()) rfl (by decide) (by first | rfl | decide | (exfalso; omega) | (try simp only [ti_0, ti_1, ti_2, ti_3, ti_4, ti_5, ti_6, ti_7, ti_8, ti_9, ti_10, ti_11, ti_12]); (repeat (first | rw [if_pos (by first | assumption | omega | trivial)] | rw [if_neg (by first | assumption | omega)]))) (by decide) (by decide) dX8_refusedSearch_6
set_option maxHeartbeats 4000000 in
set_option maxRecDepth 100000 in
theorem c_refusedStubble (l : Launch) (D : va_G) (cT : Nat → ClassId) (sz : Nat) (h0 : Nat) (q : Nat → Nat) (x : Int32) (y : Int32) : Met l yX8_refusedStubble (wsc yX8_refusedStubble cX8_refusedStubble 3 (some .int)) { frames := 3, cells := 0, slots := 0, locals := 120 } (va_Pc [.ref h0, .int x, .int y] (PX D cT sz [(h0, .inr (8, [.ref (q 0), .int 0, .ref (q 1), .ref (q 2), .ref (q 3), .ref (q 4), .ref (q 5), .ref (q 6), .ref (q 7), .ref (q 8), .ref (q 9), .ref (q 10), .ref (q 11)])), ((q 6), .inl (cT 5, 4, .inr (.inr (.inr (.inr (va_up (va_up (va_up (va_up (fun _ => none) 0 (some (q 40))) 1 (some (q 41))) 2 (some (q 42))) 3 (some (q 43)))))))), ((q 40), .inr (4, [.int 1, .int 0, .int 0, .ref (q 44)])), ((q 41), .inr (4, [.int 1, .int 0, .int 0, .ref (q 45)])), ((q 42), .inr (4, [.int 1, .int 0, .int 0, .ref (q 46)])), ((q 43), .inr (4, [.int 1, .int 0, .int 0, .ref (q 47)]))])) (va_Qi (fun (r : Int32) (u : Unit) => r = if 0 ≤ x.toInt ∧ x.toInt < 4 then -6 else -2) (fun u t => RW D (va_A [(h0, .inr (8, [.ref (q 0), .int 0, .ref (q 1), .ref (q 2), .ref (q 3), .ref (q 4), .ref (q 5), .ref (q 6), .ref (q 7), .ref (q 8), .ref (q 9), .ref (q 10), .ref (q 11)])), ((q 6), .inl (cT 5, 4, .inr (.inr (.inr (.inr (va_up (va_up (va_up (va_up (fun _ => none) 0 (some (q 40))) 1 (some (q 41))) 2 (some (q 42))) 3 (some (q 43)))))))), ((q 40), .inr (4, [.int 1, .int 0, .int 0, .ref (q 44)])), ((q 41), .inr (4, [.int 1, .int 0, .int 0, .ref (q 45)])), ((q 42), .inr (4, [.int 1, .int 0, .int 0, .ref (q 46)])), ((q 43), .inr (4, [.int 1, .int 0, .int 0, .ref (q 47)]))] sz) ((fun _ : Unit => []) u) t) (va_A [(h0, .inr (8, [.ref (q 0), .int 0, .ref (q 1), .ref (q 2), .ref (q 3), .ref (q 4), .ref (q 5), .ref (q 6), .ref (q 7), .ref (q 8), .ref (q 9), .ref (q 10), .ref (q 11)])), ((q 6), .inl (cT 5, 4, .inr (.inr (.inr (.inr (va_up (va_up (va_up (va_up (fun _ => none) 0 (some (q 40))) 1 (some (q 41))) 2 (some (q 42))) 3 (some (q 43)))))))), ((q 40), .inr (4, [.int 1, .int 0, .int 0, .ref (q 44)])), ((q 41), .inr (4, [.int 1, .int 0, .int 0, .ref (q 45)])), ((q 42), .inr (4, [.int 1, .int 0, .int 0, .ref (q 46)])), ((q 43), .inr (4, [.int 1, .int 0, .int 0, .ref (q 47)]))] sz)) 0 0 (va_A [(h0, .inr (8, [.ref (q 0), .int 0, .ref (q 1), .ref (q 2), .ref (q 3), .ref (q 4), .ref (q 5), .ref (q 6), .ref (q 7), .ref (q 8), .ref (q 9), .ref (q 10), .ref (q 11)])), ((q 6), .inl (cT 5, 4, .inr (.inr (.inr (.inr (va_up (va_up (va_up (va_up (fun _ => none) 0 (some (q 40))) 1 (some (q 41))) 2 (some (q 42))) 3 (some (q 43)))))))), ((q 40), .inr (4, [.int 1, .int 0, .int 0, .ref (q 44)])), ((q 41), .inr (4, [.int 1, .int 0, .int 0, .ref (q 45)])), ((q 42), .inr (4, [.int 1, .int 0, .int 0, .ref (q 46)])), ((q 43), .inr (4, [.int 1, .int 0, .int 0, .ref (q 47)]))] sz) := by
  refine m_of (y := yX8_refusedStubble) (cc := cX8_refusedStubble) (nL := 3) (ret := (some .int)) (D := D) (cT := cT) (av := [.ref h0, .int x, .int y]) (wi := [(h0, .inr (8, [.ref (q 0), .int 0, .ref (q 1), .ref (q 2), .ref (q 3), .ref (q 4), .ref (q 5), .ref (q 6), .ref (q 7), .ref (q 8), .ref (q 9), .ref (q 10), .ref (q 11)])), ((q 6), .inl (cT 5, 4, .inr (.inr (.inr (.inr (va_up (va_up (va_up (va_up (fun _ => none) 0 (some (q 40))) 1 (some (q 41))) 2 (some (q 42))) 3 (some (q 43)))))))), ((q 40), .inr (4, [.int 1, .int 0, .int 0, .ref (q 44)])), ((q 41), .inr (4, [.int 1, .int 0, .int 0, .ref (q 45)])), ((q 42), .inr (4, [.int 1, .int 0, .int 0, .ref (q 46)])), ((q 43), .inr (4, [.int 1, .int 0, .int 0, .ref (q 47)]))]) (fun A => va_Qi (fun (r : Int32) (u : Unit) => r = if 0 ≤ x.toInt ∧ x.toInt < 4 then -6 else -2) (fun u t => RW D A ((fun _ : Unit => []) u) t) A) (by decide) (Nat.le_of_ble_eq_true rfl) ?_
  intro p e s m below meth c A hx hb hml hown htg hK hN hr hlk hnm hsz hP hD hS hA ls hl
  have hown : s.vm.findClass RX8 = some m.cls := hown
  have hl : lv_has ls 3 [(0, .ref h0), (1, .int x), (2, .int y)] := hl
  refine lv_iload_n hx hb dX8_refusedStubble_0 rfl (lv_at hl 1 rfl) ?_
  refine xk_i (wr := [(h0, .inr (8, [.ref (q 0), .int 0, .ref (q 1), .ref (q 2), .ref (q 3), .ref (q 4), .ref (q 5), .ref (q 6), .ref (q 7), .ref (q 8), .ref (q 9), .ref (q 10), .ref (q 11)])), ((q 6), .inl (cT 5, 4, .inr (.inr (.inr (.inr (va_up (va_up (va_up (va_up (fun _ => none) 0 (some (q 40))) 1 (some (q 41))) 2 (some (q 42))) 3 (some (q 43)))))))), ((q 40), .inr (4, [.int 1, .int 0, .int 0, .ref (q 44)])), ((q 41), .inr (4, [.int 1, .int 0, .int 0, .ref (q 45)])), ((q 42), .inr (4, [.int 1, .int 0, .int 0, .ref (q 46)])), ((q 43), .inr (4, [.int 1, .int 0, .int 0, .ref (q 47)]))]) (xr_S (n := 1) (As := [.int x]) (rest := []) ⟨hx, hb, hml, hown, htg⟩ hK hN hP hD [] rfl (by decide) (c_isRow l D cT _ (x)) wi_777 wi_778 wi_121 wi_779 ⟨rfl, by decide +kernel⟩ ⟨Nat.le_of_ble_eq_true rfl, Nat.le_of_ble_eq_true rfl⟩ rfl hl.1 rfl (Nat.le_of_ble_eq_true rfl) dX8_refusedStubble_1 ⟨Nat.le_of_ble_eq_true rfl, Nat.le_of_ble_eq_true rfl⟩) hP hD hS hA [] [0, 1, 2, 3, 4, 5] rfl rfl (by decide) (by decide) (fun r_2 u_1 H locs hwr_2 hP hD hS => ?_)
  have hP : va_P D classes [(h0, .inr (8, [.ref (q 0), .int 0, .ref (q 1), .ref (q 2), .ref (q 3), .ref (q 4), .ref (q 5), .ref (q 6), .ref (q 7), .ref (q 8), .ref (q 9), .ref (q 10), .ref (q 11)])), ((q 6), .inl (cT 5, 4, .inr (.inr (.inr (.inr (va_up (va_up (va_up (va_up (fun _ => none) 0 (some (q 40))) 1 (some (q 41))) 2 (some (q 42))) 3 (some (q 43)))))))), ((q 40), .inr (4, [.int 1, .int 0, .int 0, .ref (q 44)])), ((q 41), .inr (4, [.int 1, .int 0, .int 0, .ref (q 45)])), ((q 42), .inr (4, [.int 1, .int 0, .int 0, .ref (q 46)])), ((q 43), .inr (4, [.int 1, .int 0, .int 0, .ref (q 47)]))] _ := hP
  have hD : va_D A [(h0, .inr (8, [.ref (q 0), .int 0, .ref (q 1), .ref (q 2), .ref (q 3), .ref (q 4), .ref (q 5), .ref (q 6), .ref (q 7), .ref (q 8), .ref (q 9), .ref (q 10), .ref (q 11)])), ((q 6), .inl (cT 5, 4, .inr (.inr (.inr (.inr (va_up (va_up (va_up (va_up (fun _ => none) 0 (some (q 40))) 1 (some (q 41))) 2 (some (q 42))) 3 (some (q 43)))))))), ((q 40), .inr (4, [.int 1, .int 0, .int 0, .ref (q 44)])), ((q 41), .inr (4, [.int 1, .int 0, .int 0, .ref (q 45)])), ((q 42), .inr (4, [.int 1, .int 0, .int 0, .ref (q 46)])), ((q 43), .inr (4, [.int 1, .int 0, .int 0, .ref (q 47)]))] := hD
  have hwr_2 : r_2 = if 0 ≤ x.toInt ∧ x.toInt < 4 then 1 else 0 := hwr_2
  refine lv_if_ne (tgt := 10) hx hb dX8_refusedStubble_4 (by decide) (fun c_3 => ?_) (fun c_3 => ?_)
  · have ic_3 := if1 hwr_2 c_3
    refine lv_aload_n hx hb dX8_refusedStubble_10 rfl (lv_at hl 0 rfl) ?_
    refine va_get (D := D) (ci := 8) (v := .ref (q 6)) (C := RX8) (T := TX8) (N := 13) hx hb htg gRX8 hown hK hP 0 rfl rfl 7 (by decide) (htg _ wi_474) (fun _ h9 => h9) rfl dX8_refusedStubble_11 ?_
    refine lv_iload_n hx hb dX8_refusedStubble_14 rfl (lv_at hl 1 rfl) ?_
    have c_4 : x = 0 ∨ x = 1 ∨ x = 2 ∨ x = 3 := by
      rcases (show x.toInt = 0 ∨ x.toInt = 1 ∨ x.toInt = 2 ∨ x.toInt = 3 from by omega) with h | h | h | h
      · exact Or.inl (i32_is (h.trans (by decide)))
      · exact Or.inr (Or.inl (i32_is (h.trans (by decide))))
      · exact Or.inr (Or.inr (Or.inl (i32_is (h.trans (by decide)))))
      · exact Or.inr (Or.inr (Or.inr (i32_is (h.trans (by decide)))))
    rcases c_4 with rfl | rfl | rfl | rfl
    · refine va_aldq hx hb hK hP 1 5 rfl rfl (by unfold vp_in; decide) dX8_refusedStubble_15 ?_
      refine lv_isv (y := .ref (q 40)) rfl ?_
      refine va_getN (D := D) (ci := 4) (v := .int 1) (C := RX4) (T := TX4) (N := 4) hx hb htg gRX4 hown hK hP 2 rfl rfl 0 (by decide) (va_Nw.use rfl (hN.1 _ ni_452)) (fun _ h9 => h9) rfl dX8_refusedStubble_16 ?_
      refine lv_if_eq (tgt := 25) hx hb dX8_refusedStubble_19 (by decide) (fun h => absurd h (by decide)) (fun _ => ?_)
      refine lv_bipush (v := (-6)) hx hb dX8_refusedStubble_22 (by decide) ?_
      exact x_iret hx hb hr hlk hP hD hS [] (()) rfl (by decide) (by first | rfl | decide | (exfalso; omega) | (try simp only [ti_0, ti_1, ti_2, ti_3, ti_4, ti_5, ti_6, ti_7, ti_8, ti_9, ti_10, ti_11, ti_12]); (repeat (first | rw [if_pos (by first | assumption | omega | trivial)] | rw [if_neg (by first | assumption | omega)]))) (by decide) (by decide) dX8_refusedStubble_24
    · refine va_aldq hx hb hK hP 1 5 rfl rfl (by unfold vp_in; decide) dX8_refusedStubble_15 ?_
      refine lv_isv (y := .ref (q 41)) rfl ?_
      refine va_getN (D := D) (ci := 4) (v := .int 1) (C := RX4) (T := TX4) (N := 4) hx hb htg gRX4 hown hK hP 3 rfl rfl 0 (by decide) (va_Nw.use rfl (hN.1 _ ni_452)) (fun _ h9 => h9) rfl dX8_refusedStubble_16 ?_
      refine lv_if_eq (tgt := 25) hx hb dX8_refusedStubble_19 (by decide) (fun h => absurd h (by decide)) (fun _ => ?_)
      refine lv_bipush (v := (-6)) hx hb dX8_refusedStubble_22 (by decide) ?_
      exact x_iret hx hb hr hlk hP hD hS [] (()) rfl (by decide) (by first | rfl | decide | (exfalso; omega) | (try simp only [ti_0, ti_1, ti_2, ti_3, ti_4, ti_5, ti_6, ti_7, ti_8, ti_9, ti_10, ti_11, ti_12]); (repeat (first | rw [if_pos (by first | assumption | omega | trivial)] | rw [if_neg (by first | assumption | omega)]))) (by decide) (by decide) dX8_refusedStubble_24
    · refine va_aldq hx hb hK hP 1 5 rfl rfl (by unfold vp_in; decide) dX8_refusedStubble_15 ?_
      refine lv_isv (y := .ref (q 42)) rfl ?_
      refine va_getN (D := D) (ci := 4) (v := .int 1) (C := RX4) (T := TX4) (N := 4) hx hb htg gRX4 hown hK hP 4 rfl rfl 0 (by decide) (va_Nw.use rfl (hN.1 _ ni_452)) (fun _ h9 => h9) rfl dX8_refusedStubble_16 ?_
      refine lv_if_eq (tgt := 25) hx hb dX8_refusedStubble_19 (by decide) (fun h => absurd h (by decide)) (fun _ => ?_)
      refine lv_bipush (v := (-6)) hx hb dX8_refusedStubble_22 (by decide) ?_
      exact x_iret hx hb hr hlk hP hD hS [] (()) rfl (by decide) (by first | rfl | decide | (exfalso; omega) | (try simp only [ti_0, ti_1, ti_2, ti_3, ti_4, ti_5, ti_6, ti_7, ti_8, ti_9, ti_10, ti_11, ti_12]); (repeat (first | rw [if_pos (by first | assumption | omega | trivial)] | rw [if_neg (by first | assumption | omega)]))) (by decide) (by decide) dX8_refusedStubble_24
    · refine va_aldq hx hb hK hP 1 5 rfl rfl (by unfold vp_in; decide) dX8_refusedStubble_15 ?_
      refine lv_isv (y := .ref (q 43)) rfl ?_
      refine va_getN (D := D) (ci := 4) (v := .int 1) (C := RX4) (T := TX4) (N := 4) hx hb htg gRX4 hown hK hP 5 rfl rfl 0 (by decide) (va_Nw.use rfl (hN.1 _ ni_452)) (fun _ h9 => h9) rfl dX8_refusedStubble_16 ?_
      refine lv_if_eq (tgt := 25) hx hb dX8_refusedStubble_19 (by decide) (fun h => absurd h (by decide)) (fun _ => ?_)
      refine lv_bipush (v := (-6)) hx hb dX8_refusedStubble_22 (by decide) ?_
      exact x_iret hx hb hr hlk hP hD hS [] (()) rfl (by decide) (by first | rfl | decide | (exfalso; omega) | (try simp only [ti_0, ti_1, ti_2, ti_3, ti_4, ti_5, ti_6, ti_7, ti_8, ti_9, ti_10, ti_11, ti_12]); (repeat (first | rw [if_pos (by first | assumption | omega | trivial)] | rw [if_neg (by first | assumption | omega)]))) (by decide) (by decide) dX8_refusedStubble_24
  · have ic_3 := if0 hwr_2 c_3
    refine lv_bipush (v := (-2)) hx hb dX8_refusedStubble_7 (by decide) ?_
    exact x_iret hx hb hr hlk hP hD hS [] (()) rfl (by decide) (by first | rfl | decide | (exfalso; omega) | (try simp only [ti_0, ti_1, ti_2, ti_3, ti_4, ti_5, ti_6, ti_7, ti_8, ti_9, ti_10, ti_11, ti_12]); (repeat (first | rw [if_pos (by first | assumption | omega | trivial)] | rw [if_neg (by first | assumption | omega)]))) (by decide) (by decide) dX8_refusedStubble_9
set_option maxHeartbeats 4000000 in
set_option maxRecDepth 100000 in
theorem c_refusedMeeting (l : Launch) (D : va_G) (cT : Nat → ClassId) (sz : Nat) (h0 : Nat) (q : Nat → Nat) (x : Int32) (y : Int32) : Met l yX8_refusedMeeting (wsc yX8_refusedMeeting cX8_refusedMeeting 5 (some .int)) { frames := 3, cells := 0, slots := 0, locals := 120 } (va_Pc [.ref h0, .int x, .int y] (PX D cT sz [(h0, .inr (8, [.ref (q 0), .int 0, .ref (q 1), .ref (q 2), .ref (q 3), .ref (q 4), .ref (q 5), .ref (q 6), .ref (q 7), .ref (q 8), .ref (q 9), .ref (q 10), .ref (q 11)])), ((q 6), .inl (cT 5, 4, .inr (.inr (.inr (.inr (va_up (va_up (va_up (va_up (fun _ => none) 0 (some (q 40))) 1 (some (q 41))) 2 (some (q 42))) 3 (some (q 43)))))))), ((q 40), .inr (4, [.int 1, .int 0, .int 0, .ref (q 44)])), ((q 41), .inr (4, [.int 1, .int 0, .int 0, .ref (q 45)])), ((q 42), .inr (4, [.int 1, .int 0, .int 0, .ref (q 46)])), ((q 43), .inr (4, [.int 1, .int 0, .int 0, .ref (q 47)]))])) (va_Qi (fun (r : Int32) (u : Unit) => r = if (0 ≤ x.toInt ∧ x.toInt < 4) ∧ (0 ≤ y.toInt ∧ y.toInt < 4) then -6 else -2) (fun u t => RW D (va_A [(h0, .inr (8, [.ref (q 0), .int 0, .ref (q 1), .ref (q 2), .ref (q 3), .ref (q 4), .ref (q 5), .ref (q 6), .ref (q 7), .ref (q 8), .ref (q 9), .ref (q 10), .ref (q 11)])), ((q 6), .inl (cT 5, 4, .inr (.inr (.inr (.inr (va_up (va_up (va_up (va_up (fun _ => none) 0 (some (q 40))) 1 (some (q 41))) 2 (some (q 42))) 3 (some (q 43)))))))), ((q 40), .inr (4, [.int 1, .int 0, .int 0, .ref (q 44)])), ((q 41), .inr (4, [.int 1, .int 0, .int 0, .ref (q 45)])), ((q 42), .inr (4, [.int 1, .int 0, .int 0, .ref (q 46)])), ((q 43), .inr (4, [.int 1, .int 0, .int 0, .ref (q 47)]))] sz) ((fun _ : Unit => []) u) t) (va_A [(h0, .inr (8, [.ref (q 0), .int 0, .ref (q 1), .ref (q 2), .ref (q 3), .ref (q 4), .ref (q 5), .ref (q 6), .ref (q 7), .ref (q 8), .ref (q 9), .ref (q 10), .ref (q 11)])), ((q 6), .inl (cT 5, 4, .inr (.inr (.inr (.inr (va_up (va_up (va_up (va_up (fun _ => none) 0 (some (q 40))) 1 (some (q 41))) 2 (some (q 42))) 3 (some (q 43)))))))), ((q 40), .inr (4, [.int 1, .int 0, .int 0, .ref (q 44)])), ((q 41), .inr (4, [.int 1, .int 0, .int 0, .ref (q 45)])), ((q 42), .inr (4, [.int 1, .int 0, .int 0, .ref (q 46)])), ((q 43), .inr (4, [.int 1, .int 0, .int 0, .ref (q 47)]))] sz)) 0 0 (va_A [(h0, .inr (8, [.ref (q 0), .int 0, .ref (q 1), .ref (q 2), .ref (q 3), .ref (q 4), .ref (q 5), .ref (q 6), .ref (q 7), .ref (q 8), .ref (q 9), .ref (q 10), .ref (q 11)])), ((q 6), .inl (cT 5, 4, .inr (.inr (.inr (.inr (va_up (va_up (va_up (va_up (fun _ => none) 0 (some (q 40))) 1 (some (q 41))) 2 (some (q 42))) 3 (some (q 43)))))))), ((q 40), .inr (4, [.int 1, .int 0, .int 0, .ref (q 44)])), ((q 41), .inr (4, [.int 1, .int 0, .int 0, .ref (q 45)])), ((q 42), .inr (4, [.int 1, .int 0, .int 0, .ref (q 46)])), ((q 43), .inr (4, [.int 1, .int 0, .int 0, .ref (q 47)]))] sz) := by
  refine m_of (y := yX8_refusedMeeting) (cc := cX8_refusedMeeting) (nL := 5) (ret := (some .int)) (D := D) (cT := cT) (av := [.ref h0, .int x, .int y]) (wi := [(h0, .inr (8, [.ref (q 0), .int 0, .ref (q 1), .ref (q 2), .ref (q 3), .ref (q 4), .ref (q 5), .ref (q 6), .ref (q 7), .ref (q 8), .ref (q 9), .ref (q 10), .ref (q 11)])), ((q 6), .inl (cT 5, 4, .inr (.inr (.inr (.inr (va_up (va_up (va_up (va_up (fun _ => none) 0 (some (q 40))) 1 (some (q 41))) 2 (some (q 42))) 3 (some (q 43)))))))), ((q 40), .inr (4, [.int 1, .int 0, .int 0, .ref (q 44)])), ((q 41), .inr (4, [.int 1, .int 0, .int 0, .ref (q 45)])), ((q 42), .inr (4, [.int 1, .int 0, .int 0, .ref (q 46)])), ((q 43), .inr (4, [.int 1, .int 0, .int 0, .ref (q 47)]))]) (fun A => va_Qi (fun (r : Int32) (u : Unit) => r = if (0 ≤ x.toInt ∧ x.toInt < 4) ∧ (0 ≤ y.toInt ∧ y.toInt < 4) then -6 else -2) (fun u t => RW D A ((fun _ : Unit => []) u) t) A) (by decide) (Nat.le_of_ble_eq_true rfl) ?_
  intro p e s m below meth c A hx hb hml hown htg hK hN hr hlk hnm hsz hP hD hS hA ls hl
  have hown : s.vm.findClass RX8 = some m.cls := hown
  have hl : lv_has ls 5 [(0, .ref h0), (1, .int x), (2, .int y)] := hl
  refine lv_iload_n hx hb dX8_refusedMeeting_0 rfl (lv_at hl 1 rfl) ?_
  refine xk_i (wr := [(h0, .inr (8, [.ref (q 0), .int 0, .ref (q 1), .ref (q 2), .ref (q 3), .ref (q 4), .ref (q 5), .ref (q 6), .ref (q 7), .ref (q 8), .ref (q 9), .ref (q 10), .ref (q 11)])), ((q 6), .inl (cT 5, 4, .inr (.inr (.inr (.inr (va_up (va_up (va_up (va_up (fun _ => none) 0 (some (q 40))) 1 (some (q 41))) 2 (some (q 42))) 3 (some (q 43)))))))), ((q 40), .inr (4, [.int 1, .int 0, .int 0, .ref (q 44)])), ((q 41), .inr (4, [.int 1, .int 0, .int 0, .ref (q 45)])), ((q 42), .inr (4, [.int 1, .int 0, .int 0, .ref (q 46)])), ((q 43), .inr (4, [.int 1, .int 0, .int 0, .ref (q 47)]))]) (xr_S (n := 1) (As := [.int x]) (rest := []) ⟨hx, hb, hml, hown, htg⟩ hK hN hP hD [] rfl (by decide) (c_isRow l D cT _ (x)) wi_777 wi_778 wi_121 wi_779 ⟨rfl, by decide +kernel⟩ ⟨Nat.le_of_ble_eq_true rfl, Nat.le_of_ble_eq_true rfl⟩ rfl hl.1 rfl (Nat.le_of_ble_eq_true rfl) dX8_refusedMeeting_1 ⟨Nat.le_of_ble_eq_true rfl, Nat.le_of_ble_eq_true rfl⟩) hP hD hS hA [] [0, 1, 2, 3, 4, 5] rfl rfl (by decide) (by decide) (fun r_2 u_1 H locs hwr_2 hP hD hS => ?_)
  have hP : va_P D classes [(h0, .inr (8, [.ref (q 0), .int 0, .ref (q 1), .ref (q 2), .ref (q 3), .ref (q 4), .ref (q 5), .ref (q 6), .ref (q 7), .ref (q 8), .ref (q 9), .ref (q 10), .ref (q 11)])), ((q 6), .inl (cT 5, 4, .inr (.inr (.inr (.inr (va_up (va_up (va_up (va_up (fun _ => none) 0 (some (q 40))) 1 (some (q 41))) 2 (some (q 42))) 3 (some (q 43)))))))), ((q 40), .inr (4, [.int 1, .int 0, .int 0, .ref (q 44)])), ((q 41), .inr (4, [.int 1, .int 0, .int 0, .ref (q 45)])), ((q 42), .inr (4, [.int 1, .int 0, .int 0, .ref (q 46)])), ((q 43), .inr (4, [.int 1, .int 0, .int 0, .ref (q 47)]))] _ := hP
  have hD : va_D A [(h0, .inr (8, [.ref (q 0), .int 0, .ref (q 1), .ref (q 2), .ref (q 3), .ref (q 4), .ref (q 5), .ref (q 6), .ref (q 7), .ref (q 8), .ref (q 9), .ref (q 10), .ref (q 11)])), ((q 6), .inl (cT 5, 4, .inr (.inr (.inr (.inr (va_up (va_up (va_up (va_up (fun _ => none) 0 (some (q 40))) 1 (some (q 41))) 2 (some (q 42))) 3 (some (q 43)))))))), ((q 40), .inr (4, [.int 1, .int 0, .int 0, .ref (q 44)])), ((q 41), .inr (4, [.int 1, .int 0, .int 0, .ref (q 45)])), ((q 42), .inr (4, [.int 1, .int 0, .int 0, .ref (q 46)])), ((q 43), .inr (4, [.int 1, .int 0, .int 0, .ref (q 47)]))] := hD
  have hwr_2 : r_2 = if 0 ≤ x.toInt ∧ x.toInt < 4 then 1 else 0 := hwr_2
  refine lv_if_eq (tgt := 14) hx hb dX8_refusedMeeting_4 (by decide) (fun c_3 => ?_) (fun c_3 => ?_)
  · have ic_3 := if0 hwr_2 c_3
    refine lv_bipush (v := (-2)) hx hb dX8_refusedMeeting_14 (by decide) ?_
    exact x_iret hx hb hr hlk hP hD hS [] (()) rfl (by decide) (by first | rfl | decide | (exfalso; omega) | (try simp only [ti_0, ti_1, ti_2, ti_3, ti_4, ti_5, ti_6, ti_7, ti_8, ti_9, ti_10, ti_11, ti_12]); (repeat (first | rw [if_pos (by first | assumption | omega | trivial)] | rw [if_neg (by first | assumption | omega)]))) (by decide) (by decide) dX8_refusedMeeting_16
  · have ic_3 := if1 hwr_2 c_3
    refine lv_iload_n hx hb dX8_refusedMeeting_7 rfl (lv_at hl 2 rfl) ?_
    refine xk_i (wr := [(h0, .inr (8, [.ref (q 0), .int 0, .ref (q 1), .ref (q 2), .ref (q 3), .ref (q 4), .ref (q 5), .ref (q 6), .ref (q 7), .ref (q 8), .ref (q 9), .ref (q 10), .ref (q 11)])), ((q 6), .inl (cT 5, 4, .inr (.inr (.inr (.inr (va_up (va_up (va_up (va_up (fun _ => none) 0 (some (q 40))) 1 (some (q 41))) 2 (some (q 42))) 3 (some (q 43)))))))), ((q 40), .inr (4, [.int 1, .int 0, .int 0, .ref (q 44)])), ((q 41), .inr (4, [.int 1, .int 0, .int 0, .ref (q 45)])), ((q 42), .inr (4, [.int 1, .int 0, .int 0, .ref (q 46)])), ((q 43), .inr (4, [.int 1, .int 0, .int 0, .ref (q 47)]))]) (xr_S (n := 1) (As := [.int y]) (rest := []) ⟨hx, hb, hml, hown, htg⟩ hK hN hP hD [] rfl (by decide) (c_isRow l D cT _ (y)) wi_777 wi_778 wi_121 wi_779 ⟨rfl, by decide +kernel⟩ ⟨Nat.le_of_ble_eq_true rfl, Nat.le_of_ble_eq_true rfl⟩ rfl hl.1 rfl (Nat.le_of_ble_eq_true rfl) dX8_refusedMeeting_8 ⟨Nat.le_of_ble_eq_true rfl, Nat.le_of_ble_eq_true rfl⟩) hP hD hS hA [] [0, 1, 2, 3, 4, 5] rfl rfl (by decide) (by decide) (fun r_5 u_4 H locs hwr_5 hP hD hS => ?_)
    have hP : va_P D classes [(h0, .inr (8, [.ref (q 0), .int 0, .ref (q 1), .ref (q 2), .ref (q 3), .ref (q 4), .ref (q 5), .ref (q 6), .ref (q 7), .ref (q 8), .ref (q 9), .ref (q 10), .ref (q 11)])), ((q 6), .inl (cT 5, 4, .inr (.inr (.inr (.inr (va_up (va_up (va_up (va_up (fun _ => none) 0 (some (q 40))) 1 (some (q 41))) 2 (some (q 42))) 3 (some (q 43)))))))), ((q 40), .inr (4, [.int 1, .int 0, .int 0, .ref (q 44)])), ((q 41), .inr (4, [.int 1, .int 0, .int 0, .ref (q 45)])), ((q 42), .inr (4, [.int 1, .int 0, .int 0, .ref (q 46)])), ((q 43), .inr (4, [.int 1, .int 0, .int 0, .ref (q 47)]))] _ := hP
    have hD : va_D A [(h0, .inr (8, [.ref (q 0), .int 0, .ref (q 1), .ref (q 2), .ref (q 3), .ref (q 4), .ref (q 5), .ref (q 6), .ref (q 7), .ref (q 8), .ref (q 9), .ref (q 10), .ref (q 11)])), ((q 6), .inl (cT 5, 4, .inr (.inr (.inr (.inr (va_up (va_up (va_up (va_up (fun _ => none) 0 (some (q 40))) 1 (some (q 41))) 2 (some (q 42))) 3 (some (q 43)))))))), ((q 40), .inr (4, [.int 1, .int 0, .int 0, .ref (q 44)])), ((q 41), .inr (4, [.int 1, .int 0, .int 0, .ref (q 45)])), ((q 42), .inr (4, [.int 1, .int 0, .int 0, .ref (q 46)])), ((q 43), .inr (4, [.int 1, .int 0, .int 0, .ref (q 47)]))] := hD
    have hwr_5 : r_5 = if 0 ≤ y.toInt ∧ y.toInt < 4 then 1 else 0 := hwr_5
    refine lv_if_ne (tgt := 17) hx hb dX8_refusedMeeting_11 (by decide) (fun c_6 => ?_) (fun c_6 => ?_)
    · have ic_6 := if1 hwr_5 c_6
      refine lv_aload_n hx hb dX8_refusedMeeting_17 rfl (lv_at hl 0 rfl) ?_
      refine va_get (D := D) (ci := 8) (v := .ref (q 6)) (C := RX8) (T := TX8) (N := 13) hx hb htg gRX8 hown hK hP 0 rfl rfl 7 (by decide) (htg _ wi_474) (fun _ h9 => h9) rfl dX8_refusedMeeting_18 ?_
      refine lv_iload_n hx hb dX8_refusedMeeting_21 rfl (lv_at hl 1 rfl) ?_
      have c_7 : x = 0 ∨ x = 1 ∨ x = 2 ∨ x = 3 := by
        rcases (show x.toInt = 0 ∨ x.toInt = 1 ∨ x.toInt = 2 ∨ x.toInt = 3 from by omega) with h | h | h | h
        · exact Or.inl (i32_is (h.trans (by decide)))
        · exact Or.inr (Or.inl (i32_is (h.trans (by decide))))
        · exact Or.inr (Or.inr (Or.inl (i32_is (h.trans (by decide)))))
        · exact Or.inr (Or.inr (Or.inr (i32_is (h.trans (by decide)))))
      rcases c_7 with rfl | rfl | rfl | rfl
      · refine va_aldq hx hb hK hP 1 5 rfl rfl (by unfold vp_in; decide) dX8_refusedMeeting_22 ?_
        refine lv_isv (y := .ref (q 40)) rfl ?_
        refine va_getN (D := D) (ci := 4) (v := .int 1) (C := RX4) (T := TX4) (N := 4) hx hb htg gRX4 hown hK hP 2 rfl rfl 0 (by decide) (va_Nw.use rfl (hN.1 _ ni_452)) (fun _ h9 => h9) rfl dX8_refusedMeeting_23 ?_
        refine lv_if_ne (tgt := 41) hx hb dX8_refusedMeeting_26 (by decide) (fun _ => ?_) (fun h => absurd h (by decide))
        refine lv_bipush (v := (-6)) hx hb dX8_refusedMeeting_41 (by decide) ?_
        exact x_iret hx hb hr hlk hP hD hS [] (()) rfl (by decide) (by first | rfl | decide | (exfalso; omega) | (try simp only [ti_0, ti_1, ti_2, ti_3, ti_4, ti_5, ti_6, ti_7, ti_8, ti_9, ti_10, ti_11, ti_12]); (repeat (first | rw [if_pos (by first | assumption | omega | trivial)] | rw [if_neg (by first | assumption | omega)]))) (by decide) (by decide) dX8_refusedMeeting_43
      · refine va_aldq hx hb hK hP 1 5 rfl rfl (by unfold vp_in; decide) dX8_refusedMeeting_22 ?_
        refine lv_isv (y := .ref (q 41)) rfl ?_
        refine va_getN (D := D) (ci := 4) (v := .int 1) (C := RX4) (T := TX4) (N := 4) hx hb htg gRX4 hown hK hP 3 rfl rfl 0 (by decide) (va_Nw.use rfl (hN.1 _ ni_452)) (fun _ h9 => h9) rfl dX8_refusedMeeting_23 ?_
        refine lv_if_ne (tgt := 41) hx hb dX8_refusedMeeting_26 (by decide) (fun _ => ?_) (fun h => absurd h (by decide))
        refine lv_bipush (v := (-6)) hx hb dX8_refusedMeeting_41 (by decide) ?_
        exact x_iret hx hb hr hlk hP hD hS [] (()) rfl (by decide) (by first | rfl | decide | (exfalso; omega) | (try simp only [ti_0, ti_1, ti_2, ti_3, ti_4, ti_5, ti_6, ti_7, ti_8, ti_9, ti_10, ti_11, ti_12]); (repeat (first | rw [if_pos (by first | assumption | omega | trivial)] | rw [if_neg (by first | assumption | omega)]))) (by decide) (by decide) dX8_refusedMeeting_43
      · refine va_aldq hx hb hK hP 1 5 rfl rfl (by unfold vp_in; decide) dX8_refusedMeeting_22 ?_
        refine lv_isv (y := .ref (q 42)) rfl ?_
        refine va_getN (D := D) (ci := 4) (v := .int 1) (C := RX4) (T := TX4) (N := 4) hx hb htg gRX4 hown hK hP 4 rfl rfl 0 (by decide) (va_Nw.use rfl (hN.1 _ ni_452)) (fun _ h9 => h9) rfl dX8_refusedMeeting_23 ?_
        refine lv_if_ne (tgt := 41) hx hb dX8_refusedMeeting_26 (by decide) (fun _ => ?_) (fun h => absurd h (by decide))
        refine lv_bipush (v := (-6)) hx hb dX8_refusedMeeting_41 (by decide) ?_
        exact x_iret hx hb hr hlk hP hD hS [] (()) rfl (by decide) (by first | rfl | decide | (exfalso; omega) | (try simp only [ti_0, ti_1, ti_2, ti_3, ti_4, ti_5, ti_6, ti_7, ti_8, ti_9, ti_10, ti_11, ti_12]); (repeat (first | rw [if_pos (by first | assumption | omega | trivial)] | rw [if_neg (by first | assumption | omega)]))) (by decide) (by decide) dX8_refusedMeeting_43
      · refine va_aldq hx hb hK hP 1 5 rfl rfl (by unfold vp_in; decide) dX8_refusedMeeting_22 ?_
        refine lv_isv (y := .ref (q 43)) rfl ?_
        refine va_getN (D := D) (ci := 4) (v := .int 1) (C := RX4) (T := TX4) (N := 4) hx hb htg gRX4 hown hK hP 5 rfl rfl 0 (by decide) (va_Nw.use rfl (hN.1 _ ni_452)) (fun _ h9 => h9) rfl dX8_refusedMeeting_23 ?_
        refine lv_if_ne (tgt := 41) hx hb dX8_refusedMeeting_26 (by decide) (fun _ => ?_) (fun h => absurd h (by decide))
        refine lv_bipush (v := (-6)) hx hb dX8_refusedMeeting_41 (by decide) ?_
        exact x_iret hx hb hr hlk hP hD hS [] (()) rfl (by decide) (by first | rfl | decide | (exfalso; omega) | (try simp only [ti_0, ti_1, ti_2, ti_3, ti_4, ti_5, ti_6, ti_7, ti_8, ti_9, ti_10, ti_11, ti_12]); (repeat (first | rw [if_pos (by first | assumption | omega | trivial)] | rw [if_neg (by first | assumption | omega)]))) (by decide) (by decide) dX8_refusedMeeting_43
    · have ic_6 := if0 hwr_5 c_6
      refine lv_bipush (v := (-2)) hx hb dX8_refusedMeeting_14 (by decide) ?_
      exact x_iret hx hb hr hlk hP hD hS [] (()) rfl (by decide) (by first | rfl | decide | (exfalso; omega) | (try simp only [ti_0, ti_1, ti_2, ti_3, ti_4, ti_5, ti_6, ti_7, ti_8, ti_9, ti_10, ti_11, ti_12]); (repeat (first | rw [if_pos (by first | assumption | omega | trivial)] | rw [if_neg (by first | assumption | omega)]))) (by decide) (by decide) dX8_refusedMeeting_16
set_option maxHeartbeats 4000000 in
set_option maxRecDepth 100000 in
theorem c_tapeInt_0 (l : Launch) (D : va_G) (cT : Nat → ClassId) (sz : Nat) (h0 : Nat) (q : Nat → Nat) (f : Nat → Int32) (x : Int32) : Met l yX8_tapeInt (wsc yX8_tapeInt cX8_tapeInt 3 none) { frames := 2, cells := 0, slots := 0, locals := 100 } (va_Pc [.ref h0, .int x] (PX D cT sz [(h0, .inr (8, [.ref (q 0), .int 0, .ref (q 1), .ref (q 2), .ref (q 3), .ref (q 4), .ref (q 5), .ref (q 6), .ref (q 7), .ref (q 8), .ref (q 9), .ref (q 10), .ref (q 11)])), ((q 0), .inl (cT 2, 900, .inl (f)))])) (va_Qv (fun (u : Nat → Int32) => True) (fun u t => RW D (va_A [(h0, .inr (8, [.ref (q 0), .int 0, .ref (q 1), .ref (q 2), .ref (q 3), .ref (q 4), .ref (q 5), .ref (q 6), .ref (q 7), .ref (q 8), .ref (q 9), .ref (q 10), .ref (q 11)])), ((q 0), .inl (cT 2, 900, .inl (f)))] sz) ((fun u : Nat → Int32 => [(h0, .inr (8, [.ref (q 0), .int 4, .ref (q 1), .ref (q 2), .ref (q 3), .ref (q 4), .ref (q 5), .ref (q 6), .ref (q 7), .ref (q 8), .ref (q 9), .ref (q 10), .ref (q 11)])), ((q 0), .inl (cT 2, 900, .inl (u)))]) u) t) (va_A [(h0, .inr (8, [.ref (q 0), .int 0, .ref (q 1), .ref (q 2), .ref (q 3), .ref (q 4), .ref (q 5), .ref (q 6), .ref (q 7), .ref (q 8), .ref (q 9), .ref (q 10), .ref (q 11)])), ((q 0), .inl (cT 2, 900, .inl (f)))] sz)) 0 0 (va_A [(h0, .inr (8, [.ref (q 0), .int 0, .ref (q 1), .ref (q 2), .ref (q 3), .ref (q 4), .ref (q 5), .ref (q 6), .ref (q 7), .ref (q 8), .ref (q 9), .ref (q 10), .ref (q 11)])), ((q 0), .inl (cT 2, 900, .inl (f)))] sz) := by
  refine m_of (y := yX8_tapeInt) (cc := cX8_tapeInt) (nL := 3) (ret := none) (D := D) (cT := cT) (av := [.ref h0, .int x]) (wi := [(h0, .inr (8, [.ref (q 0), .int 0, .ref (q 1), .ref (q 2), .ref (q 3), .ref (q 4), .ref (q 5), .ref (q 6), .ref (q 7), .ref (q 8), .ref (q 9), .ref (q 10), .ref (q 11)])), ((q 0), .inl (cT 2, 900, .inl (f)))]) (fun A => va_Qv (fun (u : Nat → Int32) => True) (fun u t => RW D A ((fun u : Nat → Int32 => [(h0, .inr (8, [.ref (q 0), .int 4, .ref (q 1), .ref (q 2), .ref (q 3), .ref (q 4), .ref (q 5), .ref (q 6), .ref (q 7), .ref (q 8), .ref (q 9), .ref (q 10), .ref (q 11)])), ((q 0), .inl (cT 2, 900, .inl (u)))]) u) t) A) (by decide) (Nat.le_of_ble_eq_true rfl) ?_
  intro p e s m below meth c A hx hb hml hown htg hK hN hr hlk hnm hsz hP hD hS hA ls hl
  have hown : s.vm.findClass RX8 = some m.cls := hown
  have hl : lv_has ls 3 [(0, .ref h0), (1, .int x)] := hl
  refine lv_bipush (v := 24) hx hb dX8_tapeInt_0 (by decide) ?_
  refine lv_istore_n (lv' := [(2, .int 24), (0, .ref h0), (1, .int x)]) hx hb dX8_tapeInt_2 rfl hl (by decide) rfl (fun ls hl => ?_)
  refine lv_iload_n hx hb dX8_tapeInt_3 rfl (lv_at hl 0 rfl) ?_
  refine lv_if_lt (tgt := 46) hx hb dX8_tapeInt_4 (by decide) (fun h => absurd h (by decide)) (fun _ => ?_)
  refine lv_aload_n hx hb dX8_tapeInt_7 rfl (lv_at hl 1 rfl) ?_
  refine va_get (D := D) (ci := 8) (v := .int 0) (C := RX8) (T := TX8) (N := 13) hx hb htg gRX8 hown hK hP 0 rfl rfl 1 (by decide) (htg _ wi_468) (fun _ h9 => h9) rfl dX8_tapeInt_8 ?_
  refine lv_sipush (v := 900) hx hb dX8_tapeInt_11 (by decide) ?_
  refine lv_icmp_ge (tgt := 46) hx hb dX8_tapeInt_14 (by decide) (fun h => absurd h (by decide)) (fun _ => ?_)
  refine lv_aload_n hx hb dX8_tapeInt_17 rfl (lv_at hl 1 rfl) ?_
  refine va_get (D := D) (ci := 8) (v := .ref (q 0)) (C := RX8) (T := TX8) (N := 13) hx hb htg gRX8 hown hK hP 0 rfl rfl 0 (by decide) (htg _ wi_467) (fun _ h9 => h9) rfl dX8_tapeInt_18 ?_
  refine lv_aload_n hx hb dX8_tapeInt_21 rfl (lv_at hl 1 rfl) ?_
  refine va_get (D := D) (ci := 8) (v := .int 0) (C := RX8) (T := TX8) (N := 13) hx hb htg gRX8 hown hK hP 0 rfl rfl 1 (by decide) (htg _ wi_468) (fun _ h9 => h9) rfl dX8_tapeInt_22 ?_
  refine lv_iload_n hx hb dX8_tapeInt_25 rfl (lv_at hl 2 rfl) ?_
  refine lv_iload_n hx hb dX8_tapeInt_26 rfl (lv_at hl 0 rfl) ?_
  obtain ⟨z_1, ez_1⟩ : ∃ w : Int32, w = (x.toUInt32 >>> ((24 : Int32).toUInt32 &&& Int32.toUInt32 31)).toInt32 := ⟨_, rfl⟩
  refine lv_iushr (v := z_1) hx hb dX8_tapeInt_27 ez_1.symm ?_
  obtain ⟨z_2, ez_2⟩ : ∃ w : Int32, w = z_1.toInt8.toInt32 := ⟨_, rfl⟩
  refine lv_i2b (v := z_2) hx hb dX8_tapeInt_28 ez_2.symm ?_
  refine va_bast hx hb hK hP hD hS 1 2 rfl rfl (by unfold vp_in; decide) dX8_tapeInt_29 (fun H locs hP hD hS => ?_)
  obtain ⟨f_3, hP, hD⟩ : ∃ f_3 : Nat → Int32, va_P D classes [(h0, .inr (8, [.ref (q 0), .int 0, .ref (q 1), .ref (q 2), .ref (q 3), .ref (q 4), .ref (q 5), .ref (q 6), .ref (q 7), .ref (q 8), .ref (q 9), .ref (q 10), .ref (q 11)])), ((q 0), .inl (cT 2, 900, .inl (f_3)))] H ∧ va_D A [(h0, .inr (8, [.ref (q 0), .int 0, .ref (q 1), .ref (q 2), .ref (q 3), .ref (q 4), .ref (q 5), .ref (q 6), .ref (q 7), .ref (q 8), .ref (q 9), .ref (q 10), .ref (q 11)])), ((q 0), .inl (cT 2, 900, .inl (f_3)))] := ⟨_, hP, hD⟩
  refine lv_aload_n hx hb dX8_tapeInt_30 rfl (lv_at hl 1 rfl) ?_
  refine lv_dup hx hb dX8_tapeInt_31 rfl ?_
  refine va_get (D := D) (ci := 8) (v := .int 0) (C := RX8) (T := TX8) (N := 13) hx hb htg gRX8 hown hK hP 0 rfl rfl 1 (by decide) (htg _ wi_468) (fun _ h9 => h9) rfl dX8_tapeInt_32 ?_
  refine lv_iconst (v := 1) hx hb dX8_tapeInt_35 (by decide) ?_
  refine lv_iadd hx hb dX8_tapeInt_36 ?_
  refine lv_is (y := 1) (by decide) ?_
  refine va_put (D := D) (ci := 8) (v := .int 1) (ty := .int) (C := RX8) (T := TX8) (N := 13) hx hb htg gRX8 tyX8 tyX8_ok nmX8 hown hK hP hD hS 0 rfl rfl 1 (by decide) (htg _ wi_468) (fun _ h9 => h9) rfl (by decide +kernel) rfl rfl (Nat.le_of_ble_eq_true rfl) dX8_tapeInt_37 (fun H locs hP hD hS => ?_)
  have hP : va_P D classes [(h0, .inr (8, [.ref (q 0), .int 1, .ref (q 1), .ref (q 2), .ref (q 3), .ref (q 4), .ref (q 5), .ref (q 6), .ref (q 7), .ref (q 8), .ref (q 9), .ref (q 10), .ref (q 11)])), ((q 0), .inl (cT 2, 900, .inl (f_3)))] _ := hP
  have hD : va_D A [(h0, .inr (8, [.ref (q 0), .int 1, .ref (q 1), .ref (q 2), .ref (q 3), .ref (q 4), .ref (q 5), .ref (q 6), .ref (q 7), .ref (q 8), .ref (q 9), .ref (q 10), .ref (q 11)])), ((q 0), .inl (cT 2, 900, .inl (f_3)))] := hD
  refine lv_iinc (v := 16) (lv' := [(2, .int 16), (0, .ref h0), (1, .int x)]) hx hb dX8_tapeInt_40 hl (k := 0) rfl (by decide) (by decide) rfl (fun ls hl => ?_)
  refine lv_goto (tgt := 3) hx hb dX8_tapeInt_43 (by decide) ?_
  refine lv_iload_n hx hb dX8_tapeInt_3 rfl (lv_at hl 0 rfl) ?_
  refine lv_if_lt (tgt := 46) hx hb dX8_tapeInt_4 (by decide) (fun h => absurd h (by decide)) (fun _ => ?_)
  refine lv_aload_n hx hb dX8_tapeInt_7 rfl (lv_at hl 1 rfl) ?_
  refine va_get (D := D) (ci := 8) (v := .int 1) (C := RX8) (T := TX8) (N := 13) hx hb htg gRX8 hown hK hP 0 rfl rfl 1 (by decide) (htg _ wi_468) (fun _ h9 => h9) rfl dX8_tapeInt_8 ?_
  refine lv_sipush (v := 900) hx hb dX8_tapeInt_11 (by decide) ?_
  refine lv_icmp_ge (tgt := 46) hx hb dX8_tapeInt_14 (by decide) (fun h => absurd h (by decide)) (fun _ => ?_)
  refine lv_aload_n hx hb dX8_tapeInt_17 rfl (lv_at hl 1 rfl) ?_
  refine va_get (D := D) (ci := 8) (v := .ref (q 0)) (C := RX8) (T := TX8) (N := 13) hx hb htg gRX8 hown hK hP 0 rfl rfl 0 (by decide) (htg _ wi_467) (fun _ h9 => h9) rfl dX8_tapeInt_18 ?_
  refine lv_aload_n hx hb dX8_tapeInt_21 rfl (lv_at hl 1 rfl) ?_
  refine va_get (D := D) (ci := 8) (v := .int 1) (C := RX8) (T := TX8) (N := 13) hx hb htg gRX8 hown hK hP 0 rfl rfl 1 (by decide) (htg _ wi_468) (fun _ h9 => h9) rfl dX8_tapeInt_22 ?_
  refine lv_iload_n hx hb dX8_tapeInt_25 rfl (lv_at hl 2 rfl) ?_
  refine lv_iload_n hx hb dX8_tapeInt_26 rfl (lv_at hl 0 rfl) ?_
  obtain ⟨z_4, ez_4⟩ : ∃ w : Int32, w = (x.toUInt32 >>> ((16 : Int32).toUInt32 &&& Int32.toUInt32 31)).toInt32 := ⟨_, rfl⟩
  refine lv_iushr (v := z_4) hx hb dX8_tapeInt_27 ez_4.symm ?_
  obtain ⟨z_5, ez_5⟩ : ∃ w : Int32, w = z_4.toInt8.toInt32 := ⟨_, rfl⟩
  refine lv_i2b (v := z_5) hx hb dX8_tapeInt_28 ez_5.symm ?_
  refine va_bast hx hb hK hP hD hS 1 2 rfl rfl (by unfold vp_in; decide) dX8_tapeInt_29 (fun H locs hP hD hS => ?_)
  obtain ⟨f_6, hP, hD⟩ : ∃ f_6 : Nat → Int32, va_P D classes [(h0, .inr (8, [.ref (q 0), .int 1, .ref (q 1), .ref (q 2), .ref (q 3), .ref (q 4), .ref (q 5), .ref (q 6), .ref (q 7), .ref (q 8), .ref (q 9), .ref (q 10), .ref (q 11)])), ((q 0), .inl (cT 2, 900, .inl (f_6)))] H ∧ va_D A [(h0, .inr (8, [.ref (q 0), .int 1, .ref (q 1), .ref (q 2), .ref (q 3), .ref (q 4), .ref (q 5), .ref (q 6), .ref (q 7), .ref (q 8), .ref (q 9), .ref (q 10), .ref (q 11)])), ((q 0), .inl (cT 2, 900, .inl (f_6)))] := ⟨_, hP, hD⟩
  refine lv_aload_n hx hb dX8_tapeInt_30 rfl (lv_at hl 1 rfl) ?_
  refine lv_dup hx hb dX8_tapeInt_31 rfl ?_
  refine va_get (D := D) (ci := 8) (v := .int 1) (C := RX8) (T := TX8) (N := 13) hx hb htg gRX8 hown hK hP 0 rfl rfl 1 (by decide) (htg _ wi_468) (fun _ h9 => h9) rfl dX8_tapeInt_32 ?_
  refine lv_iconst (v := 1) hx hb dX8_tapeInt_35 (by decide) ?_
  refine lv_iadd hx hb dX8_tapeInt_36 ?_
  refine lv_is (y := 2) (by decide) ?_
  refine va_put (D := D) (ci := 8) (v := .int 2) (ty := .int) (C := RX8) (T := TX8) (N := 13) hx hb htg gRX8 tyX8 tyX8_ok nmX8 hown hK hP hD hS 0 rfl rfl 1 (by decide) (htg _ wi_468) (fun _ h9 => h9) rfl (by decide +kernel) rfl rfl (Nat.le_of_ble_eq_true rfl) dX8_tapeInt_37 (fun H locs hP hD hS => ?_)
  have hP : va_P D classes [(h0, .inr (8, [.ref (q 0), .int 2, .ref (q 1), .ref (q 2), .ref (q 3), .ref (q 4), .ref (q 5), .ref (q 6), .ref (q 7), .ref (q 8), .ref (q 9), .ref (q 10), .ref (q 11)])), ((q 0), .inl (cT 2, 900, .inl (f_6)))] _ := hP
  have hD : va_D A [(h0, .inr (8, [.ref (q 0), .int 2, .ref (q 1), .ref (q 2), .ref (q 3), .ref (q 4), .ref (q 5), .ref (q 6), .ref (q 7), .ref (q 8), .ref (q 9), .ref (q 10), .ref (q 11)])), ((q 0), .inl (cT 2, 900, .inl (f_6)))] := hD
  refine lv_iinc (v := 8) (lv' := [(2, .int 8), (0, .ref h0), (1, .int x)]) hx hb dX8_tapeInt_40 hl (k := 0) rfl (by decide) (by decide) rfl (fun ls hl => ?_)
  refine lv_goto (tgt := 3) hx hb dX8_tapeInt_43 (by decide) ?_
  refine lv_iload_n hx hb dX8_tapeInt_3 rfl (lv_at hl 0 rfl) ?_
  refine lv_if_lt (tgt := 46) hx hb dX8_tapeInt_4 (by decide) (fun h => absurd h (by decide)) (fun _ => ?_)
  refine lv_aload_n hx hb dX8_tapeInt_7 rfl (lv_at hl 1 rfl) ?_
  refine va_get (D := D) (ci := 8) (v := .int 2) (C := RX8) (T := TX8) (N := 13) hx hb htg gRX8 hown hK hP 0 rfl rfl 1 (by decide) (htg _ wi_468) (fun _ h9 => h9) rfl dX8_tapeInt_8 ?_
  refine lv_sipush (v := 900) hx hb dX8_tapeInt_11 (by decide) ?_
  refine lv_icmp_ge (tgt := 46) hx hb dX8_tapeInt_14 (by decide) (fun h => absurd h (by decide)) (fun _ => ?_)
  refine lv_aload_n hx hb dX8_tapeInt_17 rfl (lv_at hl 1 rfl) ?_
  refine va_get (D := D) (ci := 8) (v := .ref (q 0)) (C := RX8) (T := TX8) (N := 13) hx hb htg gRX8 hown hK hP 0 rfl rfl 0 (by decide) (htg _ wi_467) (fun _ h9 => h9) rfl dX8_tapeInt_18 ?_
  refine lv_aload_n hx hb dX8_tapeInt_21 rfl (lv_at hl 1 rfl) ?_
  refine va_get (D := D) (ci := 8) (v := .int 2) (C := RX8) (T := TX8) (N := 13) hx hb htg gRX8 hown hK hP 0 rfl rfl 1 (by decide) (htg _ wi_468) (fun _ h9 => h9) rfl dX8_tapeInt_22 ?_
  refine lv_iload_n hx hb dX8_tapeInt_25 rfl (lv_at hl 2 rfl) ?_
  refine lv_iload_n hx hb dX8_tapeInt_26 rfl (lv_at hl 0 rfl) ?_
  obtain ⟨z_7, ez_7⟩ : ∃ w : Int32, w = (x.toUInt32 >>> ((8 : Int32).toUInt32 &&& Int32.toUInt32 31)).toInt32 := ⟨_, rfl⟩
  refine lv_iushr (v := z_7) hx hb dX8_tapeInt_27 ez_7.symm ?_
  obtain ⟨z_8, ez_8⟩ : ∃ w : Int32, w = z_7.toInt8.toInt32 := ⟨_, rfl⟩
  refine lv_i2b (v := z_8) hx hb dX8_tapeInt_28 ez_8.symm ?_
  refine va_bast hx hb hK hP hD hS 1 2 rfl rfl (by unfold vp_in; decide) dX8_tapeInt_29 (fun H locs hP hD hS => ?_)
  obtain ⟨f_9, hP, hD⟩ : ∃ f_9 : Nat → Int32, va_P D classes [(h0, .inr (8, [.ref (q 0), .int 2, .ref (q 1), .ref (q 2), .ref (q 3), .ref (q 4), .ref (q 5), .ref (q 6), .ref (q 7), .ref (q 8), .ref (q 9), .ref (q 10), .ref (q 11)])), ((q 0), .inl (cT 2, 900, .inl (f_9)))] H ∧ va_D A [(h0, .inr (8, [.ref (q 0), .int 2, .ref (q 1), .ref (q 2), .ref (q 3), .ref (q 4), .ref (q 5), .ref (q 6), .ref (q 7), .ref (q 8), .ref (q 9), .ref (q 10), .ref (q 11)])), ((q 0), .inl (cT 2, 900, .inl (f_9)))] := ⟨_, hP, hD⟩
  refine lv_aload_n hx hb dX8_tapeInt_30 rfl (lv_at hl 1 rfl) ?_
  refine lv_dup hx hb dX8_tapeInt_31 rfl ?_
  refine va_get (D := D) (ci := 8) (v := .int 2) (C := RX8) (T := TX8) (N := 13) hx hb htg gRX8 hown hK hP 0 rfl rfl 1 (by decide) (htg _ wi_468) (fun _ h9 => h9) rfl dX8_tapeInt_32 ?_
  refine lv_iconst (v := 1) hx hb dX8_tapeInt_35 (by decide) ?_
  refine lv_iadd hx hb dX8_tapeInt_36 ?_
  refine lv_is (y := 3) (by decide) ?_
  refine va_put (D := D) (ci := 8) (v := .int 3) (ty := .int) (C := RX8) (T := TX8) (N := 13) hx hb htg gRX8 tyX8 tyX8_ok nmX8 hown hK hP hD hS 0 rfl rfl 1 (by decide) (htg _ wi_468) (fun _ h9 => h9) rfl (by decide +kernel) rfl rfl (Nat.le_of_ble_eq_true rfl) dX8_tapeInt_37 (fun H locs hP hD hS => ?_)
  have hP : va_P D classes [(h0, .inr (8, [.ref (q 0), .int 3, .ref (q 1), .ref (q 2), .ref (q 3), .ref (q 4), .ref (q 5), .ref (q 6), .ref (q 7), .ref (q 8), .ref (q 9), .ref (q 10), .ref (q 11)])), ((q 0), .inl (cT 2, 900, .inl (f_9)))] _ := hP
  have hD : va_D A [(h0, .inr (8, [.ref (q 0), .int 3, .ref (q 1), .ref (q 2), .ref (q 3), .ref (q 4), .ref (q 5), .ref (q 6), .ref (q 7), .ref (q 8), .ref (q 9), .ref (q 10), .ref (q 11)])), ((q 0), .inl (cT 2, 900, .inl (f_9)))] := hD
  refine lv_iinc (v := 0) (lv' := [(2, .int 0), (0, .ref h0), (1, .int x)]) hx hb dX8_tapeInt_40 hl (k := 0) rfl (by decide) (by decide) rfl (fun ls hl => ?_)
  refine lv_goto (tgt := 3) hx hb dX8_tapeInt_43 (by decide) ?_
  refine lv_iload_n hx hb dX8_tapeInt_3 rfl (lv_at hl 0 rfl) ?_
  refine lv_if_lt (tgt := 46) hx hb dX8_tapeInt_4 (by decide) (fun h => absurd h (by decide)) (fun _ => ?_)
  refine lv_aload_n hx hb dX8_tapeInt_7 rfl (lv_at hl 1 rfl) ?_
  refine va_get (D := D) (ci := 8) (v := .int 3) (C := RX8) (T := TX8) (N := 13) hx hb htg gRX8 hown hK hP 0 rfl rfl 1 (by decide) (htg _ wi_468) (fun _ h9 => h9) rfl dX8_tapeInt_8 ?_
  refine lv_sipush (v := 900) hx hb dX8_tapeInt_11 (by decide) ?_
  refine lv_icmp_ge (tgt := 46) hx hb dX8_tapeInt_14 (by decide) (fun h => absurd h (by decide)) (fun _ => ?_)
  refine lv_aload_n hx hb dX8_tapeInt_17 rfl (lv_at hl 1 rfl) ?_
  refine va_get (D := D) (ci := 8) (v := .ref (q 0)) (C := RX8) (T := TX8) (N := 13) hx hb htg gRX8 hown hK hP 0 rfl rfl 0 (by decide) (htg _ wi_467) (fun _ h9 => h9) rfl dX8_tapeInt_18 ?_
  refine lv_aload_n hx hb dX8_tapeInt_21 rfl (lv_at hl 1 rfl) ?_
  refine va_get (D := D) (ci := 8) (v := .int 3) (C := RX8) (T := TX8) (N := 13) hx hb htg gRX8 hown hK hP 0 rfl rfl 1 (by decide) (htg _ wi_468) (fun _ h9 => h9) rfl dX8_tapeInt_22 ?_
  refine lv_iload_n hx hb dX8_tapeInt_25 rfl (lv_at hl 2 rfl) ?_
  refine lv_iload_n hx hb dX8_tapeInt_26 rfl (lv_at hl 0 rfl) ?_
  obtain ⟨z_10, ez_10⟩ : ∃ w : Int32, w = (x.toUInt32 >>> ((0 : Int32).toUInt32 &&& Int32.toUInt32 31)).toInt32 := ⟨_, rfl⟩
  refine lv_iushr (v := z_10) hx hb dX8_tapeInt_27 ez_10.symm ?_
  obtain ⟨z_11, ez_11⟩ : ∃ w : Int32, w = z_10.toInt8.toInt32 := ⟨_, rfl⟩
  refine lv_i2b (v := z_11) hx hb dX8_tapeInt_28 ez_11.symm ?_
  refine va_bast hx hb hK hP hD hS 1 2 rfl rfl (by unfold vp_in; decide) dX8_tapeInt_29 (fun H locs hP hD hS => ?_)
  obtain ⟨f_12, hP, hD⟩ : ∃ f_12 : Nat → Int32, va_P D classes [(h0, .inr (8, [.ref (q 0), .int 3, .ref (q 1), .ref (q 2), .ref (q 3), .ref (q 4), .ref (q 5), .ref (q 6), .ref (q 7), .ref (q 8), .ref (q 9), .ref (q 10), .ref (q 11)])), ((q 0), .inl (cT 2, 900, .inl (f_12)))] H ∧ va_D A [(h0, .inr (8, [.ref (q 0), .int 3, .ref (q 1), .ref (q 2), .ref (q 3), .ref (q 4), .ref (q 5), .ref (q 6), .ref (q 7), .ref (q 8), .ref (q 9), .ref (q 10), .ref (q 11)])), ((q 0), .inl (cT 2, 900, .inl (f_12)))] := ⟨_, hP, hD⟩
  refine lv_aload_n hx hb dX8_tapeInt_30 rfl (lv_at hl 1 rfl) ?_
  refine lv_dup hx hb dX8_tapeInt_31 rfl ?_
  refine va_get (D := D) (ci := 8) (v := .int 3) (C := RX8) (T := TX8) (N := 13) hx hb htg gRX8 hown hK hP 0 rfl rfl 1 (by decide) (htg _ wi_468) (fun _ h9 => h9) rfl dX8_tapeInt_32 ?_
  refine lv_iconst (v := 1) hx hb dX8_tapeInt_35 (by decide) ?_
  refine lv_iadd hx hb dX8_tapeInt_36 ?_
  refine lv_is (y := 4) (by decide) ?_
  refine va_put (D := D) (ci := 8) (v := .int 4) (ty := .int) (C := RX8) (T := TX8) (N := 13) hx hb htg gRX8 tyX8 tyX8_ok nmX8 hown hK hP hD hS 0 rfl rfl 1 (by decide) (htg _ wi_468) (fun _ h9 => h9) rfl (by decide +kernel) rfl rfl (Nat.le_of_ble_eq_true rfl) dX8_tapeInt_37 (fun H locs hP hD hS => ?_)
  have hP : va_P D classes [(h0, .inr (8, [.ref (q 0), .int 4, .ref (q 1), .ref (q 2), .ref (q 3), .ref (q 4), .ref (q 5), .ref (q 6), .ref (q 7), .ref (q 8), .ref (q 9), .ref (q 10), .ref (q 11)])), ((q 0), .inl (cT 2, 900, .inl (f_12)))] _ := hP
  have hD : va_D A [(h0, .inr (8, [.ref (q 0), .int 4, .ref (q 1), .ref (q 2), .ref (q 3), .ref (q 4), .ref (q 5), .ref (q 6), .ref (q 7), .ref (q 8), .ref (q 9), .ref (q 10), .ref (q 11)])), ((q 0), .inl (cT 2, 900, .inl (f_12)))] := hD
  refine lv_iinc (v := (-8)) (lv' := [(2, .int (-8)), (0, .ref h0), (1, .int x)]) hx hb dX8_tapeInt_40 hl (k := 0) rfl (by decide) (by decide) rfl (fun ls hl => ?_)
  refine lv_goto (tgt := 3) hx hb dX8_tapeInt_43 (by decide) ?_
  refine lv_iload_n hx hb dX8_tapeInt_3 rfl (lv_at hl 0 rfl) ?_
  refine lv_if_lt (tgt := 46) hx hb dX8_tapeInt_4 (by decide) (fun _ => ?_) (fun h => absurd (by decide) h)
  exact x_vret hx hb hr hlk hP hD hS [0, 1] (f_12) rfl (by decide) trivial (by decide) (by decide) dX8_tapeInt_46
