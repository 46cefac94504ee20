set_option maxHeartbeats 4000000 in
set_option maxRecDepth 100000 in
theorem lc_10 {p : Program} {l : Launch} {e : Env} {s : State} {m : MethodId} {below : List Frame} {meth : Method} {c : Code} {b : Nat} {xs : Nat → Int32} {D : va_G} {cT : Nat → ClassId} {A : Nat → Prop} (hx : p.tables.exec = Jvm.exec) (hb : c.code = cL_law) (hr : meth.sig.returnType = ret) (hml : c.maxLocals = 4) (hown : s.vm.findClass RL = some m.cls) (htg : ∀ w ∈ gw_T, w.before #[Value.ref b] s = true) (hK : va_K D classes (tysX cT) s) (hN : NX s) (hX : va_X b 6 xs s s.heap) (hbl : b < s.heap.size) (hlk : meth.locks = false) (hA : ∀ q, s.heap.size ≤ q → A q) (hAq : ∀ q, A q → s.heap.size ≤ q) (hbA : ¬ A b) (o1 o2 : Nat) (u1 u2 : Nat → Nat) {H : Heap} {locs : List Loc} {ls : Array Slot} (hP : va_P D classes (wBig cT o1 o2 u1 u2) H) (hD : va_D A (wBig cT o1 o2 u1 u2)) (hS : va_S A s.heap H locs) (hl : lv_has ls 4 [(3, .int 0), (2, .ref o2), (1, .ref o1), (0, .ref b)]) : W p l e room_1 s m #[Value.ref b] below meth c H locs 2000 100000 (lw_Z below #[Value.ref b] s) (F0 m 544 ls []) := by
  refine lv_aload_n hx hb dL_law_544 rfl (lv_at hl 2 rfl) ?_
  refine lv_aload_n hx hb dL_law_545 rfl (lv_at hl 3 rfl) ?_
  refine lv_iload_n hx hb dL_law_546 rfl (lv_at hl 0 rfl) ?_
  refine lv_iconst (v := 1) hx hb dL_law_547 (by decide) ?_
  refine lv_iadd hx hb dL_law_548 ?_
  refine lv_is (y := 1) (by decide) ?_
  refine va_sld hx hb hX hbl hbA hS (by unfold vp_in; decide) dL_law_549 ?_
  refine lv_is (y := xs 1) rfl ?_
  refine xk_i (wr := [(o2, .inr (9, (.int 0 :: .ref (u2 0) :: .ref (u2 1) :: .ref (u2 2) :: .ref (u2 3) :: .int 0 :: .int 0 :: .int 0 :: .int 0 :: .int 0 :: .int 0 :: .int 0 :: .int 0 :: .int 0 :: .int (-1) :: .ref (u2 4) :: .ref (u2 5) :: .int 0 :: .int 0 :: .int 0 :: .ref (u2 6) :: .ref (u2 7) :: .ref (u2 8) :: .int 0 :: .int 0 :: .int 0 :: .int 0 :: .int 0 :: .ref (u2 9) :: .int 0 :: .ref (u2 10) :: .int 0 :: .int 0 :: .int 0 :: .ref (u2 11) :: .ref (u2 12) :: .ref (u2 13) :: []))), ((u2 0), .inl (cT 0, 288, .inl (allK))), ((u2 1), .inl (cT 3, 2, .inl (fun _ => 0))), ((u2 2), .inl (cT 0, 900, .inl (fun _ => 0))), ((u2 3), .inl (cT 0, 96, .inl (fun _ => 0))), ((u2 10), .inl (cT 0, 16, .inl (fun _ => 0))), ((u2 11), .inl (cT 0, 4, .inl (rsK))), ((u2 12), .inl (cT 0, 4, .inl (fun _ => 0))), ((u2 13), .inl (cT 1, 160, .inr (.inl (fun _ => 0))))]) (xr_V (n := 1) (As := [.int (xs 1)]) (rest := []) ⟨hx, hb, hml, hown, htg⟩ hK hN hP hD [0, 11] rfl (by decide) (k_height l D cT _ (o1) (u1) ((xs 1))) wi_746 wi_747 wi_748 wi_121 wi_749 rfl rfl rfl ⟨rfl, by decide +kernel⟩ ⟨Nat.le_of_ble_eq_true rfl, Nat.le_of_ble_eq_true rfl⟩ rfl hl.1 rfl (Nat.le_of_ble_eq_true rfl) dL_law_550 ⟨Nat.le_of_ble_eq_true rfl, Nat.le_of_ble_eq_true rfl⟩) hP hD hS hA [0, 11] [46, 47, 48, 49, 50, 51, 52, 53, 54] rfl rfl (by decide) (by decide) (fun r_2 u_1 H locs hwr_2 hP hD hS => ?_)
  have hP : va_P D classes [(o2, .inr (9, (.int 0 :: .ref (u2 0) :: .ref (u2 1) :: .ref (u2 2) :: .ref (u2 3) :: .int 0 :: .int 0 :: .int 0 :: .int 0 :: .int 0 :: .int 0 :: .int 0 :: .int 0 :: .int 0 :: .int (-1) :: .ref (u2 4) :: .ref (u2 5) :: .int 0 :: .int 0 :: .int 0 :: .ref (u2 6) :: .ref (u2 7) :: .ref (u2 8) :: .int 0 :: .int 0 :: .int 0 :: .int 0 :: .int 0 :: .ref (u2 9) :: .int 0 :: .ref (u2 10) :: .int 0 :: .int 0 :: .int 0 :: .ref (u2 11) :: .ref (u2 12) :: .ref (u2 13) :: []))), ((u2 0), .inl (cT 0, 288, .inl (allK))), ((u2 1), .inl (cT 3, 2, .inl (fun _ => 0))), ((u2 2), .inl (cT 0, 900, .inl (fun _ => 0))), ((u2 3), .inl (cT 0, 96, .inl (fun _ => 0))), ((u2 10), .inl (cT 0, 16, .inl (fun _ => 0))), ((u2 11), .inl (cT 0, 4, .inl (rsK))), ((u2 12), .inl (cT 0, 4, .inl (fun _ => 0))), ((u2 13), .inl (cT 1, 160, .inr (.inl (fun _ => 0))))] _ := hP
  have hD : va_D A [(o2, .inr (9, (.int 0 :: .ref (u2 0) :: .ref (u2 1) :: .ref (u2 2) :: .ref (u2 3) :: .int 0 :: .int 0 :: .int 0 :: .int 0 :: .int 0 :: .int 0 :: .int 0 :: .int 0 :: .int 0 :: .int (-1) :: .ref (u2 4) :: .ref (u2 5) :: .int 0 :: .int 0 :: .int 0 :: .ref (u2 6) :: .ref (u2 7) :: .ref (u2 8) :: .int 0 :: .int 0 :: .int 0 :: .int 0 :: .int 0 :: .ref (u2 9) :: .int 0 :: .ref (u2 10) :: .int 0 :: .int 0 :: .int 0 :: .ref (u2 11) :: .ref (u2 12) :: .ref (u2 13) :: []))), ((u2 0), .inl (cT 0, 288, .inl (allK))), ((u2 1), .inl (cT 3, 2, .inl (fun _ => 0))), ((u2 2), .inl (cT 0, 900, .inl (fun _ => 0))), ((u2 3), .inl (cT 0, 96, .inl (fun _ => 0))), ((u2 10), .inl (cT 0, 16, .inl (fun _ => 0))), ((u2 11), .inl (cT 0, 4, .inl (rsK))), ((u2 12), .inl (cT 0, 4, .inl (fun _ => 0))), ((u2 13), .inl (cT 1, 160, .inr (.inl (fun _ => 0))))] := hD
  have hwr_2 : r_2 = if 1 ≤ (xs 1).toInt ∧ (xs 1).toInt ≤ 30 then 6 else -3 := hwr_2
  subst hwr_2
  refine lv_aload_n hx hb dL_law_553 rfl (lv_at hl 1 rfl) ?_
  refine lv_aload_n hx hb dL_law_554 rfl (lv_at hl 3 rfl) ?_
  refine lv_iload_n hx hb dL_law_555 rfl (lv_at hl 0 rfl) ?_
  refine lv_iconst (v := 1) hx hb dL_law_556 (by decide) ?_
  refine lv_iadd hx hb dL_law_557 ?_
  refine lv_is (y := 1) (by decide) ?_
  refine va_sld hx hb hX hbl hbA hS (by unfold vp_in; decide) dL_law_558 ?_
  refine lv_is (y := xs 1) rfl ?_
  refine xk_i (wr := []) (xr_V (n := 1) (As := [.int (xs 1)]) (rest := [.int (if 1 ≤ (xs 1).toInt ∧ (xs 1).toInt ≤ 30 then 6 else -3)]) ⟨hx, hb, hml, hown, htg⟩ hK hN hP hD [0, 1] rfl (by decide) (m_height l D cT _ (o2) (u2) ((xs 1))) wi_1403 wi_1404 wi_1405 wi_131 wi_1406 rfl rfl rfl ⟨rfl, by decide +kernel⟩ ⟨Nat.le_of_ble_eq_true rfl, Nat.le_of_ble_eq_true rfl⟩ rfl hl.1 rfl (Nat.le_of_ble_eq_true rfl) dL_law_559 ⟨Nat.le_of_ble_eq_true rfl, Nat.le_of_ble_eq_true rfl⟩) hP hD hS hA [0, 1] [] rfl rfl (by decide) (by decide) (fun r_4 u_3 H locs hwr_4 hP hD hS => ?_)
  have hP : va_P D classes [] _ := hP
  have hD : va_D A [] := hD
  have hwr_4 : r_4 = if 1 ≤ (xs 1).toInt ∧ (xs 1).toInt ≤ 30 then 6 else -3 := hwr_4
  subst hwr_4
  refine lv_icmp_eq (tgt := 1455) hx hb dL_law_562 (by decide) (fun _ => ?_) (fun h => absurd rfl h)
  exact lc_end hx hb hr hml hown htg hK hN hX hbl hlk hA hAq hbA o1 o2 hS (lv_sub hl [0, 1, 2, 3] rfl)
set_option maxHeartbeats 4000000 in
set_option maxRecDepth 100000 in
theorem lc_11 {p : Program} {l : Launch} {e : Env} {s : State} {m : MethodId} {below : List Frame} {meth : Method} {c : Code} {b : Nat} {xs : Nat → Int32} {D : va_G} {cT : Nat → ClassId} {A : Nat → Prop} (hx : p.tables.exec = Jvm.exec) (hb : c.code = cL_law) (hr : meth.sig.returnType = ret) (hml : c.maxLocals = 4) (hown : s.vm.findClass RL = some m.cls) (htg : ∀ w ∈ gw_T, w.before #[Value.ref b] s = true) (hK : va_K D classes (tysX cT) s) (hN : NX s) (hX : va_X b 6 xs s s.heap) (hbl : b < s.heap.size) (hlk : meth.locks = false) (hA : ∀ q, s.heap.size ≤ q → A q) (hAq : ∀ q, A q → s.heap.size ≤ q) (hbA : ¬ A b) (o1 o2 : Nat) (u1 u2 : Nat → Nat) {H : Heap} {locs : List Loc} {ls : Array Slot} (hP : va_P D classes (wBig cT o1 o2 u1 u2) H) (hD : va_D A (wBig cT o1 o2 u1 u2)) (hS : va_S A s.heap H locs) (hl : lv_has ls 4 [(3, .int 0), (2, .ref o2), (1, .ref o1), (0, .ref b)]) : W p l e room_1 s m #[Value.ref b] below meth c H locs 2000 100000 (lw_Z below #[Value.ref b] s) (F0 m 567 ls []) := by
  refine lv_aload_n hx hb dL_law_567 rfl (lv_at hl 2 rfl) ?_
  refine lv_aload_n hx hb dL_law_568 rfl (lv_at hl 3 rfl) ?_
  refine lv_iload_n hx hb dL_law_569 rfl (lv_at hl 0 rfl) ?_
  refine lv_iconst (v := 1) hx hb dL_law_570 (by decide) ?_
  refine lv_iadd hx hb dL_law_571 ?_
  refine lv_is (y := 1) (by decide) ?_
  refine va_sld hx hb hX hbl hbA hS (by unfold vp_in; decide) dL_law_572 ?_
  refine lv_is (y := xs 1) rfl ?_
  refine xk_i (wr := [(o2, .inr (9, (.int 0 :: .ref (u2 0) :: .ref (u2 1) :: .ref (u2 2) :: .ref (u2 3) :: .int 0 :: .int 0 :: .int 0 :: .int 0 :: .int 0 :: .int 0 :: .int 0 :: .int 0 :: .int 0 :: .int (-1) :: .ref (u2 4) :: .ref (u2 5) :: .int 0 :: .int 0 :: .int 0 :: .ref (u2 6) :: .ref (u2 7) :: .ref (u2 8) :: .int 0 :: .int 0 :: .int 0 :: .int 0 :: .int 0 :: .ref (u2 9) :: .int 0 :: .ref (u2 10) :: .int 0 :: .int 0 :: .int 0 :: .ref (u2 11) :: .ref (u2 12) :: .ref (u2 13) :: []))), ((u2 0), .inl (cT 0, 288, .inl (allK))), ((u2 1), .inl (cT 3, 2, .inl (fun _ => 0))), ((u2 2), .inl (cT 0, 900, .inl (fun _ => 0))), ((u2 3), .inl (cT 0, 96, .inl (fun _ => 0))), ((u2 10), .inl (cT 0, 16, .inl (fun _ => 0))), ((u2 11), .inl (cT 0, 4, .inl (rsK))), ((u2 12), .inl (cT 0, 4, .inl (fun _ => 0))), ((u2 13), .inl (cT 1, 160, .inr (.inl (fun _ => 0))))]) (xr_V (n := 1) (As := [.int (xs 1)]) (rest := []) ⟨hx, hb, hml, hown, htg⟩ hK hN hP hD [0, 11] rfl (by decide) (k_fell l D cT _ (o1) (u1) ((xs 1))) wi_750 wi_751 wi_752 wi_121 wi_753 rfl rfl rfl ⟨rfl, by decide +kernel⟩ ⟨Nat.le_of_ble_eq_true rfl, Nat.le_of_ble_eq_true rfl⟩ rfl hl.1 rfl (Nat.le_of_ble_eq_true rfl) dL_law_573 ⟨Nat.le_of_ble_eq_true rfl, Nat.le_of_ble_eq_true rfl⟩) hP hD hS hA [0, 11] [46, 47, 48, 49, 50, 51, 52, 53, 54] rfl rfl (by decide) (by decide) (fun r_2 u_1 H locs hwr_2 hP hD hS => ?_)
  have hP : va_P D classes [(o2, .inr (9, (.int 0 :: .ref (u2 0) :: .ref (u2 1) :: .ref (u2 2) :: .ref (u2 3) :: .int 0 :: .int 0 :: .int 0 :: .int 0 :: .int 0 :: .int 0 :: .int 0 :: .int 0 :: .int 0 :: .int (-1) :: .ref (u2 4) :: .ref (u2 5) :: .int 0 :: .int 0 :: .int 0 :: .ref (u2 6) :: .ref (u2 7) :: .ref (u2 8) :: .int 0 :: .int 0 :: .int 0 :: .int 0 :: .int 0 :: .ref (u2 9) :: .int 0 :: .ref (u2 10) :: .int 0 :: .int 0 :: .int 0 :: .ref (u2 11) :: .ref (u2 12) :: .ref (u2 13) :: []))), ((u2 0), .inl (cT 0, 288, .inl (allK))), ((u2 1), .inl (cT 3, 2, .inl (fun _ => 0))), ((u2 2), .inl (cT 0, 900, .inl (fun _ => 0))), ((u2 3), .inl (cT 0, 96, .inl (fun _ => 0))), ((u2 10), .inl (cT 0, 16, .inl (fun _ => 0))), ((u2 11), .inl (cT 0, 4, .inl (rsK))), ((u2 12), .inl (cT 0, 4, .inl (fun _ => 0))), ((u2 13), .inl (cT 1, 160, .inr (.inl (fun _ => 0))))] _ := hP
  have hD : va_D A [(o2, .inr (9, (.int 0 :: .ref (u2 0) :: .ref (u2 1) :: .ref (u2 2) :: .ref (u2 3) :: .int 0 :: .int 0 :: .int 0 :: .int 0 :: .int 0 :: .int 0 :: .int 0 :: .int 0 :: .int 0 :: .int (-1) :: .ref (u2 4) :: .ref (u2 5) :: .int 0 :: .int 0 :: .int 0 :: .ref (u2 6) :: .ref (u2 7) :: .ref (u2 8) :: .int 0 :: .int 0 :: .int 0 :: .int 0 :: .int 0 :: .ref (u2 9) :: .int 0 :: .ref (u2 10) :: .int 0 :: .int 0 :: .int 0 :: .ref (u2 11) :: .ref (u2 12) :: .ref (u2 13) :: []))), ((u2 0), .inl (cT 0, 288, .inl (allK))), ((u2 1), .inl (cT 3, 2, .inl (fun _ => 0))), ((u2 2), .inl (cT 0, 900, .inl (fun _ => 0))), ((u2 3), .inl (cT 0, 96, .inl (fun _ => 0))), ((u2 10), .inl (cT 0, 16, .inl (fun _ => 0))), ((u2 11), .inl (cT 0, 4, .inl (rsK))), ((u2 12), .inl (cT 0, 4, .inl (fun _ => 0))), ((u2 13), .inl (cT 1, 160, .inr (.inl (fun _ => 0))))] := hD
  have hwr_2 : r_2 = -2 := hwr_2
  subst hwr_2
  refine lv_aload_n hx hb dL_law_576 rfl (lv_at hl 1 rfl) ?_
  refine lv_aload_n hx hb dL_law_577 rfl (lv_at hl 3 rfl) ?_
  refine lv_iload_n hx hb dL_law_578 rfl (lv_at hl 0 rfl) ?_
  refine lv_iconst (v := 1) hx hb dL_law_579 (by decide) ?_
  refine lv_iadd hx hb dL_law_580 ?_
  refine lv_is (y := 1) (by decide) ?_
  refine va_sld hx hb hX hbl hbA hS (by unfold vp_in; decide) dL_law_581 ?_
  refine lv_is (y := xs 1) rfl ?_
  refine xk_i (wr := []) (xr_V (n := 1) (As := [.int (xs 1)]) (rest := [.int (-2)]) ⟨hx, hb, hml, hown, htg⟩ hK hN hP hD [0, 1] rfl (by decide) (m_fell l D cT _ (o2) (u2) ((xs 1))) wi_1408 wi_1409 wi_1410 wi_131 wi_1411 rfl rfl rfl ⟨rfl, by decide +kernel⟩ ⟨Nat.le_of_ble_eq_true rfl, Nat.le_of_ble_eq_true rfl⟩ rfl hl.1 rfl (Nat.le_of_ble_eq_true rfl) dL_law_582 ⟨Nat.le_of_ble_eq_true rfl, Nat.le_of_ble_eq_true rfl⟩) hP hD hS hA [0, 1] [] rfl rfl (by decide) (by decide) (fun r_4 u_3 H locs hwr_4 hP hD hS => ?_)
  have hP : va_P D classes [] _ := hP
  have hD : va_D A [] := hD
  have hwr_4 : r_4 = -2 := hwr_4
  subst hwr_4
  refine lv_icmp_eq (tgt := 1455) hx hb dL_law_585 (by decide) (fun _ => ?_) (fun h => absurd rfl h)
  exact lc_end hx hb hr hml hown htg hK hN hX hbl hlk hA hAq hbA o1 o2 hS (lv_sub hl [0, 1, 2, 3] rfl)
set_option maxHeartbeats 4000000 in
set_option maxRecDepth 100000 in
theorem lc_12 {p : Program} {l : Launch} {e : Env} {s : State} {m : MethodId} {below : List Frame} {meth : Method} {c : Code} {b : Nat} {xs : Nat → Int32} {D : va_G} {cT : Nat → ClassId} {A : Nat → Prop} (hx : p.tables.exec = Jvm.exec) (hb : c.code = cL_law) (hr : meth.sig.returnType = ret) (hml : c.maxLocals = 4) (hown : s.vm.findClass RL = some m.cls) (htg : ∀ w ∈ gw_T, w.before #[Value.ref b] s = true) (hK : va_K D classes (tysX cT) s) (hN : NX s) (hX : va_X b 6 xs s s.heap) (hbl : b < s.heap.size) (hlk : meth.locks = false) (hA : ∀ q, s.heap.size ≤ q → A q) (hAq : ∀ q, A q → s.heap.size ≤ q) (hbA : ¬ A b) (o1 o2 : Nat) (u1 u2 : Nat → Nat) {H : Heap} {locs : List Loc} {ls : Array Slot} (hP : va_P D classes (wBig cT o1 o2 u1 u2) H) (hD : va_D A (wBig cT o1 o2 u1 u2)) (hS : va_S A s.heap H locs) (hl : lv_has ls 4 [(3, .int 0), (2, .ref o2), (1, .ref o1), (0, .ref b)]) : W p l e room_1 s m #[Value.ref b] below meth c H locs 2000 100000 (lw_Z below #[Value.ref b] s) (F0 m 590 ls []) := by
  refine lv_aload_n hx hb dL_law_590 rfl (lv_at hl 2 rfl) ?_
  refine lv_aload_n hx hb dL_law_591 rfl (lv_at hl 3 rfl) ?_
  refine lv_iload_n hx hb dL_law_592 rfl (lv_at hl 0 rfl) ?_
  refine lv_iconst (v := 1) hx hb dL_law_593 (by decide) ?_
  refine lv_iadd hx hb dL_law_594 ?_
  refine lv_is (y := 1) (by decide) ?_
  refine va_sld hx hb hX hbl hbA hS (by unfold vp_in; decide) dL_law_595 ?_
  refine lv_is (y := xs 1) rfl ?_
  refine xk_i (wr := [(o2, .inr (9, (.int 0 :: .ref (u2 0) :: .ref (u2 1) :: .ref (u2 2) :: .ref (u2 3) :: .int 0 :: .int 0 :: .int 0 :: .int 0 :: .int 0 :: .int 0 :: .int 0 :: .int 0 :: .int 0 :: .int (-1) :: .ref (u2 4) :: .ref (u2 5) :: .int 0 :: .int 0 :: .int 0 :: .ref (u2 6) :: .ref (u2 7) :: .ref (u2 8) :: .int 0 :: .int 0 :: .int 0 :: .int 0 :: .int 0 :: .ref (u2 9) :: .int 0 :: .ref (u2 10) :: .int 0 :: .int 0 :: .int 0 :: .ref (u2 11) :: .ref (u2 12) :: .ref (u2 13) :: []))), ((u2 0), .inl (cT 0, 288, .inl (allK))), ((u2 1), .inl (cT 3, 2, .inl (fun _ => 0))), ((u2 2), .inl (cT 0, 900, .inl (fun _ => 0))), ((u2 3), .inl (cT 0, 96, .inl (fun _ => 0))), ((u2 10), .inl (cT 0, 16, .inl (fun _ => 0))), ((u2 11), .inl (cT 0, 4, .inl (rsK))), ((u2 12), .inl (cT 0, 4, .inl (fun _ => 0))), ((u2 13), .inl (cT 1, 160, .inr (.inl (fun _ => 0))))]) (xr_V (n := 1) (As := [.int (xs 1)]) (rest := []) ⟨hx, hb, hml, hown, htg⟩ hK hN hP hD [0, 11] rfl (by decide) (k_minute l D cT _ (o1) (u1) ((xs 1))) wi_754 wi_755 wi_756 wi_121 wi_757 rfl rfl rfl ⟨rfl, by decide +kernel⟩ ⟨Nat.le_of_ble_eq_true rfl, Nat.le_of_ble_eq_true rfl⟩ rfl hl.1 rfl (Nat.le_of_ble_eq_true rfl) dL_law_596 ⟨Nat.le_of_ble_eq_true rfl, Nat.le_of_ble_eq_true rfl⟩) hP hD hS hA [0, 11] [46, 47, 48, 49, 50, 51, 52, 53, 54] rfl rfl (by decide) (by decide) (fun r_2 u_1 H locs hwr_2 hP hD hS => ?_)
  have hP : va_P D classes [(o2, .inr (9, (.int 0 :: .ref (u2 0) :: .ref (u2 1) :: .ref (u2 2) :: .ref (u2 3) :: .int 0 :: .int 0 :: .int 0 :: .int 0 :: .int 0 :: .int 0 :: .int 0 :: .int 0 :: .int 0 :: .int (-1) :: .ref (u2 4) :: .ref (u2 5) :: .int 0 :: .int 0 :: .int 0 :: .ref (u2 6) :: .ref (u2 7) :: .ref (u2 8) :: .int 0 :: .int 0 :: .int 0 :: .int 0 :: .int 0 :: .ref (u2 9) :: .int 0 :: .ref (u2 10) :: .int 0 :: .int 0 :: .int 0 :: .ref (u2 11) :: .ref (u2 12) :: .ref (u2 13) :: []))), ((u2 0), .inl (cT 0, 288, .inl (allK))), ((u2 1), .inl (cT 3, 2, .inl (fun _ => 0))), ((u2 2), .inl (cT 0, 900, .inl (fun _ => 0))), ((u2 3), .inl (cT 0, 96, .inl (fun _ => 0))), ((u2 10), .inl (cT 0, 16, .inl (fun _ => 0))), ((u2 11), .inl (cT 0, 4, .inl (rsK))), ((u2 12), .inl (cT 0, 4, .inl (fun _ => 0))), ((u2 13), .inl (cT 1, 160, .inr (.inl (fun _ => 0))))] _ := hP
  have hD : va_D A [(o2, .inr (9, (.int 0 :: .ref (u2 0) :: .ref (u2 1) :: .ref (u2 2) :: .ref (u2 3) :: .int 0 :: .int 0 :: .int 0 :: .int 0 :: .int 0 :: .int 0 :: .int 0 :: .int 0 :: .int 0 :: .int (-1) :: .ref (u2 4) :: .ref (u2 5) :: .int 0 :: .int 0 :: .int 0 :: .ref (u2 6) :: .ref (u2 7) :: .ref (u2 8) :: .int 0 :: .int 0 :: .int 0 :: .int 0 :: .int 0 :: .ref (u2 9) :: .int 0 :: .ref (u2 10) :: .int 0 :: .int 0 :: .int 0 :: .ref (u2 11) :: .ref (u2 12) :: .ref (u2 13) :: []))), ((u2 0), .inl (cT 0, 288, .inl (allK))), ((u2 1), .inl (cT 3, 2, .inl (fun _ => 0))), ((u2 2), .inl (cT 0, 900, .inl (fun _ => 0))), ((u2 3), .inl (cT 0, 96, .inl (fun _ => 0))), ((u2 10), .inl (cT 0, 16, .inl (fun _ => 0))), ((u2 11), .inl (cT 0, 4, .inl (rsK))), ((u2 12), .inl (cT 0, 4, .inl (fun _ => 0))), ((u2 13), .inl (cT 1, 160, .inr (.inl (fun _ => 0))))] := hD
  have hwr_2 : r_2 = -2 := hwr_2
  subst hwr_2
  refine lv_aload_n hx hb dL_law_599 rfl (lv_at hl 1 rfl) ?_
  refine lv_aload_n hx hb dL_law_600 rfl (lv_at hl 3 rfl) ?_
  refine lv_iload_n hx hb dL_law_601 rfl (lv_at hl 0 rfl) ?_
  refine lv_iconst (v := 1) hx hb dL_law_602 (by decide) ?_
  refine lv_iadd hx hb dL_law_603 ?_
  refine lv_is (y := 1) (by decide) ?_
  refine va_sld hx hb hX hbl hbA hS (by unfold vp_in; decide) dL_law_604 ?_
  refine lv_is (y := xs 1) rfl ?_
  refine xk_i (wr := []) (xr_V (n := 1) (As := [.int (xs 1)]) (rest := [.int (-2)]) ⟨hx, hb, hml, hown, htg⟩ hK hN hP hD [0, 1] rfl (by decide) (m_minute l D cT _ (o2) (u2) ((xs 1))) wi_1412 wi_1413 wi_1414 wi_131 wi_1415 rfl rfl rfl ⟨rfl, by decide +kernel⟩ ⟨Nat.le_of_ble_eq_true rfl, Nat.le_of_ble_eq_true rfl⟩ rfl hl.1 rfl (Nat.le_of_ble_eq_true rfl) dL_law_605 ⟨Nat.le_of_ble_eq_true rfl, Nat.le_of_ble_eq_true rfl⟩) hP hD hS hA [0, 1] [] rfl rfl (by decide) (by decide) (fun r_4 u_3 H locs hwr_4 hP hD hS => ?_)
  have hP : va_P D classes [] _ := hP
  have hD : va_D A [] := hD
  have hwr_4 : r_4 = -2 := hwr_4
  subst hwr_4
  refine lv_icmp_eq (tgt := 1455) hx hb dL_law_608 (by decide) (fun _ => ?_) (fun h => absurd rfl h)
  exact lc_end hx hb hr hml hown htg hK hN hX hbl hlk hA hAq hbA o1 o2 hS (lv_sub hl [0, 1, 2, 3] rfl)
set_option maxHeartbeats 4000000 in
set_option maxRecDepth 100000 in
theorem lc_13 {p : Program} {l : Launch} {e : Env} {s : State} {m : MethodId} {below : List Frame} {meth : Method} {c : Code} {b : Nat} {xs : Nat → Int32} {D : va_G} {cT : Nat → ClassId} {A : Nat → Prop} (hx : p.tables.exec = Jvm.exec) (hb : c.code = cL_law) (hr : meth.sig.returnType = ret) (hml : c.maxLocals = 4) (hown : s.vm.findClass RL = some m.cls) (htg : ∀ w ∈ gw_T, w.before #[Value.ref b] s = true) (hK : va_K D classes (tysX cT) s) (hN : NX s) (hX : va_X b 6 xs s s.heap) (hbl : b < s.heap.size) (hlk : meth.locks = false) (hA : ∀ q, s.heap.size ≤ q → A q) (hAq : ∀ q, A q → s.heap.size ≤ q) (hbA : ¬ A b) (o1 o2 : Nat) (u1 u2 : Nat → Nat) {H : Heap} {locs : List Loc} {ls : Array Slot} (hP : va_P D classes (wBig cT o1 o2 u1 u2) H) (hD : va_D A (wBig cT o1 o2 u1 u2)) (hS : va_S A s.heap H locs) (hl : lv_has ls 4 [(3, .int 0), (2, .ref o2), (1, .ref o1), (0, .ref b)]) : W p l e room_1 s m #[Value.ref b] below meth c H locs 2000 100000 (lw_Z below #[Value.ref b] s) (F0 m 613 ls []) := by
  refine lv_aload_n hx hb dL_law_613 rfl (lv_at hl 2 rfl) ?_
  refine lv_aload_n hx hb dL_law_614 rfl (lv_at hl 3 rfl) ?_
  refine lv_iload_n hx hb dL_law_615 rfl (lv_at hl 0 rfl) ?_
  refine lv_iconst (v := 1) hx hb dL_law_616 (by decide) ?_
  refine lv_iadd hx hb dL_law_617 ?_
  refine lv_is (y := 1) (by decide) ?_
  refine va_sld hx hb hX hbl hbA hS (by unfold vp_in; decide) dL_law_618 ?_
  refine lv_is (y := xs 1) rfl ?_
  refine lv_aload_n hx hb dL_law_619 rfl (lv_at hl 3 rfl) ?_
  refine lv_iload_n hx hb dL_law_620 rfl (lv_at hl 0 rfl) ?_
  refine lv_iconst (v := 2) hx hb dL_law_621 (by decide) ?_
  refine lv_iadd hx hb dL_law_622 ?_
  refine lv_is (y := 2) (by decide) ?_
  refine va_sld hx hb hX hbl hbA hS (by unfold vp_in; decide) dL_law_623 ?_
  refine lv_is (y := xs 2) rfl ?_
  refine xk_i (wr := [(o2, .inr (9, (.int 0 :: .ref (u2 0) :: .ref (u2 1) :: .ref (u2 2) :: .ref (u2 3) :: .int 0 :: .int 0 :: .int 0 :: .int 0 :: .int 0 :: .int 0 :: .int 0 :: .int 0 :: .int 0 :: .int (-1) :: .ref (u2 4) :: .ref (u2 5) :: .int 0 :: .int 0 :: .int 0 :: .ref (u2 6) :: .ref (u2 7) :: .ref (u2 8) :: .int 0 :: .int 0 :: .int 0 :: .int 0 :: .int 0 :: .ref (u2 9) :: .int 0 :: .ref (u2 10) :: .int 0 :: .int 0 :: .int 0 :: .ref (u2 11) :: .ref (u2 12) :: .ref (u2 13) :: []))), ((u2 0), .inl (cT 0, 288, .inl (allK))), ((u2 1), .inl (cT 3, 2, .inl (fun _ => 0))), ((u2 2), .inl (cT 0, 900, .inl (fun _ => 0))), ((u2 3), .inl (cT 0, 96, .inl (fun _ => 0))), ((u2 10), .inl (cT 0, 16, .inl (fun _ => 0))), ((u2 11), .inl (cT 0, 4, .inl (rsK))), ((u2 12), .inl (cT 0, 4, .inl (fun _ => 0))), ((u2 13), .inl (cT 1, 160, .inr (.inl (fun _ => 0))))]) (xr_V (n := 2) (As := [.int (xs 1), .int (xs 2)]) (rest := []) ⟨hx, hb, hml, hown, htg⟩ hK hN hP hD [0, 34, 35, 36, 37, 38] rfl (by decide) (k_judge l D cT _ (o1) (u1) ((xs 1)) ((xs 2))) wi_773 wi_774 wi_775 wi_121 wi_776 rfl rfl rfl ⟨rfl, by decide +kernel⟩ ⟨Nat.le_of_ble_eq_true rfl, Nat.le_of_ble_eq_true rfl⟩ rfl hl.1 rfl (Nat.le_of_ble_eq_true rfl) dL_law_624 ⟨Nat.le_of_ble_eq_true rfl, Nat.le_of_ble_eq_true rfl⟩) hP hD hS hA [0, 34, 35, 36, 37, 38] [46, 47, 48, 49, 50, 51, 52, 53, 54] rfl rfl (by decide) (by decide) (fun r_2 u_1 H locs hwr_2 hP hD hS => ?_)
  have hP : va_P D classes [(o2, .inr (9, (.int 0 :: .ref (u2 0) :: .ref (u2 1) :: .ref (u2 2) :: .ref (u2 3) :: .int 0 :: .int 0 :: .int 0 :: .int 0 :: .int 0 :: .int 0 :: .int 0 :: .int 0 :: .int 0 :: .int (-1) :: .ref (u2 4) :: .ref (u2 5) :: .int 0 :: .int 0 :: .int 0 :: .ref (u2 6) :: .ref (u2 7) :: .ref (u2 8) :: .int 0 :: .int 0 :: .int 0 :: .int 0 :: .int 0 :: .ref (u2 9) :: .int 0 :: .ref (u2 10) :: .int 0 :: .int 0 :: .int 0 :: .ref (u2 11) :: .ref (u2 12) :: .ref (u2 13) :: []))), ((u2 0), .inl (cT 0, 288, .inl (allK))), ((u2 1), .inl (cT 3, 2, .inl (fun _ => 0))), ((u2 2), .inl (cT 0, 900, .inl (fun _ => 0))), ((u2 3), .inl (cT 0, 96, .inl (fun _ => 0))), ((u2 10), .inl (cT 0, 16, .inl (fun _ => 0))), ((u2 11), .inl (cT 0, 4, .inl (rsK))), ((u2 12), .inl (cT 0, 4, .inl (fun _ => 0))), ((u2 13), .inl (cT 1, 160, .inr (.inl (fun _ => 0))))] _ := hP
  have hD : va_D A [(o2, .inr (9, (.int 0 :: .ref (u2 0) :: .ref (u2 1) :: .ref (u2 2) :: .ref (u2 3) :: .int 0 :: .int 0 :: .int 0 :: .int 0 :: .int 0 :: .int 0 :: .int 0 :: .int 0 :: .int 0 :: .int (-1) :: .ref (u2 4) :: .ref (u2 5) :: .int 0 :: .int 0 :: .int 0 :: .ref (u2 6) :: .ref (u2 7) :: .ref (u2 8) :: .int 0 :: .int 0 :: .int 0 :: .int 0 :: .int 0 :: .ref (u2 9) :: .int 0 :: .ref (u2 10) :: .int 0 :: .int 0 :: .int 0 :: .ref (u2 11) :: .ref (u2 12) :: .ref (u2 13) :: []))), ((u2 0), .inl (cT 0, 288, .inl (allK))), ((u2 1), .inl (cT 3, 2, .inl (fun _ => 0))), ((u2 2), .inl (cT 0, 900, .inl (fun _ => 0))), ((u2 3), .inl (cT 0, 96, .inl (fun _ => 0))), ((u2 10), .inl (cT 0, 16, .inl (fun _ => 0))), ((u2 11), .inl (cT 0, 4, .inl (rsK))), ((u2 12), .inl (cT 0, 4, .inl (fun _ => 0))), ((u2 13), .inl (cT 1, 160, .inr (.inl (fun _ => 0))))] := hD
  have hwr_2 : r_2 = if 0 ≤ (xs 1).toInt ∧ (xs 1).toInt < 4 ∧ 0 ≤ (xs 2).toInt ∧ (xs 2).toInt ≤ 3 then -6 else -2 := hwr_2
  subst hwr_2
  refine lv_aload_n hx hb dL_law_627 rfl (lv_at hl 1 rfl) ?_
  refine lv_aload_n hx hb dL_law_628 rfl (lv_at hl 3 rfl) ?_
  refine lv_iload_n hx hb dL_law_629 rfl (lv_at hl 0 rfl) ?_
  refine lv_iconst (v := 1) hx hb dL_law_630 (by decide) ?_
  refine lv_iadd hx hb dL_law_631 ?_
  refine lv_is (y := 1) (by decide) ?_
  refine va_sld hx hb hX hbl hbA hS (by unfold vp_in; decide) dL_law_632 ?_
  refine lv_is (y := xs 1) rfl ?_
  refine lv_aload_n hx hb dL_law_633 rfl (lv_at hl 3 rfl) ?_
  refine lv_iload_n hx hb dL_law_634 rfl (lv_at hl 0 rfl) ?_
  refine lv_iconst (v := 2) hx hb dL_law_635 (by decide) ?_
  refine lv_iadd hx hb dL_law_636 ?_
  refine lv_is (y := 2) (by decide) ?_
  refine va_sld hx hb hX hbl hbA hS (by unfold vp_in; decide) dL_law_637 ?_
  refine lv_is (y := xs 2) rfl ?_
  refine xk_i (wr := []) (xr_V (n := 2) (As := [.int (xs 1), .int (xs 2)]) (rest := [.int (if 0 ≤ (xs 1).toInt ∧ (xs 1).toInt < 4 ∧ 0 ≤ (xs 2).toInt ∧ (xs 2).toInt ≤ 3 then -6 else -2)]) ⟨hx, hb, hml, hown, htg⟩ hK hN hP hD [0, 6] rfl (by decide) (m_judge l D cT _ (o2) (u2) ((xs 1)) ((xs 2))) wi_1428 wi_1429 wi_1430 wi_131 wi_1431 rfl rfl rfl ⟨rfl, by decide +kernel⟩ ⟨Nat.le_of_ble_eq_true rfl, Nat.le_of_ble_eq_true rfl⟩ rfl hl.1 rfl (Nat.le_of_ble_eq_true rfl) dL_law_638 ⟨Nat.le_of_ble_eq_true rfl, Nat.le_of_ble_eq_true rfl⟩) hP hD hS hA [0, 6] [] rfl rfl (by decide) (by decide) (fun r_4 u_3 H locs hwr_4 hP hD hS => ?_)
  have hP : va_P D classes [] _ := hP
  have hD : va_D A [] := hD
  have hwr_4 : r_4 = if 0 ≤ (xs 1).toInt ∧ (xs 1).toInt < 4 ∧ 0 ≤ (xs 2).toInt ∧ (xs 2).toInt ≤ 3 then -6 else -2 := hwr_4
  subst hwr_4
  refine lv_icmp_eq (tgt := 1455) hx hb dL_law_641 (by decide) (fun _ => ?_) (fun h => absurd rfl h)
  exact lc_end hx hb hr hml hown htg hK hN hX hbl hlk hA hAq hbA o1 o2 hS (lv_sub hl [0, 1, 2, 3] rfl)
set_option maxHeartbeats 4000000 in
set_option maxRecDepth 100000 in
theorem lc_14 {p : Program} {l : Launch} {e : Env} {s : State} {m : MethodId} {below : List Frame} {meth : Method} {c : Code} {b : Nat} {xs : Nat → Int32} {D : va_G} {cT : Nat → ClassId} {A : Nat → Prop} (hx : p.tables.exec = Jvm.exec) (hb : c.code = cL_law) (hr : meth.sig.returnType = ret) (hml : c.maxLocals = 4) (hown : s.vm.findClass RL = some m.cls) (htg : ∀ w ∈ gw_T, w.before #[Value.ref b] s = true) (hK : va_K D classes (tysX cT) s) (hN : NX s) (hX : va_X b 6 xs s s.heap) (hbl : b < s.heap.size) (hlk : meth.locks = false) (hA : ∀ q, s.heap.size ≤ q → A q) (hAq : ∀ q, A q → s.heap.size ≤ q) (hbA : ¬ A b) (o1 o2 : Nat) (u1 u2 : Nat → Nat) {H : Heap} {locs : List Loc} {ls : Array Slot} (hP : va_P D classes (wBig cT o1 o2 u1 u2) H) (hD : va_D A (wBig cT o1 o2 u1 u2)) (hS : va_S A s.heap H locs) (hl : lv_has ls 4 [(3, .int 0), (2, .ref o2), (1, .ref o1), (0, .ref b)]) : W p l e room_1 s m #[Value.ref b] below meth c H locs 2000 100000 (lw_Z below #[Value.ref b] s) (F0 m 646 ls []) := by
  refine lv_aload_n hx hb dL_law_646 rfl (lv_at hl 2 rfl) ?_
  refine lv_aload_n hx hb dL_law_647 rfl (lv_at hl 3 rfl) ?_
  refine lv_iload_n hx hb dL_law_648 rfl (lv_at hl 0 rfl) ?_
  refine lv_iconst (v := 1) hx hb dL_law_649 (by decide) ?_
  refine lv_iadd hx hb dL_law_650 ?_
  refine lv_is (y := 1) (by decide) ?_
  refine va_sld hx hb hX hbl hbA hS (by unfold vp_in; decide) dL_law_651 ?_
  refine lv_is (y := xs 1) rfl ?_
  refine xk_i (wr := [(o2, .inr (9, (.int 0 :: .ref (u2 0) :: .ref (u2 1) :: .ref (u2 2) :: .ref (u2 3) :: .int 0 :: .int 0 :: .int 0 :: .int 0 :: .int 0 :: .int 0 :: .int 0 :: .int 0 :: .int 0 :: .int (-1) :: .ref (u2 4) :: .ref (u2 5) :: .int 0 :: .int 0 :: .int 0 :: .ref (u2 6) :: .ref (u2 7) :: .ref (u2 8) :: .int 0 :: .int 0 :: .int 0 :: .int 0 :: .int 0 :: .ref (u2 9) :: .int 0 :: .ref (u2 10) :: .int 0 :: .int 0 :: .int 0 :: .ref (u2 11) :: .ref (u2 12) :: .ref (u2 13) :: []))), ((u2 0), .inl (cT 0, 288, .inl (allK))), ((u2 1), .inl (cT 3, 2, .inl (fun _ => 0))), ((u2 2), .inl (cT 0, 900, .inl (fun _ => 0))), ((u2 3), .inl (cT 0, 96, .inl (fun _ => 0))), ((u2 10), .inl (cT 0, 16, .inl (fun _ => 0))), ((u2 11), .inl (cT 0, 4, .inl (rsK))), ((u2 12), .inl (cT 0, 4, .inl (fun _ => 0))), ((u2 13), .inl (cT 1, 160, .inr (.inl (fun _ => 0))))]) (xr_V (n := 1) (As := [.int (xs 1)]) (rest := []) ⟨hx, hb, hml, hown, htg⟩ hK hN hP hD [0, 34, 35, 36, 37, 38] rfl (by decide) (k_perform l D cT _ (o1) (u1) ((xs 1))) wi_800 wi_801 wi_802 wi_121 wi_803 rfl rfl rfl ⟨rfl, by decide +kernel⟩ ⟨Nat.le_of_ble_eq_true rfl, Nat.le_of_ble_eq_true rfl⟩ rfl hl.1 rfl (Nat.le_of_ble_eq_true rfl) dL_law_652 ⟨Nat.le_of_ble_eq_true rfl, Nat.le_of_ble_eq_true rfl⟩) hP hD hS hA [0, 34, 35, 36, 37, 38] [46, 47, 48, 49, 50, 51, 52, 53, 54] rfl rfl (by decide) (by decide) (fun r_2 u_1 H locs hwr_2 hP hD hS => ?_)
  have hP : va_P D classes [(o2, .inr (9, (.int 0 :: .ref (u2 0) :: .ref (u2 1) :: .ref (u2 2) :: .ref (u2 3) :: .int 0 :: .int 0 :: .int 0 :: .int 0 :: .int 0 :: .int 0 :: .int 0 :: .int 0 :: .int 0 :: .int (-1) :: .ref (u2 4) :: .ref (u2 5) :: .int 0 :: .int 0 :: .int 0 :: .ref (u2 6) :: .ref (u2 7) :: .ref (u2 8) :: .int 0 :: .int 0 :: .int 0 :: .int 0 :: .int 0 :: .ref (u2 9) :: .int 0 :: .ref (u2 10) :: .int 0 :: .int 0 :: .int 0 :: .ref (u2 11) :: .ref (u2 12) :: .ref (u2 13) :: []))), ((u2 0), .inl (cT 0, 288, .inl (allK))), ((u2 1), .inl (cT 3, 2, .inl (fun _ => 0))), ((u2 2), .inl (cT 0, 900, .inl (fun _ => 0))), ((u2 3), .inl (cT 0, 96, .inl (fun _ => 0))), ((u2 10), .inl (cT 0, 16, .inl (fun _ => 0))), ((u2 11), .inl (cT 0, 4, .inl (rsK))), ((u2 12), .inl (cT 0, 4, .inl (fun _ => 0))), ((u2 13), .inl (cT 1, 160, .inr (.inl (fun _ => 0))))] _ := hP
  have hD : va_D A [(o2, .inr (9, (.int 0 :: .ref (u2 0) :: .ref (u2 1) :: .ref (u2 2) :: .ref (u2 3) :: .int 0 :: .int 0 :: .int 0 :: .int 0 :: .int 0 :: .int 0 :: .int 0 :: .int 0 :: .int 0 :: .int (-1) :: .ref (u2 4) :: .ref (u2 5) :: .int 0 :: .int 0 :: .int 0 :: .ref (u2 6) :: .ref (u2 7) :: .ref (u2 8) :: .int 0 :: .int 0 :: .int 0 :: .int 0 :: .int 0 :: .ref (u2 9) :: .int 0 :: .ref (u2 10) :: .int 0 :: .int 0 :: .int 0 :: .ref (u2 11) :: .ref (u2 12) :: .ref (u2 13) :: []))), ((u2 0), .inl (cT 0, 288, .inl (allK))), ((u2 1), .inl (cT 3, 2, .inl (fun _ => 0))), ((u2 2), .inl (cT 0, 900, .inl (fun _ => 0))), ((u2 3), .inl (cT 0, 96, .inl (fun _ => 0))), ((u2 10), .inl (cT 0, 16, .inl (fun _ => 0))), ((u2 11), .inl (cT 0, 4, .inl (rsK))), ((u2 12), .inl (cT 0, 4, .inl (fun _ => 0))), ((u2 13), .inl (cT 1, 160, .inr (.inl (fun _ => 0))))] := hD
  have hwr_2 : r_2 = if 0 ≤ (xs 1).toInt ∧ (xs 1).toInt < 4 then -6 else -2 := hwr_2
  subst hwr_2
  refine lv_aload_n hx hb dL_law_655 rfl (lv_at hl 1 rfl) ?_
  refine lv_aload_n hx hb dL_law_656 rfl (lv_at hl 3 rfl) ?_
  refine lv_iload_n hx hb dL_law_657 rfl (lv_at hl 0 rfl) ?_
  refine lv_iconst (v := 1) hx hb dL_law_658 (by decide) ?_
  refine lv_iadd hx hb dL_law_659 ?_
  refine lv_is (y := 1) (by decide) ?_
  refine va_sld hx hb hX hbl hbA hS (by unfold vp_in; decide) dL_law_660 ?_
  refine lv_is (y := xs 1) rfl ?_
  refine xk_i (wr := []) (xr_V (n := 1) (As := [.int (xs 1)]) (rest := [.int (if 0 ≤ (xs 1).toInt ∧ (xs 1).toInt < 4 then -6 else -2)]) ⟨hx, hb, hml, hown, htg⟩ hK hN hP hD [0, 6] rfl (by decide) (m_perform l D cT _ (o2) (u2) ((xs 1))) wi_1444 wi_1445 wi_1446 wi_131 wi_1447 rfl rfl rfl ⟨rfl, by decide +kernel⟩ ⟨Nat.le_of_ble_eq_true rfl, Nat.le_of_ble_eq_true rfl⟩ rfl hl.1 rfl (Nat.le_of_ble_eq_true rfl) dL_law_661 ⟨Nat.le_of_ble_eq_true rfl, Nat.le_of_ble_eq_true rfl⟩) hP hD hS hA [0, 6] [] rfl rfl (by decide) (by decide) (fun r_4 u_3 H locs hwr_4 hP hD hS => ?_)
  have hP : va_P D classes [] _ := hP
  have hD : va_D A [] := hD
  have hwr_4 : r_4 = if 0 ≤ (xs 1).toInt ∧ (xs 1).toInt < 4 then -6 else -2 := hwr_4
  subst hwr_4
  refine lv_icmp_eq (tgt := 1455) hx hb dL_law_664 (by decide) (fun _ => ?_) (fun h => absurd rfl h)
  exact lc_end hx hb hr hml hown htg hK hN hX hbl hlk hA hAq hbA o1 o2 hS (lv_sub hl [0, 1, 2, 3] rfl)
set_option maxHeartbeats 4000000 in
set_option maxRecDepth 100000 in
theorem lc_15 {p : Program} {l : Launch} {e : Env} {s : State} {m : MethodId} {below : List Frame} {meth : Method} {c : Code} {b : Nat} {xs : Nat → Int32} {D : va_G} {cT : Nat → ClassId} {A : Nat → Prop} (hx : p.tables.exec = Jvm.exec) (hb : c.code = cL_law) (hr : meth.sig.returnType = ret) (hml : c.maxLocals = 4) (hown : s.vm.findClass RL = some m.cls) (htg : ∀ w ∈ gw_T, w.before #[Value.ref b] s = true) (hK : va_K D classes (tysX cT) s) (hN : NX s) (hX : va_X b 6 xs s s.heap) (hbl : b < s.heap.size) (hlk : meth.locks = false) (hA : ∀ q, s.heap.size ≤ q → A q) (hAq : ∀ q, A q → s.heap.size ≤ q) (hbA : ¬ A b) (o1 o2 : Nat) (u1 u2 : Nat → Nat) {H : Heap} {locs : List Loc} {ls : Array Slot} (hP : va_P D classes (wBig cT o1 o2 u1 u2) H) (hD : va_D A (wBig cT o1 o2 u1 u2)) (hS : va_S A s.heap H locs) (hl : lv_has ls 4 [(3, .int 0), (2, .ref o2), (1, .ref o1), (0, .ref b)]) : W p l e room_1 s m #[Value.ref b] below meth c H locs 2000 100000 (lw_Z below #[Value.ref b] s) (F0 m 669 ls []) := by
  refine lv_aload_n hx hb dL_law_669 rfl (lv_at hl 2 rfl) ?_
  refine lv_aload_n hx hb dL_law_670 rfl (lv_at hl 3 rfl) ?_
  refine lv_iload_n hx hb dL_law_671 rfl (lv_at hl 0 rfl) ?_
  refine lv_iconst (v := 1) hx hb dL_law_672 (by decide) ?_
  refine lv_iadd hx hb dL_law_673 ?_
  refine lv_is (y := 1) (by decide) ?_
  refine va_sld hx hb hX hbl hbA hS (by unfold vp_in; decide) dL_law_674 ?_
  refine lv_is (y := xs 1) rfl ?_
  refine xk_i (wr := [(o2, .inr (9, (.int 0 :: .ref (u2 0) :: .ref (u2 1) :: .ref (u2 2) :: .ref (u2 3) :: .int 0 :: .int 0 :: .int 0 :: .int 0 :: .int 0 :: .int 0 :: .int 0 :: .int 0 :: .int 0 :: .int (-1) :: .ref (u2 4) :: .ref (u2 5) :: .int 0 :: .int 0 :: .int 0 :: .ref (u2 6) :: .ref (u2 7) :: .ref (u2 8) :: .int 0 :: .int 0 :: .int 0 :: .int 0 :: .int 0 :: .ref (u2 9) :: .int 0 :: .ref (u2 10) :: .int 0 :: .int 0 :: .int 0 :: .ref (u2 11) :: .ref (u2 12) :: .ref (u2 13) :: []))), ((u2 0), .inl (cT 0, 288, .inl (allK))), ((u2 1), .inl (cT 3, 2, .inl (fun _ => 0))), ((u2 2), .inl (cT 0, 900, .inl (fun _ => 0))), ((u2 3), .inl (cT 0, 96, .inl (fun _ => 0))), ((u2 10), .inl (cT 0, 16, .inl (fun _ => 0))), ((u2 11), .inl (cT 0, 4, .inl (rsK))), ((u2 12), .inl (cT 0, 4, .inl (fun _ => 0))), ((u2 13), .inl (cT 1, 160, .inr (.inl (fun _ => 0))))]) (xr_V (n := 1) (As := [.int (xs 1)]) (rest := []) ⟨hx, hb, hml, hown, htg⟩ hK hN hP hD [0, 11] rfl (by decide) (k_fill l D cT _ (o1) (u1) ((xs 1))) wi_804 wi_805 wi_806 wi_121 wi_807 rfl rfl rfl ⟨rfl, by decide +kernel⟩ ⟨Nat.le_of_ble_eq_true rfl, Nat.le_of_ble_eq_true rfl⟩ rfl hl.1 rfl (Nat.le_of_ble_eq_true rfl) dL_law_675 ⟨Nat.le_of_ble_eq_true rfl, Nat.le_of_ble_eq_true rfl⟩) hP hD hS hA [0, 11] [46, 47, 48, 49, 50, 51, 52, 53, 54] rfl rfl (by decide) (by decide) (fun r_2 u_1 H locs hwr_2 hP hD hS => ?_)
  have hP : va_P D classes [(o2, .inr (9, (.int 0 :: .ref (u2 0) :: .ref (u2 1) :: .ref (u2 2) :: .ref (u2 3) :: .int 0 :: .int 0 :: .int 0 :: .int 0 :: .int 0 :: .int 0 :: .int 0 :: .int 0 :: .int 0 :: .int (-1) :: .ref (u2 4) :: .ref (u2 5) :: .int 0 :: .int 0 :: .int 0 :: .ref (u2 6) :: .ref (u2 7) :: .ref (u2 8) :: .int 0 :: .int 0 :: .int 0 :: .int 0 :: .int 0 :: .ref (u2 9) :: .int 0 :: .ref (u2 10) :: .int 0 :: .int 0 :: .int 0 :: .ref (u2 11) :: .ref (u2 12) :: .ref (u2 13) :: []))), ((u2 0), .inl (cT 0, 288, .inl (allK))), ((u2 1), .inl (cT 3, 2, .inl (fun _ => 0))), ((u2 2), .inl (cT 0, 900, .inl (fun _ => 0))), ((u2 3), .inl (cT 0, 96, .inl (fun _ => 0))), ((u2 10), .inl (cT 0, 16, .inl (fun _ => 0))), ((u2 11), .inl (cT 0, 4, .inl (rsK))), ((u2 12), .inl (cT 0, 4, .inl (fun _ => 0))), ((u2 13), .inl (cT 1, 160, .inr (.inl (fun _ => 0))))] _ := hP
  have hD : va_D A [(o2, .inr (9, (.int 0 :: .ref (u2 0) :: .ref (u2 1) :: .ref (u2 2) :: .ref (u2 3) :: .int 0 :: .int 0 :: .int 0 :: .int 0 :: .int 0 :: .int 0 :: .int 0 :: .int 0 :: .int 0 :: .int (-1) :: .ref (u2 4) :: .ref (u2 5) :: .int 0 :: .int 0 :: .int 0 :: .ref (u2 6) :: .ref (u2 7) :: .ref (u2 8) :: .int 0 :: .int 0 :: .int 0 :: .int 0 :: .int 0 :: .ref (u2 9) :: .int 0 :: .ref (u2 10) :: .int 0 :: .int 0 :: .int 0 :: .ref (u2 11) :: .ref (u2 12) :: .ref (u2 13) :: []))), ((u2 0), .inl (cT 0, 288, .inl (allK))), ((u2 1), .inl (cT 3, 2, .inl (fun _ => 0))), ((u2 2), .inl (cT 0, 900, .inl (fun _ => 0))), ((u2 3), .inl (cT 0, 96, .inl (fun _ => 0))), ((u2 10), .inl (cT 0, 16, .inl (fun _ => 0))), ((u2 11), .inl (cT 0, 4, .inl (rsK))), ((u2 12), .inl (cT 0, 4, .inl (fun _ => 0))), ((u2 13), .inl (cT 1, 160, .inr (.inl (fun _ => 0))))] := hD
  have hwr_2 : r_2 = if 0 ≤ (xs 1).toInt ∧ (xs 1).toInt ≤ 99 then 60 + (xs 1) else -3 := hwr_2
  subst hwr_2
  refine lv_aload_n hx hb dL_law_678 rfl (lv_at hl 1 rfl) ?_
  refine lv_aload_n hx hb dL_law_679 rfl (lv_at hl 3 rfl) ?_
  refine lv_iload_n hx hb dL_law_680 rfl (lv_at hl 0 rfl) ?_
  refine lv_iconst (v := 1) hx hb dL_law_681 (by decide) ?_
  refine lv_iadd hx hb dL_law_682 ?_
  refine lv_is (y := 1) (by decide) ?_
  refine va_sld hx hb hX hbl hbA hS (by unfold vp_in; decide) dL_law_683 ?_
  refine lv_is (y := xs 1) rfl ?_
  refine xk_i (wr := []) (xr_V (n := 1) (As := [.int (xs 1)]) (rest := [.int (if 0 ≤ (xs 1).toInt ∧ (xs 1).toInt ≤ 99 then 60 + (xs 1) else -3)]) ⟨hx, hb, hml, hown, htg⟩ hK hN hP hD [0, 1] rfl (by decide) (m_fill l D cT _ (o2) (u2) ((xs 1))) wi_1448 wi_1449 wi_1450 wi_131 wi_1451 rfl rfl rfl ⟨rfl, by decide +kernel⟩ ⟨Nat.le_of_ble_eq_true rfl, Nat.le_of_ble_eq_true rfl⟩ rfl hl.1 rfl (Nat.le_of_ble_eq_true rfl) dL_law_684 ⟨Nat.le_of_ble_eq_true rfl, Nat.le_of_ble_eq_true rfl⟩) hP hD hS hA [0, 1] [] rfl rfl (by decide) (by decide) (fun r_4 u_3 H locs hwr_4 hP hD hS => ?_)
  have hP : va_P D classes [] _ := hP
  have hD : va_D A [] := hD
  have hwr_4 : r_4 = if 0 ≤ (xs 1).toInt ∧ (xs 1).toInt ≤ 99 then 60 + (xs 1) else -3 := hwr_4
  subst hwr_4
  refine lv_icmp_eq (tgt := 1455) hx hb dL_law_687 (by decide) (fun _ => ?_) (fun h => absurd rfl h)
  exact lc_end hx hb hr hml hown htg hK hN hX hbl hlk hA hAq hbA o1 o2 hS (lv_sub hl [0, 1, 2, 3] rfl)
set_option maxHeartbeats 4000000 in
set_option maxRecDepth 100000 in
theorem lc_16 {p : Program} {l : Launch} {e : Env} {s : State} {m : MethodId} {below : List Frame} {meth : Method} {c : Code} {b : Nat} {xs : Nat → Int32} {D : va_G} {cT : Nat → ClassId} {A : Nat → Prop} (hx : p.tables.exec = Jvm.exec) (hb : c.code = cL_law) (hr : meth.sig.returnType = ret) (hml : c.maxLocals = 4) (hown : s.vm.findClass RL = some m.cls) (htg : ∀ w ∈ gw_T, w.before #[Value.ref b] s = true) (hK : va_K D classes (tysX cT) s) (hN : NX s) (hX : va_X b 6 xs s s.heap) (hbl : b < s.heap.size) (hlk : meth.locks = false) (hA : ∀ q, s.heap.size ≤ q → A q) (hAq : ∀ q, A q → s.heap.size ≤ q) (hbA : ¬ A b) (o1 o2 : Nat) (u1 u2 : Nat → Nat) {H : Heap} {locs : List Loc} {ls : Array Slot} (hP : va_P D classes (wBig cT o1 o2 u1 u2) H) (hD : va_D A (wBig cT o1 o2 u1 u2)) (hS : va_S A s.heap H locs) (hl : lv_has ls 4 [(3, .int 0), (2, .ref o2), (1, .ref o1), (0, .ref b)]) : W p l e room_1 s m #[Value.ref b] below meth c H locs 2000 100000 (lw_Z below #[Value.ref b] s) (F0 m 692 ls []) := by
  refine lv_aload_n hx hb dL_law_692 rfl (lv_at hl 2 rfl) ?_
  refine lv_aload_n hx hb dL_law_693 rfl (lv_at hl 3 rfl) ?_
  refine lv_iload_n hx hb dL_law_694 rfl (lv_at hl 0 rfl) ?_
  refine lv_iconst (v := 1) hx hb dL_law_695 (by decide) ?_
  refine lv_iadd hx hb dL_law_696 ?_
  refine lv_is (y := 1) (by decide) ?_
  refine va_sld hx hb hX hbl hbA hS (by unfold vp_in; decide) dL_law_697 ?_
  refine lv_is (y := xs 1) rfl ?_
  refine lv_aload_n hx hb dL_law_698 rfl (lv_at hl 3 rfl) ?_
  refine lv_iload_n hx hb dL_law_699 rfl (lv_at hl 0 rfl) ?_
  refine lv_iconst (v := 2) hx hb dL_law_700 (by decide) ?_
  refine lv_iadd hx hb dL_law_701 ?_
  refine lv_is (y := 2) (by decide) ?_
  refine va_sld hx hb hX hbl hbA hS (by unfold vp_in; decide) dL_law_702 ?_
  refine lv_is (y := xs 2) rfl ?_
  refine xk_i (wr := [(o2, .inr (9, (.int 0 :: .ref (u2 0) :: .ref (u2 1) :: .ref (u2 2) :: .ref (u2 3) :: .int 0 :: .int 0 :: .int 0 :: .int 0 :: .int 0 :: .int 0 :: .int 0 :: .int 0 :: .int 0 :: .int (-1) :: .ref (u2 4) :: .ref (u2 5) :: .int 0 :: .int 0 :: .int 0 :: .ref (u2 6) :: .ref (u2 7) :: .ref (u2 8) :: .int 0 :: .int 0 :: .int 0 :: .int 0 :: .int 0 :: .ref (u2 9) :: .int 0 :: .ref (u2 10) :: .int 0 :: .int 0 :: .int 0 :: .ref (u2 11) :: .ref (u2 12) :: .ref (u2 13) :: []))), ((u2 0), .inl (cT 0, 288, .inl (allK))), ((u2 1), .inl (cT 3, 2, .inl (fun _ => 0))), ((u2 2), .inl (cT 0, 900, .inl (fun _ => 0))), ((u2 3), .inl (cT 0, 96, .inl (fun _ => 0))), ((u2 10), .inl (cT 0, 16, .inl (fun _ => 0))), ((u2 11), .inl (cT 0, 4, .inl (rsK))), ((u2 12), .inl (cT 0, 4, .inl (fun _ => 0))), ((u2 13), .inl (cT 1, 160, .inr (.inl (fun _ => 0))))]) (xr_V (n := 2) (As := [.int (xs 1), .int (xs 2)]) (rest := []) ⟨hx, hb, hml, hown, htg⟩ hK hN hP hD [0, 11] rfl (by decide) (k_night l D cT _ (o1) (u1) ((xs 1)) ((xs 2))) wi_809 wi_810 wi_811 wi_121 wi_812 rfl rfl rfl ⟨rfl, by decide +kernel⟩ ⟨Nat.le_of_ble_eq_true rfl, Nat.le_of_ble_eq_true rfl⟩ rfl hl.1 rfl (Nat.le_of_ble_eq_true rfl) dL_law_703 ⟨Nat.le_of_ble_eq_true rfl, Nat.le_of_ble_eq_true rfl⟩) hP hD hS hA [0, 11] [46, 47, 48, 49, 50, 51, 52, 53, 54] rfl rfl (by decide) (by decide) (fun r_2 u_1 H locs hwr_2 hP hD hS => ?_)
  have hP : va_P D classes [(o2, .inr (9, (.int 0 :: .ref (u2 0) :: .ref (u2 1) :: .ref (u2 2) :: .ref (u2 3) :: .int 0 :: .int 0 :: .int 0 :: .int 0 :: .int 0 :: .int 0 :: .int 0 :: .int 0 :: .int 0 :: .int (-1) :: .ref (u2 4) :: .ref (u2 5) :: .int 0 :: .int 0 :: .int 0 :: .ref (u2 6) :: .ref (u2 7) :: .ref (u2 8) :: .int 0 :: .int 0 :: .int 0 :: .int 0 :: .int 0 :: .ref (u2 9) :: .int 0 :: .ref (u2 10) :: .int 0 :: .int 0 :: .int 0 :: .ref (u2 11) :: .ref (u2 12) :: .ref (u2 13) :: []))), ((u2 0), .inl (cT 0, 288, .inl (allK))), ((u2 1), .inl (cT 3, 2, .inl (fun _ => 0))), ((u2 2), .inl (cT 0, 900, .inl (fun _ => 0))), ((u2 3), .inl (cT 0, 96, .inl (fun _ => 0))), ((u2 10), .inl (cT 0, 16, .inl (fun _ => 0))), ((u2 11), .inl (cT 0, 4, .inl (rsK))), ((u2 12), .inl (cT 0, 4, .inl (fun _ => 0))), ((u2 13), .inl (cT 1, 160, .inr (.inl (fun _ => 0))))] _ := hP
  have hD : va_D A [(o2, .inr (9, (.int 0 :: .ref (u2 0) :: .ref (u2 1) :: .ref (u2 2) :: .ref (u2 3) :: .int 0 :: .int 0 :: .int 0 :: .int 0 :: .int 0 :: .int 0 :: .int 0 :: .int 0 :: .int 0 :: .int (-1) :: .ref (u2 4) :: .ref (u2 5) :: .int 0 :: .int 0 :: .int 0 :: .ref (u2 6) :: .ref (u2 7) :: .ref (u2 8) :: .int 0 :: .int 0 :: .int 0 :: .int 0 :: .int 0 :: .ref (u2 9) :: .int 0 :: .ref (u2 10) :: .int 0 :: .int 0 :: .int 0 :: .ref (u2 11) :: .ref (u2 12) :: .ref (u2 13) :: []))), ((u2 0), .inl (cT 0, 288, .inl (allK))), ((u2 1), .inl (cT 3, 2, .inl (fun _ => 0))), ((u2 2), .inl (cT 0, 900, .inl (fun _ => 0))), ((u2 3), .inl (cT 0, 96, .inl (fun _ => 0))), ((u2 10), .inl (cT 0, 16, .inl (fun _ => 0))), ((u2 11), .inl (cT 0, 4, .inl (rsK))), ((u2 12), .inl (cT 0, 4, .inl (fun _ => 0))), ((u2 13), .inl (cT 1, 160, .inr (.inl (fun _ => 0))))] := hD
  have hwr_2 : r_2 = if 1 ≤ (xs 2).toInt ∧ (xs 2).toInt ≤ 60 then -5 else -3 := hwr_2
  subst hwr_2
  refine lv_aload_n hx hb dL_law_706 rfl (lv_at hl 1 rfl) ?_
  refine lv_aload_n hx hb dL_law_707 rfl (lv_at hl 3 rfl) ?_
  refine lv_iload_n hx hb dL_law_708 rfl (lv_at hl 0 rfl) ?_
  refine lv_iconst (v := 1) hx hb dL_law_709 (by decide) ?_
  refine lv_iadd hx hb dL_law_710 ?_
  refine lv_is (y := 1) (by decide) ?_
  refine va_sld hx hb hX hbl hbA hS (by unfold vp_in; decide) dL_law_711 ?_
  refine lv_is (y := xs 1) rfl ?_
  refine lv_aload_n hx hb dL_law_712 rfl (lv_at hl 3 rfl) ?_
  refine lv_iload_n hx hb dL_law_713 rfl (lv_at hl 0 rfl) ?_
  refine lv_iconst (v := 2) hx hb dL_law_714 (by decide) ?_
  refine lv_iadd hx hb dL_law_715 ?_
  refine lv_is (y := 2) (by decide) ?_
  refine va_sld hx hb hX hbl hbA hS (by unfold vp_in; decide) dL_law_716 ?_
  refine lv_is (y := xs 2) rfl ?_
  refine xk_i (wr := []) (xr_V (n := 2) (As := [.int (xs 1), .int (xs 2)]) (rest := [.int (if 1 ≤ (xs 2).toInt ∧ (xs 2).toInt ≤ 60 then -5 else -3)]) ⟨hx, hb, hml, hown, htg⟩ hK hN hP hD [0, 1] rfl (by decide) (m_night l D cT _ (o2) (u2) ((xs 1)) ((xs 2))) wi_1453 wi_1454 wi_1455 wi_131 wi_1456 rfl rfl rfl ⟨rfl, by decide +kernel⟩ ⟨Nat.le_of_ble_eq_true rfl, Nat.le_of_ble_eq_true rfl⟩ rfl hl.1 rfl (Nat.le_of_ble_eq_true rfl) dL_law_717 ⟨Nat.le_of_ble_eq_true rfl, Nat.le_of_ble_eq_true rfl⟩) hP hD hS hA [0, 1] [] rfl rfl (by decide) (by decide) (fun r_4 u_3 H locs hwr_4 hP hD hS => ?_)
  have hP : va_P D classes [] _ := hP
  have hD : va_D A [] := hD
  have hwr_4 : r_4 = if 1 ≤ (xs 2).toInt ∧ (xs 2).toInt ≤ 60 then -5 else -3 := hwr_4
  subst hwr_4
  refine lv_icmp_eq (tgt := 1455) hx hb dL_law_720 (by decide) (fun _ => ?_) (fun h => absurd rfl h)
  exact lc_end hx hb hr hml hown htg hK hN hX hbl hlk hA hAq hbA o1 o2 hS (lv_sub hl [0, 1, 2, 3] rfl)
set_option maxHeartbeats 4000000 in
set_option maxRecDepth 100000 in
theorem lc_17 {p : Program} {l : Launch} {e : Env} {s : State} {m : MethodId} {below : List Frame} {meth : Method} {c : Code} {b : Nat} {xs : Nat → Int32} {D : va_G} {cT : Nat → ClassId} {A : Nat → Prop} (hx : p.tables.exec = Jvm.exec) (hb : c.code = cL_law) (hr : meth.sig.returnType = ret) (hml : c.maxLocals = 4) (hown : s.vm.findClass RL = some m.cls) (htg : ∀ w ∈ gw_T, w.before #[Value.ref b] s = true) (hK : va_K D classes (tysX cT) s) (hN : NX s) (hX : va_X b 6 xs s s.heap) (hbl : b < s.heap.size) (hlk : meth.locks = false) (hA : ∀ q, s.heap.size ≤ q → A q) (hAq : ∀ q, A q → s.heap.size ≤ q) (hbA : ¬ A b) (o1 o2 : Nat) (u1 u2 : Nat → Nat) {H : Heap} {locs : List Loc} {ls : Array Slot} (hP : va_P D classes (wBig cT o1 o2 u1 u2) H) (hD : va_D A (wBig cT o1 o2 u1 u2)) (hS : va_S A s.heap H locs) (hl : lv_has ls 4 [(3, .int 0), (2, .ref o2), (1, .ref o1), (0, .ref b)]) : W p l e room_1 s m #[Value.ref b] below meth c H locs 2000 100000 (lw_Z below #[Value.ref b] s) (F0 m 725 ls []) := by
  refine lv_aload_n hx hb dL_law_725 rfl (lv_at hl 2 rfl) ?_
  refine lv_aload_n hx hb dL_law_726 rfl (lv_at hl 3 rfl) ?_
  refine lv_iload_n hx hb dL_law_727 rfl (lv_at hl 0 rfl) ?_
  refine lv_iconst (v := 1) hx hb dL_law_728 (by decide) ?_
  refine lv_iadd hx hb dL_law_729 ?_
  refine lv_is (y := 1) (by decide) ?_
  refine va_sld hx hb hX hbl hbA hS (by unfold vp_in; decide) dL_law_730 ?_
  refine lv_is (y := xs 1) rfl ?_
  refine lv_aload_n hx hb dL_law_731 rfl (lv_at hl 3 rfl) ?_
  refine lv_iload_n hx hb dL_law_732 rfl (lv_at hl 0 rfl) ?_
  refine lv_iconst (v := 2) hx hb dL_law_733 (by decide) ?_
  refine lv_iadd hx hb dL_law_734 ?_
  refine lv_is (y := 2) (by decide) ?_
  refine va_sld hx hb hX hbl hbA hS (by unfold vp_in; decide) dL_law_735 ?_
  refine lv_is (y := xs 2) rfl ?_
  refine lv_aload_n hx hb dL_law_736 rfl (lv_at hl 3 rfl) ?_
  refine lv_iload_n hx hb dL_law_737 rfl (lv_at hl 0 rfl) ?_
  refine lv_iconst (v := 3) hx hb dL_law_738 (by decide) ?_
  refine lv_iadd hx hb dL_law_739 ?_
  refine lv_is (y := 3) (by decide) ?_
  refine va_sld hx hb hX hbl hbA hS (by unfold vp_in; decide) dL_law_740 ?_
  refine lv_is (y := xs 3) rfl ?_
  refine xk_i (wr := [(o2, .inr (9, (.int 0 :: .ref (u2 0) :: .ref (u2 1) :: .ref (u2 2) :: .ref (u2 3) :: .int 0 :: .int 0 :: .int 0 :: .int 0 :: .int 0 :: .int 0 :: .int 0 :: .int 0 :: .int 0 :: .int (-1) :: .ref (u2 4) :: .ref (u2 5) :: .int 0 :: .int 0 :: .int 0 :: .ref (u2 6) :: .ref (u2 7) :: .ref (u2 8) :: .int 0 :: .int 0 :: .int 0 :: .int 0 :: .int 0 :: .ref (u2 9) :: .int 0 :: .ref (u2 10) :: .int 0 :: .int 0 :: .int 0 :: .ref (u2 11) :: .ref (u2 12) :: .ref (u2 13) :: []))), ((u2 0), .inl (cT 0, 288, .inl (allK))), ((u2 1), .inl (cT 3, 2, .inl (fun _ => 0))), ((u2 2), .inl (cT 0, 900, .inl (fun _ => 0))), ((u2 3), .inl (cT 0, 96, .inl (fun _ => 0))), ((u2 10), .inl (cT 0, 16, .inl (fun _ => 0))), ((u2 11), .inl (cT 0, 4, .inl (rsK))), ((u2 12), .inl (cT 0, 4, .inl (fun _ => 0))), ((u2 13), .inl (cT 1, 160, .inr (.inl (fun _ => 0))))]) (xr_V (n := 3) (As := [.int (xs 1), .int (xs 2), .int (xs 3)]) (rest := []) ⟨hx, hb, hml, hown, htg⟩ hK hN hP hD [0, 11] rfl (by decide) (k_walk l D cT _ (o1) (u1) ((xs 1)) ((xs 2)) ((xs 3))) wi_817 wi_818 wi_819 wi_121 wi_820 rfl rfl rfl ⟨rfl, by decide +kernel⟩ ⟨Nat.le_of_ble_eq_true rfl, Nat.le_of_ble_eq_true rfl⟩ rfl hl.1 rfl (Nat.le_of_ble_eq_true rfl) dL_law_741 ⟨Nat.le_of_ble_eq_true rfl, Nat.le_of_ble_eq_true rfl⟩) hP hD hS hA [0, 11] [46, 47, 48, 49, 50, 51, 52, 53, 54] rfl rfl (by decide) (by decide) (fun r_2 u_1 H locs hwr_2 hP hD hS => ?_)
  have hP : va_P D classes [(o2, .inr (9, (.int 0 :: .ref (u2 0) :: .ref (u2 1) :: .ref (u2 2) :: .ref (u2 3) :: .int 0 :: .int 0 :: .int 0 :: .int 0 :: .int 0 :: .int 0 :: .int 0 :: .int 0 :: .int 0 :: .int (-1) :: .ref (u2 4) :: .ref (u2 5) :: .int 0 :: .int 0 :: .int 0 :: .ref (u2 6) :: .ref (u2 7) :: .ref (u2 8) :: .int 0 :: .int 0 :: .int 0 :: .int 0 :: .int 0 :: .ref (u2 9) :: .int 0 :: .ref (u2 10) :: .int 0 :: .int 0 :: .int 0 :: .ref (u2 11) :: .ref (u2 12) :: .ref (u2 13) :: []))), ((u2 0), .inl (cT 0, 288, .inl (allK))), ((u2 1), .inl (cT 3, 2, .inl (fun _ => 0))), ((u2 2), .inl (cT 0, 900, .inl (fun _ => 0))), ((u2 3), .inl (cT 0, 96, .inl (fun _ => 0))), ((u2 10), .inl (cT 0, 16, .inl (fun _ => 0))), ((u2 11), .inl (cT 0, 4, .inl (rsK))), ((u2 12), .inl (cT 0, 4, .inl (fun _ => 0))), ((u2 13), .inl (cT 1, 160, .inr (.inl (fun _ => 0))))] _ := hP
  have hD : va_D A [(o2, .inr (9, (.int 0 :: .ref (u2 0) :: .ref (u2 1) :: .ref (u2 2) :: .ref (u2 3) :: .int 0 :: .int 0 :: .int 0 :: .int 0 :: .int 0 :: .int 0 :: .int 0 :: .int 0 :: .int 0 :: .int (-1) :: .ref (u2 4) :: .ref (u2 5) :: .int 0 :: .int 0 :: .int 0 :: .ref (u2 6) :: .ref (u2 7) :: .ref (u2 8) :: .int 0 :: .int 0 :: .int 0 :: .int 0 :: .int 0 :: .ref (u2 9) :: .int 0 :: .ref (u2 10) :: .int 0 :: .int 0 :: .int 0 :: .ref (u2 11) :: .ref (u2 12) :: .ref (u2 13) :: []))), ((u2 0), .inl (cT 0, 288, .inl (allK))), ((u2 1), .inl (cT 3, 2, .inl (fun _ => 0))), ((u2 2), .inl (cT 0, 900, .inl (fun _ => 0))), ((u2 3), .inl (cT 0, 96, .inl (fun _ => 0))), ((u2 10), .inl (cT 0, 16, .inl (fun _ => 0))), ((u2 11), .inl (cT 0, 4, .inl (rsK))), ((u2 12), .inl (cT 0, 4, .inl (fun _ => 0))), ((u2 13), .inl (cT 1, 160, .inr (.inl (fun _ => 0))))] := hD
  have hwr_2 : r_2 = -2 := hwr_2
  subst hwr_2
  refine lv_aload_n hx hb dL_law_744 rfl (lv_at hl 1 rfl) ?_
  refine lv_aload_n hx hb dL_law_745 rfl (lv_at hl 3 rfl) ?_
  refine lv_iload_n hx hb dL_law_746 rfl (lv_at hl 0 rfl) ?_
  refine lv_iconst (v := 1) hx hb dL_law_747 (by decide) ?_
  refine lv_iadd hx hb dL_law_748 ?_
  refine lv_is (y := 1) (by decide) ?_
  refine va_sld hx hb hX hbl hbA hS (by unfold vp_in; decide) dL_law_749 ?_
  refine lv_is (y := xs 1) rfl ?_
  refine lv_aload_n hx hb dL_law_750 rfl (lv_at hl 3 rfl) ?_
  refine lv_iload_n hx hb dL_law_751 rfl (lv_at hl 0 rfl) ?_
  refine lv_iconst (v := 2) hx hb dL_law_752 (by decide) ?_
  refine lv_iadd hx hb dL_law_753 ?_
  refine lv_is (y := 2) (by decide) ?_
  refine va_sld hx hb hX hbl hbA hS (by unfold vp_in; decide) dL_law_754 ?_
  refine lv_is (y := xs 2) rfl ?_
  refine lv_aload_n hx hb dL_law_755 rfl (lv_at hl 3 rfl) ?_
  refine lv_iload_n hx hb dL_law_756 rfl (lv_at hl 0 rfl) ?_
  refine lv_iconst (v := 3) hx hb dL_law_757 (by decide) ?_
  refine lv_iadd hx hb dL_law_758 ?_
  refine lv_is (y := 3) (by decide) ?_
  refine va_sld hx hb hX hbl hbA hS (by unfold vp_in; decide) dL_law_759 ?_
  refine lv_is (y := xs 3) rfl ?_
  refine xk_i (wr := []) (xr_V (n := 3) (As := [.int (xs 1), .int (xs 2), .int (xs 3)]) (rest := [.int (-2)]) ⟨hx, hb, hml, hown, htg⟩ hK hN hP hD [0, 1] rfl (by decide) (m_walk l D cT _ (o2) (u2) ((xs 1)) ((xs 2)) ((xs 3))) wi_1463 wi_1464 wi_1465 wi_131 wi_1466 rfl rfl rfl ⟨rfl, by decide +kernel⟩ ⟨Nat.le_of_ble_eq_true rfl, Nat.le_of_ble_eq_true rfl⟩ rfl hl.1 rfl (Nat.le_of_ble_eq_true rfl) dL_law_760 ⟨Nat.le_of_ble_eq_true rfl, Nat.le_of_ble_eq_true rfl⟩) hP hD hS hA [0, 1] [] rfl rfl (by decide) (by decide) (fun r_4 u_3 H locs hwr_4 hP hD hS => ?_)
  have hP : va_P D classes [] _ := hP
  have hD : va_D A [] := hD
  have hwr_4 : r_4 = -2 := hwr_4
  subst hwr_4
  refine lv_icmp_eq (tgt := 1455) hx hb dL_law_763 (by decide) (fun _ => ?_) (fun h => absurd rfl h)
  exact lc_end hx hb hr hml hown htg hK hN hX hbl hlk hA hAq hbA o1 o2 hS (lv_sub hl [0, 1, 2, 3] rfl)
set_option maxHeartbeats 4000000 in
set_option maxRecDepth 100000 in
theorem lc_18 {p : Program} {l : Launch} {e : Env} {s : State} {m : MethodId} {below : List Frame} {meth : Method} {c : Code} {b : Nat} {xs : Nat → Int32} {D : va_G} {cT : Nat → ClassId} {A : Nat → Prop} (hx : p.tables.exec = Jvm.exec) (hb : c.code = cL_law) (hr : meth.sig.returnType = ret) (hml : c.maxLocals = 4) (hown : s.vm.findClass RL = some m.cls) (htg : ∀ w ∈ gw_T, w.before #[Value.ref b] s = true) (hK : va_K D classes (tysX cT) s) (hN : NX s) (hX : va_X b 6 xs s s.heap) (hbl : b < s.heap.size) (hlk : meth.locks = false) (hA : ∀ q, s.heap.size ≤ q → A q) (hAq : ∀ q, A q → s.heap.size ≤ q) (hbA : ¬ A b) (o1 o2 : Nat) (u1 u2 : Nat → Nat) {H : Heap} {locs : List Loc} {ls : Array Slot} (hP : va_P D classes (wBig cT o1 o2 u1 u2) H) (hD : va_D A (wBig cT o1 o2 u1 u2)) (hS : va_S A s.heap H locs) (hl : lv_has ls 4 [(3, .int 0), (2, .ref o2), (1, .ref o1), (0, .ref b)]) : W p l e room_1 s m #[Value.ref b] below meth c H locs 2000 100000 (lw_Z below #[Value.ref b] s) (F0 m 768 ls []) := by
  refine lv_aload_n hx hb dL_law_768 rfl (lv_at hl 2 rfl) ?_
  refine lv_aload_n hx hb dL_law_769 rfl (lv_at hl 3 rfl) ?_
  refine lv_iload_n hx hb dL_law_770 rfl (lv_at hl 0 rfl) ?_
  refine lv_iconst (v := 1) hx hb dL_law_771 (by decide) ?_
  refine lv_iadd hx hb dL_law_772 ?_
  refine lv_is (y := 1) (by decide) ?_
  refine va_sld hx hb hX hbl hbA hS (by unfold vp_in; decide) dL_law_773 ?_
  refine lv_is (y := xs 1) rfl ?_
  refine lv_aload_n hx hb dL_law_774 rfl (lv_at hl 3 rfl) ?_
  refine lv_iload_n hx hb dL_law_775 rfl (lv_at hl 0 rfl) ?_
  refine lv_iconst (v := 2) hx hb dL_law_776 (by decide) ?_
  refine lv_iadd hx hb dL_law_777 ?_
  refine lv_is (y := 2) (by decide) ?_
  refine va_sld hx hb hX hbl hbA hS (by unfold vp_in; decide) dL_law_778 ?_
  refine lv_is (y := xs 2) rfl ?_
  refine xk_i (wr := [(o2, .inr (9, (.int 0 :: .ref (u2 0) :: .ref (u2 1) :: .ref (u2 2) :: .ref (u2 3) :: .int 0 :: .int 0 :: .int 0 :: .int 0 :: .int 0 :: .int 0 :: .int 0 :: .int 0 :: .int 0 :: .int (-1) :: .ref (u2 4) :: .ref (u2 5) :: .int 0 :: .int 0 :: .int 0 :: .ref (u2 6) :: .ref (u2 7) :: .ref (u2 8) :: .int 0 :: .int 0 :: .int 0 :: .int 0 :: .int 0 :: .ref (u2 9) :: .int 0 :: .ref (u2 10) :: .int 0 :: .int 0 :: .int 0 :: .ref (u2 11) :: .ref (u2 12) :: .ref (u2 13) :: []))), ((u2 0), .inl (cT 0, 288, .inl (allK))), ((u2 1), .inl (cT 3, 2, .inl (fun _ => 0))), ((u2 2), .inl (cT 0, 900, .inl (fun _ => 0))), ((u2 3), .inl (cT 0, 96, .inl (fun _ => 0))), ((u2 10), .inl (cT 0, 16, .inl (fun _ => 0))), ((u2 11), .inl (cT 0, 4, .inl (rsK))), ((u2 12), .inl (cT 0, 4, .inl (fun _ => 0))), ((u2 13), .inl (cT 1, 160, .inr (.inl (fun _ => 0))))]) (xr_V (n := 2) (As := [.int (xs 1), .int (xs 2)]) (rest := []) ⟨hx, hb, hml, hown, htg⟩ hK hN hP hD [0, 11] rfl (by decide) (k_most l D cT _ (o1) (u1) ((xs 1)) ((xs 2))) wi_821 wi_822 wi_823 wi_121 wi_824 rfl rfl rfl ⟨rfl, by decide +kernel⟩ ⟨Nat.le_of_ble_eq_true rfl, Nat.le_of_ble_eq_true rfl⟩ rfl hl.1 rfl (Nat.le_of_ble_eq_true rfl) dL_law_779 ⟨Nat.le_of_ble_eq_true rfl, Nat.le_of_ble_eq_true rfl⟩) hP hD hS hA [0, 11] [46, 47, 48, 49, 50, 51, 52, 53, 54] rfl rfl (by decide) (by decide) (fun r_2 u_1 H locs hwr_2 hP hD hS => ?_)
  have hP : va_P D classes [(o2, .inr (9, (.int 0 :: .ref (u2 0) :: .ref (u2 1) :: .ref (u2 2) :: .ref (u2 3) :: .int 0 :: .int 0 :: .int 0 :: .int 0 :: .int 0 :: .int 0 :: .int 0 :: .int 0 :: .int 0 :: .int (-1) :: .ref (u2 4) :: .ref (u2 5) :: .int 0 :: .int 0 :: .int 0 :: .ref (u2 6) :: .ref (u2 7) :: .ref (u2 8) :: .int 0 :: .int 0 :: .int 0 :: .int 0 :: .int 0 :: .ref (u2 9) :: .int 0 :: .ref (u2 10) :: .int 0 :: .int 0 :: .int 0 :: .ref (u2 11) :: .ref (u2 12) :: .ref (u2 13) :: []))), ((u2 0), .inl (cT 0, 288, .inl (allK))), ((u2 1), .inl (cT 3, 2, .inl (fun _ => 0))), ((u2 2), .inl (cT 0, 900, .inl (fun _ => 0))), ((u2 3), .inl (cT 0, 96, .inl (fun _ => 0))), ((u2 10), .inl (cT 0, 16, .inl (fun _ => 0))), ((u2 11), .inl (cT 0, 4, .inl (rsK))), ((u2 12), .inl (cT 0, 4, .inl (fun _ => 0))), ((u2 13), .inl (cT 1, 160, .inr (.inl (fun _ => 0))))] _ := hP
  have hD : va_D A [(o2, .inr (9, (.int 0 :: .ref (u2 0) :: .ref (u2 1) :: .ref (u2 2) :: .ref (u2 3) :: .int 0 :: .int 0 :: .int 0 :: .int 0 :: .int 0 :: .int 0 :: .int 0 :: .int 0 :: .int 0 :: .int (-1) :: .ref (u2 4) :: .ref (u2 5) :: .int 0 :: .int 0 :: .int 0 :: .ref (u2 6) :: .ref (u2 7) :: .ref (u2 8) :: .int 0 :: .int 0 :: .int 0 :: .int 0 :: .int 0 :: .ref (u2 9) :: .int 0 :: .ref (u2 10) :: .int 0 :: .int 0 :: .int 0 :: .ref (u2 11) :: .ref (u2 12) :: .ref (u2 13) :: []))), ((u2 0), .inl (cT 0, 288, .inl (allK))), ((u2 1), .inl (cT 3, 2, .inl (fun _ => 0))), ((u2 2), .inl (cT 0, 900, .inl (fun _ => 0))), ((u2 3), .inl (cT 0, 96, .inl (fun _ => 0))), ((u2 10), .inl (cT 0, 16, .inl (fun _ => 0))), ((u2 11), .inl (cT 0, 4, .inl (rsK))), ((u2 12), .inl (cT 0, 4, .inl (fun _ => 0))), ((u2 13), .inl (cT 1, 160, .inr (.inl (fun _ => 0))))] := hD
  have hwr_2 : r_2 = if (0 ≤ (xs 2).toInt ∧ (xs 2).toInt ≤ 1) ∨ (10 ≤ (xs 2).toInt ∧ (xs 2).toInt < 18) then (if 1 ≤ (xs 1).toInt ∧ (xs 1).toInt ≤ 8 then -5 else -3) else -2 := hwr_2
  subst hwr_2
  refine lv_aload_n hx hb dL_law_782 rfl (lv_at hl 1 rfl) ?_
  refine lv_aload_n hx hb dL_law_783 rfl (lv_at hl 3 rfl) ?_
  refine lv_iload_n hx hb dL_law_784 rfl (lv_at hl 0 rfl) ?_
  refine lv_iconst (v := 1) hx hb dL_law_785 (by decide) ?_
  refine lv_iadd hx hb dL_law_786 ?_
  refine lv_is (y := 1) (by decide) ?_
  refine va_sld hx hb hX hbl hbA hS (by unfold vp_in; decide) dL_law_787 ?_
  refine lv_is (y := xs 1) rfl ?_
  refine lv_aload_n hx hb dL_law_788 rfl (lv_at hl 3 rfl) ?_
  refine lv_iload_n hx hb dL_law_789 rfl (lv_at hl 0 rfl) ?_
  refine lv_iconst (v := 2) hx hb dL_law_790 (by decide) ?_
  refine lv_iadd hx hb dL_law_791 ?_
  refine lv_is (y := 2) (by decide) ?_
  refine va_sld hx hb hX hbl hbA hS (by unfold vp_in; decide) dL_law_792 ?_
  refine lv_is (y := xs 2) rfl ?_
  refine xk_i (wr := []) (xr_V (n := 2) (As := [.int (xs 1), .int (xs 2)]) (rest := [.int (if (0 ≤ (xs 2).toInt ∧ (xs 2).toInt ≤ 1) ∨ (10 ≤ (xs 2).toInt ∧ (xs 2).toInt < 18) then (if 1 ≤ (xs 1).toInt ∧ (xs 1).toInt ≤ 8 then -5 else -3) else -2)]) ⟨hx, hb, hml, hown, htg⟩ hK hN hP hD [0, 1] rfl (by decide) (m_most l D cT _ (o2) (u2) ((xs 1)) ((xs 2))) wi_1467 wi_1468 wi_1469 wi_131 wi_1470 rfl rfl rfl ⟨rfl, by decide +kernel⟩ ⟨Nat.le_of_ble_eq_true rfl, Nat.le_of_ble_eq_true rfl⟩ rfl hl.1 rfl (Nat.le_of_ble_eq_true rfl) dL_law_793 ⟨Nat.le_of_ble_eq_true rfl, Nat.le_of_ble_eq_true rfl⟩) hP hD hS hA [0, 1] [] rfl rfl (by decide) (by decide) (fun r_4 u_3 H locs hwr_4 hP hD hS => ?_)
  have hP : va_P D classes [] _ := hP
  have hD : va_D A [] := hD
  have hwr_4 : r_4 = if (0 ≤ (xs 2).toInt ∧ (xs 2).toInt ≤ 1) ∨ (10 ≤ (xs 2).toInt ∧ (xs 2).toInt < 18) then (if 1 ≤ (xs 1).toInt ∧ (xs 1).toInt ≤ 8 then -5 else -3) else -2 := hwr_4
  subst hwr_4
  refine lv_icmp_eq (tgt := 1455) hx hb dL_law_796 (by decide) (fun _ => ?_) (fun h => absurd rfl h)
  exact lc_end hx hb hr hml hown htg hK hN hX hbl hlk hA hAq hbA o1 o2 hS (lv_sub hl [0, 1, 2, 3] rfl)
set_option maxHeartbeats 4000000 in
set_option maxRecDepth 100000 in
theorem lc_19 {p : Program} {l : Launch} {e : Env} {s : State} {m : MethodId} {below : List Frame} {meth : Method} {c : Code} {b : Nat} {xs : Nat → Int32} {D : va_G} {cT : Nat → ClassId} {A : Nat → Prop} (hx : p.tables.exec = Jvm.exec) (hb : c.code = cL_law) (hr : meth.sig.returnType = ret) (hml : c.maxLocals = 4) (hown : s.vm.findClass RL = some m.cls) (htg : ∀ w ∈ gw_T, w.before #[Value.ref b] s = true) (hK : va_K D classes (tysX cT) s) (hN : NX s) (hX : va_X b 6 xs s s.heap) (hbl : b < s.heap.size) (hlk : meth.locks = false) (hA : ∀ q, s.heap.size ≤ q → A q) (hAq : ∀ q, A q → s.heap.size ≤ q) (hbA : ¬ A b) (o1 o2 : Nat) (u1 u2 : Nat → Nat) {H : Heap} {locs : List Loc} {ls : Array Slot} (hP : va_P D classes (wBig cT o1 o2 u1 u2) H) (hD : va_D A (wBig cT o1 o2 u1 u2)) (hS : va_S A s.heap H locs) (hl : lv_has ls 4 [(3, .int 0), (2, .ref o2), (1, .ref o1), (0, .ref b)]) : W p l e room_1 s m #[Value.ref b] below meth c H locs 2000 100000 (lw_Z below #[Value.ref b] s) (F0 m 801 ls []) := by
  refine lv_aload_n hx hb dL_law_801 rfl (lv_at hl 2 rfl) ?_
  refine lv_aload_n hx hb dL_law_802 rfl (lv_at hl 3 rfl) ?_
  refine lv_iload_n hx hb dL_law_803 rfl (lv_at hl 0 rfl) ?_
  refine lv_iconst (v := 1) hx hb dL_law_804 (by decide) ?_
  refine lv_iadd hx hb dL_law_805 ?_
  refine lv_is (y := 1) (by decide) ?_
  refine va_sld hx hb hX hbl hbA hS (by unfold vp_in; decide) dL_law_806 ?_
  refine lv_is (y := xs 1) rfl ?_
  refine lv_aload_n hx hb dL_law_807 rfl (lv_at hl 3 rfl) ?_
  refine lv_iload_n hx hb dL_law_808 rfl (lv_at hl 0 rfl) ?_
  refine lv_iconst (v := 2) hx hb dL_law_809 (by decide) ?_
  refine lv_iadd hx hb dL_law_810 ?_
  refine lv_is (y := 2) (by decide) ?_
  refine va_sld hx hb hX hbl hbA hS (by unfold vp_in; decide) dL_law_811 ?_
  refine lv_is (y := xs 2) rfl ?_
  refine xk_i (wr := [(o2, .inr (9, (.int 0 :: .ref (u2 0) :: .ref (u2 1) :: .ref (u2 2) :: .ref (u2 3) :: .int 0 :: .int 0 :: .int 0 :: .int 0 :: .int 0 :: .int 0 :: .int 0 :: .int 0 :: .int 0 :: .int (-1) :: .ref (u2 4) :: .ref (u2 5) :: .int 0 :: .int 0 :: .int 0 :: .ref (u2 6) :: .ref (u2 7) :: .ref (u2 8) :: .int 0 :: .int 0 :: .int 0 :: .int 0 :: .int 0 :: .ref (u2 9) :: .int 0 :: .ref (u2 10) :: .int 0 :: .int 0 :: .int 0 :: .ref (u2 11) :: .ref (u2 12) :: .ref (u2 13) :: []))), ((u2 0), .inl (cT 0, 288, .inl (allK))), ((u2 1), .inl (cT 3, 2, .inl (fun _ => 0))), ((u2 2), .inl (cT 0, 900, .inl (fun _ => 0))), ((u2 3), .inl (cT 0, 96, .inl (fun _ => 0))), ((u2 10), .inl (cT 0, 16, .inl (fun _ => 0))), ((u2 11), .inl (cT 0, 4, .inl (rsK))), ((u2 12), .inl (cT 0, 4, .inl (fun _ => 0))), ((u2 13), .inl (cT 1, 160, .inr (.inl (fun _ => 0))))]) (xr_V (n := 2) (As := [.int (xs 1), .int (xs 2)]) (rest := []) ⟨hx, hb, hml, hown, htg⟩ hK hN hP hD [0, 11] rfl (by decide) (k_dearest l D cT _ (o1) (u1) ((xs 1)) ((xs 2))) wi_927 wi_928 wi_929 wi_121 wi_930 rfl rfl rfl ⟨rfl, by decide +kernel⟩ ⟨Nat.le_of_ble_eq_true rfl, Nat.le_of_ble_eq_true rfl⟩ rfl hl.1 rfl (Nat.le_of_ble_eq_true rfl) dL_law_812 ⟨Nat.le_of_ble_eq_true rfl, Nat.le_of_ble_eq_true rfl⟩) hP hD hS hA [0, 11] [46, 47, 48, 49, 50, 51, 52, 53, 54] rfl rfl (by decide) (by decide) (fun r_2 u_1 H locs hwr_2 hP hD hS => ?_)
  have hP : va_P D classes [(o2, .inr (9, (.int 0 :: .ref (u2 0) :: .ref (u2 1) :: .ref (u2 2) :: .ref (u2 3) :: .int 0 :: .int 0 :: .int 0 :: .int 0 :: .int 0 :: .int 0 :: .int 0 :: .int 0 :: .int 0 :: .int (-1) :: .ref (u2 4) :: .ref (u2 5) :: .int 0 :: .int 0 :: .int 0 :: .ref (u2 6) :: .ref (u2 7) :: .ref (u2 8) :: .int 0 :: .int 0 :: .int 0 :: .int 0 :: .int 0 :: .ref (u2 9) :: .int 0 :: .ref (u2 10) :: .int 0 :: .int 0 :: .int 0 :: .ref (u2 11) :: .ref (u2 12) :: .ref (u2 13) :: []))), ((u2 0), .inl (cT 0, 288, .inl (allK))), ((u2 1), .inl (cT 3, 2, .inl (fun _ => 0))), ((u2 2), .inl (cT 0, 900, .inl (fun _ => 0))), ((u2 3), .inl (cT 0, 96, .inl (fun _ => 0))), ((u2 10), .inl (cT 0, 16, .inl (fun _ => 0))), ((u2 11), .inl (cT 0, 4, .inl (rsK))), ((u2 12), .inl (cT 0, 4, .inl (fun _ => 0))), ((u2 13), .inl (cT 1, 160, .inr (.inl (fun _ => 0))))] _ := hP
  have hD : va_D A [(o2, .inr (9, (.int 0 :: .ref (u2 0) :: .ref (u2 1) :: .ref (u2 2) :: .ref (u2 3) :: .int 0 :: .int 0 :: .int 0 :: .int 0 :: .int 0 :: .int 0 :: .int 0 :: .int 0 :: .int 0 :: .int (-1) :: .ref (u2 4) :: .ref (u2 5) :: .int 0 :: .int 0 :: .int 0 :: .ref (u2 6) :: .ref (u2 7) :: .ref (u2 8) :: .int 0 :: .int 0 :: .int 0 :: .int 0 :: .int 0 :: .ref (u2 9) :: .int 0 :: .ref (u2 10) :: .int 0 :: .int 0 :: .int 0 :: .ref (u2 11) :: .ref (u2 12) :: .ref (u2 13) :: []))), ((u2 0), .inl (cT 0, 288, .inl (allK))), ((u2 1), .inl (cT 3, 2, .inl (fun _ => 0))), ((u2 2), .inl (cT 0, 900, .inl (fun _ => 0))), ((u2 3), .inl (cT 0, 96, .inl (fun _ => 0))), ((u2 10), .inl (cT 0, 16, .inl (fun _ => 0))), ((u2 11), .inl (cT 0, 4, .inl (rsK))), ((u2 12), .inl (cT 0, 4, .inl (fun _ => 0))), ((u2 13), .inl (cT 1, 160, .inr (.inl (fun _ => 0))))] := hD
  have hwr_2 : r_2 = if (0 ≤ (xs 2).toInt ∧ (xs 2).toInt ≤ 0) ∨ (10 ≤ (xs 2).toInt ∧ (xs 2).toInt < 18) then (if 1 ≤ (xs 1).toInt ∧ (xs 1).toInt ≤ 8 then -5 else -3) else -2 := hwr_2
  subst hwr_2
  refine lv_aload_n hx hb dL_law_815 rfl (lv_at hl 1 rfl) ?_
  refine lv_aload_n hx hb dL_law_816 rfl (lv_at hl 3 rfl) ?_
  refine lv_iload_n hx hb dL_law_817 rfl (lv_at hl 0 rfl) ?_
  refine lv_iconst (v := 1) hx hb dL_law_818 (by decide) ?_
  refine lv_iadd hx hb dL_law_819 ?_
  refine lv_is (y := 1) (by decide) ?_
  refine va_sld hx hb hX hbl hbA hS (by unfold vp_in; decide) dL_law_820 ?_
  refine lv_is (y := xs 1) rfl ?_
  refine lv_aload_n hx hb dL_law_821 rfl (lv_at hl 3 rfl) ?_
  refine lv_iload_n hx hb dL_law_822 rfl (lv_at hl 0 rfl) ?_
  refine lv_iconst (v := 2) hx hb dL_law_823 (by decide) ?_
  refine lv_iadd hx hb dL_law_824 ?_
  refine lv_is (y := 2) (by decide) ?_
  refine va_sld hx hb hX hbl hbA hS (by unfold vp_in; decide) dL_law_825 ?_
  refine lv_is (y := xs 2) rfl ?_
  refine xk_i (wr := []) (xr_V (n := 2) (As := [.int (xs 1), .int (xs 2)]) (rest := [.int (if (0 ≤ (xs 2).toInt ∧ (xs 2).toInt ≤ 0) ∨ (10 ≤ (xs 2).toInt ∧ (xs 2).toInt < 18) then (if 1 ≤ (xs 1).toInt ∧ (xs 1).toInt ≤ 8 then -5 else -3) else -2)]) ⟨hx, hb, hml, hown, htg⟩ hK hN hP hD [0, 1] rfl (by decide) (m_dearest l D cT _ (o2) (u2) ((xs 1)) ((xs 2))) wi_1498 wi_1499 wi_1500 wi_131 wi_1501 rfl rfl rfl ⟨rfl, by decide +kernel⟩ ⟨Nat.le_of_ble_eq_true rfl, Nat.le_of_ble_eq_true rfl⟩ rfl hl.1 rfl (Nat.le_of_ble_eq_true rfl) dL_law_826 ⟨Nat.le_of_ble_eq_true rfl, Nat.le_of_ble_eq_true rfl⟩) hP hD hS hA [0, 1] [] rfl rfl (by decide) (by decide) (fun r_4 u_3 H locs hwr_4 hP hD hS => ?_)
  have hP : va_P D classes [] _ := hP
  have hD : va_D A [] := hD
  have hwr_4 : r_4 = if (0 ≤ (xs 2).toInt ∧ (xs 2).toInt ≤ 0) ∨ (10 ≤ (xs 2).toInt ∧ (xs 2).toInt < 18) then (if 1 ≤ (xs 1).toInt ∧ (xs 1).toInt ≤ 8 then -5 else -3) else -2 := hwr_4
  subst hwr_4
  refine lv_icmp_eq (tgt := 1455) hx hb dL_law_829 (by decide) (fun _ => ?_) (fun h => absurd rfl h)
  exact lc_end hx hb hr hml hown htg hK hN hX hbl hlk hA hAq hbA o1 o2 hS (lv_sub hl [0, 1, 2, 3] rfl)
