set_option maxHeartbeats 4000000 in
set_option maxRecDepth 100000 in
theorem lc_30 {p : Program} {l : Launch} {e : Env} {s : State} {m : MethodId} {below : List Frame} {meth : Method} {c : Code} {b : Nat} {xs : Nat → Int32} {D : va_G} {cT : Nat → ClassId} {A : Nat → Prop} (hx : p.tables.exec = Jvm.exec) (hb : c.code = cL_law) (hr : meth.sig.returnType = ret) (hml : c.maxLocals = 4) (hown : s.vm.findClass RL = some m.cls) (htg : ∀ w ∈ gw_T, w.before #[Value.ref b] s = true) (hK : va_K D classes (tysX cT) s) (hN : NX s) (hX : va_X b 6 xs s s.heap) (hbl : b < s.heap.size) (hlk : meth.locks = false) (hA : ∀ q, s.heap.size ≤ q → A q) (hAq : ∀ q, A q → s.heap.size ≤ q) (hbA : ¬ A b) (o1 o2 : Nat) (u1 u2 : Nat → Nat) {H : Heap} {locs : List Loc} {ls : Array Slot} (hP : va_P D classes (wBig cT o1 o2 u1 u2) H) (hD : va_D A (wBig cT o1 o2 u1 u2)) (hS : va_S A s.heap H locs) (hl : lv_has ls 4 [(3, .int 0), (2, .ref o2), (1, .ref o1), (0, .ref b)]) : W p l e room_1 s m #[Value.ref b] below meth c H locs 2000 100000 (lw_Z below #[Value.ref b] s) (F0 m 1114 ls []) := by
  refine lv_aload_n hx hb dL_law_1114 rfl (lv_at hl 2 rfl) ?_
  refine lv_aload_n hx hb dL_law_1115 rfl (lv_at hl 3 rfl) ?_
  refine lv_iload_n hx hb dL_law_1116 rfl (lv_at hl 0 rfl) ?_
  refine lv_iconst (v := 1) hx hb dL_law_1117 (by decide) ?_
  refine lv_iadd hx hb dL_law_1118 ?_
  refine lv_is (y := 1) (by decide) ?_
  refine va_sld hx hb hX hbl hbA hS (by unfold vp_in; decide) dL_law_1119 ?_
  refine lv_is (y := xs 1) rfl ?_
  refine lv_aload_n hx hb dL_law_1120 rfl (lv_at hl 3 rfl) ?_
  refine lv_iload_n hx hb dL_law_1121 rfl (lv_at hl 0 rfl) ?_
  refine lv_iconst (v := 2) hx hb dL_law_1122 (by decide) ?_
  refine lv_iadd hx hb dL_law_1123 ?_
  refine lv_is (y := 2) (by decide) ?_
  refine va_sld hx hb hX hbl hbA hS (by unfold vp_in; decide) dL_law_1124 ?_
  refine lv_is (y := xs 2) rfl ?_
  refine xk_i (wr := [(o2, .inr (9, (.int 0 :: .ref (u2 0) :: .ref (u2 1) :: .ref (u2 2) :: .ref (u2 3) :: .int 0 :: .int 0 :: .int 0 :: .int 0 :: .int 0 :: .int 0 :: .int 0 :: .int 0 :: .int 0 :: .int (-1) :: .ref (u2 4) :: .ref (u2 5) :: .int 0 :: .int 0 :: .int 0 :: .ref (u2 6) :: .ref (u2 7) :: .ref (u2 8) :: .int 0 :: .int 0 :: .int 0 :: .int 0 :: .int 0 :: .ref (u2 9) :: .int 0 :: .ref (u2 10) :: .int 0 :: .int 0 :: .int 0 :: .ref (u2 11) :: .ref (u2 12) :: .ref (u2 13) :: []))), ((u2 0), .inl (cT 0, 288, .inl (allK))), ((u2 1), .inl (cT 3, 2, .inl (fun _ => 0))), ((u2 2), .inl (cT 0, 900, .inl (fun _ => 0))), ((u2 3), .inl (cT 0, 96, .inl (fun _ => 0))), ((u2 10), .inl (cT 0, 16, .inl (fun _ => 0))), ((u2 11), .inl (cT 0, 4, .inl (rsK))), ((u2 12), .inl (cT 0, 4, .inl (fun _ => 0))), ((u2 13), .inl (cT 1, 160, .inr (.inl (fun _ => 0))))]) (xr_V (n := 2) (As := [.int (xs 1), .int (xs 2)]) (rest := []) ⟨hx, hb, hml, hown, htg⟩ hK hN hP hD [0, 34, 35, 36, 37, 38] rfl (by decide) (k_stubble l D cT _ (o1) (u1) ((xs 1)) ((xs 2))) wi_1043 wi_1044 wi_1045 wi_121 wi_1046 rfl rfl rfl ⟨rfl, by decide +kernel⟩ ⟨Nat.le_of_ble_eq_true rfl, Nat.le_of_ble_eq_true rfl⟩ rfl hl.1 rfl (Nat.le_of_ble_eq_true rfl) dL_law_1125 ⟨Nat.le_of_ble_eq_true rfl, Nat.le_of_ble_eq_true rfl⟩) hP hD hS hA [0, 34, 35, 36, 37, 38] [46, 47, 48, 49, 50, 51, 52, 53, 54] rfl rfl (by decide) (by decide) (fun r_2 u_1 H locs hwr_2 hP hD hS => ?_)
  have hP : va_P D classes [(o2, .inr (9, (.int 0 :: .ref (u2 0) :: .ref (u2 1) :: .ref (u2 2) :: .ref (u2 3) :: .int 0 :: .int 0 :: .int 0 :: .int 0 :: .int 0 :: .int 0 :: .int 0 :: .int 0 :: .int 0 :: .int (-1) :: .ref (u2 4) :: .ref (u2 5) :: .int 0 :: .int 0 :: .int 0 :: .ref (u2 6) :: .ref (u2 7) :: .ref (u2 8) :: .int 0 :: .int 0 :: .int 0 :: .int 0 :: .int 0 :: .ref (u2 9) :: .int 0 :: .ref (u2 10) :: .int 0 :: .int 0 :: .int 0 :: .ref (u2 11) :: .ref (u2 12) :: .ref (u2 13) :: []))), ((u2 0), .inl (cT 0, 288, .inl (allK))), ((u2 1), .inl (cT 3, 2, .inl (fun _ => 0))), ((u2 2), .inl (cT 0, 900, .inl (fun _ => 0))), ((u2 3), .inl (cT 0, 96, .inl (fun _ => 0))), ((u2 10), .inl (cT 0, 16, .inl (fun _ => 0))), ((u2 11), .inl (cT 0, 4, .inl (rsK))), ((u2 12), .inl (cT 0, 4, .inl (fun _ => 0))), ((u2 13), .inl (cT 1, 160, .inr (.inl (fun _ => 0))))] _ := hP
  have hD : va_D A [(o2, .inr (9, (.int 0 :: .ref (u2 0) :: .ref (u2 1) :: .ref (u2 2) :: .ref (u2 3) :: .int 0 :: .int 0 :: .int 0 :: .int 0 :: .int 0 :: .int 0 :: .int 0 :: .int 0 :: .int 0 :: .int (-1) :: .ref (u2 4) :: .ref (u2 5) :: .int 0 :: .int 0 :: .int 0 :: .ref (u2 6) :: .ref (u2 7) :: .ref (u2 8) :: .int 0 :: .int 0 :: .int 0 :: .int 0 :: .int 0 :: .ref (u2 9) :: .int 0 :: .ref (u2 10) :: .int 0 :: .int 0 :: .int 0 :: .ref (u2 11) :: .ref (u2 12) :: .ref (u2 13) :: []))), ((u2 0), .inl (cT 0, 288, .inl (allK))), ((u2 1), .inl (cT 3, 2, .inl (fun _ => 0))), ((u2 2), .inl (cT 0, 900, .inl (fun _ => 0))), ((u2 3), .inl (cT 0, 96, .inl (fun _ => 0))), ((u2 10), .inl (cT 0, 16, .inl (fun _ => 0))), ((u2 11), .inl (cT 0, 4, .inl (rsK))), ((u2 12), .inl (cT 0, 4, .inl (fun _ => 0))), ((u2 13), .inl (cT 1, 160, .inr (.inl (fun _ => 0))))] := hD
  have hwr_2 : r_2 = if 0 ≤ (xs 1).toInt ∧ (xs 1).toInt < 4 then -6 else -2 := hwr_2
  subst hwr_2
  refine lv_aload_n hx hb dL_law_1128 rfl (lv_at hl 1 rfl) ?_
  refine lv_aload_n hx hb dL_law_1129 rfl (lv_at hl 3 rfl) ?_
  refine lv_iload_n hx hb dL_law_1130 rfl (lv_at hl 0 rfl) ?_
  refine lv_iconst (v := 1) hx hb dL_law_1131 (by decide) ?_
  refine lv_iadd hx hb dL_law_1132 ?_
  refine lv_is (y := 1) (by decide) ?_
  refine va_sld hx hb hX hbl hbA hS (by unfold vp_in; decide) dL_law_1133 ?_
  refine lv_is (y := xs 1) rfl ?_
  refine lv_aload_n hx hb dL_law_1134 rfl (lv_at hl 3 rfl) ?_
  refine lv_iload_n hx hb dL_law_1135 rfl (lv_at hl 0 rfl) ?_
  refine lv_iconst (v := 2) hx hb dL_law_1136 (by decide) ?_
  refine lv_iadd hx hb dL_law_1137 ?_
  refine lv_is (y := 2) (by decide) ?_
  refine va_sld hx hb hX hbl hbA hS (by unfold vp_in; decide) dL_law_1138 ?_
  refine lv_is (y := xs 2) rfl ?_
  refine xk_i (wr := []) (xr_V (n := 2) (As := [.int (xs 1), .int (xs 2)]) (rest := [.int (if 0 ≤ (xs 1).toInt ∧ (xs 1).toInt < 4 then -6 else -2)]) ⟨hx, hb, hml, hown, htg⟩ hK hN hP hD [0, 6] rfl (by decide) (m_stubble l D cT _ (o2) (u2) ((xs 1)) ((xs 2))) wi_1559 wi_1560 wi_1561 wi_131 wi_1562 rfl rfl rfl ⟨rfl, by decide +kernel⟩ ⟨Nat.le_of_ble_eq_true rfl, Nat.le_of_ble_eq_true rfl⟩ rfl hl.1 rfl (Nat.le_of_ble_eq_true rfl) dL_law_1139 ⟨Nat.le_of_ble_eq_true rfl, Nat.le_of_ble_eq_true rfl⟩) hP hD hS hA [0, 6] [] rfl rfl (by decide) (by decide) (fun r_4 u_3 H locs hwr_4 hP hD hS => ?_)
  have hP : va_P D classes [] _ := hP
  have hD : va_D A [] := hD
  have hwr_4 : r_4 = if 0 ≤ (xs 1).toInt ∧ (xs 1).toInt < 4 then -6 else -2 := hwr_4
  subst hwr_4
  refine lv_icmp_eq (tgt := 1455) hx hb dL_law_1142 (by decide) (fun _ => ?_) (fun h => absurd rfl h)
  exact lc_end hx hb hr hml hown htg hK hN hX hbl hlk hA hAq hbA o1 o2 hS (lv_sub hl [0, 1, 2, 3] rfl)
set_option maxHeartbeats 4000000 in
set_option maxRecDepth 100000 in
theorem lc_31 {p : Program} {l : Launch} {e : Env} {s : State} {m : MethodId} {below : List Frame} {meth : Method} {c : Code} {b : Nat} {xs : Nat → Int32} {D : va_G} {cT : Nat → ClassId} {A : Nat → Prop} (hx : p.tables.exec = Jvm.exec) (hb : c.code = cL_law) (hr : meth.sig.returnType = ret) (hml : c.maxLocals = 4) (hown : s.vm.findClass RL = some m.cls) (htg : ∀ w ∈ gw_T, w.before #[Value.ref b] s = true) (hK : va_K D classes (tysX cT) s) (hN : NX s) (hX : va_X b 6 xs s s.heap) (hbl : b < s.heap.size) (hlk : meth.locks = false) (hA : ∀ q, s.heap.size ≤ q → A q) (hAq : ∀ q, A q → s.heap.size ≤ q) (hbA : ¬ A b) (o1 o2 : Nat) (u1 u2 : Nat → Nat) {H : Heap} {locs : List Loc} {ls : Array Slot} (hP : va_P D classes (wBig cT o1 o2 u1 u2) H) (hD : va_D A (wBig cT o1 o2 u1 u2)) (hS : va_S A s.heap H locs) (hl : lv_has ls 4 [(3, .int 0), (2, .ref o2), (1, .ref o1), (0, .ref b)]) : W p l e room_1 s m #[Value.ref b] below meth c H locs 2000 100000 (lw_Z below #[Value.ref b] s) (F0 m 1147 ls []) := by
  refine lv_aload_n hx hb dL_law_1147 rfl (lv_at hl 2 rfl) ?_
  refine lv_aload_n hx hb dL_law_1148 rfl (lv_at hl 3 rfl) ?_
  refine lv_iload_n hx hb dL_law_1149 rfl (lv_at hl 0 rfl) ?_
  refine lv_iconst (v := 1) hx hb dL_law_1150 (by decide) ?_
  refine lv_iadd hx hb dL_law_1151 ?_
  refine lv_is (y := 1) (by decide) ?_
  refine va_sld hx hb hX hbl hbA hS (by unfold vp_in; decide) dL_law_1152 ?_
  refine lv_is (y := xs 1) rfl ?_
  refine lv_aload_n hx hb dL_law_1153 rfl (lv_at hl 3 rfl) ?_
  refine lv_iload_n hx hb dL_law_1154 rfl (lv_at hl 0 rfl) ?_
  refine lv_iconst (v := 2) hx hb dL_law_1155 (by decide) ?_
  refine lv_iadd hx hb dL_law_1156 ?_
  refine lv_is (y := 2) (by decide) ?_
  refine va_sld hx hb hX hbl hbA hS (by unfold vp_in; decide) dL_law_1157 ?_
  refine lv_is (y := xs 2) rfl ?_
  refine xk_i (wr := [(o2, .inr (9, (.int 0 :: .ref (u2 0) :: .ref (u2 1) :: .ref (u2 2) :: .ref (u2 3) :: .int 0 :: .int 0 :: .int 0 :: .int 0 :: .int 0 :: .int 0 :: .int 0 :: .int 0 :: .int 0 :: .int (-1) :: .ref (u2 4) :: .ref (u2 5) :: .int 0 :: .int 0 :: .int 0 :: .ref (u2 6) :: .ref (u2 7) :: .ref (u2 8) :: .int 0 :: .int 0 :: .int 0 :: .int 0 :: .int 0 :: .ref (u2 9) :: .int 0 :: .ref (u2 10) :: .int 0 :: .int 0 :: .int 0 :: .ref (u2 11) :: .ref (u2 12) :: .ref (u2 13) :: []))), ((u2 0), .inl (cT 0, 288, .inl (allK))), ((u2 1), .inl (cT 3, 2, .inl (fun _ => 0))), ((u2 2), .inl (cT 0, 900, .inl (fun _ => 0))), ((u2 3), .inl (cT 0, 96, .inl (fun _ => 0))), ((u2 10), .inl (cT 0, 16, .inl (fun _ => 0))), ((u2 11), .inl (cT 0, 4, .inl (rsK))), ((u2 12), .inl (cT 0, 4, .inl (fun _ => 0))), ((u2 13), .inl (cT 1, 160, .inr (.inl (fun _ => 0))))]) (xr_V (n := 2) (As := [.int (xs 1), .int (xs 2)]) (rest := []) ⟨hx, hb, hml, hown, htg⟩ hK hN hP hD [0, 34, 35, 36, 37, 38] rfl (by decide) (k_sure l D cT _ (o1) (u1) ((xs 1)) ((xs 2))) wi_1073 wi_1074 wi_1075 wi_121 wi_1076 rfl rfl rfl ⟨rfl, by decide +kernel⟩ ⟨Nat.le_of_ble_eq_true rfl, Nat.le_of_ble_eq_true rfl⟩ rfl hl.1 rfl (Nat.le_of_ble_eq_true rfl) dL_law_1158 ⟨Nat.le_of_ble_eq_true rfl, Nat.le_of_ble_eq_true rfl⟩) hP hD hS hA [0, 34, 35, 36, 37, 38] [46, 47, 48, 49, 50, 51, 52, 53, 54] rfl rfl (by decide) (by decide) (fun r_2 u_1 H locs hwr_2 hP hD hS => ?_)
  have hP : va_P D classes [(o2, .inr (9, (.int 0 :: .ref (u2 0) :: .ref (u2 1) :: .ref (u2 2) :: .ref (u2 3) :: .int 0 :: .int 0 :: .int 0 :: .int 0 :: .int 0 :: .int 0 :: .int 0 :: .int 0 :: .int 0 :: .int (-1) :: .ref (u2 4) :: .ref (u2 5) :: .int 0 :: .int 0 :: .int 0 :: .ref (u2 6) :: .ref (u2 7) :: .ref (u2 8) :: .int 0 :: .int 0 :: .int 0 :: .int 0 :: .int 0 :: .ref (u2 9) :: .int 0 :: .ref (u2 10) :: .int 0 :: .int 0 :: .int 0 :: .ref (u2 11) :: .ref (u2 12) :: .ref (u2 13) :: []))), ((u2 0), .inl (cT 0, 288, .inl (allK))), ((u2 1), .inl (cT 3, 2, .inl (fun _ => 0))), ((u2 2), .inl (cT 0, 900, .inl (fun _ => 0))), ((u2 3), .inl (cT 0, 96, .inl (fun _ => 0))), ((u2 10), .inl (cT 0, 16, .inl (fun _ => 0))), ((u2 11), .inl (cT 0, 4, .inl (rsK))), ((u2 12), .inl (cT 0, 4, .inl (fun _ => 0))), ((u2 13), .inl (cT 1, 160, .inr (.inl (fun _ => 0))))] _ := hP
  have hD : va_D A [(o2, .inr (9, (.int 0 :: .ref (u2 0) :: .ref (u2 1) :: .ref (u2 2) :: .ref (u2 3) :: .int 0 :: .int 0 :: .int 0 :: .int 0 :: .int 0 :: .int 0 :: .int 0 :: .int 0 :: .int 0 :: .int (-1) :: .ref (u2 4) :: .ref (u2 5) :: .int 0 :: .int 0 :: .int 0 :: .ref (u2 6) :: .ref (u2 7) :: .ref (u2 8) :: .int 0 :: .int 0 :: .int 0 :: .int 0 :: .int 0 :: .ref (u2 9) :: .int 0 :: .ref (u2 10) :: .int 0 :: .int 0 :: .int 0 :: .ref (u2 11) :: .ref (u2 12) :: .ref (u2 13) :: []))), ((u2 0), .inl (cT 0, 288, .inl (allK))), ((u2 1), .inl (cT 3, 2, .inl (fun _ => 0))), ((u2 2), .inl (cT 0, 900, .inl (fun _ => 0))), ((u2 3), .inl (cT 0, 96, .inl (fun _ => 0))), ((u2 10), .inl (cT 0, 16, .inl (fun _ => 0))), ((u2 11), .inl (cT 0, 4, .inl (rsK))), ((u2 12), .inl (cT 0, 4, .inl (fun _ => 0))), ((u2 13), .inl (cT 1, 160, .inr (.inl (fun _ => 0))))] := hD
  have hwr_2 : r_2 = if 0 ≤ (xs 1).toInt ∧ (xs 1).toInt < 4 then -6 else -2 := hwr_2
  subst hwr_2
  refine lv_aload_n hx hb dL_law_1161 rfl (lv_at hl 1 rfl) ?_
  refine lv_aload_n hx hb dL_law_1162 rfl (lv_at hl 3 rfl) ?_
  refine lv_iload_n hx hb dL_law_1163 rfl (lv_at hl 0 rfl) ?_
  refine lv_iconst (v := 1) hx hb dL_law_1164 (by decide) ?_
  refine lv_iadd hx hb dL_law_1165 ?_
  refine lv_is (y := 1) (by decide) ?_
  refine va_sld hx hb hX hbl hbA hS (by unfold vp_in; decide) dL_law_1166 ?_
  refine lv_is (y := xs 1) rfl ?_
  refine lv_aload_n hx hb dL_law_1167 rfl (lv_at hl 3 rfl) ?_
  refine lv_iload_n hx hb dL_law_1168 rfl (lv_at hl 0 rfl) ?_
  refine lv_iconst (v := 2) hx hb dL_law_1169 (by decide) ?_
  refine lv_iadd hx hb dL_law_1170 ?_
  refine lv_is (y := 2) (by decide) ?_
  refine va_sld hx hb hX hbl hbA hS (by unfold vp_in; decide) dL_law_1171 ?_
  refine lv_is (y := xs 2) rfl ?_
  refine xk_i (wr := []) (xr_V (n := 2) (As := [.int (xs 1), .int (xs 2)]) (rest := [.int (if 0 ≤ (xs 1).toInt ∧ (xs 1).toInt < 4 then -6 else -2)]) ⟨hx, hb, hml, hown, htg⟩ hK hN hP hD [0, 6] rfl (by decide) (m_sure l D cT _ (o2) (u2) ((xs 1)) ((xs 2))) wi_1571 wi_1572 wi_1573 wi_131 wi_1574 rfl rfl rfl ⟨rfl, by decide +kernel⟩ ⟨Nat.le_of_ble_eq_true rfl, Nat.le_of_ble_eq_true rfl⟩ rfl hl.1 rfl (Nat.le_of_ble_eq_true rfl) dL_law_1172 ⟨Nat.le_of_ble_eq_true rfl, Nat.le_of_ble_eq_true rfl⟩) hP hD hS hA [0, 6] [] rfl rfl (by decide) (by decide) (fun r_4 u_3 H locs hwr_4 hP hD hS => ?_)
  have hP : va_P D classes [] _ := hP
  have hD : va_D A [] := hD
  have hwr_4 : r_4 = if 0 ≤ (xs 1).toInt ∧ (xs 1).toInt < 4 then -6 else -2 := hwr_4
  subst hwr_4
  refine lv_icmp_eq (tgt := 1455) hx hb dL_law_1175 (by decide) (fun _ => ?_) (fun h => absurd rfl h)
  exact lc_end hx hb hr hml hown htg hK hN hX hbl hlk hA hAq hbA o1 o2 hS (lv_sub hl [0, 1, 2, 3] rfl)
set_option maxHeartbeats 4000000 in
set_option maxRecDepth 100000 in
theorem lc_32 {p : Program} {l : Launch} {e : Env} {s : State} {m : MethodId} {below : List Frame} {meth : Method} {c : Code} {b : Nat} {xs : Nat → Int32} {D : va_G} {cT : Nat → ClassId} {A : Nat → Prop} (hx : p.tables.exec = Jvm.exec) (hb : c.code = cL_law) (hr : meth.sig.returnType = ret) (hml : c.maxLocals = 4) (hown : s.vm.findClass RL = some m.cls) (htg : ∀ w ∈ gw_T, w.before #[Value.ref b] s = true) (hK : va_K D classes (tysX cT) s) (hN : NX s) (hX : va_X b 6 xs s s.heap) (hbl : b < s.heap.size) (hlk : meth.locks = false) (hA : ∀ q, s.heap.size ≤ q → A q) (hAq : ∀ q, A q → s.heap.size ≤ q) (hbA : ¬ A b) (o1 o2 : Nat) (u1 u2 : Nat → Nat) {H : Heap} {locs : List Loc} {ls : Array Slot} (hP : va_P D classes (wBig cT o1 o2 u1 u2) H) (hD : va_D A (wBig cT o1 o2 u1 u2)) (hS : va_S A s.heap H locs) (hl : lv_has ls 4 [(3, .int 0), (2, .ref o2), (1, .ref o1), (0, .ref b)]) : W p l e room_1 s m #[Value.ref b] below meth c H locs 2000 100000 (lw_Z below #[Value.ref b] s) (F0 m 1180 ls []) := by
  refine lv_aload_n hx hb dL_law_1180 rfl (lv_at hl 2 rfl) ?_
  refine lv_aload_n hx hb dL_law_1181 rfl (lv_at hl 3 rfl) ?_
  refine lv_iload_n hx hb dL_law_1182 rfl (lv_at hl 0 rfl) ?_
  refine lv_iconst (v := 1) hx hb dL_law_1183 (by decide) ?_
  refine lv_iadd hx hb dL_law_1184 ?_
  refine lv_is (y := 1) (by decide) ?_
  refine va_sld hx hb hX hbl hbA hS (by unfold vp_in; decide) dL_law_1185 ?_
  refine lv_is (y := xs 1) rfl ?_
  refine lv_aload_n hx hb dL_law_1186 rfl (lv_at hl 3 rfl) ?_
  refine lv_iload_n hx hb dL_law_1187 rfl (lv_at hl 0 rfl) ?_
  refine lv_iconst (v := 2) hx hb dL_law_1188 (by decide) ?_
  refine lv_iadd hx hb dL_law_1189 ?_
  refine lv_is (y := 2) (by decide) ?_
  refine va_sld hx hb hX hbl hbA hS (by unfold vp_in; decide) dL_law_1190 ?_
  refine lv_is (y := xs 2) rfl ?_
  refine xk_i (wr := [(o2, .inr (9, (.int 0 :: .ref (u2 0) :: .ref (u2 1) :: .ref (u2 2) :: .ref (u2 3) :: .int 0 :: .int 0 :: .int 0 :: .int 0 :: .int 0 :: .int 0 :: .int 0 :: .int 0 :: .int 0 :: .int (-1) :: .ref (u2 4) :: .ref (u2 5) :: .int 0 :: .int 0 :: .int 0 :: .ref (u2 6) :: .ref (u2 7) :: .ref (u2 8) :: .int 0 :: .int 0 :: .int 0 :: .int 0 :: .int 0 :: .ref (u2 9) :: .int 0 :: .ref (u2 10) :: .int 0 :: .int 0 :: .int 0 :: .ref (u2 11) :: .ref (u2 12) :: .ref (u2 13) :: []))), ((u2 0), .inl (cT 0, 288, .inl (allK))), ((u2 1), .inl (cT 3, 2, .inl (fun _ => 0))), ((u2 2), .inl (cT 0, 900, .inl (fun _ => 0))), ((u2 3), .inl (cT 0, 96, .inl (fun _ => 0))), ((u2 10), .inl (cT 0, 16, .inl (fun _ => 0))), ((u2 11), .inl (cT 0, 4, .inl (rsK))), ((u2 12), .inl (cT 0, 4, .inl (fun _ => 0))), ((u2 13), .inl (cT 1, 160, .inr (.inl (fun _ => 0))))]) (xr_V (n := 2) (As := [.int (xs 1), .int (xs 2)]) (rest := []) ⟨hx, hb, hml, hown, htg⟩ hK hN hP hD [0, 34, 35, 36, 37, 38] rfl (by decide) (k_meets l D cT _ (o1) (u1) ((xs 1)) ((xs 2))) wi_1077 wi_1078 wi_1079 wi_121 wi_1080 rfl rfl rfl ⟨rfl, by decide +kernel⟩ ⟨Nat.le_of_ble_eq_true rfl, Nat.le_of_ble_eq_true rfl⟩ rfl hl.1 rfl (Nat.le_of_ble_eq_true rfl) dL_law_1191 ⟨Nat.le_of_ble_eq_true rfl, Nat.le_of_ble_eq_true rfl⟩) hP hD hS hA [0, 34, 35, 36, 37, 38] [46, 47, 48, 49, 50, 51, 52, 53, 54] rfl rfl (by decide) (by decide) (fun r_2 u_1 H locs hwr_2 hP hD hS => ?_)
  have hP : va_P D classes [(o2, .inr (9, (.int 0 :: .ref (u2 0) :: .ref (u2 1) :: .ref (u2 2) :: .ref (u2 3) :: .int 0 :: .int 0 :: .int 0 :: .int 0 :: .int 0 :: .int 0 :: .int 0 :: .int 0 :: .int 0 :: .int (-1) :: .ref (u2 4) :: .ref (u2 5) :: .int 0 :: .int 0 :: .int 0 :: .ref (u2 6) :: .ref (u2 7) :: .ref (u2 8) :: .int 0 :: .int 0 :: .int 0 :: .int 0 :: .int 0 :: .ref (u2 9) :: .int 0 :: .ref (u2 10) :: .int 0 :: .int 0 :: .int 0 :: .ref (u2 11) :: .ref (u2 12) :: .ref (u2 13) :: []))), ((u2 0), .inl (cT 0, 288, .inl (allK))), ((u2 1), .inl (cT 3, 2, .inl (fun _ => 0))), ((u2 2), .inl (cT 0, 900, .inl (fun _ => 0))), ((u2 3), .inl (cT 0, 96, .inl (fun _ => 0))), ((u2 10), .inl (cT 0, 16, .inl (fun _ => 0))), ((u2 11), .inl (cT 0, 4, .inl (rsK))), ((u2 12), .inl (cT 0, 4, .inl (fun _ => 0))), ((u2 13), .inl (cT 1, 160, .inr (.inl (fun _ => 0))))] _ := hP
  have hD : va_D A [(o2, .inr (9, (.int 0 :: .ref (u2 0) :: .ref (u2 1) :: .ref (u2 2) :: .ref (u2 3) :: .int 0 :: .int 0 :: .int 0 :: .int 0 :: .int 0 :: .int 0 :: .int 0 :: .int 0 :: .int 0 :: .int (-1) :: .ref (u2 4) :: .ref (u2 5) :: .int 0 :: .int 0 :: .int 0 :: .ref (u2 6) :: .ref (u2 7) :: .ref (u2 8) :: .int 0 :: .int 0 :: .int 0 :: .int 0 :: .int 0 :: .ref (u2 9) :: .int 0 :: .ref (u2 10) :: .int 0 :: .int 0 :: .int 0 :: .ref (u2 11) :: .ref (u2 12) :: .ref (u2 13) :: []))), ((u2 0), .inl (cT 0, 288, .inl (allK))), ((u2 1), .inl (cT 3, 2, .inl (fun _ => 0))), ((u2 2), .inl (cT 0, 900, .inl (fun _ => 0))), ((u2 3), .inl (cT 0, 96, .inl (fun _ => 0))), ((u2 10), .inl (cT 0, 16, .inl (fun _ => 0))), ((u2 11), .inl (cT 0, 4, .inl (rsK))), ((u2 12), .inl (cT 0, 4, .inl (fun _ => 0))), ((u2 13), .inl (cT 1, 160, .inr (.inl (fun _ => 0))))] := hD
  have hwr_2 : r_2 = if (0 ≤ (xs 1).toInt ∧ (xs 1).toInt < 4) ∧ (0 ≤ (xs 2).toInt ∧ (xs 2).toInt < 4) then -6 else -2 := hwr_2
  subst hwr_2
  refine lv_aload_n hx hb dL_law_1194 rfl (lv_at hl 1 rfl) ?_
  refine lv_aload_n hx hb dL_law_1195 rfl (lv_at hl 3 rfl) ?_
  refine lv_iload_n hx hb dL_law_1196 rfl (lv_at hl 0 rfl) ?_
  refine lv_iconst (v := 1) hx hb dL_law_1197 (by decide) ?_
  refine lv_iadd hx hb dL_law_1198 ?_
  refine lv_is (y := 1) (by decide) ?_
  refine va_sld hx hb hX hbl hbA hS (by unfold vp_in; decide) dL_law_1199 ?_
  refine lv_is (y := xs 1) rfl ?_
  refine lv_aload_n hx hb dL_law_1200 rfl (lv_at hl 3 rfl) ?_
  refine lv_iload_n hx hb dL_law_1201 rfl (lv_at hl 0 rfl) ?_
  refine lv_iconst (v := 2) hx hb dL_law_1202 (by decide) ?_
  refine lv_iadd hx hb dL_law_1203 ?_
  refine lv_is (y := 2) (by decide) ?_
  refine va_sld hx hb hX hbl hbA hS (by unfold vp_in; decide) dL_law_1204 ?_
  refine lv_is (y := xs 2) rfl ?_
  refine xk_i (wr := []) (xr_V (n := 2) (As := [.int (xs 1), .int (xs 2)]) (rest := [.int (if (0 ≤ (xs 1).toInt ∧ (xs 1).toInt < 4) ∧ (0 ≤ (xs 2).toInt ∧ (xs 2).toInt < 4) then -6 else -2)]) ⟨hx, hb, hml, hown, htg⟩ hK hN hP hD [0, 6] rfl (by decide) (m_meets l D cT _ (o2) (u2) ((xs 1)) ((xs 2))) wi_1575 wi_1576 wi_1577 wi_131 wi_1578 rfl rfl rfl ⟨rfl, by decide +kernel⟩ ⟨Nat.le_of_ble_eq_true rfl, Nat.le_of_ble_eq_true rfl⟩ rfl hl.1 rfl (Nat.le_of_ble_eq_true rfl) dL_law_1205 ⟨Nat.le_of_ble_eq_true rfl, Nat.le_of_ble_eq_true rfl⟩) hP hD hS hA [0, 6] [] rfl rfl (by decide) (by decide) (fun r_4 u_3 H locs hwr_4 hP hD hS => ?_)
  have hP : va_P D classes [] _ := hP
  have hD : va_D A [] := hD
  have hwr_4 : r_4 = if (0 ≤ (xs 1).toInt ∧ (xs 1).toInt < 4) ∧ (0 ≤ (xs 2).toInt ∧ (xs 2).toInt < 4) then -6 else -2 := hwr_4
  subst hwr_4
  refine lv_icmp_eq (tgt := 1455) hx hb dL_law_1208 (by decide) (fun _ => ?_) (fun h => absurd rfl h)
  exact lc_end hx hb hr hml hown htg hK hN hX hbl hlk hA hAq hbA o1 o2 hS (lv_sub hl [0, 1, 2, 3] rfl)
set_option maxHeartbeats 4000000 in
set_option maxRecDepth 100000 in
theorem lc_33 {p : Program} {l : Launch} {e : Env} {s : State} {m : MethodId} {below : List Frame} {meth : Method} {c : Code} {b : Nat} {xs : Nat → Int32} {D : va_G} {cT : Nat → ClassId} {A : Nat → Prop} (hx : p.tables.exec = Jvm.exec) (hb : c.code = cL_law) (hr : meth.sig.returnType = ret) (hml : c.maxLocals = 4) (hown : s.vm.findClass RL = some m.cls) (htg : ∀ w ∈ gw_T, w.before #[Value.ref b] s = true) (hK : va_K D classes (tysX cT) s) (hN : NX s) (hX : va_X b 6 xs s s.heap) (hbl : b < s.heap.size) (hlk : meth.locks = false) (hA : ∀ q, s.heap.size ≤ q → A q) (hAq : ∀ q, A q → s.heap.size ≤ q) (hbA : ¬ A b) (o1 o2 : Nat) (u1 u2 : Nat → Nat) {H : Heap} {locs : List Loc} {ls : Array Slot} (hP : va_P D classes (wBig cT o1 o2 u1 u2) H) (hD : va_D A (wBig cT o1 o2 u1 u2)) (hS : va_S A s.heap H locs) (hl : lv_has ls 4 [(3, .int 0), (2, .ref o2), (1, .ref o1), (0, .ref b)]) : W p l e room_1 s m #[Value.ref b] below meth c H locs 2000 100000 (lw_Z below #[Value.ref b] s) (F0 m 1213 ls []) := by
  refine lv_aload_n hx hb dL_law_1213 rfl (lv_at hl 2 rfl) ?_
  refine lv_aload_n hx hb dL_law_1214 rfl (lv_at hl 3 rfl) ?_
  refine lv_iload_n hx hb dL_law_1215 rfl (lv_at hl 0 rfl) ?_
  refine lv_iconst (v := 1) hx hb dL_law_1216 (by decide) ?_
  refine lv_iadd hx hb dL_law_1217 ?_
  refine lv_is (y := 1) (by decide) ?_
  refine va_sld hx hb hX hbl hbA hS (by unfold vp_in; decide) dL_law_1218 ?_
  refine lv_is (y := xs 1) rfl ?_
  refine lv_aload_n hx hb dL_law_1219 rfl (lv_at hl 3 rfl) ?_
  refine lv_iload_n hx hb dL_law_1220 rfl (lv_at hl 0 rfl) ?_
  refine lv_iconst (v := 2) hx hb dL_law_1221 (by decide) ?_
  refine lv_iadd hx hb dL_law_1222 ?_
  refine lv_is (y := 2) (by decide) ?_
  refine va_sld hx hb hX hbl hbA hS (by unfold vp_in; decide) dL_law_1223 ?_
  refine lv_is (y := xs 2) rfl ?_
  refine xk_i (wr := [(o2, .inr (9, (.int 0 :: .ref (u2 0) :: .ref (u2 1) :: .ref (u2 2) :: .ref (u2 3) :: .int 0 :: .int 0 :: .int 0 :: .int 0 :: .int 0 :: .int 0 :: .int 0 :: .int 0 :: .int 0 :: .int (-1) :: .ref (u2 4) :: .ref (u2 5) :: .int 0 :: .int 0 :: .int 0 :: .ref (u2 6) :: .ref (u2 7) :: .ref (u2 8) :: .int 0 :: .int 0 :: .int 0 :: .int 0 :: .int 0 :: .ref (u2 9) :: .int 0 :: .ref (u2 10) :: .int 0 :: .int 0 :: .int 0 :: .ref (u2 11) :: .ref (u2 12) :: .ref (u2 13) :: []))), ((u2 0), .inl (cT 0, 288, .inl (allK))), ((u2 1), .inl (cT 3, 2, .inl (fun _ => 0))), ((u2 2), .inl (cT 0, 900, .inl (fun _ => 0))), ((u2 3), .inl (cT 0, 96, .inl (fun _ => 0))), ((u2 10), .inl (cT 0, 16, .inl (fun _ => 0))), ((u2 11), .inl (cT 0, 4, .inl (rsK))), ((u2 12), .inl (cT 0, 4, .inl (fun _ => 0))), ((u2 13), .inl (cT 1, 160, .inr (.inl (fun _ => 0))))]) (xr_V (n := 2) (As := [.int (xs 1), .int (xs 2)]) (rest := []) ⟨hx, hb, hml, hown, htg⟩ hK hN hP hD [0, 34, 35, 36, 37, 38] rfl (by decide) (k_delay l D cT _ (o1) (u1) ((xs 1)) ((xs 2))) wi_1089 wi_1090 wi_1091 wi_121 wi_1092 rfl rfl rfl ⟨rfl, by decide +kernel⟩ ⟨Nat.le_of_ble_eq_true rfl, Nat.le_of_ble_eq_true rfl⟩ rfl hl.1 rfl (Nat.le_of_ble_eq_true rfl) dL_law_1224 ⟨Nat.le_of_ble_eq_true rfl, Nat.le_of_ble_eq_true rfl⟩) hP hD hS hA [0, 34, 35, 36, 37, 38] [46, 47, 48, 49, 50, 51, 52, 53, 54] rfl rfl (by decide) (by decide) (fun r_2 u_1 H locs hwr_2 hP hD hS => ?_)
  have hP : va_P D classes [(o2, .inr (9, (.int 0 :: .ref (u2 0) :: .ref (u2 1) :: .ref (u2 2) :: .ref (u2 3) :: .int 0 :: .int 0 :: .int 0 :: .int 0 :: .int 0 :: .int 0 :: .int 0 :: .int 0 :: .int 0 :: .int (-1) :: .ref (u2 4) :: .ref (u2 5) :: .int 0 :: .int 0 :: .int 0 :: .ref (u2 6) :: .ref (u2 7) :: .ref (u2 8) :: .int 0 :: .int 0 :: .int 0 :: .int 0 :: .int 0 :: .ref (u2 9) :: .int 0 :: .ref (u2 10) :: .int 0 :: .int 0 :: .int 0 :: .ref (u2 11) :: .ref (u2 12) :: .ref (u2 13) :: []))), ((u2 0), .inl (cT 0, 288, .inl (allK))), ((u2 1), .inl (cT 3, 2, .inl (fun _ => 0))), ((u2 2), .inl (cT 0, 900, .inl (fun _ => 0))), ((u2 3), .inl (cT 0, 96, .inl (fun _ => 0))), ((u2 10), .inl (cT 0, 16, .inl (fun _ => 0))), ((u2 11), .inl (cT 0, 4, .inl (rsK))), ((u2 12), .inl (cT 0, 4, .inl (fun _ => 0))), ((u2 13), .inl (cT 1, 160, .inr (.inl (fun _ => 0))))] _ := hP
  have hD : va_D A [(o2, .inr (9, (.int 0 :: .ref (u2 0) :: .ref (u2 1) :: .ref (u2 2) :: .ref (u2 3) :: .int 0 :: .int 0 :: .int 0 :: .int 0 :: .int 0 :: .int 0 :: .int 0 :: .int 0 :: .int 0 :: .int (-1) :: .ref (u2 4) :: .ref (u2 5) :: .int 0 :: .int 0 :: .int 0 :: .ref (u2 6) :: .ref (u2 7) :: .ref (u2 8) :: .int 0 :: .int 0 :: .int 0 :: .int 0 :: .int 0 :: .ref (u2 9) :: .int 0 :: .ref (u2 10) :: .int 0 :: .int 0 :: .int 0 :: .ref (u2 11) :: .ref (u2 12) :: .ref (u2 13) :: []))), ((u2 0), .inl (cT 0, 288, .inl (allK))), ((u2 1), .inl (cT 3, 2, .inl (fun _ => 0))), ((u2 2), .inl (cT 0, 900, .inl (fun _ => 0))), ((u2 3), .inl (cT 0, 96, .inl (fun _ => 0))), ((u2 10), .inl (cT 0, 16, .inl (fun _ => 0))), ((u2 11), .inl (cT 0, 4, .inl (rsK))), ((u2 12), .inl (cT 0, 4, .inl (fun _ => 0))), ((u2 13), .inl (cT 1, 160, .inr (.inl (fun _ => 0))))] := hD
  have hwr_2 : r_2 = if (0 ≤ (xs 1).toInt ∧ (xs 1).toInt < 4) ∧ (0 ≤ (xs 2).toInt ∧ (xs 2).toInt < 4) then -6 else -2 := hwr_2
  subst hwr_2
  refine lv_aload_n hx hb dL_law_1227 rfl (lv_at hl 1 rfl) ?_
  refine lv_aload_n hx hb dL_law_1228 rfl (lv_at hl 3 rfl) ?_
  refine lv_iload_n hx hb dL_law_1229 rfl (lv_at hl 0 rfl) ?_
  refine lv_iconst (v := 1) hx hb dL_law_1230 (by decide) ?_
  refine lv_iadd hx hb dL_law_1231 ?_
  refine lv_is (y := 1) (by decide) ?_
  refine va_sld hx hb hX hbl hbA hS (by unfold vp_in; decide) dL_law_1232 ?_
  refine lv_is (y := xs 1) rfl ?_
  refine lv_aload_n hx hb dL_law_1233 rfl (lv_at hl 3 rfl) ?_
  refine lv_iload_n hx hb dL_law_1234 rfl (lv_at hl 0 rfl) ?_
  refine lv_iconst (v := 2) hx hb dL_law_1235 (by decide) ?_
  refine lv_iadd hx hb dL_law_1236 ?_
  refine lv_is (y := 2) (by decide) ?_
  refine va_sld hx hb hX hbl hbA hS (by unfold vp_in; decide) dL_law_1237 ?_
  refine lv_is (y := xs 2) rfl ?_
  refine xk_i (wr := []) (xr_V (n := 2) (As := [.int (xs 1), .int (xs 2)]) (rest := [.int (if (0 ≤ (xs 1).toInt ∧ (xs 1).toInt < 4) ∧ (0 ≤ (xs 2).toInt ∧ (xs 2).toInt < 4) then -6 else -2)]) ⟨hx, hb, hml, hown, htg⟩ hK hN hP hD [0, 6] rfl (by decide) (m_delay l D cT _ (o2) (u2) ((xs 1)) ((xs 2))) wi_1587 wi_1588 wi_1589 wi_131 wi_1590 rfl rfl rfl ⟨rfl, by decide +kernel⟩ ⟨Nat.le_of_ble_eq_true rfl, Nat.le_of_ble_eq_true rfl⟩ rfl hl.1 rfl (Nat.le_of_ble_eq_true rfl) dL_law_1238 ⟨Nat.le_of_ble_eq_true rfl, Nat.le_of_ble_eq_true rfl⟩) hP hD hS hA [0, 6] [] rfl rfl (by decide) (by decide) (fun r_4 u_3 H locs hwr_4 hP hD hS => ?_)
  have hP : va_P D classes [] _ := hP
  have hD : va_D A [] := hD
  have hwr_4 : r_4 = if (0 ≤ (xs 1).toInt ∧ (xs 1).toInt < 4) ∧ (0 ≤ (xs 2).toInt ∧ (xs 2).toInt < 4) then -6 else -2 := hwr_4
  subst hwr_4
  refine lv_icmp_eq (tgt := 1455) hx hb dL_law_1241 (by decide) (fun _ => ?_) (fun h => absurd rfl h)
  exact lc_end hx hb hr hml hown htg hK hN hX hbl hlk hA hAq hbA o1 o2 hS (lv_sub hl [0, 1, 2, 3] rfl)
set_option maxHeartbeats 4000000 in
set_option maxRecDepth 100000 in
theorem lc_34 {p : Program} {l : Launch} {e : Env} {s : State} {m : MethodId} {below : List Frame} {meth : Method} {c : Code} {b : Nat} {xs : Nat → Int32} {D : va_G} {cT : Nat → ClassId} {A : Nat → Prop} (hx : p.tables.exec = Jvm.exec) (hb : c.code = cL_law) (hr : meth.sig.returnType = ret) (hml : c.maxLocals = 4) (hown : s.vm.findClass RL = some m.cls) (htg : ∀ w ∈ gw_T, w.before #[Value.ref b] s = true) (hK : va_K D classes (tysX cT) s) (hN : NX s) (hX : va_X b 6 xs s s.heap) (hbl : b < s.heap.size) (hlk : meth.locks = false) (hA : ∀ q, s.heap.size ≤ q → A q) (hAq : ∀ q, A q → s.heap.size ≤ q) (hbA : ¬ A b) (o1 o2 : Nat) (u1 u2 : Nat → Nat) {H : Heap} {locs : List Loc} {ls : Array Slot} (hP : va_P D classes (wBig cT o1 o2 u1 u2) H) (hD : va_D A (wBig cT o1 o2 u1 u2)) (hS : va_S A s.heap H locs) (hl : lv_has ls 4 [(3, .int 0), (2, .ref o2), (1, .ref o1), (0, .ref b)]) : W p l e room_1 s m #[Value.ref b] below meth c H locs 2000 100000 (lw_Z below #[Value.ref b] s) (F0 m 1246 ls []) := by
  refine lv_aload_n hx hb dL_law_1246 rfl (lv_at hl 2 rfl) ?_
  refine lv_aload_n hx hb dL_law_1247 rfl (lv_at hl 3 rfl) ?_
  refine lv_iload_n hx hb dL_law_1248 rfl (lv_at hl 0 rfl) ?_
  refine lv_iconst (v := 1) hx hb dL_law_1249 (by decide) ?_
  refine lv_iadd hx hb dL_law_1250 ?_
  refine lv_is (y := 1) (by decide) ?_
  refine va_sld hx hb hX hbl hbA hS (by unfold vp_in; decide) dL_law_1251 ?_
  refine lv_is (y := xs 1) rfl ?_
  refine lv_aload_n hx hb dL_law_1252 rfl (lv_at hl 3 rfl) ?_
  refine lv_iload_n hx hb dL_law_1253 rfl (lv_at hl 0 rfl) ?_
  refine lv_iconst (v := 2) hx hb dL_law_1254 (by decide) ?_
  refine lv_iadd hx hb dL_law_1255 ?_
  refine lv_is (y := 2) (by decide) ?_
  refine va_sld hx hb hX hbl hbA hS (by unfold vp_in; decide) dL_law_1256 ?_
  refine lv_is (y := xs 2) rfl ?_
  refine lv_aload_n hx hb dL_law_1257 rfl (lv_at hl 3 rfl) ?_
  refine lv_iload_n hx hb dL_law_1258 rfl (lv_at hl 0 rfl) ?_
  refine lv_iconst (v := 3) hx hb dL_law_1259 (by decide) ?_
  refine lv_iadd hx hb dL_law_1260 ?_
  refine lv_is (y := 3) (by decide) ?_
  refine va_sld hx hb hX hbl hbA hS (by unfold vp_in; decide) dL_law_1261 ?_
  refine lv_is (y := xs 3) rfl ?_
  refine xk_i (wr := [(o2, .inr (9, (.int 0 :: .ref (u2 0) :: .ref (u2 1) :: .ref (u2 2) :: .ref (u2 3) :: .int 0 :: .int 0 :: .int 0 :: .int 0 :: .int 0 :: .int 0 :: .int 0 :: .int 0 :: .int 0 :: .int (-1) :: .ref (u2 4) :: .ref (u2 5) :: .int 0 :: .int 0 :: .int 0 :: .ref (u2 6) :: .ref (u2 7) :: .ref (u2 8) :: .int 0 :: .int 0 :: .int 0 :: .int 0 :: .int 0 :: .ref (u2 9) :: .int 0 :: .ref (u2 10) :: .int 0 :: .int 0 :: .int 0 :: .ref (u2 11) :: .ref (u2 12) :: .ref (u2 13) :: []))), ((u2 0), .inl (cT 0, 288, .inl (allK))), ((u2 1), .inl (cT 3, 2, .inl (fun _ => 0))), ((u2 2), .inl (cT 0, 900, .inl (fun _ => 0))), ((u2 3), .inl (cT 0, 96, .inl (fun _ => 0))), ((u2 10), .inl (cT 0, 16, .inl (fun _ => 0))), ((u2 11), .inl (cT 0, 4, .inl (rsK))), ((u2 12), .inl (cT 0, 4, .inl (fun _ => 0))), ((u2 13), .inl (cT 1, 160, .inr (.inl (fun _ => 0))))]) (xr_V (n := 3) (As := [.int (xs 1), .int (xs 2), .int (xs 3)]) (rest := []) ⟨hx, hb, hml, hown, htg⟩ hK hN hP hD [0, 34, 35, 36, 37, 38, 39, 40, 41, 42] rfl (by decide) (k_numbers l D cT _ (o1) (u1) ((xs 1)) ((xs 2)) ((xs 3))) wi_1093 wi_1094 wi_1095 wi_121 wi_1096 rfl rfl rfl ⟨rfl, by decide +kernel⟩ ⟨Nat.le_of_ble_eq_true rfl, Nat.le_of_ble_eq_true rfl⟩ rfl hl.1 rfl (Nat.le_of_ble_eq_true rfl) dL_law_1262 ⟨Nat.le_of_ble_eq_true rfl, Nat.le_of_ble_eq_true rfl⟩) hP hD hS hA [0, 34, 35, 36, 37, 38, 39, 40, 41, 42] [46, 47, 48, 49, 50, 51, 52, 53, 54] rfl rfl (by decide) (by decide) (fun r_2 u_1 H locs hwr_2 hP hD hS => ?_)
  have hP : va_P D classes [(o2, .inr (9, (.int 0 :: .ref (u2 0) :: .ref (u2 1) :: .ref (u2 2) :: .ref (u2 3) :: .int 0 :: .int 0 :: .int 0 :: .int 0 :: .int 0 :: .int 0 :: .int 0 :: .int 0 :: .int 0 :: .int (-1) :: .ref (u2 4) :: .ref (u2 5) :: .int 0 :: .int 0 :: .int 0 :: .ref (u2 6) :: .ref (u2 7) :: .ref (u2 8) :: .int 0 :: .int 0 :: .int 0 :: .int 0 :: .int 0 :: .ref (u2 9) :: .int 0 :: .ref (u2 10) :: .int 0 :: .int 0 :: .int 0 :: .ref (u2 11) :: .ref (u2 12) :: .ref (u2 13) :: []))), ((u2 0), .inl (cT 0, 288, .inl (allK))), ((u2 1), .inl (cT 3, 2, .inl (fun _ => 0))), ((u2 2), .inl (cT 0, 900, .inl (fun _ => 0))), ((u2 3), .inl (cT 0, 96, .inl (fun _ => 0))), ((u2 10), .inl (cT 0, 16, .inl (fun _ => 0))), ((u2 11), .inl (cT 0, 4, .inl (rsK))), ((u2 12), .inl (cT 0, 4, .inl (fun _ => 0))), ((u2 13), .inl (cT 1, 160, .inr (.inl (fun _ => 0))))] _ := hP
  have hD : va_D A [(o2, .inr (9, (.int 0 :: .ref (u2 0) :: .ref (u2 1) :: .ref (u2 2) :: .ref (u2 3) :: .int 0 :: .int 0 :: .int 0 :: .int 0 :: .int 0 :: .int 0 :: .int 0 :: .int 0 :: .int 0 :: .int (-1) :: .ref (u2 4) :: .ref (u2 5) :: .int 0 :: .int 0 :: .int 0 :: .ref (u2 6) :: .ref (u2 7) :: .ref (u2 8) :: .int 0 :: .int 0 :: .int 0 :: .int 0 :: .int 0 :: .ref (u2 9) :: .int 0 :: .ref (u2 10) :: .int 0 :: .int 0 :: .int 0 :: .ref (u2 11) :: .ref (u2 12) :: .ref (u2 13) :: []))), ((u2 0), .inl (cT 0, 288, .inl (allK))), ((u2 1), .inl (cT 3, 2, .inl (fun _ => 0))), ((u2 2), .inl (cT 0, 900, .inl (fun _ => 0))), ((u2 3), .inl (cT 0, 96, .inl (fun _ => 0))), ((u2 10), .inl (cT 0, 16, .inl (fun _ => 0))), ((u2 11), .inl (cT 0, 4, .inl (rsK))), ((u2 12), .inl (cT 0, 4, .inl (fun _ => 0))), ((u2 13), .inl (cT 1, 160, .inr (.inl (fun _ => 0))))] := hD
  have hwr_2 : r_2 = if 0 ≤ (xs 1).toInt ∧ (xs 1).toInt < 4 ∧ 0 ≤ (xs 2).toInt ∧ (xs 2).toInt < 4 then (if 0 ≤ (xs 3).toInt ∧ (xs 3).toInt ≤ 40 then 0 else -3) else -2 := hwr_2
  subst hwr_2
  refine lv_aload_n hx hb dL_law_1265 rfl (lv_at hl 1 rfl) ?_
  refine lv_aload_n hx hb dL_law_1266 rfl (lv_at hl 3 rfl) ?_
  refine lv_iload_n hx hb dL_law_1267 rfl (lv_at hl 0 rfl) ?_
  refine lv_iconst (v := 1) hx hb dL_law_1268 (by decide) ?_
  refine lv_iadd hx hb dL_law_1269 ?_
  refine lv_is (y := 1) (by decide) ?_
  refine va_sld hx hb hX hbl hbA hS (by unfold vp_in; decide) dL_law_1270 ?_
  refine lv_is (y := xs 1) rfl ?_
  refine lv_aload_n hx hb dL_law_1271 rfl (lv_at hl 3 rfl) ?_
  refine lv_iload_n hx hb dL_law_1272 rfl (lv_at hl 0 rfl) ?_
  refine lv_iconst (v := 2) hx hb dL_law_1273 (by decide) ?_
  refine lv_iadd hx hb dL_law_1274 ?_
  refine lv_is (y := 2) (by decide) ?_
  refine va_sld hx hb hX hbl hbA hS (by unfold vp_in; decide) dL_law_1275 ?_
  refine lv_is (y := xs 2) rfl ?_
  refine lv_aload_n hx hb dL_law_1276 rfl (lv_at hl 3 rfl) ?_
  refine lv_iload_n hx hb dL_law_1277 rfl (lv_at hl 0 rfl) ?_
  refine lv_iconst (v := 3) hx hb dL_law_1278 (by decide) ?_
  refine lv_iadd hx hb dL_law_1279 ?_
  refine lv_is (y := 3) (by decide) ?_
  refine va_sld hx hb hX hbl hbA hS (by unfold vp_in; decide) dL_law_1280 ?_
  refine lv_is (y := xs 3) rfl ?_
  refine xk_i (wr := []) (xr_V (n := 3) (As := [.int (xs 1), .int (xs 2), .int (xs 3)]) (rest := [.int (if 0 ≤ (xs 1).toInt ∧ (xs 1).toInt < 4 ∧ 0 ≤ (xs 2).toInt ∧ (xs 2).toInt < 4 then (if 0 ≤ (xs 3).toInt ∧ (xs 3).toInt ≤ 40 then 0 else -3) else -2)]) ⟨hx, hb, hml, hown, htg⟩ hK hN hP hD [0, 6, 7, 8] rfl (by decide) (m_numbers l D cT _ (o2) (u2) ((xs 1)) ((xs 2)) ((xs 3))) wi_1595 wi_1596 wi_1597 wi_131 wi_1598 rfl rfl rfl ⟨rfl, by decide +kernel⟩ ⟨Nat.le_of_ble_eq_true rfl, Nat.le_of_ble_eq_true rfl⟩ rfl hl.1 rfl (Nat.le_of_ble_eq_true rfl) dL_law_1281 ⟨Nat.le_of_ble_eq_true rfl, Nat.le_of_ble_eq_true rfl⟩) hP hD hS hA [0, 6, 7, 8] [] rfl rfl (by decide) (by decide) (fun r_4 u_3 H locs hwr_4 hP hD hS => ?_)
  have hP : va_P D classes [] _ := hP
  have hD : va_D A [] := hD
  have hwr_4 : r_4 = if 0 ≤ (xs 1).toInt ∧ (xs 1).toInt < 4 ∧ 0 ≤ (xs 2).toInt ∧ (xs 2).toInt < 4 then (if 0 ≤ (xs 3).toInt ∧ (xs 3).toInt ≤ 40 then 0 else -3) else -2 := hwr_4
  subst hwr_4
  refine lv_icmp_eq (tgt := 1455) hx hb dL_law_1284 (by decide) (fun _ => ?_) (fun h => absurd rfl h)
  exact lc_end hx hb hr hml hown htg hK hN hX hbl hlk hA hAq hbA o1 o2 hS (lv_sub hl [0, 1, 2, 3] rfl)
set_option maxHeartbeats 4000000 in
set_option maxRecDepth 100000 in
theorem lc_35 {p : Program} {l : Launch} {e : Env} {s : State} {m : MethodId} {below : List Frame} {meth : Method} {c : Code} {b : Nat} {xs : Nat → Int32} {D : va_G} {cT : Nat → ClassId} {A : Nat → Prop} (hx : p.tables.exec = Jvm.exec) (hb : c.code = cL_law) (hr : meth.sig.returnType = ret) (hml : c.maxLocals = 4) (hown : s.vm.findClass RL = some m.cls) (htg : ∀ w ∈ gw_T, w.before #[Value.ref b] s = true) (hK : va_K D classes (tysX cT) s) (hN : NX s) (hX : va_X b 6 xs s s.heap) (hbl : b < s.heap.size) (hlk : meth.locks = false) (hA : ∀ q, s.heap.size ≤ q → A q) (hAq : ∀ q, A q → s.heap.size ≤ q) (hbA : ¬ A b) (o1 o2 : Nat) (u1 u2 : Nat → Nat) {H : Heap} {locs : List Loc} {ls : Array Slot} (hP : va_P D classes (wBig cT o1 o2 u1 u2) H) (hD : va_D A (wBig cT o1 o2 u1 u2)) (hS : va_S A s.heap H locs) (hl : lv_has ls 4 [(3, .int 0), (2, .ref o2), (1, .ref o1), (0, .ref b)]) : W p l e room_1 s m #[Value.ref b] below meth c H locs 2000 100000 (lw_Z below #[Value.ref b] s) (F0 m 1289 ls []) := by
  refine lv_aload_n hx hb dL_law_1289 rfl (lv_at hl 2 rfl) ?_
  refine lv_aload_n hx hb dL_law_1290 rfl (lv_at hl 3 rfl) ?_
  refine lv_iload_n hx hb dL_law_1291 rfl (lv_at hl 0 rfl) ?_
  refine lv_iconst (v := 1) hx hb dL_law_1292 (by decide) ?_
  refine lv_iadd hx hb dL_law_1293 ?_
  refine lv_is (y := 1) (by decide) ?_
  refine va_sld hx hb hX hbl hbA hS (by unfold vp_in; decide) dL_law_1294 ?_
  refine lv_is (y := xs 1) rfl ?_
  refine lv_aload_n hx hb dL_law_1295 rfl (lv_at hl 3 rfl) ?_
  refine lv_iload_n hx hb dL_law_1296 rfl (lv_at hl 0 rfl) ?_
  refine lv_iconst (v := 2) hx hb dL_law_1297 (by decide) ?_
  refine lv_iadd hx hb dL_law_1298 ?_
  refine lv_is (y := 2) (by decide) ?_
  refine va_sld hx hb hX hbl hbA hS (by unfold vp_in; decide) dL_law_1299 ?_
  refine lv_is (y := xs 2) rfl ?_
  refine lv_aload_n hx hb dL_law_1300 rfl (lv_at hl 3 rfl) ?_
  refine lv_iload_n hx hb dL_law_1301 rfl (lv_at hl 0 rfl) ?_
  refine lv_iconst (v := 3) hx hb dL_law_1302 (by decide) ?_
  refine lv_iadd hx hb dL_law_1303 ?_
  refine lv_is (y := 3) (by decide) ?_
  refine va_sld hx hb hX hbl hbA hS (by unfold vp_in; decide) dL_law_1304 ?_
  refine lv_is (y := xs 3) rfl ?_
  refine lv_i2l (v := (xs 3).toInt64) hx hb dL_law_1305 rfl ?_
  refine lv_bipush (v := 32) hx hb dL_law_1306 (by decide) ?_
  refine lv_lshl (v := ((xs 3).toInt64 <<< ((32 : Int32).toInt64 &&& 63))) hx hb dL_law_1308 rfl ?_
  refine lv_aload_n hx hb dL_law_1309 rfl (lv_at hl 3 rfl) ?_
  refine lv_iload_n hx hb dL_law_1310 rfl (lv_at hl 0 rfl) ?_
  refine lv_iconst (v := 4) hx hb dL_law_1311 (by decide) ?_
  refine lv_iadd hx hb dL_law_1312 ?_
  refine lv_is (y := 4) (by decide) ?_
  refine va_sld hx hb hX hbl hbA hS (by unfold vp_in; decide) dL_law_1313 ?_
  refine lv_is (y := xs 4) rfl ?_
  refine lv_i2l (v := (xs 4).toInt64) hx hb dL_law_1314 rfl ?_
  refine lv_ldc2 (v := 4294967295) hx hb hown (htg _ wi_1630) dL_law_1315 ?_
  refine lv_land hx hb dL_law_1318 ?_
  refine lv_lor hx hb dL_law_1319 ?_
  refine xk_l (wr := [(o2, .inr (9, (.int 0 :: .ref (u2 0) :: .ref (u2 1) :: .ref (u2 2) :: .ref (u2 3) :: .int 0 :: .int 0 :: .int 0 :: .int 0 :: .int 0 :: .int 0 :: .int 0 :: .int 0 :: .int 0 :: .int (-1) :: .ref (u2 4) :: .ref (u2 5) :: .int 0 :: .int 0 :: .int 0 :: .ref (u2 6) :: .ref (u2 7) :: .ref (u2 8) :: .int 0 :: .int 0 :: .int 0 :: .int 0 :: .int 0 :: .ref (u2 9) :: .int 0 :: .ref (u2 10) :: .int 0 :: .int 0 :: .int 0 :: .ref (u2 11) :: .ref (u2 12) :: .ref (u2 13) :: []))), ((u2 0), .inl (cT 0, 288, .inl (allK))), ((u2 1), .inl (cT 3, 2, .inl (fun _ => 0))), ((u2 2), .inl (cT 0, 900, .inl (fun _ => 0))), ((u2 3), .inl (cT 0, 96, .inl (fun _ => 0))), ((u2 10), .inl (cT 0, 16, .inl (fun _ => 0))), ((u2 11), .inl (cT 0, 4, .inl (rsK))), ((u2 12), .inl (cT 0, 4, .inl (fun _ => 0))), ((u2 13), .inl (cT 1, 160, .inr (.inl (fun _ => 0))))]) (xr_V (n := 3) (As := [.int (xs 1), .int (xs 2), .long (((xs 3).toInt64 <<< ((32 : Int32).toInt64 &&& 63)) ||| ((xs 4).toInt64 &&& 4294967295))]) (rest := []) ⟨hx, hb, hml, hown, htg⟩ hK hN hP hD [0, 34, 35, 36, 37, 38] rfl (by decide) (k_write l D cT _ (o1) (u1) ((xs 1)) ((xs 2)) ((((xs 3).toInt64 <<< ((32 : Int32).toInt64 &&& 63)) ||| ((xs 4).toInt64 &&& 4294967295)))) wi_1106 wi_1107 wi_1108 wi_121 wi_1109 rfl rfl rfl ⟨rfl, by decide +kernel⟩ ⟨Nat.le_of_ble_eq_true rfl, Nat.le_of_ble_eq_true rfl⟩ rfl hl.1 rfl (Nat.le_of_ble_eq_true rfl) dL_law_1320 ⟨Nat.le_of_ble_eq_true rfl, Nat.le_of_ble_eq_true rfl⟩) hP hD hS hA [0, 34, 35, 36, 37, 38] [46, 47, 48, 49, 50, 51, 52, 53, 54] rfl rfl (by decide) (by decide) (fun r_2 u_1 H locs hwr_2 hP hD hS => ?_)
  have hP : va_P D classes [(o2, .inr (9, (.int 0 :: .ref (u2 0) :: .ref (u2 1) :: .ref (u2 2) :: .ref (u2 3) :: .int 0 :: .int 0 :: .int 0 :: .int 0 :: .int 0 :: .int 0 :: .int 0 :: .int 0 :: .int 0 :: .int (-1) :: .ref (u2 4) :: .ref (u2 5) :: .int 0 :: .int 0 :: .int 0 :: .ref (u2 6) :: .ref (u2 7) :: .ref (u2 8) :: .int 0 :: .int 0 :: .int 0 :: .int 0 :: .int 0 :: .ref (u2 9) :: .int 0 :: .ref (u2 10) :: .int 0 :: .int 0 :: .int 0 :: .ref (u2 11) :: .ref (u2 12) :: .ref (u2 13) :: []))), ((u2 0), .inl (cT 0, 288, .inl (allK))), ((u2 1), .inl (cT 3, 2, .inl (fun _ => 0))), ((u2 2), .inl (cT 0, 900, .inl (fun _ => 0))), ((u2 3), .inl (cT 0, 96, .inl (fun _ => 0))), ((u2 10), .inl (cT 0, 16, .inl (fun _ => 0))), ((u2 11), .inl (cT 0, 4, .inl (rsK))), ((u2 12), .inl (cT 0, 4, .inl (fun _ => 0))), ((u2 13), .inl (cT 1, 160, .inr (.inl (fun _ => 0))))] _ := hP
  have hD : va_D A [(o2, .inr (9, (.int 0 :: .ref (u2 0) :: .ref (u2 1) :: .ref (u2 2) :: .ref (u2 3) :: .int 0 :: .int 0 :: .int 0 :: .int 0 :: .int 0 :: .int 0 :: .int 0 :: .int 0 :: .int 0 :: .int (-1) :: .ref (u2 4) :: .ref (u2 5) :: .int 0 :: .int 0 :: .int 0 :: .ref (u2 6) :: .ref (u2 7) :: .ref (u2 8) :: .int 0 :: .int 0 :: .int 0 :: .int 0 :: .int 0 :: .ref (u2 9) :: .int 0 :: .ref (u2 10) :: .int 0 :: .int 0 :: .int 0 :: .ref (u2 11) :: .ref (u2 12) :: .ref (u2 13) :: []))), ((u2 0), .inl (cT 0, 288, .inl (allK))), ((u2 1), .inl (cT 3, 2, .inl (fun _ => 0))), ((u2 2), .inl (cT 0, 900, .inl (fun _ => 0))), ((u2 3), .inl (cT 0, 96, .inl (fun _ => 0))), ((u2 10), .inl (cT 0, 16, .inl (fun _ => 0))), ((u2 11), .inl (cT 0, 4, .inl (rsK))), ((u2 12), .inl (cT 0, 4, .inl (fun _ => 0))), ((u2 13), .inl (cT 1, 160, .inr (.inl (fun _ => 0))))] := hD
  have hwr_2 : r_2 = if 0 ≤ (xs 1).toInt ∧ (xs 1).toInt < 4 then -6 else -2 := hwr_2
  subst hwr_2
  refine lv_aload_n hx hb dL_law_1323 rfl (lv_at hl 1 rfl) ?_
  refine lv_aload_n hx hb dL_law_1324 rfl (lv_at hl 3 rfl) ?_
  refine lv_iload_n hx hb dL_law_1325 rfl (lv_at hl 0 rfl) ?_
  refine lv_iconst (v := 1) hx hb dL_law_1326 (by decide) ?_
  refine lv_iadd hx hb dL_law_1327 ?_
  refine lv_is (y := 1) (by decide) ?_
  refine va_sld hx hb hX hbl hbA hS (by unfold vp_in; decide) dL_law_1328 ?_
  refine lv_is (y := xs 1) rfl ?_
  refine lv_aload_n hx hb dL_law_1329 rfl (lv_at hl 3 rfl) ?_
  refine lv_iload_n hx hb dL_law_1330 rfl (lv_at hl 0 rfl) ?_
  refine lv_iconst (v := 2) hx hb dL_law_1331 (by decide) ?_
  refine lv_iadd hx hb dL_law_1332 ?_
  refine lv_is (y := 2) (by decide) ?_
  refine va_sld hx hb hX hbl hbA hS (by unfold vp_in; decide) dL_law_1333 ?_
  refine lv_is (y := xs 2) rfl ?_
  refine lv_aload_n hx hb dL_law_1334 rfl (lv_at hl 3 rfl) ?_
  refine lv_iload_n hx hb dL_law_1335 rfl (lv_at hl 0 rfl) ?_
  refine lv_iconst (v := 3) hx hb dL_law_1336 (by decide) ?_
  refine lv_iadd hx hb dL_law_1337 ?_
  refine lv_is (y := 3) (by decide) ?_
  refine va_sld hx hb hX hbl hbA hS (by unfold vp_in; decide) dL_law_1338 ?_
  refine lv_is (y := xs 3) rfl ?_
  refine lv_i2l (v := (xs 3).toInt64) hx hb dL_law_1339 rfl ?_
  refine lv_bipush (v := 32) hx hb dL_law_1340 (by decide) ?_
  refine lv_lshl (v := ((xs 3).toInt64 <<< ((32 : Int32).toInt64 &&& 63))) hx hb dL_law_1342 rfl ?_
  refine lv_aload_n hx hb dL_law_1343 rfl (lv_at hl 3 rfl) ?_
  refine lv_iload_n hx hb dL_law_1344 rfl (lv_at hl 0 rfl) ?_
  refine lv_iconst (v := 4) hx hb dL_law_1345 (by decide) ?_
  refine lv_iadd hx hb dL_law_1346 ?_
  refine lv_is (y := 4) (by decide) ?_
  refine va_sld hx hb hX hbl hbA hS (by unfold vp_in; decide) dL_law_1347 ?_
  refine lv_is (y := xs 4) rfl ?_
  refine lv_i2l (v := (xs 4).toInt64) hx hb dL_law_1348 rfl ?_
  refine lv_ldc2 (v := 4294967295) hx hb hown (htg _ wi_1630) dL_law_1349 ?_
  refine lv_land hx hb dL_law_1352 ?_
  refine lv_lor hx hb dL_law_1353 ?_
  refine xk_l (wr := []) (xr_V (n := 3) (As := [.int (xs 1), .int (xs 2), .long (((xs 3).toInt64 <<< ((32 : Int32).toInt64 &&& 63)) ||| ((xs 4).toInt64 &&& 4294967295))]) (rest := [.long (if 0 ≤ (xs 1).toInt ∧ (xs 1).toInt < 4 then -6 else -2)]) ⟨hx, hb, hml, hown, htg⟩ hK hN hP hD [0, 6] rfl (by decide) (m_write l D cT _ (o2) (u2) ((xs 1)) ((xs 2)) ((((xs 3).toInt64 <<< ((32 : Int32).toInt64 &&& 63)) ||| ((xs 4).toInt64 &&& 4294967295)))) wi_1600 wi_1601 wi_1602 wi_131 wi_1603 rfl rfl rfl ⟨rfl, by decide +kernel⟩ ⟨Nat.le_of_ble_eq_true rfl, Nat.le_of_ble_eq_true rfl⟩ rfl hl.1 rfl (Nat.le_of_ble_eq_true rfl) dL_law_1354 ⟨Nat.le_of_ble_eq_true rfl, Nat.le_of_ble_eq_true rfl⟩) hP hD hS hA [0, 6] [] rfl rfl (by decide) (by decide) (fun r_4 u_3 H locs hwr_4 hP hD hS => ?_)
  have hP : va_P D classes [] _ := hP
  have hD : va_D A [] := hD
  have hwr_4 : r_4 = if 0 ≤ (xs 1).toInt ∧ (xs 1).toInt < 4 then -6 else -2 := hwr_4
  subst hwr_4
  refine W.lcmp hx hb dL_law_1357 ?_
  refine lv_is (y := 0) (lgc_self _) ?_
  refine lv_if_eq (tgt := 1455) hx hb dL_law_1358 (by decide) (fun _ => ?_) (fun h => absurd (by decide) h)
  exact lc_end hx hb hr hml hown htg hK hN hX hbl hlk hA hAq hbA o1 o2 hS (lv_sub hl [0, 1, 2, 3] rfl)
set_option maxHeartbeats 4000000 in
set_option maxRecDepth 100000 in
theorem lc_36 {p : Program} {l : Launch} {e : Env} {s : State} {m : MethodId} {below : List Frame} {meth : Method} {c : Code} {b : Nat} {xs : Nat → Int32} {D : va_G} {cT : Nat → ClassId} {A : Nat → Prop} (hx : p.tables.exec = Jvm.exec) (hb : c.code = cL_law) (hr : meth.sig.returnType = ret) (hml : c.maxLocals = 4) (hown : s.vm.findClass RL = some m.cls) (htg : ∀ w ∈ gw_T, w.before #[Value.ref b] s = true) (hK : va_K D classes (tysX cT) s) (hN : NX s) (hX : va_X b 6 xs s s.heap) (hbl : b < s.heap.size) (hlk : meth.locks = false) (hA : ∀ q, s.heap.size ≤ q → A q) (hAq : ∀ q, A q → s.heap.size ≤ q) (hbA : ¬ A b) (o1 o2 : Nat) (u1 u2 : Nat → Nat) {H : Heap} {locs : List Loc} {ls : Array Slot} (hP : va_P D classes (wBig cT o1 o2 u1 u2) H) (hD : va_D A (wBig cT o1 o2 u1 u2)) (hS : va_S A s.heap H locs) (hl : lv_has ls 4 [(3, .int 0), (2, .ref o2), (1, .ref o1), (0, .ref b)]) : W p l e room_1 s m #[Value.ref b] below meth c H locs 2000 100000 (lw_Z below #[Value.ref b] s) (F0 m 1363 ls []) := by
  refine lv_aload_n hx hb dL_law_1363 rfl (lv_at hl 2 rfl) ?_
  refine lv_aload_n hx hb dL_law_1364 rfl (lv_at hl 3 rfl) ?_
  refine lv_iload_n hx hb dL_law_1365 rfl (lv_at hl 0 rfl) ?_
  refine lv_iconst (v := 1) hx hb dL_law_1366 (by decide) ?_
  refine lv_iadd hx hb dL_law_1367 ?_
  refine lv_is (y := 1) (by decide) ?_
  refine va_sld hx hb hX hbl hbA hS (by unfold vp_in; decide) dL_law_1368 ?_
  refine lv_is (y := xs 1) rfl ?_
  refine xk_i (wr := [(o2, .inr (9, (.int 0 :: .ref (u2 0) :: .ref (u2 1) :: .ref (u2 2) :: .ref (u2 3) :: .int 0 :: .int 0 :: .int 0 :: .int 0 :: .int 0 :: .int 0 :: .int 0 :: .int 0 :: .int 0 :: .int (-1) :: .ref (u2 4) :: .ref (u2 5) :: .int 0 :: .int 0 :: .int 0 :: .ref (u2 6) :: .ref (u2 7) :: .ref (u2 8) :: .int 0 :: .int 0 :: .int 0 :: .int 0 :: .int 0 :: .ref (u2 9) :: .int 0 :: .ref (u2 10) :: .int 0 :: .int 0 :: .int 0 :: .ref (u2 11) :: .ref (u2 12) :: .ref (u2 13) :: []))), ((u2 0), .inl (cT 0, 288, .inl (allK))), ((u2 1), .inl (cT 3, 2, .inl (fun _ => 0))), ((u2 2), .inl (cT 0, 900, .inl (fun _ => 0))), ((u2 3), .inl (cT 0, 96, .inl (fun _ => 0))), ((u2 10), .inl (cT 0, 16, .inl (fun _ => 0))), ((u2 11), .inl (cT 0, 4, .inl (rsK))), ((u2 12), .inl (cT 0, 4, .inl (fun _ => 0))), ((u2 13), .inl (cT 1, 160, .inr (.inl (fun _ => 0))))]) (xr_V (n := 1) (As := [.int (xs 1)]) (rest := []) ⟨hx, hb, hml, hown, htg⟩ hK hN hP hD [0, 34, 35, 36, 37, 38] rfl (by decide) (k_copy l D cT _ (o1) (u1) ((xs 1))) wi_1122 wi_1123 wi_1124 wi_121 wi_1125 rfl rfl rfl ⟨rfl, by decide +kernel⟩ ⟨Nat.le_of_ble_eq_true rfl, Nat.le_of_ble_eq_true rfl⟩ rfl hl.1 rfl (Nat.le_of_ble_eq_true rfl) dL_law_1369 ⟨Nat.le_of_ble_eq_true rfl, Nat.le_of_ble_eq_true rfl⟩) hP hD hS hA [0, 34, 35, 36, 37, 38] [46, 47, 48, 49, 50, 51, 52, 53, 54] rfl rfl (by decide) (by decide) (fun r_2 u_1 H locs hwr_2 hP hD hS => ?_)
  have hP : va_P D classes [(o2, .inr (9, (.int 0 :: .ref (u2 0) :: .ref (u2 1) :: .ref (u2 2) :: .ref (u2 3) :: .int 0 :: .int 0 :: .int 0 :: .int 0 :: .int 0 :: .int 0 :: .int 0 :: .int 0 :: .int 0 :: .int (-1) :: .ref (u2 4) :: .ref (u2 5) :: .int 0 :: .int 0 :: .int 0 :: .ref (u2 6) :: .ref (u2 7) :: .ref (u2 8) :: .int 0 :: .int 0 :: .int 0 :: .int 0 :: .int 0 :: .ref (u2 9) :: .int 0 :: .ref (u2 10) :: .int 0 :: .int 0 :: .int 0 :: .ref (u2 11) :: .ref (u2 12) :: .ref (u2 13) :: []))), ((u2 0), .inl (cT 0, 288, .inl (allK))), ((u2 1), .inl (cT 3, 2, .inl (fun _ => 0))), ((u2 2), .inl (cT 0, 900, .inl (fun _ => 0))), ((u2 3), .inl (cT 0, 96, .inl (fun _ => 0))), ((u2 10), .inl (cT 0, 16, .inl (fun _ => 0))), ((u2 11), .inl (cT 0, 4, .inl (rsK))), ((u2 12), .inl (cT 0, 4, .inl (fun _ => 0))), ((u2 13), .inl (cT 1, 160, .inr (.inl (fun _ => 0))))] _ := hP
  have hD : va_D A [(o2, .inr (9, (.int 0 :: .ref (u2 0) :: .ref (u2 1) :: .ref (u2 2) :: .ref (u2 3) :: .int 0 :: .int 0 :: .int 0 :: .int 0 :: .int 0 :: .int 0 :: .int 0 :: .int 0 :: .int 0 :: .int (-1) :: .ref (u2 4) :: .ref (u2 5) :: .int 0 :: .int 0 :: .int 0 :: .ref (u2 6) :: .ref (u2 7) :: .ref (u2 8) :: .int 0 :: .int 0 :: .int 0 :: .int 0 :: .int 0 :: .ref (u2 9) :: .int 0 :: .ref (u2 10) :: .int 0 :: .int 0 :: .int 0 :: .ref (u2 11) :: .ref (u2 12) :: .ref (u2 13) :: []))), ((u2 0), .inl (cT 0, 288, .inl (allK))), ((u2 1), .inl (cT 3, 2, .inl (fun _ => 0))), ((u2 2), .inl (cT 0, 900, .inl (fun _ => 0))), ((u2 3), .inl (cT 0, 96, .inl (fun _ => 0))), ((u2 10), .inl (cT 0, 16, .inl (fun _ => 0))), ((u2 11), .inl (cT 0, 4, .inl (rsK))), ((u2 12), .inl (cT 0, 4, .inl (fun _ => 0))), ((u2 13), .inl (cT 1, 160, .inr (.inl (fun _ => 0))))] := hD
  have hwr_2 : r_2 = if 0 ≤ (xs 1).toInt ∧ (xs 1).toInt < 4 then -6 else -2 := hwr_2
  subst hwr_2
  refine lv_aload_n hx hb dL_law_1372 rfl (lv_at hl 1 rfl) ?_
  refine lv_aload_n hx hb dL_law_1373 rfl (lv_at hl 3 rfl) ?_
  refine lv_iload_n hx hb dL_law_1374 rfl (lv_at hl 0 rfl) ?_
  refine lv_iconst (v := 1) hx hb dL_law_1375 (by decide) ?_
  refine lv_iadd hx hb dL_law_1376 ?_
  refine lv_is (y := 1) (by decide) ?_
  refine va_sld hx hb hX hbl hbA hS (by unfold vp_in; decide) dL_law_1377 ?_
  refine lv_is (y := xs 1) rfl ?_
  refine xk_i (wr := []) (xr_V (n := 1) (As := [.int (xs 1)]) (rest := [.int (if 0 ≤ (xs 1).toInt ∧ (xs 1).toInt < 4 then -6 else -2)]) ⟨hx, hb, hml, hown, htg⟩ hK hN hP hD [0, 6] rfl (by decide) (m_copy l D cT _ (o2) (u2) ((xs 1))) wi_1610 wi_1611 wi_1612 wi_131 wi_1613 rfl rfl rfl ⟨rfl, by decide +kernel⟩ ⟨Nat.le_of_ble_eq_true rfl, Nat.le_of_ble_eq_true rfl⟩ rfl hl.1 rfl (Nat.le_of_ble_eq_true rfl) dL_law_1378 ⟨Nat.le_of_ble_eq_true rfl, Nat.le_of_ble_eq_true rfl⟩) hP hD hS hA [0, 6] [] rfl rfl (by decide) (by decide) (fun r_4 u_3 H locs hwr_4 hP hD hS => ?_)
  have hP : va_P D classes [] _ := hP
  have hD : va_D A [] := hD
  have hwr_4 : r_4 = if 0 ≤ (xs 1).toInt ∧ (xs 1).toInt < 4 then -6 else -2 := hwr_4
  subst hwr_4
  refine lv_icmp_eq (tgt := 1455) hx hb dL_law_1381 (by decide) (fun _ => ?_) (fun h => absurd rfl h)
  exact lc_end hx hb hr hml hown htg hK hN hX hbl hlk hA hAq hbA o1 o2 hS (lv_sub hl [0, 1, 2, 3] rfl)
set_option maxHeartbeats 4000000 in
set_option maxRecDepth 100000 in
theorem lc_37 {p : Program} {l : Launch} {e : Env} {s : State} {m : MethodId} {below : List Frame} {meth : Method} {c : Code} {b : Nat} {xs : Nat → Int32} {D : va_G} {cT : Nat → ClassId} {A : Nat → Prop} (hx : p.tables.exec = Jvm.exec) (hb : c.code = cL_law) (hr : meth.sig.returnType = ret) (hml : c.maxLocals = 4) (hown : s.vm.findClass RL = some m.cls) (htg : ∀ w ∈ gw_T, w.before #[Value.ref b] s = true) (hK : va_K D classes (tysX cT) s) (hN : NX s) (hX : va_X b 6 xs s s.heap) (hbl : b < s.heap.size) (hlk : meth.locks = false) (hA : ∀ q, s.heap.size ≤ q → A q) (hAq : ∀ q, A q → s.heap.size ≤ q) (hbA : ¬ A b) (o1 o2 : Nat) (u1 u2 : Nat → Nat) {H : Heap} {locs : List Loc} {ls : Array Slot} (hP : va_P D classes (wBig cT o1 o2 u1 u2) H) (hD : va_D A (wBig cT o1 o2 u1 u2)) (hS : va_S A s.heap H locs) (hl : lv_has ls 4 [(3, .int 0), (2, .ref o2), (1, .ref o1), (0, .ref b)]) : W p l e room_1 s m #[Value.ref b] below meth c H locs 2000 100000 (lw_Z below #[Value.ref b] s) (F0 m 1386 ls []) := by
  refine lv_aload_n hx hb dL_law_1386 rfl (lv_at hl 2 rfl) ?_
  refine lv_aload_n hx hb dL_law_1387 rfl (lv_at hl 3 rfl) ?_
  refine lv_iload_n hx hb dL_law_1388 rfl (lv_at hl 0 rfl) ?_
  refine lv_iconst (v := 1) hx hb dL_law_1389 (by decide) ?_
  refine lv_iadd hx hb dL_law_1390 ?_
  refine lv_is (y := 1) (by decide) ?_
  refine va_sld hx hb hX hbl hbA hS (by unfold vp_in; decide) dL_law_1391 ?_
  refine lv_is (y := xs 1) rfl ?_
  refine xk_i (wr := [(o2, .inr (9, (.int 0 :: .ref (u2 0) :: .ref (u2 1) :: .ref (u2 2) :: .ref (u2 3) :: .int 0 :: .int 0 :: .int 0 :: .int 0 :: .int 0 :: .int 0 :: .int 0 :: .int 0 :: .int 0 :: .int (-1) :: .ref (u2 4) :: .ref (u2 5) :: .int 0 :: .int 0 :: .int 0 :: .ref (u2 6) :: .ref (u2 7) :: .ref (u2 8) :: .int 0 :: .int 0 :: .int 0 :: .int 0 :: .int 0 :: .ref (u2 9) :: .int 0 :: .ref (u2 10) :: .int 0 :: .int 0 :: .int 0 :: .ref (u2 11) :: .ref (u2 12) :: .ref (u2 13) :: []))), ((u2 0), .inl (cT 0, 288, .inl (allK))), ((u2 1), .inl (cT 3, 2, .inl (fun _ => 0))), ((u2 2), .inl (cT 0, 900, .inl (fun _ => 0))), ((u2 3), .inl (cT 0, 96, .inl (fun _ => 0))), ((u2 10), .inl (cT 0, 16, .inl (fun _ => 0))), ((u2 11), .inl (cT 0, 4, .inl (rsK))), ((u2 12), .inl (cT 0, 4, .inl (fun _ => 0))), ((u2 13), .inl (cT 1, 160, .inr (.inl (fun _ => 0))))]) (xr_V (n := 1) (As := [.int (xs 1)]) (rest := []) ⟨hx, hb, hml, hown, htg⟩ hK hN hP hD [0, 11, 12, 13, 14, 15, 16, 17, 18, 19, 20, 21, 22, 23, 24, 25, 26, 27, 28, 29, 30, 31, 32, 33] rfl (by decide) (k_image l D cT _ (o1) (u1) ((xs 1))) wi_1126 wi_1127 wi_1128 wi_121 wi_1129 rfl rfl rfl ⟨rfl, by decide +kernel⟩ ⟨Nat.le_of_ble_eq_true rfl, Nat.le_of_ble_eq_true rfl⟩ rfl hl.1 rfl (Nat.le_of_ble_eq_true rfl) dL_law_1392 ⟨Nat.le_of_ble_eq_true rfl, Nat.le_of_ble_eq_true rfl⟩) hP hD hS hA [0, 11, 12, 13, 14, 15, 16, 17, 18, 19, 20, 21, 22, 23, 24, 25, 26, 27, 28, 29, 30, 31, 32, 33] [46, 47, 48, 49, 50, 51, 52, 53, 54] rfl rfl (by decide) (by decide) (fun r_2 u_1 H locs hwr_2 hP hD hS => ?_)
  have hP : va_P D classes [(o2, .inr (9, (.int 0 :: .ref (u2 0) :: .ref (u2 1) :: .ref (u2 2) :: .ref (u2 3) :: .int 0 :: .int 0 :: .int 0 :: .int 0 :: .int 0 :: .int 0 :: .int 0 :: .int 0 :: .int 0 :: .int (-1) :: .ref (u2 4) :: .ref (u2 5) :: .int 0 :: .int 0 :: .int 0 :: .ref (u2 6) :: .ref (u2 7) :: .ref (u2 8) :: .int 0 :: .int 0 :: .int 0 :: .int 0 :: .int 0 :: .ref (u2 9) :: .int 0 :: .ref (u2 10) :: .int 0 :: .int 0 :: .int 0 :: .ref (u2 11) :: .ref (u2 12) :: .ref (u2 13) :: []))), ((u2 0), .inl (cT 0, 288, .inl (allK))), ((u2 1), .inl (cT 3, 2, .inl (fun _ => 0))), ((u2 2), .inl (cT 0, 900, .inl (fun _ => 0))), ((u2 3), .inl (cT 0, 96, .inl (fun _ => 0))), ((u2 10), .inl (cT 0, 16, .inl (fun _ => 0))), ((u2 11), .inl (cT 0, 4, .inl (rsK))), ((u2 12), .inl (cT 0, 4, .inl (fun _ => 0))), ((u2 13), .inl (cT 1, 160, .inr (.inl (fun _ => 0))))] _ := hP
  have hD : va_D A [(o2, .inr (9, (.int 0 :: .ref (u2 0) :: .ref (u2 1) :: .ref (u2 2) :: .ref (u2 3) :: .int 0 :: .int 0 :: .int 0 :: .int 0 :: .int 0 :: .int 0 :: .int 0 :: .int 0 :: .int 0 :: .int (-1) :: .ref (u2 4) :: .ref (u2 5) :: .int 0 :: .int 0 :: .int 0 :: .ref (u2 6) :: .ref (u2 7) :: .ref (u2 8) :: .int 0 :: .int 0 :: .int 0 :: .int 0 :: .int 0 :: .ref (u2 9) :: .int 0 :: .ref (u2 10) :: .int 0 :: .int 0 :: .int 0 :: .ref (u2 11) :: .ref (u2 12) :: .ref (u2 13) :: []))), ((u2 0), .inl (cT 0, 288, .inl (allK))), ((u2 1), .inl (cT 3, 2, .inl (fun _ => 0))), ((u2 2), .inl (cT 0, 900, .inl (fun _ => 0))), ((u2 3), .inl (cT 0, 96, .inl (fun _ => 0))), ((u2 10), .inl (cT 0, 16, .inl (fun _ => 0))), ((u2 11), .inl (cT 0, 4, .inl (rsK))), ((u2 12), .inl (cT 0, 4, .inl (fun _ => 0))), ((u2 13), .inl (cT 1, 160, .inr (.inl (fun _ => 0))))] := hD
  have hwr_2 : r_2 = if 0 ≤ (xs 1).toInt ∧ (xs 1).toInt < 2 then 0 else -2 := hwr_2
  subst hwr_2
  refine lv_aload_n hx hb dL_law_1395 rfl (lv_at hl 1 rfl) ?_
  refine lv_aload_n hx hb dL_law_1396 rfl (lv_at hl 3 rfl) ?_
  refine lv_iload_n hx hb dL_law_1397 rfl (lv_at hl 0 rfl) ?_
  refine lv_iconst (v := 1) hx hb dL_law_1398 (by decide) ?_
  refine lv_iadd hx hb dL_law_1399 ?_
  refine lv_is (y := 1) (by decide) ?_
  refine va_sld hx hb hX hbl hbA hS (by unfold vp_in; decide) dL_law_1400 ?_
  refine lv_is (y := xs 1) rfl ?_
  refine xk_i (wr := []) (xr_V (n := 1) (As := [.int (xs 1)]) (rest := [.int (if 0 ≤ (xs 1).toInt ∧ (xs 1).toInt < 2 then 0 else -2)]) ⟨hx, hb, hml, hown, htg⟩ hK hN hP hD [0, 1, 2] rfl (by decide) (m_image l D cT _ (o2) (u2) ((xs 1))) wi_1614 wi_1615 wi_1616 wi_131 wi_1617 rfl rfl rfl ⟨rfl, by decide +kernel⟩ ⟨Nat.le_of_ble_eq_true rfl, Nat.le_of_ble_eq_true rfl⟩ rfl hl.1 rfl (Nat.le_of_ble_eq_true rfl) dL_law_1401 ⟨Nat.le_of_ble_eq_true rfl, Nat.le_of_ble_eq_true rfl⟩) hP hD hS hA [0, 1, 2] [] rfl rfl (by decide) (by decide) (fun r_4 u_3 H locs hwr_4 hP hD hS => ?_)
  have hP : va_P D classes [] _ := hP
  have hD : va_D A [] := hD
  have hwr_4 : r_4 = if 0 ≤ (xs 1).toInt ∧ (xs 1).toInt < 2 then 0 else -2 := hwr_4
  subst hwr_4
  refine lv_icmp_eq (tgt := 1455) hx hb dL_law_1404 (by decide) (fun _ => ?_) (fun h => absurd rfl h)
  exact lc_end hx hb hr hml hown htg hK hN hX hbl hlk hA hAq hbA o1 o2 hS (lv_sub hl [0, 1, 2, 3] rfl)
set_option maxHeartbeats 4000000 in
set_option maxRecDepth 100000 in
theorem lc_38 {p : Program} {l : Launch} {e : Env} {s : State} {m : MethodId} {below : List Frame} {meth : Method} {c : Code} {b : Nat} {xs : Nat → Int32} {D : va_G} {cT : Nat → ClassId} {A : Nat → Prop} (hx : p.tables.exec = Jvm.exec) (hb : c.code = cL_law) (hr : meth.sig.returnType = ret) (hml : c.maxLocals = 4) (hown : s.vm.findClass RL = some m.cls) (htg : ∀ w ∈ gw_T, w.before #[Value.ref b] s = true) (hK : va_K D classes (tysX cT) s) (hN : NX s) (hX : va_X b 6 xs s s.heap) (hbl : b < s.heap.size) (hlk : meth.locks = false) (hA : ∀ q, s.heap.size ≤ q → A q) (hAq : ∀ q, A q → s.heap.size ≤ q) (hbA : ¬ A b) (o1 o2 : Nat) (u1 u2 : Nat → Nat) {H : Heap} {locs : List Loc} {ls : Array Slot} (hP : va_P D classes (wBig cT o1 o2 u1 u2) H) (hD : va_D A (wBig cT o1 o2 u1 u2)) (hS : va_S A s.heap H locs) (hl : lv_has ls 4 [(3, .int 0), (2, .ref o2), (1, .ref o1), (0, .ref b)]) : W p l e room_1 s m #[Value.ref b] below meth c H locs 2000 100000 (lw_Z below #[Value.ref b] s) (F0 m 1409 ls []) := by
  refine lv_aload_n hx hb dL_law_1409 rfl (lv_at hl 2 rfl) ?_
  refine lv_aload_n hx hb dL_law_1410 rfl (lv_at hl 3 rfl) ?_
  refine lv_iload_n hx hb dL_law_1411 rfl (lv_at hl 0 rfl) ?_
  refine lv_iconst (v := 1) hx hb dL_law_1412 (by decide) ?_
  refine lv_iadd hx hb dL_law_1413 ?_
  refine lv_is (y := 1) (by decide) ?_
  refine va_sld hx hb hX hbl hbA hS (by unfold vp_in; decide) dL_law_1414 ?_
  refine lv_is (y := xs 1) rfl ?_
  refine xk_i (wr := [(o2, .inr (9, (.int 0 :: .ref (u2 0) :: .ref (u2 1) :: .ref (u2 2) :: .ref (u2 3) :: .int 0 :: .int 0 :: .int 0 :: .int 0 :: .int 0 :: .int 0 :: .int 0 :: .int 0 :: .int 0 :: .int (-1) :: .ref (u2 4) :: .ref (u2 5) :: .int 0 :: .int 0 :: .int 0 :: .ref (u2 6) :: .ref (u2 7) :: .ref (u2 8) :: .int 0 :: .int 0 :: .int 0 :: .int 0 :: .int 0 :: .ref (u2 9) :: .int 0 :: .ref (u2 10) :: .int 0 :: .int 0 :: .int 0 :: .ref (u2 11) :: .ref (u2 12) :: .ref (u2 13) :: []))), ((u2 0), .inl (cT 0, 288, .inl (allK))), ((u2 1), .inl (cT 3, 2, .inl (fun _ => 0))), ((u2 2), .inl (cT 0, 900, .inl (fun _ => 0))), ((u2 3), .inl (cT 0, 96, .inl (fun _ => 0))), ((u2 10), .inl (cT 0, 16, .inl (fun _ => 0))), ((u2 11), .inl (cT 0, 4, .inl (rsK))), ((u2 12), .inl (cT 0, 4, .inl (fun _ => 0))), ((u2 13), .inl (cT 1, 160, .inr (.inl (fun _ => 0))))]) (xr_V (n := 1) (As := [.int (xs 1)]) (rest := []) ⟨hx, hb, hml, hown, htg⟩ hK hN hP hD [0, 33] rfl (by decide) (k_restore l D cT _ (o1) (u1) ((xs 1))) wi_1130 wi_1131 wi_1132 wi_121 wi_1133 rfl rfl rfl ⟨rfl, by decide +kernel⟩ ⟨Nat.le_of_ble_eq_true rfl, Nat.le_of_ble_eq_true rfl⟩ rfl hl.1 rfl (Nat.le_of_ble_eq_true rfl) dL_law_1415 ⟨Nat.le_of_ble_eq_true rfl, Nat.le_of_ble_eq_true rfl⟩) hP hD hS hA [0, 33] [46, 47, 48, 49, 50, 51, 52, 53, 54] rfl rfl (by decide) (by decide) (fun r_2 u_1 H locs hwr_2 hP hD hS => ?_)
  have hP : va_P D classes [(o2, .inr (9, (.int 0 :: .ref (u2 0) :: .ref (u2 1) :: .ref (u2 2) :: .ref (u2 3) :: .int 0 :: .int 0 :: .int 0 :: .int 0 :: .int 0 :: .int 0 :: .int 0 :: .int 0 :: .int 0 :: .int (-1) :: .ref (u2 4) :: .ref (u2 5) :: .int 0 :: .int 0 :: .int 0 :: .ref (u2 6) :: .ref (u2 7) :: .ref (u2 8) :: .int 0 :: .int 0 :: .int 0 :: .int 0 :: .int 0 :: .ref (u2 9) :: .int 0 :: .ref (u2 10) :: .int 0 :: .int 0 :: .int 0 :: .ref (u2 11) :: .ref (u2 12) :: .ref (u2 13) :: []))), ((u2 0), .inl (cT 0, 288, .inl (allK))), ((u2 1), .inl (cT 3, 2, .inl (fun _ => 0))), ((u2 2), .inl (cT 0, 900, .inl (fun _ => 0))), ((u2 3), .inl (cT 0, 96, .inl (fun _ => 0))), ((u2 10), .inl (cT 0, 16, .inl (fun _ => 0))), ((u2 11), .inl (cT 0, 4, .inl (rsK))), ((u2 12), .inl (cT 0, 4, .inl (fun _ => 0))), ((u2 13), .inl (cT 1, 160, .inr (.inl (fun _ => 0))))] _ := hP
  have hD : va_D A [(o2, .inr (9, (.int 0 :: .ref (u2 0) :: .ref (u2 1) :: .ref (u2 2) :: .ref (u2 3) :: .int 0 :: .int 0 :: .int 0 :: .int 0 :: .int 0 :: .int 0 :: .int 0 :: .int 0 :: .int 0 :: .int (-1) :: .ref (u2 4) :: .ref (u2 5) :: .int 0 :: .int 0 :: .int 0 :: .ref (u2 6) :: .ref (u2 7) :: .ref (u2 8) :: .int 0 :: .int 0 :: .int 0 :: .int 0 :: .int 0 :: .ref (u2 9) :: .int 0 :: .ref (u2 10) :: .int 0 :: .int 0 :: .int 0 :: .ref (u2 11) :: .ref (u2 12) :: .ref (u2 13) :: []))), ((u2 0), .inl (cT 0, 288, .inl (allK))), ((u2 1), .inl (cT 3, 2, .inl (fun _ => 0))), ((u2 2), .inl (cT 0, 900, .inl (fun _ => 0))), ((u2 3), .inl (cT 0, 96, .inl (fun _ => 0))), ((u2 10), .inl (cT 0, 16, .inl (fun _ => 0))), ((u2 11), .inl (cT 0, 4, .inl (rsK))), ((u2 12), .inl (cT 0, 4, .inl (fun _ => 0))), ((u2 13), .inl (cT 1, 160, .inr (.inl (fun _ => 0))))] := hD
  have hwr_2 : r_2 = if 0 ≤ (xs 1).toInt ∧ (xs 1).toInt < 2 then -5 else -2 := hwr_2
  subst hwr_2
  refine lv_aload_n hx hb dL_law_1418 rfl (lv_at hl 1 rfl) ?_
  refine lv_aload_n hx hb dL_law_1419 rfl (lv_at hl 3 rfl) ?_
  refine lv_iload_n hx hb dL_law_1420 rfl (lv_at hl 0 rfl) ?_
  refine lv_iconst (v := 1) hx hb dL_law_1421 (by decide) ?_
  refine lv_iadd hx hb dL_law_1422 ?_
  refine lv_is (y := 1) (by decide) ?_
  refine va_sld hx hb hX hbl hbA hS (by unfold vp_in; decide) dL_law_1423 ?_
  refine lv_is (y := xs 1) rfl ?_
  refine xk_i (wr := []) (xr_V (n := 1) (As := [.int (xs 1)]) (rest := [.int (if 0 ≤ (xs 1).toInt ∧ (xs 1).toInt < 2 then -5 else -2)]) ⟨hx, hb, hml, hown, htg⟩ hK hN hP hD [0, 2] rfl (by decide) (m_restore l D cT _ (o2) (u2) ((xs 1))) wi_1618 wi_1619 wi_1620 wi_131 wi_1621 rfl rfl rfl ⟨rfl, by decide +kernel⟩ ⟨Nat.le_of_ble_eq_true rfl, Nat.le_of_ble_eq_true rfl⟩ rfl hl.1 rfl (Nat.le_of_ble_eq_true rfl) dL_law_1424 ⟨Nat.le_of_ble_eq_true rfl, Nat.le_of_ble_eq_true rfl⟩) hP hD hS hA [0, 2] [] rfl rfl (by decide) (by decide) (fun r_4 u_3 H locs hwr_4 hP hD hS => ?_)
  have hP : va_P D classes [] _ := hP
  have hD : va_D A [] := hD
  have hwr_4 : r_4 = if 0 ≤ (xs 1).toInt ∧ (xs 1).toInt < 2 then -5 else -2 := hwr_4
  subst hwr_4
  refine lv_icmp_eq (tgt := 1455) hx hb dL_law_1427 (by decide) (fun _ => ?_) (fun h => absurd rfl h)
  exact lc_end hx hb hr hml hown htg hK hN hX hbl hlk hA hAq hbA o1 o2 hS (lv_sub hl [0, 1, 2, 3] rfl)
set_option maxHeartbeats 4000000 in
set_option maxRecDepth 100000 in
theorem lc_39 {p : Program} {l : Launch} {e : Env} {s : State} {m : MethodId} {below : List Frame} {meth : Method} {c : Code} {b : Nat} {xs : Nat → Int32} {D : va_G} {cT : Nat → ClassId} {A : Nat → Prop} (hx : p.tables.exec = Jvm.exec) (hb : c.code = cL_law) (hr : meth.sig.returnType = ret) (hml : c.maxLocals = 4) (hown : s.vm.findClass RL = some m.cls) (htg : ∀ w ∈ gw_T, w.before #[Value.ref b] s = true) (hK : va_K D classes (tysX cT) s) (hN : NX s) (hX : va_X b 6 xs s s.heap) (hbl : b < s.heap.size) (hlk : meth.locks = false) (hA : ∀ q, s.heap.size ≤ q → A q) (hAq : ∀ q, A q → s.heap.size ≤ q) (hbA : ¬ A b) (o1 o2 : Nat) (u1 u2 : Nat → Nat) {H : Heap} {locs : List Loc} {ls : Array Slot} (hP : va_P D classes (wBig cT o1 o2 u1 u2) H) (hD : va_D A (wBig cT o1 o2 u1 u2)) (hS : va_S A s.heap H locs) (hl : lv_has ls 4 [(3, .int 0), (2, .ref o2), (1, .ref o1), (0, .ref b)]) : W p l e room_1 s m #[Value.ref b] below meth c H locs 2000 100000 (lw_Z below #[Value.ref b] s) (F0 m 1432 ls []) := by
  refine lv_aload_n hx hb dL_law_1432 rfl (lv_at hl 2 rfl) ?_
  refine lv_aload_n hx hb dL_law_1433 rfl (lv_at hl 3 rfl) ?_
  refine lv_iload_n hx hb dL_law_1434 rfl (lv_at hl 0 rfl) ?_
  refine lv_iconst (v := 1) hx hb dL_law_1435 (by decide) ?_
  refine lv_iadd hx hb dL_law_1436 ?_
  refine lv_is (y := 1) (by decide) ?_
  refine va_sld hx hb hX hbl hbA hS (by unfold vp_in; decide) dL_law_1437 ?_
  refine lv_is (y := xs 1) rfl ?_
  refine xk_i (wr := [(o2, .inr (9, (.int 0 :: .ref (u2 0) :: .ref (u2 1) :: .ref (u2 2) :: .ref (u2 3) :: .int 0 :: .int 0 :: .int 0 :: .int 0 :: .int 0 :: .int 0 :: .int 0 :: .int 0 :: .int 0 :: .int (-1) :: .ref (u2 4) :: .ref (u2 5) :: .int 0 :: .int 0 :: .int 0 :: .ref (u2 6) :: .ref (u2 7) :: .ref (u2 8) :: .int 0 :: .int 0 :: .int 0 :: .int 0 :: .int 0 :: .ref (u2 9) :: .int 0 :: .ref (u2 10) :: .int 0 :: .int 0 :: .int 0 :: .ref (u2 11) :: .ref (u2 12) :: .ref (u2 13) :: []))), ((u2 0), .inl (cT 0, 288, .inl (allK))), ((u2 1), .inl (cT 3, 2, .inl (fun _ => 0))), ((u2 2), .inl (cT 0, 900, .inl (fun _ => 0))), ((u2 3), .inl (cT 0, 96, .inl (fun _ => 0))), ((u2 10), .inl (cT 0, 16, .inl (fun _ => 0))), ((u2 11), .inl (cT 0, 4, .inl (rsK))), ((u2 12), .inl (cT 0, 4, .inl (fun _ => 0))), ((u2 13), .inl (cT 1, 160, .inr (.inl (fun _ => 0))))]) (xr_V (n := 1) (As := [.int (xs 1)]) (rest := []) ⟨hx, hb, hml, hown, htg⟩ hK hN hP hD [0, 11] rfl (by decide) (k_count l D cT _ (o1) (u1) ((xs 1))) wi_1134 wi_1135 wi_1136 wi_121 wi_1137 rfl rfl rfl ⟨rfl, by decide +kernel⟩ ⟨Nat.le_of_ble_eq_true rfl, Nat.le_of_ble_eq_true rfl⟩ rfl hl.1 rfl (Nat.le_of_ble_eq_true rfl) dL_law_1438 ⟨Nat.le_of_ble_eq_true rfl, Nat.le_of_ble_eq_true rfl⟩) hP hD hS hA [0, 11] [46, 47, 48, 49, 50, 51, 52, 53, 54] rfl rfl (by decide) (by decide) (fun r_2 u_1 H locs hwr_2 hP hD hS => ?_)
  have hP : va_P D classes [(o2, .inr (9, (.int 0 :: .ref (u2 0) :: .ref (u2 1) :: .ref (u2 2) :: .ref (u2 3) :: .int 0 :: .int 0 :: .int 0 :: .int 0 :: .int 0 :: .int 0 :: .int 0 :: .int 0 :: .int 0 :: .int (-1) :: .ref (u2 4) :: .ref (u2 5) :: .int 0 :: .int 0 :: .int 0 :: .ref (u2 6) :: .ref (u2 7) :: .ref (u2 8) :: .int 0 :: .int 0 :: .int 0 :: .int 0 :: .int 0 :: .ref (u2 9) :: .int 0 :: .ref (u2 10) :: .int 0 :: .int 0 :: .int 0 :: .ref (u2 11) :: .ref (u2 12) :: .ref (u2 13) :: []))), ((u2 0), .inl (cT 0, 288, .inl (allK))), ((u2 1), .inl (cT 3, 2, .inl (fun _ => 0))), ((u2 2), .inl (cT 0, 900, .inl (fun _ => 0))), ((u2 3), .inl (cT 0, 96, .inl (fun _ => 0))), ((u2 10), .inl (cT 0, 16, .inl (fun _ => 0))), ((u2 11), .inl (cT 0, 4, .inl (rsK))), ((u2 12), .inl (cT 0, 4, .inl (fun _ => 0))), ((u2 13), .inl (cT 1, 160, .inr (.inl (fun _ => 0))))] _ := hP
  have hD : va_D A [(o2, .inr (9, (.int 0 :: .ref (u2 0) :: .ref (u2 1) :: .ref (u2 2) :: .ref (u2 3) :: .int 0 :: .int 0 :: .int 0 :: .int 0 :: .int 0 :: .int 0 :: .int 0 :: .int 0 :: .int 0 :: .int (-1) :: .ref (u2 4) :: .ref (u2 5) :: .int 0 :: .int 0 :: .int 0 :: .ref (u2 6) :: .ref (u2 7) :: .ref (u2 8) :: .int 0 :: .int 0 :: .int 0 :: .int 0 :: .int 0 :: .ref (u2 9) :: .int 0 :: .ref (u2 10) :: .int 0 :: .int 0 :: .int 0 :: .ref (u2 11) :: .ref (u2 12) :: .ref (u2 13) :: []))), ((u2 0), .inl (cT 0, 288, .inl (allK))), ((u2 1), .inl (cT 3, 2, .inl (fun _ => 0))), ((u2 2), .inl (cT 0, 900, .inl (fun _ => 0))), ((u2 3), .inl (cT 0, 96, .inl (fun _ => 0))), ((u2 10), .inl (cT 0, 16, .inl (fun _ => 0))), ((u2 11), .inl (cT 0, 4, .inl (rsK))), ((u2 12), .inl (cT 0, 4, .inl (fun _ => 0))), ((u2 13), .inl (cT 1, 160, .inr (.inl (fun _ => 0))))] := hD
  have hwr_2 : r_2 = if (xs 1).toInt = 2 then -1 else if (xs 1).toInt = 3 ∨ (xs 1).toInt = 4 then 6 else if (xs 1).toInt = 5 then 1 else if (xs 1).toInt = 6 then 60 else if 0 ≤ (xs 1).toInt ∧ (xs 1).toInt ≤ 12 then 0 else -1 := hwr_2
  subst hwr_2
  refine lv_aload_n hx hb dL_law_1441 rfl (lv_at hl 1 rfl) ?_
  refine lv_aload_n hx hb dL_law_1442 rfl (lv_at hl 3 rfl) ?_
  refine lv_iload_n hx hb dL_law_1443 rfl (lv_at hl 0 rfl) ?_
  refine lv_iconst (v := 1) hx hb dL_law_1444 (by decide) ?_
  refine lv_iadd hx hb dL_law_1445 ?_
  refine lv_is (y := 1) (by decide) ?_
  refine va_sld hx hb hX hbl hbA hS (by unfold vp_in; decide) dL_law_1446 ?_
  refine lv_is (y := xs 1) rfl ?_
  refine xk_i (wr := []) (xr_V (n := 1) (As := [.int (xs 1)]) (rest := [.int (if (xs 1).toInt = 2 then -1 else if (xs 1).toInt = 3 ∨ (xs 1).toInt = 4 then 6 else if (xs 1).toInt = 5 then 1 else if (xs 1).toInt = 6 then 60 else if 0 ≤ (xs 1).toInt ∧ (xs 1).toInt ≤ 12 then 0 else -1)]) ⟨hx, hb, hml, hown, htg⟩ hK hN hP hD [0, 1] rfl (by decide) (m_count l D cT _ (o2) (u2) ((xs 1))) wi_1622 wi_1623 wi_1624 wi_131 wi_1625 rfl rfl rfl ⟨rfl, by decide +kernel⟩ ⟨Nat.le_of_ble_eq_true rfl, Nat.le_of_ble_eq_true rfl⟩ rfl hl.1 rfl (Nat.le_of_ble_eq_true rfl) dL_law_1447 ⟨Nat.le_of_ble_eq_true rfl, Nat.le_of_ble_eq_true rfl⟩) hP hD hS hA [0, 1] [] rfl rfl (by decide) (by decide) (fun r_4 u_3 H locs hwr_4 hP hD hS => ?_)
  have hP : va_P D classes [] _ := hP
  have hD : va_D A [] := hD
  have hwr_4 : r_4 = if (xs 1).toInt = 2 then -1 else if (xs 1).toInt = 3 ∨ (xs 1).toInt = 4 then 6 else if (xs 1).toInt = 5 then 1 else if (xs 1).toInt = 6 then 60 else if 0 ≤ (xs 1).toInt ∧ (xs 1).toInt ≤ 12 then 0 else -1 := hwr_4
  subst hwr_4
  refine lv_icmp_eq (tgt := 1455) hx hb dL_law_1450 (by decide) (fun _ => ?_) (fun h => absurd rfl h)
  exact lc_end hx hb hr hml hown htg hK hN hX hbl hlk hA hAq hbA o1 o2 hS (lv_sub hl [0, 1, 2, 3] rfl)
