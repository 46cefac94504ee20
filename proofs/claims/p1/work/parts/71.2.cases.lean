set_option maxHeartbeats 4000000 in
set_option maxRecDepth 100000 in
theorem lc_20 {p : Program} {l : Launch} {e : Env} {s : State} {m : MethodId} {below : List Frame} {meth : Method} {c : Code} {b : Nat} {xs : Nat → Int32} {D : va_G} {cT : Nat → ClassId} {A : Nat → Prop} (hx : p.tables.exec = Jvm.exec) (hb : c.code = cL_law) (hr : meth.sig.returnType = ret) (hml : c.maxLocals = 4) (hown : s.vm.findClass RL = some m.cls) (htg : ∀ w ∈ gw_T, w.before #[Value.ref b] s = true) (hK : va_K D classes (tysX cT) s) (hN : NX s) (hX : va_X b 6 xs s s.heap) (hbl : b < s.heap.size) (hlk : meth.locks = false) (hA : ∀ q, s.heap.size ≤ q → A q) (hAq : ∀ q, A q → s.heap.size ≤ q) (hbA : ¬ A b) (o1 o2 : Nat) (u1 u2 : Nat → Nat) {H : Heap} {locs : List Loc} {ls : Array Slot} (hP : va_P D classes (wBig cT o1 o2 u1 u2) H) (hD : va_D A (wBig cT o1 o2 u1 u2)) (hS : va_S A s.heap H locs) (hl : lv_has ls 4 [(3, .int 0), (2, .ref o2), (1, .ref o1), (0, .ref b)]) : W p l e room_1 s m #[Value.ref b] below meth c H locs 2000 100000 (lw_Z below #[Value.ref b] s) (F0 m 834 ls []) := by
  refine lv_aload_n hx hb dL_law_834 rfl (lv_at hl 2 rfl) ?_
  refine lv_aload_n hx hb dL_law_835 rfl (lv_at hl 3 rfl) ?_
  refine lv_iload_n hx hb dL_law_836 rfl (lv_at hl 0 rfl) ?_
  refine lv_iconst (v := 1) hx hb dL_law_837 (by decide) ?_
  refine lv_iadd hx hb dL_law_838 ?_
  refine lv_is (y := 1) (by decide) ?_
  refine va_sld hx hb hX hbl hbA hS (by unfold vp_in; decide) dL_law_839 ?_
  refine lv_is (y := xs 1) rfl ?_
  refine lv_aload_n hx hb dL_law_840 rfl (lv_at hl 3 rfl) ?_
  refine lv_iload_n hx hb dL_law_841 rfl (lv_at hl 0 rfl) ?_
  refine lv_iconst (v := 2) hx hb dL_law_842 (by decide) ?_
  refine lv_iadd hx hb dL_law_843 ?_
  refine lv_is (y := 2) (by decide) ?_
  refine va_sld hx hb hX hbl hbA hS (by unfold vp_in; decide) dL_law_844 ?_
  refine lv_is (y := xs 2) rfl ?_
  refine xk_i (wr := [(o2, .inr (9, (.int 0 :: .ref (u2 0) :: .ref (u2 1) :: .ref (u2 2) :: .ref (u2 3) :: .int 0 :: .int 0 :: .int 0 :: .int 0 :: .int 0 :: .int 0 :: .int 0 :: .int 0 :: .int 0 :: .int (-1) :: .ref (u2 4) :: .ref (u2 5) :: .int 0 :: .int 0 :: .int 0 :: .ref (u2 6) :: .ref (u2 7) :: .ref (u2 8) :: .int 0 :: .int 0 :: .int 0 :: .int 0 :: .int 0 :: .ref (u2 9) :: .int 0 :: .ref (u2 10) :: .int 0 :: .int 0 :: .int 0 :: .ref (u2 11) :: .ref (u2 12) :: .ref (u2 13) :: []))), ((u2 0), .inl (cT 0, 288, .inl (allK))), ((u2 1), .inl (cT 3, 2, .inl (fun _ => 0))), ((u2 2), .inl (cT 0, 900, .inl (fun _ => 0))), ((u2 3), .inl (cT 0, 96, .inl (fun _ => 0))), ((u2 10), .inl (cT 0, 16, .inl (fun _ => 0))), ((u2 11), .inl (cT 0, 4, .inl (rsK))), ((u2 12), .inl (cT 0, 4, .inl (fun _ => 0))), ((u2 13), .inl (cT 1, 160, .inr (.inl (fun _ => 0))))]) (xr_V (n := 2) (As := [.int (xs 1), .int (xs 2)]) (rest := []) ⟨hx, hb, hml, hown, htg⟩ hK hN hP hD [0, 11] rfl (by decide) (k_fairest l D cT _ (o1) (u1) ((xs 1)) ((xs 2))) wi_931 wi_932 wi_933 wi_121 wi_934 rfl rfl rfl ⟨rfl, by decide +kernel⟩ ⟨Nat.le_of_ble_eq_true rfl, Nat.le_of_ble_eq_true rfl⟩ rfl hl.1 rfl (Nat.le_of_ble_eq_true rfl) dL_law_845 ⟨Nat.le_of_ble_eq_true rfl, Nat.le_of_ble_eq_true rfl⟩) hP hD hS hA [0, 11] [46, 47, 48, 49, 50, 51, 52, 53, 54] rfl rfl (by decide) (by decide) (fun r_2 u_1 H locs hwr_2 hP hD hS => ?_)
  have hP : va_P D classes [(o2, .inr (9, (.int 0 :: .ref (u2 0) :: .ref (u2 1) :: .ref (u2 2) :: .ref (u2 3) :: .int 0 :: .int 0 :: .int 0 :: .int 0 :: .int 0 :: .int 0 :: .int 0 :: .int 0 :: .int 0 :: .int (-1) :: .ref (u2 4) :: .ref (u2 5) :: .int 0 :: .int 0 :: .int 0 :: .ref (u2 6) :: .ref (u2 7) :: .ref (u2 8) :: .int 0 :: .int 0 :: .int 0 :: .int 0 :: .int 0 :: .ref (u2 9) :: .int 0 :: .ref (u2 10) :: .int 0 :: .int 0 :: .int 0 :: .ref (u2 11) :: .ref (u2 12) :: .ref (u2 13) :: []))), ((u2 0), .inl (cT 0, 288, .inl (allK))), ((u2 1), .inl (cT 3, 2, .inl (fun _ => 0))), ((u2 2), .inl (cT 0, 900, .inl (fun _ => 0))), ((u2 3), .inl (cT 0, 96, .inl (fun _ => 0))), ((u2 10), .inl (cT 0, 16, .inl (fun _ => 0))), ((u2 11), .inl (cT 0, 4, .inl (rsK))), ((u2 12), .inl (cT 0, 4, .inl (fun _ => 0))), ((u2 13), .inl (cT 1, 160, .inr (.inl (fun _ => 0))))] _ := hP
  have hD : va_D A [(o2, .inr (9, (.int 0 :: .ref (u2 0) :: .ref (u2 1) :: .ref (u2 2) :: .ref (u2 3) :: .int 0 :: .int 0 :: .int 0 :: .int 0 :: .int 0 :: .int 0 :: .int 0 :: .int 0 :: .int 0 :: .int (-1) :: .ref (u2 4) :: .ref (u2 5) :: .int 0 :: .int 0 :: .int 0 :: .ref (u2 6) :: .ref (u2 7) :: .ref (u2 8) :: .int 0 :: .int 0 :: .int 0 :: .int 0 :: .int 0 :: .ref (u2 9) :: .int 0 :: .ref (u2 10) :: .int 0 :: .int 0 :: .int 0 :: .ref (u2 11) :: .ref (u2 12) :: .ref (u2 13) :: []))), ((u2 0), .inl (cT 0, 288, .inl (allK))), ((u2 1), .inl (cT 3, 2, .inl (fun _ => 0))), ((u2 2), .inl (cT 0, 900, .inl (fun _ => 0))), ((u2 3), .inl (cT 0, 96, .inl (fun _ => 0))), ((u2 10), .inl (cT 0, 16, .inl (fun _ => 0))), ((u2 11), .inl (cT 0, 4, .inl (rsK))), ((u2 12), .inl (cT 0, 4, .inl (fun _ => 0))), ((u2 13), .inl (cT 1, 160, .inr (.inl (fun _ => 0))))] := hD
  have hwr_2 : r_2 = if (0 ≤ (xs 2).toInt ∧ (xs 2).toInt ≤ 1) ∨ (10 ≤ (xs 2).toInt ∧ (xs 2).toInt < 18) then (if 1 ≤ (xs 1).toInt ∧ (xs 1).toInt ≤ 8 then -5 else -3) else -2 := hwr_2
  subst hwr_2
  refine lv_aload_n hx hb dL_law_848 rfl (lv_at hl 1 rfl) ?_
  refine lv_aload_n hx hb dL_law_849 rfl (lv_at hl 3 rfl) ?_
  refine lv_iload_n hx hb dL_law_850 rfl (lv_at hl 0 rfl) ?_
  refine lv_iconst (v := 1) hx hb dL_law_851 (by decide) ?_
  refine lv_iadd hx hb dL_law_852 ?_
  refine lv_is (y := 1) (by decide) ?_
  refine va_sld hx hb hX hbl hbA hS (by unfold vp_in; decide) dL_law_853 ?_
  refine lv_is (y := xs 1) rfl ?_
  refine lv_aload_n hx hb dL_law_854 rfl (lv_at hl 3 rfl) ?_
  refine lv_iload_n hx hb dL_law_855 rfl (lv_at hl 0 rfl) ?_
  refine lv_iconst (v := 2) hx hb dL_law_856 (by decide) ?_
  refine lv_iadd hx hb dL_law_857 ?_
  refine lv_is (y := 2) (by decide) ?_
  refine va_sld hx hb hX hbl hbA hS (by unfold vp_in; decide) dL_law_858 ?_
  refine lv_is (y := xs 2) rfl ?_
  refine xk_i (wr := []) (xr_V (n := 2) (As := [.int (xs 1), .int (xs 2)]) (rest := [.int (if (0 ≤ (xs 2).toInt ∧ (xs 2).toInt ≤ 1) ∨ (10 ≤ (xs 2).toInt ∧ (xs 2).toInt < 18) then (if 1 ≤ (xs 1).toInt ∧ (xs 1).toInt ≤ 8 then -5 else -3) else -2)]) ⟨hx, hb, hml, hown, htg⟩ hK hN hP hD [0, 1] rfl (by decide) (m_fairest l D cT _ (o2) (u2) ((xs 1)) ((xs 2))) wi_1502 wi_1503 wi_1504 wi_131 wi_1505 rfl rfl rfl ⟨rfl, by decide +kernel⟩ ⟨Nat.le_of_ble_eq_true rfl, Nat.le_of_ble_eq_true rfl⟩ rfl hl.1 rfl (Nat.le_of_ble_eq_true rfl) dL_law_859 ⟨Nat.le_of_ble_eq_true rfl, Nat.le_of_ble_eq_true rfl⟩) hP hD hS hA [0, 1] [] rfl rfl (by decide) (by decide) (fun r_4 u_3 H locs hwr_4 hP hD hS => ?_)
  have hP : va_P D classes [] _ := hP
  have hD : va_D A [] := hD
  have hwr_4 : r_4 = if (0 ≤ (xs 2).toInt ∧ (xs 2).toInt ≤ 1) ∨ (10 ≤ (xs 2).toInt ∧ (xs 2).toInt < 18) then (if 1 ≤ (xs 1).toInt ∧ (xs 1).toInt ≤ 8 then -5 else -3) else -2 := hwr_4
  subst hwr_4
  refine lv_icmp_eq (tgt := 1455) hx hb dL_law_862 (by decide) (fun _ => ?_) (fun h => absurd rfl h)
  exact lc_end hx hb hr hml hown htg hK hN hX hbl hlk hA hAq hbA o1 o2 hS (lv_sub hl [0, 1, 2, 3] rfl)
set_option maxHeartbeats 4000000 in
set_option maxRecDepth 100000 in
theorem lc_21 {p : Program} {l : Launch} {e : Env} {s : State} {m : MethodId} {below : List Frame} {meth : Method} {c : Code} {b : Nat} {xs : Nat → Int32} {D : va_G} {cT : Nat → ClassId} {A : Nat → Prop} (hx : p.tables.exec = Jvm.exec) (hb : c.code = cL_law) (hr : meth.sig.returnType = ret) (hml : c.maxLocals = 4) (hown : s.vm.findClass RL = some m.cls) (htg : ∀ w ∈ gw_T, w.before #[Value.ref b] s = true) (hK : va_K D classes (tysX cT) s) (hN : NX s) (hX : va_X b 6 xs s s.heap) (hbl : b < s.heap.size) (hlk : meth.locks = false) (hA : ∀ q, s.heap.size ≤ q → A q) (hAq : ∀ q, A q → s.heap.size ≤ q) (hbA : ¬ A b) (o1 o2 : Nat) (u1 u2 : Nat → Nat) {H : Heap} {locs : List Loc} {ls : Array Slot} (hP : va_P D classes (wBig cT o1 o2 u1 u2) H) (hD : va_D A (wBig cT o1 o2 u1 u2)) (hS : va_S A s.heap H locs) (hl : lv_has ls 4 [(3, .int 0), (2, .ref o2), (1, .ref o1), (0, .ref b)]) : W p l e room_1 s m #[Value.ref b] below meth c H locs 2000 100000 (lw_Z below #[Value.ref b] s) (F0 m 867 ls []) := by
  refine lv_aload_n hx hb dL_law_867 rfl (lv_at hl 2 rfl) ?_
  refine lv_aload_n hx hb dL_law_868 rfl (lv_at hl 3 rfl) ?_
  refine lv_iload_n hx hb dL_law_869 rfl (lv_at hl 0 rfl) ?_
  refine lv_iconst (v := 1) hx hb dL_law_870 (by decide) ?_
  refine lv_iadd hx hb dL_law_871 ?_
  refine lv_is (y := 1) (by decide) ?_
  refine va_sld hx hb hX hbl hbA hS (by unfold vp_in; decide) dL_law_872 ?_
  refine lv_is (y := xs 1) rfl ?_
  refine lv_aload_n hx hb dL_law_873 rfl (lv_at hl 3 rfl) ?_
  refine lv_iload_n hx hb dL_law_874 rfl (lv_at hl 0 rfl) ?_
  refine lv_iconst (v := 2) hx hb dL_law_875 (by decide) ?_
  refine lv_iadd hx hb dL_law_876 ?_
  refine lv_is (y := 2) (by decide) ?_
  refine va_sld hx hb hX hbl hbA hS (by unfold vp_in; decide) dL_law_877 ?_
  refine lv_is (y := xs 2) rfl ?_
  refine lv_aload_n hx hb dL_law_878 rfl (lv_at hl 3 rfl) ?_
  refine lv_iload_n hx hb dL_law_879 rfl (lv_at hl 0 rfl) ?_
  refine lv_iconst (v := 3) hx hb dL_law_880 (by decide) ?_
  refine lv_iadd hx hb dL_law_881 ?_
  refine lv_is (y := 3) (by decide) ?_
  refine va_sld hx hb hX hbl hbA hS (by unfold vp_in; decide) dL_law_882 ?_
  refine lv_is (y := xs 3) rfl ?_
  refine xk_i (wr := [(o2, .inr (9, (.int 0 :: .ref (u2 0) :: .ref (u2 1) :: .ref (u2 2) :: .ref (u2 3) :: .int 0 :: .int 0 :: .int 0 :: .int 0 :: .int 0 :: .int 0 :: .int 0 :: .int 0 :: .int 0 :: .int (-1) :: .ref (u2 4) :: .ref (u2 5) :: .int 0 :: .int 0 :: .int 0 :: .ref (u2 6) :: .ref (u2 7) :: .ref (u2 8) :: .int 0 :: .int 0 :: .int 0 :: .int 0 :: .int 0 :: .ref (u2 9) :: .int 0 :: .ref (u2 10) :: .int 0 :: .int 0 :: .int 0 :: .ref (u2 11) :: .ref (u2 12) :: .ref (u2 13) :: []))), ((u2 0), .inl (cT 0, 288, .inl (allK))), ((u2 1), .inl (cT 3, 2, .inl (fun _ => 0))), ((u2 2), .inl (cT 0, 900, .inl (fun _ => 0))), ((u2 3), .inl (cT 0, 96, .inl (fun _ => 0))), ((u2 10), .inl (cT 0, 16, .inl (fun _ => 0))), ((u2 11), .inl (cT 0, 4, .inl (rsK))), ((u2 12), .inl (cT 0, 4, .inl (fun _ => 0))), ((u2 13), .inl (cT 1, 160, .inr (.inl (fun _ => 0))))]) (xr_V (n := 3) (As := [.int (xs 1), .int (xs 2), .int (xs 3)]) (rest := []) ⟨hx, hb, hml, hown, htg⟩ hK hN hP hD [0, 11] rfl (by decide) (k_alone l D cT _ (o1) (u1) ((xs 1)) ((xs 2)) ((xs 3))) wi_941 wi_942 wi_943 wi_121 wi_944 rfl rfl rfl ⟨rfl, by decide +kernel⟩ ⟨Nat.le_of_ble_eq_true rfl, Nat.le_of_ble_eq_true rfl⟩ rfl hl.1 rfl (Nat.le_of_ble_eq_true rfl) dL_law_883 ⟨Nat.le_of_ble_eq_true rfl, Nat.le_of_ble_eq_true rfl⟩) hP hD hS hA [0, 11] [46, 47, 48, 49, 50, 51, 52, 53, 54] rfl rfl (by decide) (by decide) (fun r_2 u_1 H locs hwr_2 hP hD hS => ?_)
  have hP : va_P D classes [(o2, .inr (9, (.int 0 :: .ref (u2 0) :: .ref (u2 1) :: .ref (u2 2) :: .ref (u2 3) :: .int 0 :: .int 0 :: .int 0 :: .int 0 :: .int 0 :: .int 0 :: .int 0 :: .int 0 :: .int 0 :: .int (-1) :: .ref (u2 4) :: .ref (u2 5) :: .int 0 :: .int 0 :: .int 0 :: .ref (u2 6) :: .ref (u2 7) :: .ref (u2 8) :: .int 0 :: .int 0 :: .int 0 :: .int 0 :: .int 0 :: .ref (u2 9) :: .int 0 :: .ref (u2 10) :: .int 0 :: .int 0 :: .int 0 :: .ref (u2 11) :: .ref (u2 12) :: .ref (u2 13) :: []))), ((u2 0), .inl (cT 0, 288, .inl (allK))), ((u2 1), .inl (cT 3, 2, .inl (fun _ => 0))), ((u2 2), .inl (cT 0, 900, .inl (fun _ => 0))), ((u2 3), .inl (cT 0, 96, .inl (fun _ => 0))), ((u2 10), .inl (cT 0, 16, .inl (fun _ => 0))), ((u2 11), .inl (cT 0, 4, .inl (rsK))), ((u2 12), .inl (cT 0, 4, .inl (fun _ => 0))), ((u2 13), .inl (cT 1, 160, .inr (.inl (fun _ => 0))))] _ := hP
  have hD : va_D A [(o2, .inr (9, (.int 0 :: .ref (u2 0) :: .ref (u2 1) :: .ref (u2 2) :: .ref (u2 3) :: .int 0 :: .int 0 :: .int 0 :: .int 0 :: .int 0 :: .int 0 :: .int 0 :: .int 0 :: .int 0 :: .int (-1) :: .ref (u2 4) :: .ref (u2 5) :: .int 0 :: .int 0 :: .int 0 :: .ref (u2 6) :: .ref (u2 7) :: .ref (u2 8) :: .int 0 :: .int 0 :: .int 0 :: .int 0 :: .int 0 :: .ref (u2 9) :: .int 0 :: .ref (u2 10) :: .int 0 :: .int 0 :: .int 0 :: .ref (u2 11) :: .ref (u2 12) :: .ref (u2 13) :: []))), ((u2 0), .inl (cT 0, 288, .inl (allK))), ((u2 1), .inl (cT 3, 2, .inl (fun _ => 0))), ((u2 2), .inl (cT 0, 900, .inl (fun _ => 0))), ((u2 3), .inl (cT 0, 96, .inl (fun _ => 0))), ((u2 10), .inl (cT 0, 16, .inl (fun _ => 0))), ((u2 11), .inl (cT 0, 4, .inl (rsK))), ((u2 12), .inl (cT 0, 4, .inl (fun _ => 0))), ((u2 13), .inl (cT 1, 160, .inr (.inl (fun _ => 0))))] := hD
  have hwr_2 : r_2 = if (0 ≤ (xs 1).toInt ∧ (xs 1).toInt < 6) ∧ ((0 ≤ (xs 3).toInt ∧ (xs 3).toInt ≤ 0) ∨ (10 ≤ (xs 3).toInt ∧ (xs 3).toInt < 18)) then (if 1 ≤ (xs 2).toInt ∧ (xs 2).toInt ≤ 8 then -5 else -3) else -2 := hwr_2
  subst hwr_2
  refine lv_aload_n hx hb dL_law_886 rfl (lv_at hl 1 rfl) ?_
  refine lv_aload_n hx hb dL_law_887 rfl (lv_at hl 3 rfl) ?_
  refine lv_iload_n hx hb dL_law_888 rfl (lv_at hl 0 rfl) ?_
  refine lv_iconst (v := 1) hx hb dL_law_889 (by decide) ?_
  refine lv_iadd hx hb dL_law_890 ?_
  refine lv_is (y := 1) (by decide) ?_
  refine va_sld hx hb hX hbl hbA hS (by unfold vp_in; decide) dL_law_891 ?_
  refine lv_is (y := xs 1) rfl ?_
  refine lv_aload_n hx hb dL_law_892 rfl (lv_at hl 3 rfl) ?_
  refine lv_iload_n hx hb dL_law_893 rfl (lv_at hl 0 rfl) ?_
  refine lv_iconst (v := 2) hx hb dL_law_894 (by decide) ?_
  refine lv_iadd hx hb dL_law_895 ?_
  refine lv_is (y := 2) (by decide) ?_
  refine va_sld hx hb hX hbl hbA hS (by unfold vp_in; decide) dL_law_896 ?_
  refine lv_is (y := xs 2) rfl ?_
  refine lv_aload_n hx hb dL_law_897 rfl (lv_at hl 3 rfl) ?_
  refine lv_iload_n hx hb dL_law_898 rfl (lv_at hl 0 rfl) ?_
  refine lv_iconst (v := 3) hx hb dL_law_899 (by decide) ?_
  refine lv_iadd hx hb dL_law_900 ?_
  refine lv_is (y := 3) (by decide) ?_
  refine va_sld hx hb hX hbl hbA hS (by unfold vp_in; decide) dL_law_901 ?_
  refine lv_is (y := xs 3) rfl ?_
  refine xk_i (wr := []) (xr_V (n := 3) (As := [.int (xs 1), .int (xs 2), .int (xs 3)]) (rest := [.int (if (0 ≤ (xs 1).toInt ∧ (xs 1).toInt < 6) ∧ ((0 ≤ (xs 3).toInt ∧ (xs 3).toInt ≤ 0) ∨ (10 ≤ (xs 3).toInt ∧ (xs 3).toInt < 18)) then (if 1 ≤ (xs 2).toInt ∧ (xs 2).toInt ≤ 8 then -5 else -3) else -2)]) ⟨hx, hb, hml, hown, htg⟩ hK hN hP hD [0, 1] rfl (by decide) (m_alone l D cT _ (o2) (u2) ((xs 1)) ((xs 2)) ((xs 3))) wi_1506 wi_1507 wi_1508 wi_131 wi_1509 rfl rfl rfl ⟨rfl, by decide +kernel⟩ ⟨Nat.le_of_ble_eq_true rfl, Nat.le_of_ble_eq_true rfl⟩ rfl hl.1 rfl (Nat.le_of_ble_eq_true rfl) dL_law_902 ⟨Nat.le_of_ble_eq_true rfl, Nat.le_of_ble_eq_true rfl⟩) hP hD hS hA [0, 1] [] rfl rfl (by decide) (by decide) (fun r_4 u_3 H locs hwr_4 hP hD hS => ?_)
  have hP : va_P D classes [] _ := hP
  have hD : va_D A [] := hD
  have hwr_4 : r_4 = if (0 ≤ (xs 1).toInt ∧ (xs 1).toInt < 6) ∧ ((0 ≤ (xs 3).toInt ∧ (xs 3).toInt ≤ 0) ∨ (10 ≤ (xs 3).toInt ∧ (xs 3).toInt < 18)) then (if 1 ≤ (xs 2).toInt ∧ (xs 2).toInt ≤ 8 then -5 else -3) else -2 := hwr_4
  subst hwr_4
  refine lv_icmp_eq (tgt := 1455) hx hb dL_law_905 (by decide) (fun _ => ?_) (fun h => absurd rfl h)
  exact lc_end hx hb hr hml hown htg hK hN hX hbl hlk hA hAq hbA o1 o2 hS (lv_sub hl [0, 1, 2, 3] rfl)
set_option maxHeartbeats 4000000 in
set_option maxRecDepth 100000 in
theorem lc_22 {p : Program} {l : Launch} {e : Env} {s : State} {m : MethodId} {below : List Frame} {meth : Method} {c : Code} {b : Nat} {xs : Nat → Int32} {D : va_G} {cT : Nat → ClassId} {A : Nat → Prop} (hx : p.tables.exec = Jvm.exec) (hb : c.code = cL_law) (hr : meth.sig.returnType = ret) (hml : c.maxLocals = 4) (hown : s.vm.findClass RL = some m.cls) (htg : ∀ w ∈ gw_T, w.before #[Value.ref b] s = true) (hK : va_K D classes (tysX cT) s) (hN : NX s) (hX : va_X b 6 xs s s.heap) (hbl : b < s.heap.size) (hlk : meth.locks = false) (hA : ∀ q, s.heap.size ≤ q → A q) (hAq : ∀ q, A q → s.heap.size ≤ q) (hbA : ¬ A b) (o1 o2 : Nat) (u1 u2 : Nat → Nat) {H : Heap} {locs : List Loc} {ls : Array Slot} (hP : va_P D classes (wBig cT o1 o2 u1 u2) H) (hD : va_D A (wBig cT o1 o2 u1 u2)) (hS : va_S A s.heap H locs) (hl : lv_has ls 4 [(3, .int 0), (2, .ref o2), (1, .ref o1), (0, .ref b)]) : W p l e room_1 s m #[Value.ref b] below meth c H locs 2000 100000 (lw_Z below #[Value.ref b] s) (F0 m 910 ls []) := by
  refine lv_aload_n hx hb dL_law_910 rfl (lv_at hl 2 rfl) ?_
  refine lv_aload_n hx hb dL_law_911 rfl (lv_at hl 3 rfl) ?_
  refine lv_iload_n hx hb dL_law_912 rfl (lv_at hl 0 rfl) ?_
  refine lv_iconst (v := 1) hx hb dL_law_913 (by decide) ?_
  refine lv_iadd hx hb dL_law_914 ?_
  refine lv_is (y := 1) (by decide) ?_
  refine va_sld hx hb hX hbl hbA hS (by unfold vp_in; decide) dL_law_915 ?_
  refine lv_is (y := xs 1) rfl ?_
  refine lv_aload_n hx hb dL_law_916 rfl (lv_at hl 3 rfl) ?_
  refine lv_iload_n hx hb dL_law_917 rfl (lv_at hl 0 rfl) ?_
  refine lv_iconst (v := 2) hx hb dL_law_918 (by decide) ?_
  refine lv_iadd hx hb dL_law_919 ?_
  refine lv_is (y := 2) (by decide) ?_
  refine va_sld hx hb hX hbl hbA hS (by unfold vp_in; decide) dL_law_920 ?_
  refine lv_is (y := xs 2) rfl ?_
  refine xk_i (wr := [(o2, .inr (9, (.int 0 :: .ref (u2 0) :: .ref (u2 1) :: .ref (u2 2) :: .ref (u2 3) :: .int 0 :: .int 0 :: .int 0 :: .int 0 :: .int 0 :: .int 0 :: .int 0 :: .int 0 :: .int 0 :: .int (-1) :: .ref (u2 4) :: .ref (u2 5) :: .int 0 :: .int 0 :: .int 0 :: .ref (u2 6) :: .ref (u2 7) :: .ref (u2 8) :: .int 0 :: .int 0 :: .int 0 :: .int 0 :: .int 0 :: .ref (u2 9) :: .int 0 :: .ref (u2 10) :: .int 0 :: .int 0 :: .int 0 :: .ref (u2 11) :: .ref (u2 12) :: .ref (u2 13) :: []))), ((u2 0), .inl (cT 0, 288, .inl (allK))), ((u2 1), .inl (cT 3, 2, .inl (fun _ => 0))), ((u2 2), .inl (cT 0, 900, .inl (fun _ => 0))), ((u2 3), .inl (cT 0, 96, .inl (fun _ => 0))), ((u2 10), .inl (cT 0, 16, .inl (fun _ => 0))), ((u2 11), .inl (cT 0, 4, .inl (rsK))), ((u2 12), .inl (cT 0, 4, .inl (fun _ => 0))), ((u2 13), .inl (cT 1, 160, .inr (.inl (fun _ => 0))))]) (xr_V (n := 2) (As := [.int (xs 1), .int (xs 2)]) (rest := []) ⟨hx, hb, hml, hown, htg⟩ hK hN hP hD [0, 11] rfl (by decide) (k_pays l D cT _ (o1) (u1) ((xs 1)) ((xs 2))) wi_945 wi_946 wi_947 wi_121 wi_948 rfl rfl rfl ⟨rfl, by decide +kernel⟩ ⟨Nat.le_of_ble_eq_true rfl, Nat.le_of_ble_eq_true rfl⟩ rfl hl.1 rfl (Nat.le_of_ble_eq_true rfl) dL_law_921 ⟨Nat.le_of_ble_eq_true rfl, Nat.le_of_ble_eq_true rfl⟩) hP hD hS hA [0, 11] [46, 47, 48, 49, 50, 51, 52, 53, 54] rfl rfl (by decide) (by decide) (fun r_2 u_1 H locs hwr_2 hP hD hS => ?_)
  have hP : va_P D classes [(o2, .inr (9, (.int 0 :: .ref (u2 0) :: .ref (u2 1) :: .ref (u2 2) :: .ref (u2 3) :: .int 0 :: .int 0 :: .int 0 :: .int 0 :: .int 0 :: .int 0 :: .int 0 :: .int 0 :: .int 0 :: .int (-1) :: .ref (u2 4) :: .ref (u2 5) :: .int 0 :: .int 0 :: .int 0 :: .ref (u2 6) :: .ref (u2 7) :: .ref (u2 8) :: .int 0 :: .int 0 :: .int 0 :: .int 0 :: .int 0 :: .ref (u2 9) :: .int 0 :: .ref (u2 10) :: .int 0 :: .int 0 :: .int 0 :: .ref (u2 11) :: .ref (u2 12) :: .ref (u2 13) :: []))), ((u2 0), .inl (cT 0, 288, .inl (allK))), ((u2 1), .inl (cT 3, 2, .inl (fun _ => 0))), ((u2 2), .inl (cT 0, 900, .inl (fun _ => 0))), ((u2 3), .inl (cT 0, 96, .inl (fun _ => 0))), ((u2 10), .inl (cT 0, 16, .inl (fun _ => 0))), ((u2 11), .inl (cT 0, 4, .inl (rsK))), ((u2 12), .inl (cT 0, 4, .inl (fun _ => 0))), ((u2 13), .inl (cT 1, 160, .inr (.inl (fun _ => 0))))] _ := hP
  have hD : va_D A [(o2, .inr (9, (.int 0 :: .ref (u2 0) :: .ref (u2 1) :: .ref (u2 2) :: .ref (u2 3) :: .int 0 :: .int 0 :: .int 0 :: .int 0 :: .int 0 :: .int 0 :: .int 0 :: .int 0 :: .int 0 :: .int (-1) :: .ref (u2 4) :: .ref (u2 5) :: .int 0 :: .int 0 :: .int 0 :: .ref (u2 6) :: .ref (u2 7) :: .ref (u2 8) :: .int 0 :: .int 0 :: .int 0 :: .int 0 :: .int 0 :: .ref (u2 9) :: .int 0 :: .ref (u2 10) :: .int 0 :: .int 0 :: .int 0 :: .ref (u2 11) :: .ref (u2 12) :: .ref (u2 13) :: []))), ((u2 0), .inl (cT 0, 288, .inl (allK))), ((u2 1), .inl (cT 3, 2, .inl (fun _ => 0))), ((u2 2), .inl (cT 0, 900, .inl (fun _ => 0))), ((u2 3), .inl (cT 0, 96, .inl (fun _ => 0))), ((u2 10), .inl (cT 0, 16, .inl (fun _ => 0))), ((u2 11), .inl (cT 0, 4, .inl (rsK))), ((u2 12), .inl (cT 0, 4, .inl (fun _ => 0))), ((u2 13), .inl (cT 1, 160, .inr (.inl (fun _ => 0))))] := hD
  have hwr_2 : r_2 = if 0 ≤ (xs 1).toInt ∧ (xs 1).toInt < 6 then (if 1 ≤ (xs 2).toInt ∧ (xs 2).toInt ≤ 8 then -5 else -3) else -2 := hwr_2
  subst hwr_2
  refine lv_aload_n hx hb dL_law_924 rfl (lv_at hl 1 rfl) ?_
  refine lv_aload_n hx hb dL_law_925 rfl (lv_at hl 3 rfl) ?_
  refine lv_iload_n hx hb dL_law_926 rfl (lv_at hl 0 rfl) ?_
  refine lv_iconst (v := 1) hx hb dL_law_927 (by decide) ?_
  refine lv_iadd hx hb dL_law_928 ?_
  refine lv_is (y := 1) (by decide) ?_
  refine va_sld hx hb hX hbl hbA hS (by unfold vp_in; decide) dL_law_929 ?_
  refine lv_is (y := xs 1) rfl ?_
  refine lv_aload_n hx hb dL_law_930 rfl (lv_at hl 3 rfl) ?_
  refine lv_iload_n hx hb dL_law_931 rfl (lv_at hl 0 rfl) ?_
  refine lv_iconst (v := 2) hx hb dL_law_932 (by decide) ?_
  refine lv_iadd hx hb dL_law_933 ?_
  refine lv_is (y := 2) (by decide) ?_
  refine va_sld hx hb hX hbl hbA hS (by unfold vp_in; decide) dL_law_934 ?_
  refine lv_is (y := xs 2) rfl ?_
  refine xk_i (wr := []) (xr_V (n := 2) (As := [.int (xs 1), .int (xs 2)]) (rest := [.int (if 0 ≤ (xs 1).toInt ∧ (xs 1).toInt < 6 then (if 1 ≤ (xs 2).toInt ∧ (xs 2).toInt ≤ 8 then -5 else -3) else -2)]) ⟨hx, hb, hml, hown, htg⟩ hK hN hP hD [0, 1] rfl (by decide) (m_pays l D cT _ (o2) (u2) ((xs 1)) ((xs 2))) wi_1510 wi_1511 wi_1512 wi_131 wi_1513 rfl rfl rfl ⟨rfl, by decide +kernel⟩ ⟨Nat.le_of_ble_eq_true rfl, Nat.le_of_ble_eq_true rfl⟩ rfl hl.1 rfl (Nat.le_of_ble_eq_true rfl) dL_law_935 ⟨Nat.le_of_ble_eq_true rfl, Nat.le_of_ble_eq_true rfl⟩) hP hD hS hA [0, 1] [] rfl rfl (by decide) (by decide) (fun r_4 u_3 H locs hwr_4 hP hD hS => ?_)
  have hP : va_P D classes [] _ := hP
  have hD : va_D A [] := hD
  have hwr_4 : r_4 = if 0 ≤ (xs 1).toInt ∧ (xs 1).toInt < 6 then (if 1 ≤ (xs 2).toInt ∧ (xs 2).toInt ≤ 8 then -5 else -3) else -2 := hwr_4
  subst hwr_4
  refine lv_icmp_eq (tgt := 1455) hx hb dL_law_938 (by decide) (fun _ => ?_) (fun h => absurd rfl h)
  exact lc_end hx hb hr hml hown htg hK hN hX hbl hlk hA hAq hbA o1 o2 hS (lv_sub hl [0, 1, 2, 3] rfl)
set_option maxHeartbeats 4000000 in
set_option maxRecDepth 100000 in
theorem lc_23 {p : Program} {l : Launch} {e : Env} {s : State} {m : MethodId} {below : List Frame} {meth : Method} {c : Code} {b : Nat} {xs : Nat → Int32} {D : va_G} {cT : Nat → ClassId} {A : Nat → Prop} (hx : p.tables.exec = Jvm.exec) (hb : c.code = cL_law) (hr : meth.sig.returnType = ret) (hml : c.maxLocals = 4) (hown : s.vm.findClass RL = some m.cls) (htg : ∀ w ∈ gw_T, w.before #[Value.ref b] s = true) (hK : va_K D classes (tysX cT) s) (hN : NX s) (hX : va_X b 6 xs s s.heap) (hbl : b < s.heap.size) (hlk : meth.locks = false) (hA : ∀ q, s.heap.size ≤ q → A q) (hAq : ∀ q, A q → s.heap.size ≤ q) (hbA : ¬ A b) (o1 o2 : Nat) (u1 u2 : Nat → Nat) {H : Heap} {locs : List Loc} {ls : Array Slot} (hP : va_P D classes (wBig cT o1 o2 u1 u2) H) (hD : va_D A (wBig cT o1 o2 u1 u2)) (hS : va_S A s.heap H locs) (hl : lv_has ls 4 [(3, .int 0), (2, .ref o2), (1, .ref o1), (0, .ref b)]) : W p l e room_1 s m #[Value.ref b] below meth c H locs 2000 100000 (lw_Z below #[Value.ref b] s) (F0 m 943 ls []) := by
  refine lv_aload_n hx hb dL_law_943 rfl (lv_at hl 2 rfl) ?_
  refine lv_aload_n hx hb dL_law_944 rfl (lv_at hl 3 rfl) ?_
  refine lv_iload_n hx hb dL_law_945 rfl (lv_at hl 0 rfl) ?_
  refine lv_iconst (v := 1) hx hb dL_law_946 (by decide) ?_
  refine lv_iadd hx hb dL_law_947 ?_
  refine lv_is (y := 1) (by decide) ?_
  refine va_sld hx hb hX hbl hbA hS (by unfold vp_in; decide) dL_law_948 ?_
  refine lv_is (y := xs 1) rfl ?_
  refine lv_aload_n hx hb dL_law_949 rfl (lv_at hl 3 rfl) ?_
  refine lv_iload_n hx hb dL_law_950 rfl (lv_at hl 0 rfl) ?_
  refine lv_iconst (v := 2) hx hb dL_law_951 (by decide) ?_
  refine lv_iadd hx hb dL_law_952 ?_
  refine lv_is (y := 2) (by decide) ?_
  refine va_sld hx hb hX hbl hbA hS (by unfold vp_in; decide) dL_law_953 ?_
  refine lv_is (y := xs 2) rfl ?_
  refine xk_i (wr := [(o2, .inr (9, (.int 0 :: .ref (u2 0) :: .ref (u2 1) :: .ref (u2 2) :: .ref (u2 3) :: .int 0 :: .int 0 :: .int 0 :: .int 0 :: .int 0 :: .int 0 :: .int 0 :: .int 0 :: .int 0 :: .int (-1) :: .ref (u2 4) :: .ref (u2 5) :: .int 0 :: .int 0 :: .int 0 :: .ref (u2 6) :: .ref (u2 7) :: .ref (u2 8) :: .int 0 :: .int 0 :: .int 0 :: .int 0 :: .int 0 :: .ref (u2 9) :: .int 0 :: .ref (u2 10) :: .int 0 :: .int 0 :: .int 0 :: .ref (u2 11) :: .ref (u2 12) :: .ref (u2 13) :: []))), ((u2 0), .inl (cT 0, 288, .inl (allK))), ((u2 1), .inl (cT 3, 2, .inl (fun _ => 0))), ((u2 2), .inl (cT 0, 900, .inl (fun _ => 0))), ((u2 3), .inl (cT 0, 96, .inl (fun _ => 0))), ((u2 10), .inl (cT 0, 16, .inl (fun _ => 0))), ((u2 11), .inl (cT 0, 4, .inl (rsK))), ((u2 12), .inl (cT 0, 4, .inl (fun _ => 0))), ((u2 13), .inl (cT 1, 160, .inr (.inl (fun _ => 0))))]) (xr_V (n := 2) (As := [.int (xs 1), .int (xs 2)]) (rest := []) ⟨hx, hb, hml, hown, htg⟩ hK hN hP hD [0, 11] rfl (by decide) (k_shifted l D cT _ (o1) (u1) ((xs 1)) ((xs 2))) wi_953 wi_954 wi_955 wi_121 wi_956 rfl rfl rfl ⟨rfl, by decide +kernel⟩ ⟨Nat.le_of_ble_eq_true rfl, Nat.le_of_ble_eq_true rfl⟩ rfl hl.1 rfl (Nat.le_of_ble_eq_true rfl) dL_law_954 ⟨Nat.le_of_ble_eq_true rfl, Nat.le_of_ble_eq_true rfl⟩) hP hD hS hA [0, 11] [46, 47, 48, 49, 50, 51, 52, 53, 54] rfl rfl (by decide) (by decide) (fun r_2 u_1 H locs hwr_2 hP hD hS => ?_)
  have hP : va_P D classes [(o2, .inr (9, (.int 0 :: .ref (u2 0) :: .ref (u2 1) :: .ref (u2 2) :: .ref (u2 3) :: .int 0 :: .int 0 :: .int 0 :: .int 0 :: .int 0 :: .int 0 :: .int 0 :: .int 0 :: .int 0 :: .int (-1) :: .ref (u2 4) :: .ref (u2 5) :: .int 0 :: .int 0 :: .int 0 :: .ref (u2 6) :: .ref (u2 7) :: .ref (u2 8) :: .int 0 :: .int 0 :: .int 0 :: .int 0 :: .int 0 :: .ref (u2 9) :: .int 0 :: .ref (u2 10) :: .int 0 :: .int 0 :: .int 0 :: .ref (u2 11) :: .ref (u2 12) :: .ref (u2 13) :: []))), ((u2 0), .inl (cT 0, 288, .inl (allK))), ((u2 1), .inl (cT 3, 2, .inl (fun _ => 0))), ((u2 2), .inl (cT 0, 900, .inl (fun _ => 0))), ((u2 3), .inl (cT 0, 96, .inl (fun _ => 0))), ((u2 10), .inl (cT 0, 16, .inl (fun _ => 0))), ((u2 11), .inl (cT 0, 4, .inl (rsK))), ((u2 12), .inl (cT 0, 4, .inl (fun _ => 0))), ((u2 13), .inl (cT 1, 160, .inr (.inl (fun _ => 0))))] _ := hP
  have hD : va_D A [(o2, .inr (9, (.int 0 :: .ref (u2 0) :: .ref (u2 1) :: .ref (u2 2) :: .ref (u2 3) :: .int 0 :: .int 0 :: .int 0 :: .int 0 :: .int 0 :: .int 0 :: .int 0 :: .int 0 :: .int 0 :: .int (-1) :: .ref (u2 4) :: .ref (u2 5) :: .int 0 :: .int 0 :: .int 0 :: .ref (u2 6) :: .ref (u2 7) :: .ref (u2 8) :: .int 0 :: .int 0 :: .int 0 :: .int 0 :: .int 0 :: .ref (u2 9) :: .int 0 :: .ref (u2 10) :: .int 0 :: .int 0 :: .int 0 :: .ref (u2 11) :: .ref (u2 12) :: .ref (u2 13) :: []))), ((u2 0), .inl (cT 0, 288, .inl (allK))), ((u2 1), .inl (cT 3, 2, .inl (fun _ => 0))), ((u2 2), .inl (cT 0, 900, .inl (fun _ => 0))), ((u2 3), .inl (cT 0, 96, .inl (fun _ => 0))), ((u2 10), .inl (cT 0, 16, .inl (fun _ => 0))), ((u2 11), .inl (cT 0, 4, .inl (rsK))), ((u2 12), .inl (cT 0, 4, .inl (fun _ => 0))), ((u2 13), .inl (cT 1, 160, .inr (.inl (fun _ => 0))))] := hD
  have hwr_2 : r_2 = if 0 ≤ (xs 2).toInt ∧ (xs 2).toInt ≤ 2 then (if 1 ≤ (xs 1).toInt ∧ (xs 1).toInt ≤ 5 then -5 else -3) else -2 := hwr_2
  subst hwr_2
  refine lv_aload_n hx hb dL_law_957 rfl (lv_at hl 1 rfl) ?_
  refine lv_aload_n hx hb dL_law_958 rfl (lv_at hl 3 rfl) ?_
  refine lv_iload_n hx hb dL_law_959 rfl (lv_at hl 0 rfl) ?_
  refine lv_iconst (v := 1) hx hb dL_law_960 (by decide) ?_
  refine lv_iadd hx hb dL_law_961 ?_
  refine lv_is (y := 1) (by decide) ?_
  refine va_sld hx hb hX hbl hbA hS (by unfold vp_in; decide) dL_law_962 ?_
  refine lv_is (y := xs 1) rfl ?_
  refine lv_aload_n hx hb dL_law_963 rfl (lv_at hl 3 rfl) ?_
  refine lv_iload_n hx hb dL_law_964 rfl (lv_at hl 0 rfl) ?_
  refine lv_iconst (v := 2) hx hb dL_law_965 (by decide) ?_
  refine lv_iadd hx hb dL_law_966 ?_
  refine lv_is (y := 2) (by decide) ?_
  refine va_sld hx hb hX hbl hbA hS (by unfold vp_in; decide) dL_law_967 ?_
  refine lv_is (y := xs 2) rfl ?_
  refine xk_i (wr := []) (xr_V (n := 2) (As := [.int (xs 1), .int (xs 2)]) (rest := [.int (if 0 ≤ (xs 2).toInt ∧ (xs 2).toInt ≤ 2 then (if 1 ≤ (xs 1).toInt ∧ (xs 1).toInt ≤ 5 then -5 else -3) else -2)]) ⟨hx, hb, hml, hown, htg⟩ hK hN hP hD [0, 1] rfl (by decide) (m_shifted l D cT _ (o2) (u2) ((xs 1)) ((xs 2))) wi_1514 wi_1515 wi_1516 wi_131 wi_1517 rfl rfl rfl ⟨rfl, by decide +kernel⟩ ⟨Nat.le_of_ble_eq_true rfl, Nat.le_of_ble_eq_true rfl⟩ rfl hl.1 rfl (Nat.le_of_ble_eq_true rfl) dL_law_968 ⟨Nat.le_of_ble_eq_true rfl, Nat.le_of_ble_eq_true rfl⟩) hP hD hS hA [0, 1] [] rfl rfl (by decide) (by decide) (fun r_4 u_3 H locs hwr_4 hP hD hS => ?_)
  have hP : va_P D classes [] _ := hP
  have hD : va_D A [] := hD
  have hwr_4 : r_4 = if 0 ≤ (xs 2).toInt ∧ (xs 2).toInt ≤ 2 then (if 1 ≤ (xs 1).toInt ∧ (xs 1).toInt ≤ 5 then -5 else -3) else -2 := hwr_4
  subst hwr_4
  refine lv_icmp_eq (tgt := 1455) hx hb dL_law_971 (by decide) (fun _ => ?_) (fun h => absurd rfl h)
  exact lc_end hx hb hr hml hown htg hK hN hX hbl hlk hA hAq hbA o1 o2 hS (lv_sub hl [0, 1, 2, 3] rfl)
set_option maxHeartbeats 4000000 in
set_option maxRecDepth 100000 in
theorem lc_24 {p : Program} {l : Launch} {e : Env} {s : State} {m : MethodId} {below : List Frame} {meth : Method} {c : Code} {b : Nat} {xs : Nat → Int32} {D : va_G} {cT : Nat → ClassId} {A : Nat → Prop} (hx : p.tables.exec = Jvm.exec) (hb : c.code = cL_law) (hr : meth.sig.returnType = ret) (hml : c.maxLocals = 4) (hown : s.vm.findClass RL = some m.cls) (htg : ∀ w ∈ gw_T, w.before #[Value.ref b] s = true) (hK : va_K D classes (tysX cT) s) (hN : NX s) (hX : va_X b 6 xs s s.heap) (hbl : b < s.heap.size) (hlk : meth.locks = false) (hA : ∀ q, s.heap.size ≤ q → A q) (hAq : ∀ q, A q → s.heap.size ≤ q) (hbA : ¬ A b) (o1 o2 : Nat) (u1 u2 : Nat → Nat) {H : Heap} {locs : List Loc} {ls : Array Slot} (hP : va_P D classes (wBig cT o1 o2 u1 u2) H) (hD : va_D A (wBig cT o1 o2 u1 u2)) (hS : va_S A s.heap H locs) (hl : lv_has ls 4 [(3, .int 0), (2, .ref o2), (1, .ref o1), (0, .ref b)]) : W p l e room_1 s m #[Value.ref b] below meth c H locs 2000 100000 (lw_Z below #[Value.ref b] s) (F0 m 976 ls []) := by
  refine lv_aload_n hx hb dL_law_976 rfl (lv_at hl 2 rfl) ?_
  refine lv_aload_n hx hb dL_law_977 rfl (lv_at hl 3 rfl) ?_
  refine lv_iload_n hx hb dL_law_978 rfl (lv_at hl 0 rfl) ?_
  refine lv_iconst (v := 1) hx hb dL_law_979 (by decide) ?_
  refine lv_iadd hx hb dL_law_980 ?_
  refine lv_is (y := 1) (by decide) ?_
  refine va_sld hx hb hX hbl hbA hS (by unfold vp_in; decide) dL_law_981 ?_
  refine lv_is (y := xs 1) rfl ?_
  refine lv_aload_n hx hb dL_law_982 rfl (lv_at hl 3 rfl) ?_
  refine lv_iload_n hx hb dL_law_983 rfl (lv_at hl 0 rfl) ?_
  refine lv_iconst (v := 2) hx hb dL_law_984 (by decide) ?_
  refine lv_iadd hx hb dL_law_985 ?_
  refine lv_is (y := 2) (by decide) ?_
  refine va_sld hx hb hX hbl hbA hS (by unfold vp_in; decide) dL_law_986 ?_
  refine lv_is (y := xs 2) rfl ?_
  refine xk_i (wr := [(o2, .inr (9, (.int 0 :: .ref (u2 0) :: .ref (u2 1) :: .ref (u2 2) :: .ref (u2 3) :: .int 0 :: .int 0 :: .int 0 :: .int 0 :: .int 0 :: .int 0 :: .int 0 :: .int 0 :: .int 0 :: .int (-1) :: .ref (u2 4) :: .ref (u2 5) :: .int 0 :: .int 0 :: .int 0 :: .ref (u2 6) :: .ref (u2 7) :: .ref (u2 8) :: .int 0 :: .int 0 :: .int 0 :: .int 0 :: .int 0 :: .ref (u2 9) :: .int 0 :: .ref (u2 10) :: .int 0 :: .int 0 :: .int 0 :: .ref (u2 11) :: .ref (u2 12) :: .ref (u2 13) :: []))), ((u2 0), .inl (cT 0, 288, .inl (allK))), ((u2 1), .inl (cT 3, 2, .inl (fun _ => 0))), ((u2 2), .inl (cT 0, 900, .inl (fun _ => 0))), ((u2 3), .inl (cT 0, 96, .inl (fun _ => 0))), ((u2 10), .inl (cT 0, 16, .inl (fun _ => 0))), ((u2 11), .inl (cT 0, 4, .inl (rsK))), ((u2 12), .inl (cT 0, 4, .inl (fun _ => 0))), ((u2 13), .inl (cT 1, 160, .inr (.inl (fun _ => 0))))]) (xr_V (n := 2) (As := [.int (xs 1), .int (xs 2)]) (rest := []) ⟨hx, hb, hml, hown, htg⟩ hK hN hP hD [0, 11] rfl (by decide) (k_felled l D cT _ (o1) (u1) ((xs 1)) ((xs 2))) wi_975 wi_976 wi_977 wi_121 wi_978 rfl rfl rfl ⟨rfl, by decide +kernel⟩ ⟨Nat.le_of_ble_eq_true rfl, Nat.le_of_ble_eq_true rfl⟩ rfl hl.1 rfl (Nat.le_of_ble_eq_true rfl) dL_law_987 ⟨Nat.le_of_ble_eq_true rfl, Nat.le_of_ble_eq_true rfl⟩) hP hD hS hA [0, 11] [46, 47, 48, 49, 50, 51, 52, 53, 54] rfl rfl (by decide) (by decide) (fun r_2 u_1 H locs hwr_2 hP hD hS => ?_)
  have hP : va_P D classes [(o2, .inr (9, (.int 0 :: .ref (u2 0) :: .ref (u2 1) :: .ref (u2 2) :: .ref (u2 3) :: .int 0 :: .int 0 :: .int 0 :: .int 0 :: .int 0 :: .int 0 :: .int 0 :: .int 0 :: .int 0 :: .int (-1) :: .ref (u2 4) :: .ref (u2 5) :: .int 0 :: .int 0 :: .int 0 :: .ref (u2 6) :: .ref (u2 7) :: .ref (u2 8) :: .int 0 :: .int 0 :: .int 0 :: .int 0 :: .int 0 :: .ref (u2 9) :: .int 0 :: .ref (u2 10) :: .int 0 :: .int 0 :: .int 0 :: .ref (u2 11) :: .ref (u2 12) :: .ref (u2 13) :: []))), ((u2 0), .inl (cT 0, 288, .inl (allK))), ((u2 1), .inl (cT 3, 2, .inl (fun _ => 0))), ((u2 2), .inl (cT 0, 900, .inl (fun _ => 0))), ((u2 3), .inl (cT 0, 96, .inl (fun _ => 0))), ((u2 10), .inl (cT 0, 16, .inl (fun _ => 0))), ((u2 11), .inl (cT 0, 4, .inl (rsK))), ((u2 12), .inl (cT 0, 4, .inl (fun _ => 0))), ((u2 13), .inl (cT 1, 160, .inr (.inl (fun _ => 0))))] _ := hP
  have hD : va_D A [(o2, .inr (9, (.int 0 :: .ref (u2 0) :: .ref (u2 1) :: .ref (u2 2) :: .ref (u2 3) :: .int 0 :: .int 0 :: .int 0 :: .int 0 :: .int 0 :: .int 0 :: .int 0 :: .int 0 :: .int 0 :: .int (-1) :: .ref (u2 4) :: .ref (u2 5) :: .int 0 :: .int 0 :: .int 0 :: .ref (u2 6) :: .ref (u2 7) :: .ref (u2 8) :: .int 0 :: .int 0 :: .int 0 :: .int 0 :: .int 0 :: .ref (u2 9) :: .int 0 :: .ref (u2 10) :: .int 0 :: .int 0 :: .int 0 :: .ref (u2 11) :: .ref (u2 12) :: .ref (u2 13) :: []))), ((u2 0), .inl (cT 0, 288, .inl (allK))), ((u2 1), .inl (cT 3, 2, .inl (fun _ => 0))), ((u2 2), .inl (cT 0, 900, .inl (fun _ => 0))), ((u2 3), .inl (cT 0, 96, .inl (fun _ => 0))), ((u2 10), .inl (cT 0, 16, .inl (fun _ => 0))), ((u2 11), .inl (cT 0, 4, .inl (rsK))), ((u2 12), .inl (cT 0, 4, .inl (fun _ => 0))), ((u2 13), .inl (cT 1, 160, .inr (.inl (fun _ => 0))))] := hD
  have hwr_2 : r_2 = if 0 ≤ (xs 2).toInt ∧ (xs 2).toInt ≤ 1 then (if 1 ≤ (xs 1).toInt ∧ (xs 1).toInt ≤ 6 then -5 else -3) else -2 := hwr_2
  subst hwr_2
  refine lv_aload_n hx hb dL_law_990 rfl (lv_at hl 1 rfl) ?_
  refine lv_aload_n hx hb dL_law_991 rfl (lv_at hl 3 rfl) ?_
  refine lv_iload_n hx hb dL_law_992 rfl (lv_at hl 0 rfl) ?_
  refine lv_iconst (v := 1) hx hb dL_law_993 (by decide) ?_
  refine lv_iadd hx hb dL_law_994 ?_
  refine lv_is (y := 1) (by decide) ?_
  refine va_sld hx hb hX hbl hbA hS (by unfold vp_in; decide) dL_law_995 ?_
  refine lv_is (y := xs 1) rfl ?_
  refine lv_aload_n hx hb dL_law_996 rfl (lv_at hl 3 rfl) ?_
  refine lv_iload_n hx hb dL_law_997 rfl (lv_at hl 0 rfl) ?_
  refine lv_iconst (v := 2) hx hb dL_law_998 (by decide) ?_
  refine lv_iadd hx hb dL_law_999 ?_
  refine lv_is (y := 2) (by decide) ?_
  refine va_sld hx hb hX hbl hbA hS (by unfold vp_in; decide) dL_law_1000 ?_
  refine lv_is (y := xs 2) rfl ?_
  refine xk_i (wr := []) (xr_V (n := 2) (As := [.int (xs 1), .int (xs 2)]) (rest := [.int (if 0 ≤ (xs 2).toInt ∧ (xs 2).toInt ≤ 1 then (if 1 ≤ (xs 1).toInt ∧ (xs 1).toInt ≤ 6 then -5 else -3) else -2)]) ⟨hx, hb, hml, hown, htg⟩ hK hN hP hD [0, 1] rfl (by decide) (m_felled l D cT _ (o2) (u2) ((xs 1)) ((xs 2))) wi_1518 wi_1519 wi_1520 wi_131 wi_1521 rfl rfl rfl ⟨rfl, by decide +kernel⟩ ⟨Nat.le_of_ble_eq_true rfl, Nat.le_of_ble_eq_true rfl⟩ rfl hl.1 rfl (Nat.le_of_ble_eq_true rfl) dL_law_1001 ⟨Nat.le_of_ble_eq_true rfl, Nat.le_of_ble_eq_true rfl⟩) hP hD hS hA [0, 1] [] rfl rfl (by decide) (by decide) (fun r_4 u_3 H locs hwr_4 hP hD hS => ?_)
  have hP : va_P D classes [] _ := hP
  have hD : va_D A [] := hD
  have hwr_4 : r_4 = if 0 ≤ (xs 2).toInt ∧ (xs 2).toInt ≤ 1 then (if 1 ≤ (xs 1).toInt ∧ (xs 1).toInt ≤ 6 then -5 else -3) else -2 := hwr_4
  subst hwr_4
  refine lv_icmp_eq (tgt := 1455) hx hb dL_law_1004 (by decide) (fun _ => ?_) (fun h => absurd rfl h)
  exact lc_end hx hb hr hml hown htg hK hN hX hbl hlk hA hAq hbA o1 o2 hS (lv_sub hl [0, 1, 2, 3] rfl)
set_option maxHeartbeats 4000000 in
set_option maxRecDepth 100000 in
theorem lc_25 {p : Program} {l : Launch} {e : Env} {s : State} {m : MethodId} {below : List Frame} {meth : Method} {c : Code} {b : Nat} {xs : Nat → Int32} {D : va_G} {cT : Nat → ClassId} {A : Nat → Prop} (hx : p.tables.exec = Jvm.exec) (hb : c.code = cL_law) (hr : meth.sig.returnType = ret) (hml : c.maxLocals = 4) (hown : s.vm.findClass RL = some m.cls) (htg : ∀ w ∈ gw_T, w.before #[Value.ref b] s = true) (hK : va_K D classes (tysX cT) s) (hN : NX s) (hX : va_X b 6 xs s s.heap) (hbl : b < s.heap.size) (hlk : meth.locks = false) (hA : ∀ q, s.heap.size ≤ q → A q) (hAq : ∀ q, A q → s.heap.size ≤ q) (hbA : ¬ A b) (o1 o2 : Nat) (u1 u2 : Nat → Nat) {H : Heap} {locs : List Loc} {ls : Array Slot} (hP : va_P D classes (wBig cT o1 o2 u1 u2) H) (hD : va_D A (wBig cT o1 o2 u1 u2)) (hS : va_S A s.heap H locs) (hl : lv_has ls 4 [(3, .int 0), (2, .ref o2), (1, .ref o1), (0, .ref b)]) : W p l e room_1 s m #[Value.ref b] below meth c H locs 2000 100000 (lw_Z below #[Value.ref b] s) (F0 m 1009 ls []) := by
  refine lv_aload_n hx hb dL_law_1009 rfl (lv_at hl 2 rfl) ?_
  refine lv_aload_n hx hb dL_law_1010 rfl (lv_at hl 3 rfl) ?_
  refine lv_iload_n hx hb dL_law_1011 rfl (lv_at hl 0 rfl) ?_
  refine lv_iconst (v := 1) hx hb dL_law_1012 (by decide) ?_
  refine lv_iadd hx hb dL_law_1013 ?_
  refine lv_is (y := 1) (by decide) ?_
  refine va_sld hx hb hX hbl hbA hS (by unfold vp_in; decide) dL_law_1014 ?_
  refine lv_is (y := xs 1) rfl ?_
  refine xk_i (wr := [(o2, .inr (9, (.int 0 :: .ref (u2 0) :: .ref (u2 1) :: .ref (u2 2) :: .ref (u2 3) :: .int 0 :: .int 0 :: .int 0 :: .int 0 :: .int 0 :: .int 0 :: .int 0 :: .int 0 :: .int 0 :: .int (-1) :: .ref (u2 4) :: .ref (u2 5) :: .int 0 :: .int 0 :: .int 0 :: .ref (u2 6) :: .ref (u2 7) :: .ref (u2 8) :: .int 0 :: .int 0 :: .int 0 :: .int 0 :: .int 0 :: .ref (u2 9) :: .int 0 :: .ref (u2 10) :: .int 0 :: .int 0 :: .int 0 :: .ref (u2 11) :: .ref (u2 12) :: .ref (u2 13) :: []))), ((u2 0), .inl (cT 0, 288, .inl (allK))), ((u2 1), .inl (cT 3, 2, .inl (fun _ => 0))), ((u2 2), .inl (cT 0, 900, .inl (fun _ => 0))), ((u2 3), .inl (cT 0, 96, .inl (fun _ => 0))), ((u2 10), .inl (cT 0, 16, .inl (fun _ => 0))), ((u2 11), .inl (cT 0, 4, .inl (rsK))), ((u2 12), .inl (cT 0, 4, .inl (fun _ => 0))), ((u2 13), .inl (cT 1, 160, .inr (.inl (fun _ => 0))))]) (xr_V (n := 1) (As := [.int (xs 1)]) (rest := []) ⟨hx, hb, hml, hown, htg⟩ hK hN hP hD [0, 11] rfl (by decide) (k_soonest l D cT _ (o1) (u1) ((xs 1))) wi_979 wi_980 wi_981 wi_121 wi_982 rfl rfl rfl ⟨rfl, by decide +kernel⟩ ⟨Nat.le_of_ble_eq_true rfl, Nat.le_of_ble_eq_true rfl⟩ rfl hl.1 rfl (Nat.le_of_ble_eq_true rfl) dL_law_1015 ⟨Nat.le_of_ble_eq_true rfl, Nat.le_of_ble_eq_true rfl⟩) hP hD hS hA [0, 11] [46, 47, 48, 49, 50, 51, 52, 53, 54] rfl rfl (by decide) (by decide) (fun r_2 u_1 H locs hwr_2 hP hD hS => ?_)
  have hP : va_P D classes [(o2, .inr (9, (.int 0 :: .ref (u2 0) :: .ref (u2 1) :: .ref (u2 2) :: .ref (u2 3) :: .int 0 :: .int 0 :: .int 0 :: .int 0 :: .int 0 :: .int 0 :: .int 0 :: .int 0 :: .int 0 :: .int (-1) :: .ref (u2 4) :: .ref (u2 5) :: .int 0 :: .int 0 :: .int 0 :: .ref (u2 6) :: .ref (u2 7) :: .ref (u2 8) :: .int 0 :: .int 0 :: .int 0 :: .int 0 :: .int 0 :: .ref (u2 9) :: .int 0 :: .ref (u2 10) :: .int 0 :: .int 0 :: .int 0 :: .ref (u2 11) :: .ref (u2 12) :: .ref (u2 13) :: []))), ((u2 0), .inl (cT 0, 288, .inl (allK))), ((u2 1), .inl (cT 3, 2, .inl (fun _ => 0))), ((u2 2), .inl (cT 0, 900, .inl (fun _ => 0))), ((u2 3), .inl (cT 0, 96, .inl (fun _ => 0))), ((u2 10), .inl (cT 0, 16, .inl (fun _ => 0))), ((u2 11), .inl (cT 0, 4, .inl (rsK))), ((u2 12), .inl (cT 0, 4, .inl (fun _ => 0))), ((u2 13), .inl (cT 1, 160, .inr (.inl (fun _ => 0))))] _ := hP
  have hD : va_D A [(o2, .inr (9, (.int 0 :: .ref (u2 0) :: .ref (u2 1) :: .ref (u2 2) :: .ref (u2 3) :: .int 0 :: .int 0 :: .int 0 :: .int 0 :: .int 0 :: .int 0 :: .int 0 :: .int 0 :: .int 0 :: .int (-1) :: .ref (u2 4) :: .ref (u2 5) :: .int 0 :: .int 0 :: .int 0 :: .ref (u2 6) :: .ref (u2 7) :: .ref (u2 8) :: .int 0 :: .int 0 :: .int 0 :: .int 0 :: .int 0 :: .ref (u2 9) :: .int 0 :: .ref (u2 10) :: .int 0 :: .int 0 :: .int 0 :: .ref (u2 11) :: .ref (u2 12) :: .ref (u2 13) :: []))), ((u2 0), .inl (cT 0, 288, .inl (allK))), ((u2 1), .inl (cT 3, 2, .inl (fun _ => 0))), ((u2 2), .inl (cT 0, 900, .inl (fun _ => 0))), ((u2 3), .inl (cT 0, 96, .inl (fun _ => 0))), ((u2 10), .inl (cT 0, 16, .inl (fun _ => 0))), ((u2 11), .inl (cT 0, 4, .inl (rsK))), ((u2 12), .inl (cT 0, 4, .inl (fun _ => 0))), ((u2 13), .inl (cT 1, 160, .inr (.inl (fun _ => 0))))] := hD
  have hwr_2 : r_2 = if 0 ≤ (xs 1).toInt ∧ (xs 1).toInt ≤ 9999 then -5 else -3 := hwr_2
  subst hwr_2
  refine lv_aload_n hx hb dL_law_1018 rfl (lv_at hl 1 rfl) ?_
  refine lv_aload_n hx hb dL_law_1019 rfl (lv_at hl 3 rfl) ?_
  refine lv_iload_n hx hb dL_law_1020 rfl (lv_at hl 0 rfl) ?_
  refine lv_iconst (v := 1) hx hb dL_law_1021 (by decide) ?_
  refine lv_iadd hx hb dL_law_1022 ?_
  refine lv_is (y := 1) (by decide) ?_
  refine va_sld hx hb hX hbl hbA hS (by unfold vp_in; decide) dL_law_1023 ?_
  refine lv_is (y := xs 1) rfl ?_
  refine xk_i (wr := []) (xr_V (n := 1) (As := [.int (xs 1)]) (rest := [.int (if 0 ≤ (xs 1).toInt ∧ (xs 1).toInt ≤ 9999 then -5 else -3)]) ⟨hx, hb, hml, hown, htg⟩ hK hN hP hD [0, 1] rfl (by decide) (m_soonest l D cT _ (o2) (u2) ((xs 1))) wi_1523 wi_1524 wi_1525 wi_131 wi_1526 rfl rfl rfl ⟨rfl, by decide +kernel⟩ ⟨Nat.le_of_ble_eq_true rfl, Nat.le_of_ble_eq_true rfl⟩ rfl hl.1 rfl (Nat.le_of_ble_eq_true rfl) dL_law_1024 ⟨Nat.le_of_ble_eq_true rfl, Nat.le_of_ble_eq_true rfl⟩) hP hD hS hA [0, 1] [] rfl rfl (by decide) (by decide) (fun r_4 u_3 H locs hwr_4 hP hD hS => ?_)
  have hP : va_P D classes [] _ := hP
  have hD : va_D A [] := hD
  have hwr_4 : r_4 = if 0 ≤ (xs 1).toInt ∧ (xs 1).toInt ≤ 9999 then -5 else -3 := hwr_4
  subst hwr_4
  refine lv_icmp_eq (tgt := 1455) hx hb dL_law_1027 (by decide) (fun _ => ?_) (fun h => absurd rfl h)
  exact lc_end hx hb hr hml hown htg hK hN hX hbl hlk hA hAq hbA o1 o2 hS (lv_sub hl [0, 1, 2, 3] rfl)
set_option maxHeartbeats 4000000 in
set_option maxRecDepth 100000 in
theorem lc_26 {p : Program} {l : Launch} {e : Env} {s : State} {m : MethodId} {below : List Frame} {meth : Method} {c : Code} {b : Nat} {xs : Nat → Int32} {D : va_G} {cT : Nat → ClassId} {A : Nat → Prop} (hx : p.tables.exec = Jvm.exec) (hb : c.code = cL_law) (hr : meth.sig.returnType = ret) (hml : c.maxLocals = 4) (hown : s.vm.findClass RL = some m.cls) (htg : ∀ w ∈ gw_T, w.before #[Value.ref b] s = true) (hK : va_K D classes (tysX cT) s) (hN : NX s) (hX : va_X b 6 xs s s.heap) (hbl : b < s.heap.size) (hlk : meth.locks = false) (hA : ∀ q, s.heap.size ≤ q → A q) (hAq : ∀ q, A q → s.heap.size ≤ q) (hbA : ¬ A b) (o1 o2 : Nat) (u1 u2 : Nat → Nat) {H : Heap} {locs : List Loc} {ls : Array Slot} (hP : va_P D classes (wBig cT o1 o2 u1 u2) H) (hD : va_D A (wBig cT o1 o2 u1 u2)) (hS : va_S A s.heap H locs) (hl : lv_has ls 4 [(3, .int 0), (2, .ref o2), (1, .ref o1), (0, .ref b)]) : W p l e room_1 s m #[Value.ref b] below meth c H locs 2000 100000 (lw_Z below #[Value.ref b] s) (F0 m 1032 ls []) := by
  refine lv_aload_n hx hb dL_law_1032 rfl (lv_at hl 2 rfl) ?_
  refine xk_i (wr := [(o2, .inr (9, (.int 0 :: .ref (u2 0) :: .ref (u2 1) :: .ref (u2 2) :: .ref (u2 3) :: .int 0 :: .int 0 :: .int 0 :: .int 0 :: .int 0 :: .int 0 :: .int 0 :: .int 0 :: .int 0 :: .int (-1) :: .ref (u2 4) :: .ref (u2 5) :: .int 0 :: .int 0 :: .int 0 :: .ref (u2 6) :: .ref (u2 7) :: .ref (u2 8) :: .int 0 :: .int 0 :: .int 0 :: .int 0 :: .int 0 :: .ref (u2 9) :: .int 0 :: .ref (u2 10) :: .int 0 :: .int 0 :: .int 0 :: .ref (u2 11) :: .ref (u2 12) :: .ref (u2 13) :: []))), ((u2 0), .inl (cT 0, 288, .inl (allK))), ((u2 1), .inl (cT 3, 2, .inl (fun _ => 0))), ((u2 2), .inl (cT 0, 900, .inl (fun _ => 0))), ((u2 3), .inl (cT 0, 96, .inl (fun _ => 0))), ((u2 10), .inl (cT 0, 16, .inl (fun _ => 0))), ((u2 11), .inl (cT 0, 4, .inl (rsK))), ((u2 12), .inl (cT 0, 4, .inl (fun _ => 0))), ((u2 13), .inl (cT 1, 160, .inr (.inl (fun _ => 0))))]) (xr_V (n := 0) (As := []) (rest := []) ⟨hx, hb, hml, hown, htg⟩ hK hN hP hD [0, 11] rfl (by decide) (k_dark l D cT _ (o1) (u1)) wi_983 wi_984 wi_985 wi_121 wi_986 rfl rfl rfl ⟨rfl, by decide +kernel⟩ ⟨Nat.le_of_ble_eq_true rfl, Nat.le_of_ble_eq_true rfl⟩ rfl hl.1 rfl (Nat.le_of_ble_eq_true rfl) dL_law_1033 ⟨Nat.le_of_ble_eq_true rfl, Nat.le_of_ble_eq_true rfl⟩) hP hD hS hA [0, 11] [46, 47, 48, 49, 50, 51, 52, 53, 54] rfl rfl (by decide) (by decide) (fun r_2 u_1 H locs hwr_2 hP hD hS => ?_)
  have hP : va_P D classes [(o2, .inr (9, (.int 0 :: .ref (u2 0) :: .ref (u2 1) :: .ref (u2 2) :: .ref (u2 3) :: .int 0 :: .int 0 :: .int 0 :: .int 0 :: .int 0 :: .int 0 :: .int 0 :: .int 0 :: .int 0 :: .int (-1) :: .ref (u2 4) :: .ref (u2 5) :: .int 0 :: .int 0 :: .int 0 :: .ref (u2 6) :: .ref (u2 7) :: .ref (u2 8) :: .int 0 :: .int 0 :: .int 0 :: .int 0 :: .int 0 :: .ref (u2 9) :: .int 0 :: .ref (u2 10) :: .int 0 :: .int 0 :: .int 0 :: .ref (u2 11) :: .ref (u2 12) :: .ref (u2 13) :: []))), ((u2 0), .inl (cT 0, 288, .inl (allK))), ((u2 1), .inl (cT 3, 2, .inl (fun _ => 0))), ((u2 2), .inl (cT 0, 900, .inl (fun _ => 0))), ((u2 3), .inl (cT 0, 96, .inl (fun _ => 0))), ((u2 10), .inl (cT 0, 16, .inl (fun _ => 0))), ((u2 11), .inl (cT 0, 4, .inl (rsK))), ((u2 12), .inl (cT 0, 4, .inl (fun _ => 0))), ((u2 13), .inl (cT 1, 160, .inr (.inl (fun _ => 0))))] _ := hP
  have hD : va_D A [(o2, .inr (9, (.int 0 :: .ref (u2 0) :: .ref (u2 1) :: .ref (u2 2) :: .ref (u2 3) :: .int 0 :: .int 0 :: .int 0 :: .int 0 :: .int 0 :: .int 0 :: .int 0 :: .int 0 :: .int 0 :: .int (-1) :: .ref (u2 4) :: .ref (u2 5) :: .int 0 :: .int 0 :: .int 0 :: .ref (u2 6) :: .ref (u2 7) :: .ref (u2 8) :: .int 0 :: .int 0 :: .int 0 :: .int 0 :: .int 0 :: .ref (u2 9) :: .int 0 :: .ref (u2 10) :: .int 0 :: .int 0 :: .int 0 :: .ref (u2 11) :: .ref (u2 12) :: .ref (u2 13) :: []))), ((u2 0), .inl (cT 0, 288, .inl (allK))), ((u2 1), .inl (cT 3, 2, .inl (fun _ => 0))), ((u2 2), .inl (cT 0, 900, .inl (fun _ => 0))), ((u2 3), .inl (cT 0, 96, .inl (fun _ => 0))), ((u2 10), .inl (cT 0, 16, .inl (fun _ => 0))), ((u2 11), .inl (cT 0, 4, .inl (rsK))), ((u2 12), .inl (cT 0, 4, .inl (fun _ => 0))), ((u2 13), .inl (cT 1, 160, .inr (.inl (fun _ => 0))))] := hD
  have hwr_2 : r_2 = 0 := hwr_2
  subst hwr_2
  refine lv_aload_n hx hb dL_law_1036 rfl (lv_at hl 1 rfl) ?_
  refine xk_i (wr := []) (xr_V (n := 0) (As := []) (rest := [.int 0]) ⟨hx, hb, hml, hown, htg⟩ hK hN hP hD [0, 1] rfl (by decide) (m_dark l D cT _ (o2) (u2)) wi_1528 wi_1529 wi_1530 wi_131 wi_1531 rfl rfl rfl ⟨rfl, by decide +kernel⟩ ⟨Nat.le_of_ble_eq_true rfl, Nat.le_of_ble_eq_true rfl⟩ rfl hl.1 rfl (Nat.le_of_ble_eq_true rfl) dL_law_1037 ⟨Nat.le_of_ble_eq_true rfl, Nat.le_of_ble_eq_true rfl⟩) hP hD hS hA [0, 1] [] rfl rfl (by decide) (by decide) (fun r_4 u_3 H locs hwr_4 hP hD hS => ?_)
  have hP : va_P D classes [] _ := hP
  have hD : va_D A [] := hD
  have hwr_4 : r_4 = 0 := hwr_4
  subst hwr_4
  refine lv_icmp_eq (tgt := 1455) hx hb dL_law_1040 (by decide) (fun _ => ?_) (fun h => absurd rfl h)
  exact lc_end hx hb hr hml hown htg hK hN hX hbl hlk hA hAq hbA o1 o2 hS (lv_sub hl [0, 1, 2, 3] rfl)
set_option maxHeartbeats 4000000 in
set_option maxRecDepth 100000 in
theorem lc_27 {p : Program} {l : Launch} {e : Env} {s : State} {m : MethodId} {below : List Frame} {meth : Method} {c : Code} {b : Nat} {xs : Nat → Int32} {D : va_G} {cT : Nat → ClassId} {A : Nat → Prop} (hx : p.tables.exec = Jvm.exec) (hb : c.code = cL_law) (hr : meth.sig.returnType = ret) (hml : c.maxLocals = 4) (hown : s.vm.findClass RL = some m.cls) (htg : ∀ w ∈ gw_T, w.before #[Value.ref b] s = true) (hK : va_K D classes (tysX cT) s) (hN : NX s) (hX : va_X b 6 xs s s.heap) (hbl : b < s.heap.size) (hlk : meth.locks = false) (hA : ∀ q, s.heap.size ≤ q → A q) (hAq : ∀ q, A q → s.heap.size ≤ q) (hbA : ¬ A b) (o1 o2 : Nat) (u1 u2 : Nat → Nat) {H : Heap} {locs : List Loc} {ls : Array Slot} (hP : va_P D classes (wBig cT o1 o2 u1 u2) H) (hD : va_D A (wBig cT o1 o2 u1 u2)) (hS : va_S A s.heap H locs) (hl : lv_has ls 4 [(3, .int 0), (2, .ref o2), (1, .ref o1), (0, .ref b)]) : W p l e room_1 s m #[Value.ref b] below meth c H locs 2000 100000 (lw_Z below #[Value.ref b] s) (F0 m 1045 ls []) := by
  refine lv_aload_n hx hb dL_law_1045 rfl (lv_at hl 2 rfl) ?_
  refine lv_aload_n hx hb dL_law_1046 rfl (lv_at hl 3 rfl) ?_
  refine lv_iload_n hx hb dL_law_1047 rfl (lv_at hl 0 rfl) ?_
  refine lv_iconst (v := 1) hx hb dL_law_1048 (by decide) ?_
  refine lv_iadd hx hb dL_law_1049 ?_
  refine lv_is (y := 1) (by decide) ?_
  refine va_sld hx hb hX hbl hbA hS (by unfold vp_in; decide) dL_law_1050 ?_
  refine lv_is (y := xs 1) rfl ?_
  refine xk_i (wr := [(o2, .inr (9, (.int 0 :: .ref (u2 0) :: .ref (u2 1) :: .ref (u2 2) :: .ref (u2 3) :: .int 0 :: .int 0 :: .int 0 :: .int 0 :: .int 0 :: .int 0 :: .int 0 :: .int 0 :: .int 0 :: .int (-1) :: .ref (u2 4) :: .ref (u2 5) :: .int 0 :: .int 0 :: .int 0 :: .ref (u2 6) :: .ref (u2 7) :: .ref (u2 8) :: .int 0 :: .int 0 :: .int 0 :: .int 0 :: .int 0 :: .ref (u2 9) :: .int 0 :: .ref (u2 10) :: .int 0 :: .int 0 :: .int 0 :: .ref (u2 11) :: .ref (u2 12) :: .ref (u2 13) :: []))), ((u2 0), .inl (cT 0, 288, .inl (allK))), ((u2 1), .inl (cT 3, 2, .inl (fun _ => 0))), ((u2 2), .inl (cT 0, 900, .inl (fun _ => 0))), ((u2 3), .inl (cT 0, 96, .inl (fun _ => 0))), ((u2 10), .inl (cT 0, 16, .inl (fun _ => 0))), ((u2 11), .inl (cT 0, 4, .inl (rsK))), ((u2 12), .inl (cT 0, 4, .inl (fun _ => 0))), ((u2 13), .inl (cT 1, 160, .inr (.inl (fun _ => 0))))]) (xr_V (n := 1) (As := [.int (xs 1)]) (rest := []) ⟨hx, hb, hml, hown, htg⟩ hK hN hP hD [0, 11] rfl (by decide) (k_ends l D cT _ (o1) (u1) ((xs 1))) wi_988 wi_989 wi_990 wi_121 wi_991 rfl rfl rfl ⟨rfl, by decide +kernel⟩ ⟨Nat.le_of_ble_eq_true rfl, Nat.le_of_ble_eq_true rfl⟩ rfl hl.1 rfl (Nat.le_of_ble_eq_true rfl) dL_law_1051 ⟨Nat.le_of_ble_eq_true rfl, Nat.le_of_ble_eq_true rfl⟩) hP hD hS hA [0, 11] [46, 47, 48, 49, 50, 51, 52, 53, 54] rfl rfl (by decide) (by decide) (fun r_2 u_1 H locs hwr_2 hP hD hS => ?_)
  have hP : va_P D classes [(o2, .inr (9, (.int 0 :: .ref (u2 0) :: .ref (u2 1) :: .ref (u2 2) :: .ref (u2 3) :: .int 0 :: .int 0 :: .int 0 :: .int 0 :: .int 0 :: .int 0 :: .int 0 :: .int 0 :: .int 0 :: .int (-1) :: .ref (u2 4) :: .ref (u2 5) :: .int 0 :: .int 0 :: .int 0 :: .ref (u2 6) :: .ref (u2 7) :: .ref (u2 8) :: .int 0 :: .int 0 :: .int 0 :: .int 0 :: .int 0 :: .ref (u2 9) :: .int 0 :: .ref (u2 10) :: .int 0 :: .int 0 :: .int 0 :: .ref (u2 11) :: .ref (u2 12) :: .ref (u2 13) :: []))), ((u2 0), .inl (cT 0, 288, .inl (allK))), ((u2 1), .inl (cT 3, 2, .inl (fun _ => 0))), ((u2 2), .inl (cT 0, 900, .inl (fun _ => 0))), ((u2 3), .inl (cT 0, 96, .inl (fun _ => 0))), ((u2 10), .inl (cT 0, 16, .inl (fun _ => 0))), ((u2 11), .inl (cT 0, 4, .inl (rsK))), ((u2 12), .inl (cT 0, 4, .inl (fun _ => 0))), ((u2 13), .inl (cT 1, 160, .inr (.inl (fun _ => 0))))] _ := hP
  have hD : va_D A [(o2, .inr (9, (.int 0 :: .ref (u2 0) :: .ref (u2 1) :: .ref (u2 2) :: .ref (u2 3) :: .int 0 :: .int 0 :: .int 0 :: .int 0 :: .int 0 :: .int 0 :: .int 0 :: .int 0 :: .int 0 :: .int (-1) :: .ref (u2 4) :: .ref (u2 5) :: .int 0 :: .int 0 :: .int 0 :: .ref (u2 6) :: .ref (u2 7) :: .ref (u2 8) :: .int 0 :: .int 0 :: .int 0 :: .int 0 :: .int 0 :: .ref (u2 9) :: .int 0 :: .ref (u2 10) :: .int 0 :: .int 0 :: .int 0 :: .ref (u2 11) :: .ref (u2 12) :: .ref (u2 13) :: []))), ((u2 0), .inl (cT 0, 288, .inl (allK))), ((u2 1), .inl (cT 3, 2, .inl (fun _ => 0))), ((u2 2), .inl (cT 0, 900, .inl (fun _ => 0))), ((u2 3), .inl (cT 0, 96, .inl (fun _ => 0))), ((u2 10), .inl (cT 0, 16, .inl (fun _ => 0))), ((u2 11), .inl (cT 0, 4, .inl (rsK))), ((u2 12), .inl (cT 0, 4, .inl (fun _ => 0))), ((u2 13), .inl (cT 1, 160, .inr (.inl (fun _ => 0))))] := hD
  have hwr_2 : r_2 = if True then (if 1 ≤ (xs 1).toInt ∧ (xs 1).toInt ≤ 6 then -5 else -3) else -2 := hwr_2
  subst hwr_2
  refine lv_aload_n hx hb dL_law_1054 rfl (lv_at hl 1 rfl) ?_
  refine lv_aload_n hx hb dL_law_1055 rfl (lv_at hl 3 rfl) ?_
  refine lv_iload_n hx hb dL_law_1056 rfl (lv_at hl 0 rfl) ?_
  refine lv_iconst (v := 1) hx hb dL_law_1057 (by decide) ?_
  refine lv_iadd hx hb dL_law_1058 ?_
  refine lv_is (y := 1) (by decide) ?_
  refine va_sld hx hb hX hbl hbA hS (by unfold vp_in; decide) dL_law_1059 ?_
  refine lv_is (y := xs 1) rfl ?_
  refine xk_i (wr := []) (xr_V (n := 1) (As := [.int (xs 1)]) (rest := [.int (if True then (if 1 ≤ (xs 1).toInt ∧ (xs 1).toInt ≤ 6 then -5 else -3) else -2)]) ⟨hx, hb, hml, hown, htg⟩ hK hN hP hD [0, 1] rfl (by decide) (m_ends l D cT _ (o2) (u2) ((xs 1))) wi_1532 wi_1533 wi_1534 wi_131 wi_1535 rfl rfl rfl ⟨rfl, by decide +kernel⟩ ⟨Nat.le_of_ble_eq_true rfl, Nat.le_of_ble_eq_true rfl⟩ rfl hl.1 rfl (Nat.le_of_ble_eq_true rfl) dL_law_1060 ⟨Nat.le_of_ble_eq_true rfl, Nat.le_of_ble_eq_true rfl⟩) hP hD hS hA [0, 1] [] rfl rfl (by decide) (by decide) (fun r_4 u_3 H locs hwr_4 hP hD hS => ?_)
  have hP : va_P D classes [] _ := hP
  have hD : va_D A [] := hD
  have hwr_4 : r_4 = if True then (if 1 ≤ (xs 1).toInt ∧ (xs 1).toInt ≤ 6 then -5 else -3) else -2 := hwr_4
  subst hwr_4
  refine lv_icmp_eq (tgt := 1455) hx hb dL_law_1063 (by decide) (fun _ => ?_) (fun h => absurd rfl h)
  exact lc_end hx hb hr hml hown htg hK hN hX hbl hlk hA hAq hbA o1 o2 hS (lv_sub hl [0, 1, 2, 3] rfl)
set_option maxHeartbeats 4000000 in
set_option maxRecDepth 100000 in
theorem lc_28 {p : Program} {l : Launch} {e : Env} {s : State} {m : MethodId} {below : List Frame} {meth : Method} {c : Code} {b : Nat} {xs : Nat → Int32} {D : va_G} {cT : Nat → ClassId} {A : Nat → Prop} (hx : p.tables.exec = Jvm.exec) (hb : c.code = cL_law) (hr : meth.sig.returnType = ret) (hml : c.maxLocals = 4) (hown : s.vm.findClass RL = some m.cls) (htg : ∀ w ∈ gw_T, w.before #[Value.ref b] s = true) (hK : va_K D classes (tysX cT) s) (hN : NX s) (hX : va_X b 6 xs s s.heap) (hbl : b < s.heap.size) (hlk : meth.locks = false) (hA : ∀ q, s.heap.size ≤ q → A q) (hAq : ∀ q, A q → s.heap.size ≤ q) (hbA : ¬ A b) (o1 o2 : Nat) (u1 u2 : Nat → Nat) {H : Heap} {locs : List Loc} {ls : Array Slot} (hP : va_P D classes (wBig cT o1 o2 u1 u2) H) (hD : va_D A (wBig cT o1 o2 u1 u2)) (hS : va_S A s.heap H locs) (hl : lv_has ls 4 [(3, .int 0), (2, .ref o2), (1, .ref o1), (0, .ref b)]) : W p l e room_1 s m #[Value.ref b] below meth c H locs 2000 100000 (lw_Z below #[Value.ref b] s) (F0 m 1068 ls []) := by
  refine lv_aload_n hx hb dL_law_1068 rfl (lv_at hl 2 rfl) ?_
  refine lv_aload_n hx hb dL_law_1069 rfl (lv_at hl 3 rfl) ?_
  refine lv_iload_n hx hb dL_law_1070 rfl (lv_at hl 0 rfl) ?_
  refine lv_iconst (v := 1) hx hb dL_law_1071 (by decide) ?_
  refine lv_iadd hx hb dL_law_1072 ?_
  refine lv_is (y := 1) (by decide) ?_
  refine va_sld hx hb hX hbl hbA hS (by unfold vp_in; decide) dL_law_1073 ?_
  refine lv_is (y := xs 1) rfl ?_
  refine xk_i (wr := [(o2, .inr (9, (.int 0 :: .ref (u2 0) :: .ref (u2 1) :: .ref (u2 2) :: .ref (u2 3) :: .int 0 :: .int 0 :: .int 0 :: .int 0 :: .int 0 :: .int 0 :: .int 0 :: .int 0 :: .int 0 :: .int (-1) :: .ref (u2 4) :: .ref (u2 5) :: .int 0 :: .int 0 :: .int 0 :: .ref (u2 6) :: .ref (u2 7) :: .ref (u2 8) :: .int 0 :: .int 0 :: .int 0 :: .int 0 :: .int 0 :: .ref (u2 9) :: .int 0 :: .ref (u2 10) :: .int 0 :: .int 0 :: .int 0 :: .ref (u2 11) :: .ref (u2 12) :: .ref (u2 13) :: []))), ((u2 0), .inl (cT 0, 288, .inl (allK))), ((u2 1), .inl (cT 3, 2, .inl (fun _ => 0))), ((u2 2), .inl (cT 0, 900, .inl (fun _ => 0))), ((u2 3), .inl (cT 0, 96, .inl (fun _ => 0))), ((u2 10), .inl (cT 0, 16, .inl (fun _ => 0))), ((u2 11), .inl (cT 0, 4, .inl (rsK))), ((u2 12), .inl (cT 0, 4, .inl (fun _ => 0))), ((u2 13), .inl (cT 1, 160, .inr (.inl (fun _ => 0))))]) (xr_V (n := 1) (As := [.int (xs 1)]) (rest := []) ⟨hx, hb, hml, hown, htg⟩ hK hN hP hD [0, 11, 43, 45] rfl (by decide) (k_halts l D cT _ (o1) (u1) ((xs 1))) wi_1008 wi_1009 wi_1010 wi_121 wi_1011 rfl rfl rfl ⟨rfl, by decide +kernel⟩ ⟨Nat.le_of_ble_eq_true rfl, Nat.le_of_ble_eq_true rfl⟩ rfl hl.1 rfl (Nat.le_of_ble_eq_true rfl) dL_law_1074 ⟨Nat.le_of_ble_eq_true rfl, Nat.le_of_ble_eq_true rfl⟩) hP hD hS hA [0, 11, 43, 45] [46, 47, 48, 49, 50, 51, 52, 53, 54] rfl rfl (by decide) (by decide) (fun r_2 u_1 H locs hwr_2 hP hD hS => ?_)
  have hP : va_P D classes [(o2, .inr (9, (.int 0 :: .ref (u2 0) :: .ref (u2 1) :: .ref (u2 2) :: .ref (u2 3) :: .int 0 :: .int 0 :: .int 0 :: .int 0 :: .int 0 :: .int 0 :: .int 0 :: .int 0 :: .int 0 :: .int (-1) :: .ref (u2 4) :: .ref (u2 5) :: .int 0 :: .int 0 :: .int 0 :: .ref (u2 6) :: .ref (u2 7) :: .ref (u2 8) :: .int 0 :: .int 0 :: .int 0 :: .int 0 :: .int 0 :: .ref (u2 9) :: .int 0 :: .ref (u2 10) :: .int 0 :: .int 0 :: .int 0 :: .ref (u2 11) :: .ref (u2 12) :: .ref (u2 13) :: []))), ((u2 0), .inl (cT 0, 288, .inl (allK))), ((u2 1), .inl (cT 3, 2, .inl (fun _ => 0))), ((u2 2), .inl (cT 0, 900, .inl (fun _ => 0))), ((u2 3), .inl (cT 0, 96, .inl (fun _ => 0))), ((u2 10), .inl (cT 0, 16, .inl (fun _ => 0))), ((u2 11), .inl (cT 0, 4, .inl (rsK))), ((u2 12), .inl (cT 0, 4, .inl (fun _ => 0))), ((u2 13), .inl (cT 1, 160, .inr (.inl (fun _ => 0))))] _ := hP
  have hD : va_D A [(o2, .inr (9, (.int 0 :: .ref (u2 0) :: .ref (u2 1) :: .ref (u2 2) :: .ref (u2 3) :: .int 0 :: .int 0 :: .int 0 :: .int 0 :: .int 0 :: .int 0 :: .int 0 :: .int 0 :: .int 0 :: .int (-1) :: .ref (u2 4) :: .ref (u2 5) :: .int 0 :: .int 0 :: .int 0 :: .ref (u2 6) :: .ref (u2 7) :: .ref (u2 8) :: .int 0 :: .int 0 :: .int 0 :: .int 0 :: .int 0 :: .ref (u2 9) :: .int 0 :: .ref (u2 10) :: .int 0 :: .int 0 :: .int 0 :: .ref (u2 11) :: .ref (u2 12) :: .ref (u2 13) :: []))), ((u2 0), .inl (cT 0, 288, .inl (allK))), ((u2 1), .inl (cT 3, 2, .inl (fun _ => 0))), ((u2 2), .inl (cT 0, 900, .inl (fun _ => 0))), ((u2 3), .inl (cT 0, 96, .inl (fun _ => 0))), ((u2 10), .inl (cT 0, 16, .inl (fun _ => 0))), ((u2 11), .inl (cT 0, 4, .inl (rsK))), ((u2 12), .inl (cT 0, 4, .inl (fun _ => 0))), ((u2 13), .inl (cT 1, 160, .inr (.inl (fun _ => 0))))] := hD
  have hwr_2 : r_2 = if (xs 1).toInt = 0 then 0 else -3 := hwr_2
  subst hwr_2
  refine lv_aload_n hx hb dL_law_1077 rfl (lv_at hl 1 rfl) ?_
  refine lv_aload_n hx hb dL_law_1078 rfl (lv_at hl 3 rfl) ?_
  refine lv_iload_n hx hb dL_law_1079 rfl (lv_at hl 0 rfl) ?_
  refine lv_iconst (v := 1) hx hb dL_law_1080 (by decide) ?_
  refine lv_iadd hx hb dL_law_1081 ?_
  refine lv_is (y := 1) (by decide) ?_
  refine va_sld hx hb hX hbl hbA hS (by unfold vp_in; decide) dL_law_1082 ?_
  refine lv_is (y := xs 1) rfl ?_
  refine xk_i (wr := []) (xr_V (n := 1) (As := [.int (xs 1)]) (rest := [.int (if (xs 1).toInt = 0 then 0 else -3)]) ⟨hx, hb, hml, hown, htg⟩ hK hN hP hD [0, 1] rfl (by decide) (m_halts l D cT _ (o2) (u2) ((xs 1))) wi_1544 wi_1545 wi_1546 wi_131 wi_1547 rfl rfl rfl ⟨rfl, by decide +kernel⟩ ⟨Nat.le_of_ble_eq_true rfl, Nat.le_of_ble_eq_true rfl⟩ rfl hl.1 rfl (Nat.le_of_ble_eq_true rfl) dL_law_1083 ⟨Nat.le_of_ble_eq_true rfl, Nat.le_of_ble_eq_true rfl⟩) hP hD hS hA [0, 1] [] rfl rfl (by decide) (by decide) (fun r_4 u_3 H locs hwr_4 hP hD hS => ?_)
  have hP : va_P D classes [] _ := hP
  have hD : va_D A [] := hD
  have hwr_4 : r_4 = if (xs 1).toInt = 0 then 0 else -3 := hwr_4
  subst hwr_4
  refine lv_icmp_eq (tgt := 1455) hx hb dL_law_1086 (by decide) (fun _ => ?_) (fun h => absurd rfl h)
  exact lc_end hx hb hr hml hown htg hK hN hX hbl hlk hA hAq hbA o1 o2 hS (lv_sub hl [0, 1, 2, 3] rfl)
set_option maxHeartbeats 4000000 in
set_option maxRecDepth 100000 in
theorem lc_29 {p : Program} {l : Launch} {e : Env} {s : State} {m : MethodId} {below : List Frame} {meth : Method} {c : Code} {b : Nat} {xs : Nat → Int32} {D : va_G} {cT : Nat → ClassId} {A : Nat → Prop} (hx : p.tables.exec = Jvm.exec) (hb : c.code = cL_law) (hr : meth.sig.returnType = ret) (hml : c.maxLocals = 4) (hown : s.vm.findClass RL = some m.cls) (htg : ∀ w ∈ gw_T, w.before #[Value.ref b] s = true) (hK : va_K D classes (tysX cT) s) (hN : NX s) (hX : va_X b 6 xs s s.heap) (hbl : b < s.heap.size) (hlk : meth.locks = false) (hA : ∀ q, s.heap.size ≤ q → A q) (hAq : ∀ q, A q → s.heap.size ≤ q) (hbA : ¬ A b) (o1 o2 : Nat) (u1 u2 : Nat → Nat) {H : Heap} {locs : List Loc} {ls : Array Slot} (hP : va_P D classes (wBig cT o1 o2 u1 u2) H) (hD : va_D A (wBig cT o1 o2 u1 u2)) (hS : va_S A s.heap H locs) (hl : lv_has ls 4 [(3, .int 0), (2, .ref o2), (1, .ref o1), (0, .ref b)]) : W p l e room_1 s m #[Value.ref b] below meth c H locs 2000 100000 (lw_Z below #[Value.ref b] s) (F0 m 1091 ls []) := by
  refine lv_aload_n hx hb dL_law_1091 rfl (lv_at hl 2 rfl) ?_
  refine lv_aload_n hx hb dL_law_1092 rfl (lv_at hl 3 rfl) ?_
  refine lv_iload_n hx hb dL_law_1093 rfl (lv_at hl 0 rfl) ?_
  refine lv_iconst (v := 1) hx hb dL_law_1094 (by decide) ?_
  refine lv_iadd hx hb dL_law_1095 ?_
  refine lv_is (y := 1) (by decide) ?_
  refine va_sld hx hb hX hbl hbA hS (by unfold vp_in; decide) dL_law_1096 ?_
  refine lv_is (y := xs 1) rfl ?_
  refine xk_i (wr := [(o2, .inr (9, (.int 0 :: .ref (u2 0) :: .ref (u2 1) :: .ref (u2 2) :: .ref (u2 3) :: .int 0 :: .int 0 :: .int 0 :: .int 0 :: .int 0 :: .int 0 :: .int 0 :: .int 0 :: .int 0 :: .int (-1) :: .ref (u2 4) :: .ref (u2 5) :: .int 0 :: .int 0 :: .int 0 :: .ref (u2 6) :: .ref (u2 7) :: .ref (u2 8) :: .int 0 :: .int 0 :: .int 0 :: .int 0 :: .int 0 :: .ref (u2 9) :: .int 0 :: .ref (u2 10) :: .int 0 :: .int 0 :: .int 0 :: .ref (u2 11) :: .ref (u2 12) :: .ref (u2 13) :: []))), ((u2 0), .inl (cT 0, 288, .inl (allK))), ((u2 1), .inl (cT 3, 2, .inl (fun _ => 0))), ((u2 2), .inl (cT 0, 900, .inl (fun _ => 0))), ((u2 3), .inl (cT 0, 96, .inl (fun _ => 0))), ((u2 10), .inl (cT 0, 16, .inl (fun _ => 0))), ((u2 11), .inl (cT 0, 4, .inl (rsK))), ((u2 12), .inl (cT 0, 4, .inl (fun _ => 0))), ((u2 13), .inl (cT 1, 160, .inr (.inl (fun _ => 0))))]) (xr_V (n := 1) (As := [.int (xs 1)]) (rest := []) ⟨hx, hb, hml, hown, htg⟩ hK hN hP hD [0, 11, 43, 45] rfl (by decide) (k_tour l D cT _ (o1) (u1) ((xs 1))) wi_1034 wi_1035 wi_1036 wi_121 wi_1037 rfl rfl rfl ⟨rfl, by decide +kernel⟩ ⟨Nat.le_of_ble_eq_true rfl, Nat.le_of_ble_eq_true rfl⟩ rfl hl.1 rfl (Nat.le_of_ble_eq_true rfl) dL_law_1097 ⟨Nat.le_of_ble_eq_true rfl, Nat.le_of_ble_eq_true rfl⟩) hP hD hS hA [0, 11, 43, 45] [46, 47, 48, 49, 50, 51, 52, 53, 54] rfl rfl (by decide) (by decide) (fun r_2 u_1 H locs hwr_2 hP hD hS => ?_)
  have hP : va_P D classes [(o2, .inr (9, (.int 0 :: .ref (u2 0) :: .ref (u2 1) :: .ref (u2 2) :: .ref (u2 3) :: .int 0 :: .int 0 :: .int 0 :: .int 0 :: .int 0 :: .int 0 :: .int 0 :: .int 0 :: .int 0 :: .int (-1) :: .ref (u2 4) :: .ref (u2 5) :: .int 0 :: .int 0 :: .int 0 :: .ref (u2 6) :: .ref (u2 7) :: .ref (u2 8) :: .int 0 :: .int 0 :: .int 0 :: .int 0 :: .int 0 :: .ref (u2 9) :: .int 0 :: .ref (u2 10) :: .int 0 :: .int 0 :: .int 0 :: .ref (u2 11) :: .ref (u2 12) :: .ref (u2 13) :: []))), ((u2 0), .inl (cT 0, 288, .inl (allK))), ((u2 1), .inl (cT 3, 2, .inl (fun _ => 0))), ((u2 2), .inl (cT 0, 900, .inl (fun _ => 0))), ((u2 3), .inl (cT 0, 96, .inl (fun _ => 0))), ((u2 10), .inl (cT 0, 16, .inl (fun _ => 0))), ((u2 11), .inl (cT 0, 4, .inl (rsK))), ((u2 12), .inl (cT 0, 4, .inl (fun _ => 0))), ((u2 13), .inl (cT 1, 160, .inr (.inl (fun _ => 0))))] _ := hP
  have hD : va_D A [(o2, .inr (9, (.int 0 :: .ref (u2 0) :: .ref (u2 1) :: .ref (u2 2) :: .ref (u2 3) :: .int 0 :: .int 0 :: .int 0 :: .int 0 :: .int 0 :: .int 0 :: .int 0 :: .int 0 :: .int 0 :: .int (-1) :: .ref (u2 4) :: .ref (u2 5) :: .int 0 :: .int 0 :: .int 0 :: .ref (u2 6) :: .ref (u2 7) :: .ref (u2 8) :: .int 0 :: .int 0 :: .int 0 :: .int 0 :: .int 0 :: .ref (u2 9) :: .int 0 :: .ref (u2 10) :: .int 0 :: .int 0 :: .int 0 :: .ref (u2 11) :: .ref (u2 12) :: .ref (u2 13) :: []))), ((u2 0), .inl (cT 0, 288, .inl (allK))), ((u2 1), .inl (cT 3, 2, .inl (fun _ => 0))), ((u2 2), .inl (cT 0, 900, .inl (fun _ => 0))), ((u2 3), .inl (cT 0, 96, .inl (fun _ => 0))), ((u2 10), .inl (cT 0, 16, .inl (fun _ => 0))), ((u2 11), .inl (cT 0, 4, .inl (rsK))), ((u2 12), .inl (cT 0, 4, .inl (fun _ => 0))), ((u2 13), .inl (cT 1, 160, .inr (.inl (fun _ => 0))))] := hD
  have hwr_2 : r_2 = if (xs 1).toInt = 0 then 0 else -3 := hwr_2
  subst hwr_2
  refine lv_aload_n hx hb dL_law_1100 rfl (lv_at hl 1 rfl) ?_
  refine lv_aload_n hx hb dL_law_1101 rfl (lv_at hl 3 rfl) ?_
  refine lv_iload_n hx hb dL_law_1102 rfl (lv_at hl 0 rfl) ?_
  refine lv_iconst (v := 1) hx hb dL_law_1103 (by decide) ?_
  refine lv_iadd hx hb dL_law_1104 ?_
  refine lv_is (y := 1) (by decide) ?_
  refine va_sld hx hb hX hbl hbA hS (by unfold vp_in; decide) dL_law_1105 ?_
  refine lv_is (y := xs 1) rfl ?_
  refine xk_i (wr := []) (xr_V (n := 1) (As := [.int (xs 1)]) (rest := [.int (if (xs 1).toInt = 0 then 0 else -3)]) ⟨hx, hb, hml, hown, htg⟩ hK hN hP hD [0, 1] rfl (by decide) (m_tour l D cT _ (o2) (u2) ((xs 1))) wi_1555 wi_1556 wi_1557 wi_131 wi_1558 rfl rfl rfl ⟨rfl, by decide +kernel⟩ ⟨Nat.le_of_ble_eq_true rfl, Nat.le_of_ble_eq_true rfl⟩ rfl hl.1 rfl (Nat.le_of_ble_eq_true rfl) dL_law_1106 ⟨Nat.le_of_ble_eq_true rfl, Nat.le_of_ble_eq_true rfl⟩) hP hD hS hA [0, 1] [] rfl rfl (by decide) (by decide) (fun r_4 u_3 H locs hwr_4 hP hD hS => ?_)
  have hP : va_P D classes [] _ := hP
  have hD : va_D A [] := hD
  have hwr_4 : r_4 = if (xs 1).toInt = 0 then 0 else -3 := hwr_4
  subst hwr_4
  refine lv_icmp_eq (tgt := 1455) hx hb dL_law_1109 (by decide) (fun _ => ?_) (fun h => absurd rfl h)
  exact lc_end hx hb hr hml hown htg hK hN hX hbl hlk hA hAq hbA o1 o2 hS (lv_sub hl [0, 1, 2, 3] rfl)
