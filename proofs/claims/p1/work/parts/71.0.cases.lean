set_option maxHeartbeats 4000000 in
set_option maxRecDepth 100000 in
theorem lc_0 {p : Program} {l : Launch} {e : Env} {s : State} {m : MethodId} {below : List Frame} {meth : Method} {c : Code} {b : Nat} {xs : Nat → Int32} {D : va_G} {cT : Nat → ClassId} {A : Nat → Prop} (hx : p.tables.exec = Jvm.exec) (hb : c.code = cL_law) (hr : meth.sig.returnType = ret) (hml : c.maxLocals = 4) (hown : s.vm.findClass RL = some m.cls) (htg : ∀ w ∈ gw_T, w.before #[Value.ref b] s = true) (hK : va_K D classes (tysX cT) s) (hN : NX s) (hX : va_X b 6 xs s s.heap) (hbl : b < s.heap.size) (hlk : meth.locks = false) (hA : ∀ q, s.heap.size ≤ q → A q) (hAq : ∀ q, A q → s.heap.size ≤ q) (hbA : ¬ A b) (o1 o2 : Nat) (u1 u2 : Nat → Nat) {H : Heap} {locs : List Loc} {ls : Array Slot} (hP : va_P D classes (wBig cT o1 o2 u1 u2) H) (hD : va_D A (wBig cT o1 o2 u1 u2)) (hS : va_S A s.heap H locs) (hl : lv_has ls 4 [(3, .int 0), (2, .ref o2), (1, .ref o1), (0, .ref b)]) : W p l e room_1 s m #[Value.ref b] below meth c H locs 2000 100000 (lw_Z below #[Value.ref b] s) (F0 m 208 ls []) := by
  refine lv_aload_n hx hb dL_law_208 rfl (lv_at hl 2 rfl) ?_
  refine lv_aload_n hx hb dL_law_209 rfl (lv_at hl 3 rfl) ?_
  refine lv_iload_n hx hb dL_law_210 rfl (lv_at hl 0 rfl) ?_
  refine lv_iconst (v := 1) hx hb dL_law_211 (by decide) ?_
  refine lv_iadd hx hb dL_law_212 ?_
  refine lv_is (y := 1) (by decide) ?_
  refine va_sld hx hb hX hbl hbA hS (by unfold vp_in; decide) dL_law_213 ?_
  refine lv_is (y := xs 1) rfl ?_
  refine lv_aload_n hx hb dL_law_214 rfl (lv_at hl 3 rfl) ?_
  refine lv_iload_n hx hb dL_law_215 rfl (lv_at hl 0 rfl) ?_
  refine lv_iconst (v := 2) hx hb dL_law_216 (by decide) ?_
  refine lv_iadd hx hb dL_law_217 ?_
  refine lv_is (y := 2) (by decide) ?_
  refine va_sld hx hb hX hbl hbA hS (by unfold vp_in; decide) dL_law_218 ?_
  refine lv_is (y := xs 2) rfl ?_
  refine lv_aload_n hx hb dL_law_219 rfl (lv_at hl 3 rfl) ?_
  refine lv_iload_n hx hb dL_law_220 rfl (lv_at hl 0 rfl) ?_
  refine lv_iconst (v := 3) hx hb dL_law_221 (by decide) ?_
  refine lv_iadd hx hb dL_law_222 ?_
  refine lv_is (y := 3) (by decide) ?_
  refine va_sld hx hb hX hbl hbA hS (by unfold vp_in; decide) dL_law_223 ?_
  refine lv_is (y := xs 3) rfl ?_
  refine lv_aload_n hx hb dL_law_224 rfl (lv_at hl 3 rfl) ?_
  refine lv_iload_n hx hb dL_law_225 rfl (lv_at hl 0 rfl) ?_
  refine lv_iconst (v := 4) hx hb dL_law_226 (by decide) ?_
  refine lv_iadd hx hb dL_law_227 ?_
  refine lv_is (y := 4) (by decide) ?_
  refine va_sld hx hb hX hbl hbA hS (by unfold vp_in; decide) dL_law_228 ?_
  refine lv_is (y := xs 4) rfl ?_
  refine lv_aload_n hx hb dL_law_229 rfl (lv_at hl 3 rfl) ?_
  refine lv_iload_n hx hb dL_law_230 rfl (lv_at hl 0 rfl) ?_
  refine lv_iconst (v := 5) hx hb dL_law_231 (by decide) ?_
  refine lv_iadd hx hb dL_law_232 ?_
  refine lv_is (y := 5) (by decide) ?_
  refine va_sld hx hb hX hbl hbA hS (by unfold vp_in; decide) dL_law_233 ?_
  refine lv_is (y := xs 5) rfl ?_
  refine xk_i (wr := [(o2, .inr (9, (.int 0 :: .ref (u2 0) :: .ref (u2 1) :: .ref (u2 2) :: .ref (u2 3) :: .int 0 :: .int 0 :: .int 0 :: .int 0 :: .int 0 :: .int 0 :: .int 0 :: .int 0 :: .int 0 :: .int (-1) :: .ref (u2 4) :: .ref (u2 5) :: .int 0 :: .int 0 :: .int 0 :: .ref (u2 6) :: .ref (u2 7) :: .ref (u2 8) :: .int 0 :: .int 0 :: .int 0 :: .int 0 :: .int 0 :: .ref (u2 9) :: .int 0 :: .ref (u2 10) :: .int 0 :: .int 0 :: .int 0 :: .ref (u2 11) :: .ref (u2 12) :: .ref (u2 13) :: []))), ((u2 0), .inl (cT 0, 288, .inl (allK))), ((u2 1), .inl (cT 3, 2, .inl (fun _ => 0))), ((u2 2), .inl (cT 0, 900, .inl (fun _ => 0))), ((u2 3), .inl (cT 0, 96, .inl (fun _ => 0))), ((u2 10), .inl (cT 0, 16, .inl (fun _ => 0))), ((u2 11), .inl (cT 0, 4, .inl (rsK))), ((u2 12), .inl (cT 0, 4, .inl (fun _ => 0))), ((u2 13), .inl (cT 1, 160, .inr (.inl (fun _ => 0))))]) (xr_V (n := 5) (As := [.int (xs 1), .int (xs 2), .int (xs 3), .int (xs 4), .int (xs 5)]) (rest := []) ⟨hx, hb, hml, hown, htg⟩ hK hN hP hD [0, 1] rfl (by decide) (k_feed l D cT _ (o1) (u1) ((xs 1)) ((xs 2)) ((xs 3)) ((xs 4)) ((xs 5))) wi_507 wi_508 wi_509 wi_121 wi_510 rfl rfl rfl ⟨rfl, by decide +kernel⟩ ⟨Nat.le_of_ble_eq_true rfl, Nat.le_of_ble_eq_true rfl⟩ rfl hl.1 rfl (Nat.le_of_ble_eq_true rfl) dL_law_234 ⟨Nat.le_of_ble_eq_true rfl, Nat.le_of_ble_eq_true rfl⟩) hP hD hS hA [0, 1] [46, 47, 48, 49, 50, 51, 52, 53, 54] rfl rfl (by decide) (by decide) (fun r_2 u_1 H locs hwr_2 hP hD hS => ?_)
  have hP : va_P D classes [(o2, .inr (9, (.int 0 :: .ref (u2 0) :: .ref (u2 1) :: .ref (u2 2) :: .ref (u2 3) :: .int 0 :: .int 0 :: .int 0 :: .int 0 :: .int 0 :: .int 0 :: .int 0 :: .int 0 :: .int 0 :: .int (-1) :: .ref (u2 4) :: .ref (u2 5) :: .int 0 :: .int 0 :: .int 0 :: .ref (u2 6) :: .ref (u2 7) :: .ref (u2 8) :: .int 0 :: .int 0 :: .int 0 :: .int 0 :: .int 0 :: .ref (u2 9) :: .int 0 :: .ref (u2 10) :: .int 0 :: .int 0 :: .int 0 :: .ref (u2 11) :: .ref (u2 12) :: .ref (u2 13) :: []))), ((u2 0), .inl (cT 0, 288, .inl (allK))), ((u2 1), .inl (cT 3, 2, .inl (fun _ => 0))), ((u2 2), .inl (cT 0, 900, .inl (fun _ => 0))), ((u2 3), .inl (cT 0, 96, .inl (fun _ => 0))), ((u2 10), .inl (cT 0, 16, .inl (fun _ => 0))), ((u2 11), .inl (cT 0, 4, .inl (rsK))), ((u2 12), .inl (cT 0, 4, .inl (fun _ => 0))), ((u2 13), .inl (cT 1, 160, .inr (.inl (fun _ => 0))))] _ := hP
  have hD : va_D A [(o2, .inr (9, (.int 0 :: .ref (u2 0) :: .ref (u2 1) :: .ref (u2 2) :: .ref (u2 3) :: .int 0 :: .int 0 :: .int 0 :: .int 0 :: .int 0 :: .int 0 :: .int 0 :: .int 0 :: .int 0 :: .int (-1) :: .ref (u2 4) :: .ref (u2 5) :: .int 0 :: .int 0 :: .int 0 :: .ref (u2 6) :: .ref (u2 7) :: .ref (u2 8) :: .int 0 :: .int 0 :: .int 0 :: .int 0 :: .int 0 :: .ref (u2 9) :: .int 0 :: .ref (u2 10) :: .int 0 :: .int 0 :: .int 0 :: .ref (u2 11) :: .ref (u2 12) :: .ref (u2 13) :: []))), ((u2 0), .inl (cT 0, 288, .inl (allK))), ((u2 1), .inl (cT 3, 2, .inl (fun _ => 0))), ((u2 2), .inl (cT 0, 900, .inl (fun _ => 0))), ((u2 3), .inl (cT 0, 96, .inl (fun _ => 0))), ((u2 10), .inl (cT 0, 16, .inl (fun _ => 0))), ((u2 11), .inl (cT 0, 4, .inl (rsK))), ((u2 12), .inl (cT 0, 4, .inl (fun _ => 0))), ((u2 13), .inl (cT 1, 160, .inr (.inl (fun _ => 0))))] := hD
  have hwr_2 : r_2 = 20 := hwr_2
  subst hwr_2
  refine lv_aload_n hx hb dL_law_237 rfl (lv_at hl 1 rfl) ?_
  refine lv_aload_n hx hb dL_law_238 rfl (lv_at hl 3 rfl) ?_
  refine lv_iload_n hx hb dL_law_239 rfl (lv_at hl 0 rfl) ?_
  refine lv_iconst (v := 1) hx hb dL_law_240 (by decide) ?_
  refine lv_iadd hx hb dL_law_241 ?_
  refine lv_is (y := 1) (by decide) ?_
  refine va_sld hx hb hX hbl hbA hS (by unfold vp_in; decide) dL_law_242 ?_
  refine lv_is (y := xs 1) rfl ?_
  refine lv_aload_n hx hb dL_law_243 rfl (lv_at hl 3 rfl) ?_
  refine lv_iload_n hx hb dL_law_244 rfl (lv_at hl 0 rfl) ?_
  refine lv_iconst (v := 2) hx hb dL_law_245 (by decide) ?_
  refine lv_iadd hx hb dL_law_246 ?_
  refine lv_is (y := 2) (by decide) ?_
  refine va_sld hx hb hX hbl hbA hS (by unfold vp_in; decide) dL_law_247 ?_
  refine lv_is (y := xs 2) rfl ?_
  refine lv_aload_n hx hb dL_law_248 rfl (lv_at hl 3 rfl) ?_
  refine lv_iload_n hx hb dL_law_249 rfl (lv_at hl 0 rfl) ?_
  refine lv_iconst (v := 3) hx hb dL_law_250 (by decide) ?_
  refine lv_iadd hx hb dL_law_251 ?_
  refine lv_is (y := 3) (by decide) ?_
  refine va_sld hx hb hX hbl hbA hS (by unfold vp_in; decide) dL_law_252 ?_
  refine lv_is (y := xs 3) rfl ?_
  refine lv_aload_n hx hb dL_law_253 rfl (lv_at hl 3 rfl) ?_
  refine lv_iload_n hx hb dL_law_254 rfl (lv_at hl 0 rfl) ?_
  refine lv_iconst (v := 4) hx hb dL_law_255 (by decide) ?_
  refine lv_iadd hx hb dL_law_256 ?_
  refine lv_is (y := 4) (by decide) ?_
  refine va_sld hx hb hX hbl hbA hS (by unfold vp_in; decide) dL_law_257 ?_
  refine lv_is (y := xs 4) rfl ?_
  refine lv_aload_n hx hb dL_law_258 rfl (lv_at hl 3 rfl) ?_
  refine lv_iload_n hx hb dL_law_259 rfl (lv_at hl 0 rfl) ?_
  refine lv_iconst (v := 5) hx hb dL_law_260 (by decide) ?_
  refine lv_iadd hx hb dL_law_261 ?_
  refine lv_is (y := 5) (by decide) ?_
  refine va_sld hx hb hX hbl hbA hS (by unfold vp_in; decide) dL_law_262 ?_
  refine lv_is (y := xs 5) rfl ?_
  refine xk_i (wr := []) (xr_V (n := 5) (As := [.int (xs 1), .int (xs 2), .int (xs 3), .int (xs 4), .int (xs 5)]) (rest := [.int 20]) ⟨hx, hb, hml, hown, htg⟩ hK hN hP hD [0, 3] rfl (by decide) (m_feed l D cT _ (o2) (u2) ((xs 1)) ((xs 2)) ((xs 3)) ((xs 4)) ((xs 5))) wi_1262 wi_1263 wi_1264 wi_131 wi_1265 rfl rfl rfl ⟨rfl, by decide +kernel⟩ ⟨Nat.le_of_ble_eq_true rfl, Nat.le_of_ble_eq_true rfl⟩ rfl hl.1 rfl (Nat.le_of_ble_eq_true rfl) dL_law_263 ⟨Nat.le_of_ble_eq_true rfl, Nat.le_of_ble_eq_true rfl⟩) hP hD hS hA [0, 3] [] rfl rfl (by decide) (by decide) (fun r_4 u_3 H locs hwr_4 hP hD hS => ?_)
  have hP : va_P D classes [] _ := hP
  have hD : va_D A [] := hD
  have hwr_4 : r_4 = 20 := hwr_4
  subst hwr_4
  refine lv_icmp_eq (tgt := 1455) hx hb dL_law_266 (by decide) (fun _ => ?_) (fun h => absurd rfl h)
  exact lc_end hx hb hr hml hown htg hK hN hX hbl hlk hA hAq hbA o1 o2 hS (lv_sub hl [0, 1, 2, 3] rfl)
set_option maxHeartbeats 4000000 in
set_option maxRecDepth 100000 in
theorem lc_1 {p : Program} {l : Launch} {e : Env} {s : State} {m : MethodId} {below : List Frame} {meth : Method} {c : Code} {b : Nat} {xs : Nat → Int32} {D : va_G} {cT : Nat → ClassId} {A : Nat → Prop} (hx : p.tables.exec = Jvm.exec) (hb : c.code = cL_law) (hr : meth.sig.returnType = ret) (hml : c.maxLocals = 4) (hown : s.vm.findClass RL = some m.cls) (htg : ∀ w ∈ gw_T, w.before #[Value.ref b] s = true) (hK : va_K D classes (tysX cT) s) (hN : NX s) (hX : va_X b 6 xs s s.heap) (hbl : b < s.heap.size) (hlk : meth.locks = false) (hA : ∀ q, s.heap.size ≤ q → A q) (hAq : ∀ q, A q → s.heap.size ≤ q) (hbA : ¬ A b) (o1 o2 : Nat) (u1 u2 : Nat → Nat) {H : Heap} {locs : List Loc} {ls : Array Slot} (hP : va_P D classes (wBig cT o1 o2 u1 u2) H) (hD : va_D A (wBig cT o1 o2 u1 u2)) (hS : va_S A s.heap H locs) (hl : lv_has ls 4 [(3, .int 0), (2, .ref o2), (1, .ref o1), (0, .ref b)]) : W p l e room_1 s m #[Value.ref b] below meth c H locs 2000 100000 (lw_Z below #[Value.ref b] s) (F0 m 271 ls []) := by
  refine lv_aload_n hx hb dL_law_271 rfl (lv_at hl 2 rfl) ?_
  refine lv_aload_n hx hb dL_law_272 rfl (lv_at hl 3 rfl) ?_
  refine lv_iload_n hx hb dL_law_273 rfl (lv_at hl 0 rfl) ?_
  refine lv_iconst (v := 1) hx hb dL_law_274 (by decide) ?_
  refine lv_iadd hx hb dL_law_275 ?_
  refine lv_is (y := 1) (by decide) ?_
  refine va_sld hx hb hX hbl hbA hS (by unfold vp_in; decide) dL_law_276 ?_
  refine lv_is (y := xs 1) rfl ?_
  refine xk_i (wr := [(o2, .inr (9, (.int 0 :: .ref (u2 0) :: .ref (u2 1) :: .ref (u2 2) :: .ref (u2 3) :: .int 0 :: .int 0 :: .int 0 :: .int 0 :: .int 0 :: .int 0 :: .int 0 :: .int 0 :: .int 0 :: .int (-1) :: .ref (u2 4) :: .ref (u2 5) :: .int 0 :: .int 0 :: .int 0 :: .ref (u2 6) :: .ref (u2 7) :: .ref (u2 8) :: .int 0 :: .int 0 :: .int 0 :: .int 0 :: .int 0 :: .ref (u2 9) :: .int 0 :: .ref (u2 10) :: .int 0 :: .int 0 :: .int 0 :: .ref (u2 11) :: .ref (u2 12) :: .ref (u2 13) :: []))), ((u2 0), .inl (cT 0, 288, .inl (allK))), ((u2 1), .inl (cT 3, 2, .inl (fun _ => 0))), ((u2 2), .inl (cT 0, 900, .inl (fun _ => 0))), ((u2 3), .inl (cT 0, 96, .inl (fun _ => 0))), ((u2 10), .inl (cT 0, 16, .inl (fun _ => 0))), ((u2 11), .inl (cT 0, 4, .inl (rsK))), ((u2 12), .inl (cT 0, 4, .inl (fun _ => 0))), ((u2 13), .inl (cT 1, 160, .inr (.inl (fun _ => 0))))]) (xr_V (n := 1) (As := [.int (xs 1)]) (rest := []) ⟨hx, hb, hml, hown, htg⟩ hK hN hP hD [0, 1, 2, 3, 4, 5, 6, 7, 8, 9, 10, 11, 12, 13, 14, 15, 16, 17] rfl (by decide) (k_plain l D cT _ (o1) (u1) ((xs 1))) wi_515 wi_516 wi_517 wi_121 wi_518 rfl rfl rfl ⟨rfl, by decide +kernel⟩ ⟨Nat.le_of_ble_eq_true rfl, Nat.le_of_ble_eq_true rfl⟩ rfl hl.1 rfl (Nat.le_of_ble_eq_true rfl) dL_law_277 ⟨Nat.le_of_ble_eq_true rfl, Nat.le_of_ble_eq_true rfl⟩) hP hD hS hA [0, 1, 2, 3, 4, 5, 6, 7, 8, 9, 10, 11, 12, 13, 14, 15, 16, 17] [46, 47, 48, 49, 50, 51, 52, 53, 54] rfl rfl (by decide) (by decide) (fun r_2 u_1 H locs hwr_2 hP hD hS => ?_)
  have hP : va_P D classes [(o2, .inr (9, (.int 0 :: .ref (u2 0) :: .ref (u2 1) :: .ref (u2 2) :: .ref (u2 3) :: .int 0 :: .int 0 :: .int 0 :: .int 0 :: .int 0 :: .int 0 :: .int 0 :: .int 0 :: .int 0 :: .int (-1) :: .ref (u2 4) :: .ref (u2 5) :: .int 0 :: .int 0 :: .int 0 :: .ref (u2 6) :: .ref (u2 7) :: .ref (u2 8) :: .int 0 :: .int 0 :: .int 0 :: .int 0 :: .int 0 :: .ref (u2 9) :: .int 0 :: .ref (u2 10) :: .int 0 :: .int 0 :: .int 0 :: .ref (u2 11) :: .ref (u2 12) :: .ref (u2 13) :: []))), ((u2 0), .inl (cT 0, 288, .inl (allK))), ((u2 1), .inl (cT 3, 2, .inl (fun _ => 0))), ((u2 2), .inl (cT 0, 900, .inl (fun _ => 0))), ((u2 3), .inl (cT 0, 96, .inl (fun _ => 0))), ((u2 10), .inl (cT 0, 16, .inl (fun _ => 0))), ((u2 11), .inl (cT 0, 4, .inl (rsK))), ((u2 12), .inl (cT 0, 4, .inl (fun _ => 0))), ((u2 13), .inl (cT 1, 160, .inr (.inl (fun _ => 0))))] _ := hP
  have hD : va_D A [(o2, .inr (9, (.int 0 :: .ref (u2 0) :: .ref (u2 1) :: .ref (u2 2) :: .ref (u2 3) :: .int 0 :: .int 0 :: .int 0 :: .int 0 :: .int 0 :: .int 0 :: .int 0 :: .int 0 :: .int 0 :: .int (-1) :: .ref (u2 4) :: .ref (u2 5) :: .int 0 :: .int 0 :: .int 0 :: .ref (u2 6) :: .ref (u2 7) :: .ref (u2 8) :: .int 0 :: .int 0 :: .int 0 :: .int 0 :: .int 0 :: .ref (u2 9) :: .int 0 :: .ref (u2 10) :: .int 0 :: .int 0 :: .int 0 :: .ref (u2 11) :: .ref (u2 12) :: .ref (u2 13) :: []))), ((u2 0), .inl (cT 0, 288, .inl (allK))), ((u2 1), .inl (cT 3, 2, .inl (fun _ => 0))), ((u2 2), .inl (cT 0, 900, .inl (fun _ => 0))), ((u2 3), .inl (cT 0, 96, .inl (fun _ => 0))), ((u2 10), .inl (cT 0, 16, .inl (fun _ => 0))), ((u2 11), .inl (cT 0, 4, .inl (rsK))), ((u2 12), .inl (cT 0, 4, .inl (fun _ => 0))), ((u2 13), .inl (cT 1, 160, .inr (.inl (fun _ => 0))))] := hD
  have hwr_2 : r_2 = if (xs 1).toInt = 0 then 0 else -3 := hwr_2
  subst hwr_2
  refine lv_aload_n hx hb dL_law_280 rfl (lv_at hl 1 rfl) ?_
  refine lv_aload_n hx hb dL_law_281 rfl (lv_at hl 3 rfl) ?_
  refine lv_iload_n hx hb dL_law_282 rfl (lv_at hl 0 rfl) ?_
  refine lv_iconst (v := 1) hx hb dL_law_283 (by decide) ?_
  refine lv_iadd hx hb dL_law_284 ?_
  refine lv_is (y := 1) (by decide) ?_
  refine va_sld hx hb hX hbl hbA hS (by unfold vp_in; decide) dL_law_285 ?_
  refine lv_is (y := xs 1) rfl ?_
  refine xk_i (wr := []) (xr_V (n := 1) (As := [.int (xs 1)]) (rest := [.int (if (xs 1).toInt = 0 then 0 else -3)]) ⟨hx, hb, hml, hown, htg⟩ hK hN hP hD [0, 1, 4] rfl (by decide) (m_plain l D cT _ (o2) (u2) ((xs 1))) wi_1266 wi_1267 wi_1268 wi_131 wi_1269 rfl rfl rfl ⟨rfl, by decide +kernel⟩ ⟨Nat.le_of_ble_eq_true rfl, Nat.le_of_ble_eq_true rfl⟩ rfl hl.1 rfl (Nat.le_of_ble_eq_true rfl) dL_law_286 ⟨Nat.le_of_ble_eq_true rfl, Nat.le_of_ble_eq_true rfl⟩) hP hD hS hA [0, 1, 4] [] rfl rfl (by decide) (by decide) (fun r_4 u_3 H locs hwr_4 hP hD hS => ?_)
  have hP : va_P D classes [] _ := hP
  have hD : va_D A [] := hD
  have hwr_4 : r_4 = if (xs 1).toInt = 0 then 0 else -3 := hwr_4
  subst hwr_4
  refine lv_icmp_eq (tgt := 1455) hx hb dL_law_289 (by decide) (fun _ => ?_) (fun h => absurd rfl h)
  exact lc_end hx hb hr hml hown htg hK hN hX hbl hlk hA hAq hbA o1 o2 hS (lv_sub hl [0, 1, 2, 3] rfl)
set_option maxHeartbeats 4000000 in
set_option maxRecDepth 100000 in
theorem lc_2 {p : Program} {l : Launch} {e : Env} {s : State} {m : MethodId} {below : List Frame} {meth : Method} {c : Code} {b : Nat} {xs : Nat → Int32} {D : va_G} {cT : Nat → ClassId} {A : Nat → Prop} (hx : p.tables.exec = Jvm.exec) (hb : c.code = cL_law) (hr : meth.sig.returnType = ret) (hml : c.maxLocals = 4) (hown : s.vm.findClass RL = some m.cls) (htg : ∀ w ∈ gw_T, w.before #[Value.ref b] s = true) (hK : va_K D classes (tysX cT) s) (hN : NX s) (hX : va_X b 6 xs s s.heap) (hbl : b < s.heap.size) (hlk : meth.locks = false) (hA : ∀ q, s.heap.size ≤ q → A q) (hAq : ∀ q, A q → s.heap.size ≤ q) (hbA : ¬ A b) (o1 o2 : Nat) (u1 u2 : Nat → Nat) {H : Heap} {locs : List Loc} {ls : Array Slot} (hP : va_P D classes (wBig cT o1 o2 u1 u2) H) (hD : va_D A (wBig cT o1 o2 u1 u2)) (hS : va_S A s.heap H locs) (hl : lv_has ls 4 [(3, .int 0), (2, .ref o2), (1, .ref o1), (0, .ref b)]) : W p l e room_1 s m #[Value.ref b] below meth c H locs 2000 100000 (lw_Z below #[Value.ref b] s) (F0 m 294 ls []) := by
  refine lv_aload_n hx hb dL_law_294 rfl (lv_at hl 2 rfl) ?_
  refine lv_aload_n hx hb dL_law_295 rfl (lv_at hl 3 rfl) ?_
  refine lv_iload_n hx hb dL_law_296 rfl (lv_at hl 0 rfl) ?_
  refine lv_iconst (v := 1) hx hb dL_law_297 (by decide) ?_
  refine lv_iadd hx hb dL_law_298 ?_
  refine lv_is (y := 1) (by decide) ?_
  refine va_sld hx hb hX hbl hbA hS (by unfold vp_in; decide) dL_law_299 ?_
  refine lv_is (y := xs 1) rfl ?_
  refine xk_i (wr := [(o2, .inr (9, (.int 0 :: .ref (u2 0) :: .ref (u2 1) :: .ref (u2 2) :: .ref (u2 3) :: .int 0 :: .int 0 :: .int 0 :: .int 0 :: .int 0 :: .int 0 :: .int 0 :: .int 0 :: .int 0 :: .int (-1) :: .ref (u2 4) :: .ref (u2 5) :: .int 0 :: .int 0 :: .int 0 :: .ref (u2 6) :: .ref (u2 7) :: .ref (u2 8) :: .int 0 :: .int 0 :: .int 0 :: .int 0 :: .int 0 :: .ref (u2 9) :: .int 0 :: .ref (u2 10) :: .int 0 :: .int 0 :: .int 0 :: .ref (u2 11) :: .ref (u2 12) :: .ref (u2 13) :: []))), ((u2 0), .inl (cT 0, 288, .inl (allK))), ((u2 1), .inl (cT 3, 2, .inl (fun _ => 0))), ((u2 2), .inl (cT 0, 900, .inl (fun _ => 0))), ((u2 3), .inl (cT 0, 96, .inl (fun _ => 0))), ((u2 10), .inl (cT 0, 16, .inl (fun _ => 0))), ((u2 11), .inl (cT 0, 4, .inl (rsK))), ((u2 12), .inl (cT 0, 4, .inl (fun _ => 0))), ((u2 13), .inl (cT 1, 160, .inr (.inl (fun _ => 0))))]) (xr_V (n := 1) (As := [.int (xs 1)]) (rest := []) ⟨hx, hb, hml, hown, htg⟩ hK hN hP hD [0, 2] rfl (by decide) (k_fault l D cT _ (o1) (u1) ((xs 1))) wi_658 wi_659 wi_660 wi_121 wi_661 rfl rfl rfl ⟨rfl, by decide +kernel⟩ ⟨Nat.le_of_ble_eq_true rfl, Nat.le_of_ble_eq_true rfl⟩ rfl hl.1 rfl (Nat.le_of_ble_eq_true rfl) dL_law_300 ⟨Nat.le_of_ble_eq_true rfl, Nat.le_of_ble_eq_true rfl⟩) hP hD hS hA [0, 2] [46, 47, 48, 49, 50, 51, 52, 53, 54] rfl rfl (by decide) (by decide) (fun r_2 u_1 H locs hwr_2 hP hD hS => ?_)
  have hP : va_P D classes [(o2, .inr (9, (.int 0 :: .ref (u2 0) :: .ref (u2 1) :: .ref (u2 2) :: .ref (u2 3) :: .int 0 :: .int 0 :: .int 0 :: .int 0 :: .int 0 :: .int 0 :: .int 0 :: .int 0 :: .int 0 :: .int (-1) :: .ref (u2 4) :: .ref (u2 5) :: .int 0 :: .int 0 :: .int 0 :: .ref (u2 6) :: .ref (u2 7) :: .ref (u2 8) :: .int 0 :: .int 0 :: .int 0 :: .int 0 :: .int 0 :: .ref (u2 9) :: .int 0 :: .ref (u2 10) :: .int 0 :: .int 0 :: .int 0 :: .ref (u2 11) :: .ref (u2 12) :: .ref (u2 13) :: []))), ((u2 0), .inl (cT 0, 288, .inl (allK))), ((u2 1), .inl (cT 3, 2, .inl (fun _ => 0))), ((u2 2), .inl (cT 0, 900, .inl (fun _ => 0))), ((u2 3), .inl (cT 0, 96, .inl (fun _ => 0))), ((u2 10), .inl (cT 0, 16, .inl (fun _ => 0))), ((u2 11), .inl (cT 0, 4, .inl (rsK))), ((u2 12), .inl (cT 0, 4, .inl (fun _ => 0))), ((u2 13), .inl (cT 1, 160, .inr (.inl (fun _ => 0))))] _ := hP
  have hD : va_D A [(o2, .inr (9, (.int 0 :: .ref (u2 0) :: .ref (u2 1) :: .ref (u2 2) :: .ref (u2 3) :: .int 0 :: .int 0 :: .int 0 :: .int 0 :: .int 0 :: .int 0 :: .int 0 :: .int 0 :: .int 0 :: .int (-1) :: .ref (u2 4) :: .ref (u2 5) :: .int 0 :: .int 0 :: .int 0 :: .ref (u2 6) :: .ref (u2 7) :: .ref (u2 8) :: .int 0 :: .int 0 :: .int 0 :: .int 0 :: .int 0 :: .ref (u2 9) :: .int 0 :: .ref (u2 10) :: .int 0 :: .int 0 :: .int 0 :: .ref (u2 11) :: .ref (u2 12) :: .ref (u2 13) :: []))), ((u2 0), .inl (cT 0, 288, .inl (allK))), ((u2 1), .inl (cT 3, 2, .inl (fun _ => 0))), ((u2 2), .inl (cT 0, 900, .inl (fun _ => 0))), ((u2 3), .inl (cT 0, 96, .inl (fun _ => 0))), ((u2 10), .inl (cT 0, 16, .inl (fun _ => 0))), ((u2 11), .inl (cT 0, 4, .inl (rsK))), ((u2 12), .inl (cT 0, 4, .inl (fun _ => 0))), ((u2 13), .inl (cT 1, 160, .inr (.inl (fun _ => 0))))] := hD
  have hwr_2 : r_2 = if (xs 1).toInt = 0 then 0 else -1 := hwr_2
  subst hwr_2
  refine lv_aload_n hx hb dL_law_303 rfl (lv_at hl 1 rfl) ?_
  refine lv_aload_n hx hb dL_law_304 rfl (lv_at hl 3 rfl) ?_
  refine lv_iload_n hx hb dL_law_305 rfl (lv_at hl 0 rfl) ?_
  refine lv_iconst (v := 1) hx hb dL_law_306 (by decide) ?_
  refine lv_iadd hx hb dL_law_307 ?_
  refine lv_is (y := 1) (by decide) ?_
  refine va_sld hx hb hX hbl hbA hS (by unfold vp_in; decide) dL_law_308 ?_
  refine lv_is (y := xs 1) rfl ?_
  refine xk_i (wr := []) (xr_V (n := 1) (As := [.int (xs 1)]) (rest := [.int (if (xs 1).toInt = 0 then 0 else -1)]) ⟨hx, hb, hml, hown, htg⟩ hK hN hP hD [0] rfl (by decide) (m_fault l D cT _ (o2) (u2) ((xs 1))) wi_1330 wi_1331 wi_1332 wi_131 wi_1333 rfl rfl rfl ⟨rfl, by decide +kernel⟩ ⟨Nat.le_of_ble_eq_true rfl, Nat.le_of_ble_eq_true rfl⟩ rfl hl.1 rfl (Nat.le_of_ble_eq_true rfl) dL_law_309 ⟨Nat.le_of_ble_eq_true rfl, Nat.le_of_ble_eq_true rfl⟩) hP hD hS hA [0] [] rfl rfl (by decide) (by decide) (fun r_4 u_3 H locs hwr_4 hP hD hS => ?_)
  have hP : va_P D classes [] _ := hP
  have hD : va_D A [] := hD
  have hwr_4 : r_4 = if (xs 1).toInt = 0 then 0 else -1 := hwr_4
  subst hwr_4
  refine lv_icmp_eq (tgt := 1455) hx hb dL_law_312 (by decide) (fun _ => ?_) (fun h => absurd rfl h)
  exact lc_end hx hb hr hml hown htg hK hN hX hbl hlk hA hAq hbA o1 o2 hS (lv_sub hl [0, 1, 2, 3] rfl)
set_option maxHeartbeats 4000000 in
set_option maxRecDepth 100000 in
theorem lc_3 {p : Program} {l : Launch} {e : Env} {s : State} {m : MethodId} {below : List Frame} {meth : Method} {c : Code} {b : Nat} {xs : Nat → Int32} {D : va_G} {cT : Nat → ClassId} {A : Nat → Prop} (hx : p.tables.exec = Jvm.exec) (hb : c.code = cL_law) (hr : meth.sig.returnType = ret) (hml : c.maxLocals = 4) (hown : s.vm.findClass RL = some m.cls) (htg : ∀ w ∈ gw_T, w.before #[Value.ref b] s = true) (hK : va_K D classes (tysX cT) s) (hN : NX s) (hX : va_X b 6 xs s s.heap) (hbl : b < s.heap.size) (hlk : meth.locks = false) (hA : ∀ q, s.heap.size ≤ q → A q) (hAq : ∀ q, A q → s.heap.size ≤ q) (hbA : ¬ A b) (o1 o2 : Nat) (u1 u2 : Nat → Nat) {H : Heap} {locs : List Loc} {ls : Array Slot} (hP : va_P D classes (wBig cT o1 o2 u1 u2) H) (hD : va_D A (wBig cT o1 o2 u1 u2)) (hS : va_S A s.heap H locs) (hl : lv_has ls 4 [(3, .int 0), (2, .ref o2), (1, .ref o1), (0, .ref b)]) : W p l e room_1 s m #[Value.ref b] below meth c H locs 2000 100000 (lw_Z below #[Value.ref b] s) (F0 m 317 ls []) := by
  refine lv_aload_n hx hb dL_law_317 rfl (lv_at hl 2 rfl) ?_
  refine lv_aload_n hx hb dL_law_318 rfl (lv_at hl 3 rfl) ?_
  refine lv_iload_n hx hb dL_law_319 rfl (lv_at hl 0 rfl) ?_
  refine lv_iconst (v := 1) hx hb dL_law_320 (by decide) ?_
  refine lv_iadd hx hb dL_law_321 ?_
  refine lv_is (y := 1) (by decide) ?_
  refine va_sld hx hb hX hbl hbA hS (by unfold vp_in; decide) dL_law_322 ?_
  refine lv_is (y := xs 1) rfl ?_
  refine lv_aload_n hx hb dL_law_323 rfl (lv_at hl 3 rfl) ?_
  refine lv_iload_n hx hb dL_law_324 rfl (lv_at hl 0 rfl) ?_
  refine lv_iconst (v := 2) hx hb dL_law_325 (by decide) ?_
  refine lv_iadd hx hb dL_law_326 ?_
  refine lv_is (y := 2) (by decide) ?_
  refine va_sld hx hb hX hbl hbA hS (by unfold vp_in; decide) dL_law_327 ?_
  refine lv_is (y := xs 2) rfl ?_
  refine xk_i (wr := [(o2, .inr (9, (.int 0 :: .ref (u2 0) :: .ref (u2 1) :: .ref (u2 2) :: .ref (u2 3) :: .int 0 :: .int 0 :: .int 0 :: .int 0 :: .int 0 :: .int 0 :: .int 0 :: .int 0 :: .int 0 :: .int (-1) :: .ref (u2 4) :: .ref (u2 5) :: .int 0 :: .int 0 :: .int 0 :: .ref (u2 6) :: .ref (u2 7) :: .ref (u2 8) :: .int 0 :: .int 0 :: .int 0 :: .int 0 :: .int 0 :: .ref (u2 9) :: .int 0 :: .ref (u2 10) :: .int 0 :: .int 0 :: .int 0 :: .ref (u2 11) :: .ref (u2 12) :: .ref (u2 13) :: []))), ((u2 0), .inl (cT 0, 288, .inl (allK))), ((u2 1), .inl (cT 3, 2, .inl (fun _ => 0))), ((u2 2), .inl (cT 0, 900, .inl (fun _ => 0))), ((u2 3), .inl (cT 0, 96, .inl (fun _ => 0))), ((u2 10), .inl (cT 0, 16, .inl (fun _ => 0))), ((u2 11), .inl (cT 0, 4, .inl (rsK))), ((u2 12), .inl (cT 0, 4, .inl (fun _ => 0))), ((u2 13), .inl (cT 1, 160, .inr (.inl (fun _ => 0))))]) (xr_V (n := 2) (As := [.int (xs 1), .int (xs 2)]) (rest := []) ⟨hx, hb, hml, hown, htg⟩ hK hN hP hD [0, 11] rfl (by decide) (k_strip l D cT _ (o1) (u1) ((xs 1)) ((xs 2))) wi_662 wi_663 wi_664 wi_121 wi_665 rfl rfl rfl ⟨rfl, by decide +kernel⟩ ⟨Nat.le_of_ble_eq_true rfl, Nat.le_of_ble_eq_true rfl⟩ rfl hl.1 rfl (Nat.le_of_ble_eq_true rfl) dL_law_328 ⟨Nat.le_of_ble_eq_true rfl, Nat.le_of_ble_eq_true rfl⟩) hP hD hS hA [0, 11] [46, 47, 48, 49, 50, 51, 52, 53, 54] rfl rfl (by decide) (by decide) (fun r_2 u_1 H locs hwr_2 hP hD hS => ?_)
  have hP : va_P D classes [(o2, .inr (9, (.int 0 :: .ref (u2 0) :: .ref (u2 1) :: .ref (u2 2) :: .ref (u2 3) :: .int 0 :: .int 0 :: .int 0 :: .int 0 :: .int 0 :: .int 0 :: .int 0 :: .int 0 :: .int 0 :: .int (-1) :: .ref (u2 4) :: .ref (u2 5) :: .int 0 :: .int 0 :: .int 0 :: .ref (u2 6) :: .ref (u2 7) :: .ref (u2 8) :: .int 0 :: .int 0 :: .int 0 :: .int 0 :: .int 0 :: .ref (u2 9) :: .int 0 :: .ref (u2 10) :: .int 0 :: .int 0 :: .int 0 :: .ref (u2 11) :: .ref (u2 12) :: .ref (u2 13) :: []))), ((u2 0), .inl (cT 0, 288, .inl (allK))), ((u2 1), .inl (cT 3, 2, .inl (fun _ => 0))), ((u2 2), .inl (cT 0, 900, .inl (fun _ => 0))), ((u2 3), .inl (cT 0, 96, .inl (fun _ => 0))), ((u2 10), .inl (cT 0, 16, .inl (fun _ => 0))), ((u2 11), .inl (cT 0, 4, .inl (rsK))), ((u2 12), .inl (cT 0, 4, .inl (fun _ => 0))), ((u2 13), .inl (cT 1, 160, .inr (.inl (fun _ => 0))))] _ := hP
  have hD : va_D A [(o2, .inr (9, (.int 0 :: .ref (u2 0) :: .ref (u2 1) :: .ref (u2 2) :: .ref (u2 3) :: .int 0 :: .int 0 :: .int 0 :: .int 0 :: .int 0 :: .int 0 :: .int 0 :: .int 0 :: .int 0 :: .int (-1) :: .ref (u2 4) :: .ref (u2 5) :: .int 0 :: .int 0 :: .int 0 :: .ref (u2 6) :: .ref (u2 7) :: .ref (u2 8) :: .int 0 :: .int 0 :: .int 0 :: .int 0 :: .int 0 :: .ref (u2 9) :: .int 0 :: .ref (u2 10) :: .int 0 :: .int 0 :: .int 0 :: .ref (u2 11) :: .ref (u2 12) :: .ref (u2 13) :: []))), ((u2 0), .inl (cT 0, 288, .inl (allK))), ((u2 1), .inl (cT 3, 2, .inl (fun _ => 0))), ((u2 2), .inl (cT 0, 900, .inl (fun _ => 0))), ((u2 3), .inl (cT 0, 96, .inl (fun _ => 0))), ((u2 10), .inl (cT 0, 16, .inl (fun _ => 0))), ((u2 11), .inl (cT 0, 4, .inl (rsK))), ((u2 12), .inl (cT 0, 4, .inl (fun _ => 0))), ((u2 13), .inl (cT 1, 160, .inr (.inl (fun _ => 0))))] := hD
  have hwr_2 : r_2 = -2 := hwr_2
  subst hwr_2
  refine lv_aload_n hx hb dL_law_331 rfl (lv_at hl 1 rfl) ?_
  refine lv_aload_n hx hb dL_law_332 rfl (lv_at hl 3 rfl) ?_
  refine lv_iload_n hx hb dL_law_333 rfl (lv_at hl 0 rfl) ?_
  refine lv_iconst (v := 1) hx hb dL_law_334 (by decide) ?_
  refine lv_iadd hx hb dL_law_335 ?_
  refine lv_is (y := 1) (by decide) ?_
  refine va_sld hx hb hX hbl hbA hS (by unfold vp_in; decide) dL_law_336 ?_
  refine lv_is (y := xs 1) rfl ?_
  refine lv_aload_n hx hb dL_law_337 rfl (lv_at hl 3 rfl) ?_
  refine lv_iload_n hx hb dL_law_338 rfl (lv_at hl 0 rfl) ?_
  refine lv_iconst (v := 2) hx hb dL_law_339 (by decide) ?_
  refine lv_iadd hx hb dL_law_340 ?_
  refine lv_is (y := 2) (by decide) ?_
  refine va_sld hx hb hX hbl hbA hS (by unfold vp_in; decide) dL_law_341 ?_
  refine lv_is (y := xs 2) rfl ?_
  refine xk_i (wr := []) (xr_V (n := 2) (As := [.int (xs 1), .int (xs 2)]) (rest := [.int (-2)]) ⟨hx, hb, hml, hown, htg⟩ hK hN hP hD [0, 1] rfl (by decide) (m_strip l D cT _ (o2) (u2) ((xs 1)) ((xs 2))) wi_1334 wi_1335 wi_1336 wi_131 wi_1337 rfl rfl rfl ⟨rfl, by decide +kernel⟩ ⟨Nat.le_of_ble_eq_true rfl, Nat.le_of_ble_eq_true rfl⟩ rfl hl.1 rfl (Nat.le_of_ble_eq_true rfl) dL_law_342 ⟨Nat.le_of_ble_eq_true rfl, Nat.le_of_ble_eq_true rfl⟩) hP hD hS hA [0, 1] [] rfl rfl (by decide) (by decide) (fun r_4 u_3 H locs hwr_4 hP hD hS => ?_)
  have hP : va_P D classes [] _ := hP
  have hD : va_D A [] := hD
  have hwr_4 : r_4 = -2 := hwr_4
  subst hwr_4
  refine lv_icmp_eq (tgt := 1455) hx hb dL_law_345 (by decide) (fun _ => ?_) (fun h => absurd rfl h)
  exact lc_end hx hb hr hml hown htg hK hN hX hbl hlk hA hAq hbA o1 o2 hS (lv_sub hl [0, 1, 2, 3] rfl)
set_option maxHeartbeats 4000000 in
set_option maxRecDepth 100000 in
theorem lc_4 {p : Program} {l : Launch} {e : Env} {s : State} {m : MethodId} {below : List Frame} {meth : Method} {c : Code} {b : Nat} {xs : Nat → Int32} {D : va_G} {cT : Nat → ClassId} {A : Nat → Prop} (hx : p.tables.exec = Jvm.exec) (hb : c.code = cL_law) (hr : meth.sig.returnType = ret) (hml : c.maxLocals = 4) (hown : s.vm.findClass RL = some m.cls) (htg : ∀ w ∈ gw_T, w.before #[Value.ref b] s = true) (hK : va_K D classes (tysX cT) s) (hN : NX s) (hX : va_X b 6 xs s s.heap) (hbl : b < s.heap.size) (hlk : meth.locks = false) (hA : ∀ q, s.heap.size ≤ q → A q) (hAq : ∀ q, A q → s.heap.size ≤ q) (hbA : ¬ A b) (o1 o2 : Nat) (u1 u2 : Nat → Nat) {H : Heap} {locs : List Loc} {ls : Array Slot} (hP : va_P D classes (wBig cT o1 o2 u1 u2) H) (hD : va_D A (wBig cT o1 o2 u1 u2)) (hS : va_S A s.heap H locs) (hl : lv_has ls 4 [(3, .int 0), (2, .ref o2), (1, .ref o1), (0, .ref b)]) : W p l e room_1 s m #[Value.ref b] below meth c H locs 2000 100000 (lw_Z below #[Value.ref b] s) (F0 m 350 ls []) := by
  refine lv_aload_n hx hb dL_law_350 rfl (lv_at hl 2 rfl) ?_
  refine lv_aload_n hx hb dL_law_351 rfl (lv_at hl 3 rfl) ?_
  refine lv_iload_n hx hb dL_law_352 rfl (lv_at hl 0 rfl) ?_
  refine lv_iconst (v := 1) hx hb dL_law_353 (by decide) ?_
  refine lv_iadd hx hb dL_law_354 ?_
  refine lv_is (y := 1) (by decide) ?_
  refine va_sld hx hb hX hbl hbA hS (by unfold vp_in; decide) dL_law_355 ?_
  refine lv_is (y := xs 1) rfl ?_
  refine lv_aload_n hx hb dL_law_356 rfl (lv_at hl 3 rfl) ?_
  refine lv_iload_n hx hb dL_law_357 rfl (lv_at hl 0 rfl) ?_
  refine lv_iconst (v := 2) hx hb dL_law_358 (by decide) ?_
  refine lv_iadd hx hb dL_law_359 ?_
  refine lv_is (y := 2) (by decide) ?_
  refine va_sld hx hb hX hbl hbA hS (by unfold vp_in; decide) dL_law_360 ?_
  refine lv_is (y := xs 2) rfl ?_
  refine xk_i (wr := [(o2, .inr (9, (.int 0 :: .ref (u2 0) :: .ref (u2 1) :: .ref (u2 2) :: .ref (u2 3) :: .int 0 :: .int 0 :: .int 0 :: .int 0 :: .int 0 :: .int 0 :: .int 0 :: .int 0 :: .int 0 :: .int (-1) :: .ref (u2 4) :: .ref (u2 5) :: .int 0 :: .int 0 :: .int 0 :: .ref (u2 6) :: .ref (u2 7) :: .ref (u2 8) :: .int 0 :: .int 0 :: .int 0 :: .int 0 :: .int 0 :: .ref (u2 9) :: .int 0 :: .ref (u2 10) :: .int 0 :: .int 0 :: .int 0 :: .ref (u2 11) :: .ref (u2 12) :: .ref (u2 13) :: []))), ((u2 0), .inl (cT 0, 288, .inl (allK))), ((u2 1), .inl (cT 3, 2, .inl (fun _ => 0))), ((u2 2), .inl (cT 0, 900, .inl (fun _ => 0))), ((u2 3), .inl (cT 0, 96, .inl (fun _ => 0))), ((u2 10), .inl (cT 0, 16, .inl (fun _ => 0))), ((u2 11), .inl (cT 0, 4, .inl (rsK))), ((u2 12), .inl (cT 0, 4, .inl (fun _ => 0))), ((u2 13), .inl (cT 1, 160, .inr (.inl (fun _ => 0))))]) (xr_V (n := 2) (As := [.int (xs 1), .int (xs 2)]) (rest := []) ⟨hx, hb, hml, hown, htg⟩ hK hN hP hD [0, 11, 17] rfl (by decide) (k_farm l D cT _ (o1) (u1) ((xs 1)) ((xs 2))) wi_687 wi_688 wi_689 wi_121 wi_690 rfl rfl rfl ⟨rfl, by decide +kernel⟩ ⟨Nat.le_of_ble_eq_true rfl, Nat.le_of_ble_eq_true rfl⟩ rfl hl.1 rfl (Nat.le_of_ble_eq_true rfl) dL_law_361 ⟨Nat.le_of_ble_eq_true rfl, Nat.le_of_ble_eq_true rfl⟩) hP hD hS hA [0, 11, 17] [46, 47, 48, 49, 50, 51, 52, 53, 54] rfl rfl (by decide) (by decide) (fun r_2 u_1 H locs hwr_2 hP hD hS => ?_)
  have hP : va_P D classes [(o2, .inr (9, (.int 0 :: .ref (u2 0) :: .ref (u2 1) :: .ref (u2 2) :: .ref (u2 3) :: .int 0 :: .int 0 :: .int 0 :: .int 0 :: .int 0 :: .int 0 :: .int 0 :: .int 0 :: .int 0 :: .int (-1) :: .ref (u2 4) :: .ref (u2 5) :: .int 0 :: .int 0 :: .int 0 :: .ref (u2 6) :: .ref (u2 7) :: .ref (u2 8) :: .int 0 :: .int 0 :: .int 0 :: .int 0 :: .int 0 :: .ref (u2 9) :: .int 0 :: .ref (u2 10) :: .int 0 :: .int 0 :: .int 0 :: .ref (u2 11) :: .ref (u2 12) :: .ref (u2 13) :: []))), ((u2 0), .inl (cT 0, 288, .inl (allK))), ((u2 1), .inl (cT 3, 2, .inl (fun _ => 0))), ((u2 2), .inl (cT 0, 900, .inl (fun _ => 0))), ((u2 3), .inl (cT 0, 96, .inl (fun _ => 0))), ((u2 10), .inl (cT 0, 16, .inl (fun _ => 0))), ((u2 11), .inl (cT 0, 4, .inl (rsK))), ((u2 12), .inl (cT 0, 4, .inl (fun _ => 0))), ((u2 13), .inl (cT 1, 160, .inr (.inl (fun _ => 0))))] _ := hP
  have hD : va_D A [(o2, .inr (9, (.int 0 :: .ref (u2 0) :: .ref (u2 1) :: .ref (u2 2) :: .ref (u2 3) :: .int 0 :: .int 0 :: .int 0 :: .int 0 :: .int 0 :: .int 0 :: .int 0 :: .int 0 :: .int 0 :: .int (-1) :: .ref (u2 4) :: .ref (u2 5) :: .int 0 :: .int 0 :: .int 0 :: .ref (u2 6) :: .ref (u2 7) :: .ref (u2 8) :: .int 0 :: .int 0 :: .int 0 :: .int 0 :: .int 0 :: .ref (u2 9) :: .int 0 :: .ref (u2 10) :: .int 0 :: .int 0 :: .int 0 :: .ref (u2 11) :: .ref (u2 12) :: .ref (u2 13) :: []))), ((u2 0), .inl (cT 0, 288, .inl (allK))), ((u2 1), .inl (cT 3, 2, .inl (fun _ => 0))), ((u2 2), .inl (cT 0, 900, .inl (fun _ => 0))), ((u2 3), .inl (cT 0, 96, .inl (fun _ => 0))), ((u2 10), .inl (cT 0, 16, .inl (fun _ => 0))), ((u2 11), .inl (cT 0, 4, .inl (rsK))), ((u2 12), .inl (cT 0, 4, .inl (fun _ => 0))), ((u2 13), .inl (cT 1, 160, .inr (.inl (fun _ => 0))))] := hD
  have hwr_2 : r_2 = if 0 ≤ (xs 1).toInt ∧ (xs 1).toInt < 6 ∧ 0 ≤ (xs 2).toInt ∧ (xs 2).toInt ≤ 3 then (if (xs 2).toInt = 2 then 1 else 0) else -2 := hwr_2
  subst hwr_2
  refine lv_aload_n hx hb dL_law_364 rfl (lv_at hl 1 rfl) ?_
  refine lv_aload_n hx hb dL_law_365 rfl (lv_at hl 3 rfl) ?_
  refine lv_iload_n hx hb dL_law_366 rfl (lv_at hl 0 rfl) ?_
  refine lv_iconst (v := 1) hx hb dL_law_367 (by decide) ?_
  refine lv_iadd hx hb dL_law_368 ?_
  refine lv_is (y := 1) (by decide) ?_
  refine va_sld hx hb hX hbl hbA hS (by unfold vp_in; decide) dL_law_369 ?_
  refine lv_is (y := xs 1) rfl ?_
  refine lv_aload_n hx hb dL_law_370 rfl (lv_at hl 3 rfl) ?_
  refine lv_iload_n hx hb dL_law_371 rfl (lv_at hl 0 rfl) ?_
  refine lv_iconst (v := 2) hx hb dL_law_372 (by decide) ?_
  refine lv_iadd hx hb dL_law_373 ?_
  refine lv_is (y := 2) (by decide) ?_
  refine va_sld hx hb hX hbl hbA hS (by unfold vp_in; decide) dL_law_374 ?_
  refine lv_is (y := xs 2) rfl ?_
  refine xk_i (wr := []) (xr_V (n := 2) (As := [.int (xs 1), .int (xs 2)]) (rest := [.int (if 0 ≤ (xs 1).toInt ∧ (xs 1).toInt < 6 ∧ 0 ≤ (xs 2).toInt ∧ (xs 2).toInt ≤ 3 then (if (xs 2).toInt = 2 then 1 else 0) else -2)]) ⟨hx, hb, hml, hown, htg⟩ hK hN hP hD [0, 1] rfl (by decide) (m_farm l D cT _ (o2) (u2) ((xs 1)) ((xs 2))) wi_1362 wi_1363 wi_1364 wi_131 wi_1365 rfl rfl rfl ⟨rfl, by decide +kernel⟩ ⟨Nat.le_of_ble_eq_true rfl, Nat.le_of_ble_eq_true rfl⟩ rfl hl.1 rfl (Nat.le_of_ble_eq_true rfl) dL_law_375 ⟨Nat.le_of_ble_eq_true rfl, Nat.le_of_ble_eq_true rfl⟩) hP hD hS hA [0, 1] [] rfl rfl (by decide) (by decide) (fun r_4 u_3 H locs hwr_4 hP hD hS => ?_)
  have hP : va_P D classes [] _ := hP
  have hD : va_D A [] := hD
  have hwr_4 : r_4 = if 0 ≤ (xs 1).toInt ∧ (xs 1).toInt < 6 ∧ 0 ≤ (xs 2).toInt ∧ (xs 2).toInt ≤ 3 then (if (xs 2).toInt = 2 then 1 else 0) else -2 := hwr_4
  subst hwr_4
  refine lv_icmp_eq (tgt := 1455) hx hb dL_law_378 (by decide) (fun _ => ?_) (fun h => absurd rfl h)
  exact lc_end hx hb hr hml hown htg hK hN hX hbl hlk hA hAq hbA o1 o2 hS (lv_sub hl [0, 1, 2, 3] rfl)
set_option maxHeartbeats 4000000 in
set_option maxRecDepth 100000 in
theorem lc_5 {p : Program} {l : Launch} {e : Env} {s : State} {m : MethodId} {below : List Frame} {meth : Method} {c : Code} {b : Nat} {xs : Nat → Int32} {D : va_G} {cT : Nat → ClassId} {A : Nat → Prop} (hx : p.tables.exec = Jvm.exec) (hb : c.code = cL_law) (hr : meth.sig.returnType = ret) (hml : c.maxLocals = 4) (hown : s.vm.findClass RL = some m.cls) (htg : ∀ w ∈ gw_T, w.before #[Value.ref b] s = true) (hK : va_K D classes (tysX cT) s) (hN : NX s) (hX : va_X b 6 xs s s.heap) (hbl : b < s.heap.size) (hlk : meth.locks = false) (hA : ∀ q, s.heap.size ≤ q → A q) (hAq : ∀ q, A q → s.heap.size ≤ q) (hbA : ¬ A b) (o1 o2 : Nat) (u1 u2 : Nat → Nat) {H : Heap} {locs : List Loc} {ls : Array Slot} (hP : va_P D classes (wBig cT o1 o2 u1 u2) H) (hD : va_D A (wBig cT o1 o2 u1 u2)) (hS : va_S A s.heap H locs) (hl : lv_has ls 4 [(3, .int 0), (2, .ref o2), (1, .ref o1), (0, .ref b)]) : W p l e room_1 s m #[Value.ref b] below meth c H locs 2000 100000 (lw_Z below #[Value.ref b] s) (F0 m 383 ls []) := by
  refine lv_aload_n hx hb dL_law_383 rfl (lv_at hl 2 rfl) ?_
  refine lv_aload_n hx hb dL_law_384 rfl (lv_at hl 3 rfl) ?_
  refine lv_iload_n hx hb dL_law_385 rfl (lv_at hl 0 rfl) ?_
  refine lv_iconst (v := 1) hx hb dL_law_386 (by decide) ?_
  refine lv_iadd hx hb dL_law_387 ?_
  refine lv_is (y := 1) (by decide) ?_
  refine va_sld hx hb hX hbl hbA hS (by unfold vp_in; decide) dL_law_388 ?_
  refine lv_is (y := xs 1) rfl ?_
  refine lv_aload_n hx hb dL_law_389 rfl (lv_at hl 3 rfl) ?_
  refine lv_iload_n hx hb dL_law_390 rfl (lv_at hl 0 rfl) ?_
  refine lv_iconst (v := 2) hx hb dL_law_391 (by decide) ?_
  refine lv_iadd hx hb dL_law_392 ?_
  refine lv_is (y := 2) (by decide) ?_
  refine va_sld hx hb hX hbl hbA hS (by unfold vp_in; decide) dL_law_393 ?_
  refine lv_is (y := xs 2) rfl ?_
  refine xk_i (wr := [(o2, .inr (9, (.int 0 :: .ref (u2 0) :: .ref (u2 1) :: .ref (u2 2) :: .ref (u2 3) :: .int 0 :: .int 0 :: .int 0 :: .int 0 :: .int 0 :: .int 0 :: .int 0 :: .int 0 :: .int 0 :: .int (-1) :: .ref (u2 4) :: .ref (u2 5) :: .int 0 :: .int 0 :: .int 0 :: .ref (u2 6) :: .ref (u2 7) :: .ref (u2 8) :: .int 0 :: .int 0 :: .int 0 :: .int 0 :: .int 0 :: .ref (u2 9) :: .int 0 :: .ref (u2 10) :: .int 0 :: .int 0 :: .int 0 :: .ref (u2 11) :: .ref (u2 12) :: .ref (u2 13) :: []))), ((u2 0), .inl (cT 0, 288, .inl (allK))), ((u2 1), .inl (cT 3, 2, .inl (fun _ => 0))), ((u2 2), .inl (cT 0, 900, .inl (fun _ => 0))), ((u2 3), .inl (cT 0, 96, .inl (fun _ => 0))), ((u2 10), .inl (cT 0, 16, .inl (fun _ => 0))), ((u2 11), .inl (cT 0, 4, .inl (rsK))), ((u2 12), .inl (cT 0, 4, .inl (fun _ => 0))), ((u2 13), .inl (cT 1, 160, .inr (.inl (fun _ => 0))))]) (xr_V (n := 2) (As := [.int (xs 1), .int (xs 2)]) (rest := []) ⟨hx, hb, hml, hown, htg⟩ hK hN hP hD [0, 11] rfl (by decide) (k_light l D cT _ (o1) (u1) ((xs 1)) ((xs 2))) wi_700 wi_701 wi_702 wi_121 wi_703 rfl rfl rfl ⟨rfl, by decide +kernel⟩ ⟨Nat.le_of_ble_eq_true rfl, Nat.le_of_ble_eq_true rfl⟩ rfl hl.1 rfl (Nat.le_of_ble_eq_true rfl) dL_law_394 ⟨Nat.le_of_ble_eq_true rfl, Nat.le_of_ble_eq_true rfl⟩) hP hD hS hA [0, 11] [46, 47, 48, 49, 50, 51, 52, 53, 54] rfl rfl (by decide) (by decide) (fun r_2 u_1 H locs hwr_2 hP hD hS => ?_)
  have hP : va_P D classes [(o2, .inr (9, (.int 0 :: .ref (u2 0) :: .ref (u2 1) :: .ref (u2 2) :: .ref (u2 3) :: .int 0 :: .int 0 :: .int 0 :: .int 0 :: .int 0 :: .int 0 :: .int 0 :: .int 0 :: .int 0 :: .int (-1) :: .ref (u2 4) :: .ref (u2 5) :: .int 0 :: .int 0 :: .int 0 :: .ref (u2 6) :: .ref (u2 7) :: .ref (u2 8) :: .int 0 :: .int 0 :: .int 0 :: .int 0 :: .int 0 :: .ref (u2 9) :: .int 0 :: .ref (u2 10) :: .int 0 :: .int 0 :: .int 0 :: .ref (u2 11) :: .ref (u2 12) :: .ref (u2 13) :: []))), ((u2 0), .inl (cT 0, 288, .inl (allK))), ((u2 1), .inl (cT 3, 2, .inl (fun _ => 0))), ((u2 2), .inl (cT 0, 900, .inl (fun _ => 0))), ((u2 3), .inl (cT 0, 96, .inl (fun _ => 0))), ((u2 10), .inl (cT 0, 16, .inl (fun _ => 0))), ((u2 11), .inl (cT 0, 4, .inl (rsK))), ((u2 12), .inl (cT 0, 4, .inl (fun _ => 0))), ((u2 13), .inl (cT 1, 160, .inr (.inl (fun _ => 0))))] _ := hP
  have hD : va_D A [(o2, .inr (9, (.int 0 :: .ref (u2 0) :: .ref (u2 1) :: .ref (u2 2) :: .ref (u2 3) :: .int 0 :: .int 0 :: .int 0 :: .int 0 :: .int 0 :: .int 0 :: .int 0 :: .int 0 :: .int 0 :: .int (-1) :: .ref (u2 4) :: .ref (u2 5) :: .int 0 :: .int 0 :: .int 0 :: .ref (u2 6) :: .ref (u2 7) :: .ref (u2 8) :: .int 0 :: .int 0 :: .int 0 :: .int 0 :: .int 0 :: .ref (u2 9) :: .int 0 :: .ref (u2 10) :: .int 0 :: .int 0 :: .int 0 :: .ref (u2 11) :: .ref (u2 12) :: .ref (u2 13) :: []))), ((u2 0), .inl (cT 0, 288, .inl (allK))), ((u2 1), .inl (cT 3, 2, .inl (fun _ => 0))), ((u2 2), .inl (cT 0, 900, .inl (fun _ => 0))), ((u2 3), .inl (cT 0, 96, .inl (fun _ => 0))), ((u2 10), .inl (cT 0, 16, .inl (fun _ => 0))), ((u2 11), .inl (cT 0, 4, .inl (rsK))), ((u2 12), .inl (cT 0, 4, .inl (fun _ => 0))), ((u2 13), .inl (cT 1, 160, .inr (.inl (fun _ => 0))))] := hD
  have hwr_2 : r_2 = -2 := hwr_2
  subst hwr_2
  refine lv_aload_n hx hb dL_law_397 rfl (lv_at hl 1 rfl) ?_
  refine lv_aload_n hx hb dL_law_398 rfl (lv_at hl 3 rfl) ?_
  refine lv_iload_n hx hb dL_law_399 rfl (lv_at hl 0 rfl) ?_
  refine lv_iconst (v := 1) hx hb dL_law_400 (by decide) ?_
  refine lv_iadd hx hb dL_law_401 ?_
  refine lv_is (y := 1) (by decide) ?_
  refine va_sld hx hb hX hbl hbA hS (by unfold vp_in; decide) dL_law_402 ?_
  refine lv_is (y := xs 1) rfl ?_
  refine lv_aload_n hx hb dL_law_403 rfl (lv_at hl 3 rfl) ?_
  refine lv_iload_n hx hb dL_law_404 rfl (lv_at hl 0 rfl) ?_
  refine lv_iconst (v := 2) hx hb dL_law_405 (by decide) ?_
  refine lv_iadd hx hb dL_law_406 ?_
  refine lv_is (y := 2) (by decide) ?_
  refine va_sld hx hb hX hbl hbA hS (by unfold vp_in; decide) dL_law_407 ?_
  refine lv_is (y := xs 2) rfl ?_
  refine xk_i (wr := []) (xr_V (n := 2) (As := [.int (xs 1), .int (xs 2)]) (rest := [.int (-2)]) ⟨hx, hb, hml, hown, htg⟩ hK hN hP hD [0, 1] rfl (by decide) (m_light l D cT _ (o2) (u2) ((xs 1)) ((xs 2))) wi_1375 wi_1376 wi_1377 wi_131 wi_1378 rfl rfl rfl ⟨rfl, by decide +kernel⟩ ⟨Nat.le_of_ble_eq_true rfl, Nat.le_of_ble_eq_true rfl⟩ rfl hl.1 rfl (Nat.le_of_ble_eq_true rfl) dL_law_408 ⟨Nat.le_of_ble_eq_true rfl, Nat.le_of_ble_eq_true rfl⟩) hP hD hS hA [0, 1] [] rfl rfl (by decide) (by decide) (fun r_4 u_3 H locs hwr_4 hP hD hS => ?_)
  have hP : va_P D classes [] _ := hP
  have hD : va_D A [] := hD
  have hwr_4 : r_4 = -2 := hwr_4
  subst hwr_4
  refine lv_icmp_eq (tgt := 1455) hx hb dL_law_411 (by decide) (fun _ => ?_) (fun h => absurd rfl h)
  exact lc_end hx hb hr hml hown htg hK hN hX hbl hlk hA hAq hbA o1 o2 hS (lv_sub hl [0, 1, 2, 3] rfl)
set_option maxHeartbeats 4000000 in
set_option maxRecDepth 100000 in
theorem lc_6 {p : Program} {l : Launch} {e : Env} {s : State} {m : MethodId} {below : List Frame} {meth : Method} {c : Code} {b : Nat} {xs : Nat → Int32} {D : va_G} {cT : Nat → ClassId} {A : Nat → Prop} (hx : p.tables.exec = Jvm.exec) (hb : c.code = cL_law) (hr : meth.sig.returnType = ret) (hml : c.maxLocals = 4) (hown : s.vm.findClass RL = some m.cls) (htg : ∀ w ∈ gw_T, w.before #[Value.ref b] s = true) (hK : va_K D classes (tysX cT) s) (hN : NX s) (hX : va_X b 6 xs s s.heap) (hbl : b < s.heap.size) (hlk : meth.locks = false) (hA : ∀ q, s.heap.size ≤ q → A q) (hAq : ∀ q, A q → s.heap.size ≤ q) (hbA : ¬ A b) (o1 o2 : Nat) (u1 u2 : Nat → Nat) {H : Heap} {locs : List Loc} {ls : Array Slot} (hP : va_P D classes (wBig cT o1 o2 u1 u2) H) (hD : va_D A (wBig cT o1 o2 u1 u2)) (hS : va_S A s.heap H locs) (hl : lv_has ls 4 [(3, .int 0), (2, .ref o2), (1, .ref o1), (0, .ref b)]) : W p l e room_1 s m #[Value.ref b] below meth c H locs 2000 100000 (lw_Z below #[Value.ref b] s) (F0 m 416 ls []) := by
  refine lv_aload_n hx hb dL_law_416 rfl (lv_at hl 2 rfl) ?_
  refine lv_aload_n hx hb dL_law_417 rfl (lv_at hl 3 rfl) ?_
  refine lv_iload_n hx hb dL_law_418 rfl (lv_at hl 0 rfl) ?_
  refine lv_iconst (v := 1) hx hb dL_law_419 (by decide) ?_
  refine lv_iadd hx hb dL_law_420 ?_
  refine lv_is (y := 1) (by decide) ?_
  refine va_sld hx hb hX hbl hbA hS (by unfold vp_in; decide) dL_law_421 ?_
  refine lv_is (y := xs 1) rfl ?_
  refine xk_i (wr := [(o2, .inr (9, (.int 0 :: .ref (u2 0) :: .ref (u2 1) :: .ref (u2 2) :: .ref (u2 3) :: .int 0 :: .int 0 :: .int 0 :: .int 0 :: .int 0 :: .int 0 :: .int 0 :: .int 0 :: .int 0 :: .int (-1) :: .ref (u2 4) :: .ref (u2 5) :: .int 0 :: .int 0 :: .int 0 :: .ref (u2 6) :: .ref (u2 7) :: .ref (u2 8) :: .int 0 :: .int 0 :: .int 0 :: .int 0 :: .int 0 :: .ref (u2 9) :: .int 0 :: .ref (u2 10) :: .int 0 :: .int 0 :: .int 0 :: .ref (u2 11) :: .ref (u2 12) :: .ref (u2 13) :: []))), ((u2 0), .inl (cT 0, 288, .inl (allK))), ((u2 1), .inl (cT 3, 2, .inl (fun _ => 0))), ((u2 2), .inl (cT 0, 900, .inl (fun _ => 0))), ((u2 3), .inl (cT 0, 96, .inl (fun _ => 0))), ((u2 10), .inl (cT 0, 16, .inl (fun _ => 0))), ((u2 11), .inl (cT 0, 4, .inl (rsK))), ((u2 12), .inl (cT 0, 4, .inl (fun _ => 0))), ((u2 13), .inl (cT 1, 160, .inr (.inl (fun _ => 0))))]) (xr_V (n := 1) (As := [.int (xs 1)]) (rest := []) ⟨hx, hb, hml, hown, htg⟩ hK hN hP hD [0, 11] rfl (by decide) (k_lit l D cT _ (o1) (u1) ((xs 1))) wi_704 wi_705 wi_706 wi_121 wi_707 rfl rfl rfl ⟨rfl, by decide +kernel⟩ ⟨Nat.le_of_ble_eq_true rfl, Nat.le_of_ble_eq_true rfl⟩ rfl hl.1 rfl (Nat.le_of_ble_eq_true rfl) dL_law_422 ⟨Nat.le_of_ble_eq_true rfl, Nat.le_of_ble_eq_true rfl⟩) hP hD hS hA [0, 11] [46, 47, 48, 49, 50, 51, 52, 53, 54] rfl rfl (by decide) (by decide) (fun r_2 u_1 H locs hwr_2 hP hD hS => ?_)
  have hP : va_P D classes [(o2, .inr (9, (.int 0 :: .ref (u2 0) :: .ref (u2 1) :: .ref (u2 2) :: .ref (u2 3) :: .int 0 :: .int 0 :: .int 0 :: .int 0 :: .int 0 :: .int 0 :: .int 0 :: .int 0 :: .int 0 :: .int (-1) :: .ref (u2 4) :: .ref (u2 5) :: .int 0 :: .int 0 :: .int 0 :: .ref (u2 6) :: .ref (u2 7) :: .ref (u2 8) :: .int 0 :: .int 0 :: .int 0 :: .int 0 :: .int 0 :: .ref (u2 9) :: .int 0 :: .ref (u2 10) :: .int 0 :: .int 0 :: .int 0 :: .ref (u2 11) :: .ref (u2 12) :: .ref (u2 13) :: []))), ((u2 0), .inl (cT 0, 288, .inl (allK))), ((u2 1), .inl (cT 3, 2, .inl (fun _ => 0))), ((u2 2), .inl (cT 0, 900, .inl (fun _ => 0))), ((u2 3), .inl (cT 0, 96, .inl (fun _ => 0))), ((u2 10), .inl (cT 0, 16, .inl (fun _ => 0))), ((u2 11), .inl (cT 0, 4, .inl (rsK))), ((u2 12), .inl (cT 0, 4, .inl (fun _ => 0))), ((u2 13), .inl (cT 1, 160, .inr (.inl (fun _ => 0))))] _ := hP
  have hD : va_D A [(o2, .inr (9, (.int 0 :: .ref (u2 0) :: .ref (u2 1) :: .ref (u2 2) :: .ref (u2 3) :: .int 0 :: .int 0 :: .int 0 :: .int 0 :: .int 0 :: .int 0 :: .int 0 :: .int 0 :: .int 0 :: .int (-1) :: .ref (u2 4) :: .ref (u2 5) :: .int 0 :: .int 0 :: .int 0 :: .ref (u2 6) :: .ref (u2 7) :: .ref (u2 8) :: .int 0 :: .int 0 :: .int 0 :: .int 0 :: .int 0 :: .ref (u2 9) :: .int 0 :: .ref (u2 10) :: .int 0 :: .int 0 :: .int 0 :: .ref (u2 11) :: .ref (u2 12) :: .ref (u2 13) :: []))), ((u2 0), .inl (cT 0, 288, .inl (allK))), ((u2 1), .inl (cT 3, 2, .inl (fun _ => 0))), ((u2 2), .inl (cT 0, 900, .inl (fun _ => 0))), ((u2 3), .inl (cT 0, 96, .inl (fun _ => 0))), ((u2 10), .inl (cT 0, 16, .inl (fun _ => 0))), ((u2 11), .inl (cT 0, 4, .inl (rsK))), ((u2 12), .inl (cT 0, 4, .inl (fun _ => 0))), ((u2 13), .inl (cT 1, 160, .inr (.inl (fun _ => 0))))] := hD
  have hwr_2 : r_2 = -2 := hwr_2
  subst hwr_2
  refine lv_aload_n hx hb dL_law_425 rfl (lv_at hl 1 rfl) ?_
  refine lv_aload_n hx hb dL_law_426 rfl (lv_at hl 3 rfl) ?_
  refine lv_iload_n hx hb dL_law_427 rfl (lv_at hl 0 rfl) ?_
  refine lv_iconst (v := 1) hx hb dL_law_428 (by decide) ?_
  refine lv_iadd hx hb dL_law_429 ?_
  refine lv_is (y := 1) (by decide) ?_
  refine va_sld hx hb hX hbl hbA hS (by unfold vp_in; decide) dL_law_430 ?_
  refine lv_is (y := xs 1) rfl ?_
  refine xk_i (wr := []) (xr_V (n := 1) (As := [.int (xs 1)]) (rest := [.int (-2)]) ⟨hx, hb, hml, hown, htg⟩ hK hN hP hD [0, 1] rfl (by decide) (m_lit l D cT _ (o2) (u2) ((xs 1))) wi_1379 wi_1380 wi_1381 wi_131 wi_1382 rfl rfl rfl ⟨rfl, by decide +kernel⟩ ⟨Nat.le_of_ble_eq_true rfl, Nat.le_of_ble_eq_true rfl⟩ rfl hl.1 rfl (Nat.le_of_ble_eq_true rfl) dL_law_431 ⟨Nat.le_of_ble_eq_true rfl, Nat.le_of_ble_eq_true rfl⟩) hP hD hS hA [0, 1] [] rfl rfl (by decide) (by decide) (fun r_4 u_3 H locs hwr_4 hP hD hS => ?_)
  have hP : va_P D classes [] _ := hP
  have hD : va_D A [] := hD
  have hwr_4 : r_4 = -2 := hwr_4
  subst hwr_4
  refine lv_icmp_eq (tgt := 1455) hx hb dL_law_434 (by decide) (fun _ => ?_) (fun h => absurd rfl h)
  exact lc_end hx hb hr hml hown htg hK hN hX hbl hlk hA hAq hbA o1 o2 hS (lv_sub hl [0, 1, 2, 3] rfl)
set_option maxHeartbeats 4000000 in
set_option maxRecDepth 100000 in
theorem lc_7 {p : Program} {l : Launch} {e : Env} {s : State} {m : MethodId} {below : List Frame} {meth : Method} {c : Code} {b : Nat} {xs : Nat → Int32} {D : va_G} {cT : Nat → ClassId} {A : Nat → Prop} (hx : p.tables.exec = Jvm.exec) (hb : c.code = cL_law) (hr : meth.sig.returnType = ret) (hml : c.maxLocals = 4) (hown : s.vm.findClass RL = some m.cls) (htg : ∀ w ∈ gw_T, w.before #[Value.ref b] s = true) (hK : va_K D classes (tysX cT) s) (hN : NX s) (hX : va_X b 6 xs s s.heap) (hbl : b < s.heap.size) (hlk : meth.locks = false) (hA : ∀ q, s.heap.size ≤ q → A q) (hAq : ∀ q, A q → s.heap.size ≤ q) (hbA : ¬ A b) (o1 o2 : Nat) (u1 u2 : Nat → Nat) {H : Heap} {locs : List Loc} {ls : Array Slot} (hP : va_P D classes (wBig cT o1 o2 u1 u2) H) (hD : va_D A (wBig cT o1 o2 u1 u2)) (hS : va_S A s.heap H locs) (hl : lv_has ls 4 [(3, .int 0), (2, .ref o2), (1, .ref o1), (0, .ref b)]) : W p l e room_1 s m #[Value.ref b] below meth c H locs 2000 100000 (lw_Z below #[Value.ref b] s) (F0 m 439 ls []) := by
  refine lv_aload_n hx hb dL_law_439 rfl (lv_at hl 2 rfl) ?_
  refine lv_aload_n hx hb dL_law_440 rfl (lv_at hl 3 rfl) ?_
  refine lv_iload_n hx hb dL_law_441 rfl (lv_at hl 0 rfl) ?_
  refine lv_iconst (v := 1) hx hb dL_law_442 (by decide) ?_
  refine lv_iadd hx hb dL_law_443 ?_
  refine lv_is (y := 1) (by decide) ?_
  refine va_sld hx hb hX hbl hbA hS (by unfold vp_in; decide) dL_law_444 ?_
  refine lv_is (y := xs 1) rfl ?_
  refine xk_i (wr := [(o2, .inr (9, (.int 0 :: .ref (u2 0) :: .ref (u2 1) :: .ref (u2 2) :: .ref (u2 3) :: .int 0 :: .int 0 :: .int 0 :: .int 0 :: .int 0 :: .int 0 :: .int 0 :: .int 0 :: .int 0 :: .int (-1) :: .ref (u2 4) :: .ref (u2 5) :: .int 0 :: .int 0 :: .int 0 :: .ref (u2 6) :: .ref (u2 7) :: .ref (u2 8) :: .int 0 :: .int 0 :: .int 0 :: .int 0 :: .int 0 :: .ref (u2 9) :: .int 0 :: .ref (u2 10) :: .int 0 :: .int 0 :: .int 0 :: .ref (u2 11) :: .ref (u2 12) :: .ref (u2 13) :: []))), ((u2 0), .inl (cT 0, 288, .inl (allK))), ((u2 1), .inl (cT 3, 2, .inl (fun _ => 0))), ((u2 2), .inl (cT 0, 900, .inl (fun _ => 0))), ((u2 3), .inl (cT 0, 96, .inl (fun _ => 0))), ((u2 10), .inl (cT 0, 16, .inl (fun _ => 0))), ((u2 11), .inl (cT 0, 4, .inl (rsK))), ((u2 12), .inl (cT 0, 4, .inl (fun _ => 0))), ((u2 13), .inl (cT 1, 160, .inr (.inl (fun _ => 0))))]) (xr_V (n := 1) (As := [.int (xs 1)]) (rest := []) ⟨hx, hb, hml, hown, htg⟩ hK hN hP hD [0, 11] rfl (by decide) (k_shaded l D cT _ (o1) (u1) ((xs 1))) wi_713 wi_714 wi_715 wi_121 wi_716 rfl rfl rfl ⟨rfl, by decide +kernel⟩ ⟨Nat.le_of_ble_eq_true rfl, Nat.le_of_ble_eq_true rfl⟩ rfl hl.1 rfl (Nat.le_of_ble_eq_true rfl) dL_law_445 ⟨Nat.le_of_ble_eq_true rfl, Nat.le_of_ble_eq_true rfl⟩) hP hD hS hA [0, 11] [46, 47, 48, 49, 50, 51, 52, 53, 54] rfl rfl (by decide) (by decide) (fun r_2 u_1 H locs hwr_2 hP hD hS => ?_)
  have hP : va_P D classes [(o2, .inr (9, (.int 0 :: .ref (u2 0) :: .ref (u2 1) :: .ref (u2 2) :: .ref (u2 3) :: .int 0 :: .int 0 :: .int 0 :: .int 0 :: .int 0 :: .int 0 :: .int 0 :: .int 0 :: .int 0 :: .int (-1) :: .ref (u2 4) :: .ref (u2 5) :: .int 0 :: .int 0 :: .int 0 :: .ref (u2 6) :: .ref (u2 7) :: .ref (u2 8) :: .int 0 :: .int 0 :: .int 0 :: .int 0 :: .int 0 :: .ref (u2 9) :: .int 0 :: .ref (u2 10) :: .int 0 :: .int 0 :: .int 0 :: .ref (u2 11) :: .ref (u2 12) :: .ref (u2 13) :: []))), ((u2 0), .inl (cT 0, 288, .inl (allK))), ((u2 1), .inl (cT 3, 2, .inl (fun _ => 0))), ((u2 2), .inl (cT 0, 900, .inl (fun _ => 0))), ((u2 3), .inl (cT 0, 96, .inl (fun _ => 0))), ((u2 10), .inl (cT 0, 16, .inl (fun _ => 0))), ((u2 11), .inl (cT 0, 4, .inl (rsK))), ((u2 12), .inl (cT 0, 4, .inl (fun _ => 0))), ((u2 13), .inl (cT 1, 160, .inr (.inl (fun _ => 0))))] _ := hP
  have hD : va_D A [(o2, .inr (9, (.int 0 :: .ref (u2 0) :: .ref (u2 1) :: .ref (u2 2) :: .ref (u2 3) :: .int 0 :: .int 0 :: .int 0 :: .int 0 :: .int 0 :: .int 0 :: .int 0 :: .int 0 :: .int 0 :: .int (-1) :: .ref (u2 4) :: .ref (u2 5) :: .int 0 :: .int 0 :: .int 0 :: .ref (u2 6) :: .ref (u2 7) :: .ref (u2 8) :: .int 0 :: .int 0 :: .int 0 :: .int 0 :: .int 0 :: .ref (u2 9) :: .int 0 :: .ref (u2 10) :: .int 0 :: .int 0 :: .int 0 :: .ref (u2 11) :: .ref (u2 12) :: .ref (u2 13) :: []))), ((u2 0), .inl (cT 0, 288, .inl (allK))), ((u2 1), .inl (cT 3, 2, .inl (fun _ => 0))), ((u2 2), .inl (cT 0, 900, .inl (fun _ => 0))), ((u2 3), .inl (cT 0, 96, .inl (fun _ => 0))), ((u2 10), .inl (cT 0, 16, .inl (fun _ => 0))), ((u2 11), .inl (cT 0, 4, .inl (rsK))), ((u2 12), .inl (cT 0, 4, .inl (fun _ => 0))), ((u2 13), .inl (cT 1, 160, .inr (.inl (fun _ => 0))))] := hD
  have hwr_2 : r_2 = -2 := hwr_2
  subst hwr_2
  refine lv_aload_n hx hb dL_law_448 rfl (lv_at hl 1 rfl) ?_
  refine lv_aload_n hx hb dL_law_449 rfl (lv_at hl 3 rfl) ?_
  refine lv_iload_n hx hb dL_law_450 rfl (lv_at hl 0 rfl) ?_
  refine lv_iconst (v := 1) hx hb dL_law_451 (by decide) ?_
  refine lv_iadd hx hb dL_law_452 ?_
  refine lv_is (y := 1) (by decide) ?_
  refine va_sld hx hb hX hbl hbA hS (by unfold vp_in; decide) dL_law_453 ?_
  refine lv_is (y := xs 1) rfl ?_
  refine xk_i (wr := []) (xr_V (n := 1) (As := [.int (xs 1)]) (rest := [.int (-2)]) ⟨hx, hb, hml, hown, htg⟩ hK hN hP hD [0, 1] rfl (by decide) (m_shaded l D cT _ (o2) (u2) ((xs 1))) wi_1387 wi_1388 wi_1389 wi_131 wi_1390 rfl rfl rfl ⟨rfl, by decide +kernel⟩ ⟨Nat.le_of_ble_eq_true rfl, Nat.le_of_ble_eq_true rfl⟩ rfl hl.1 rfl (Nat.le_of_ble_eq_true rfl) dL_law_454 ⟨Nat.le_of_ble_eq_true rfl, Nat.le_of_ble_eq_true rfl⟩) hP hD hS hA [0, 1] [] rfl rfl (by decide) (by decide) (fun r_4 u_3 H locs hwr_4 hP hD hS => ?_)
  have hP : va_P D classes [] _ := hP
  have hD : va_D A [] := hD
  have hwr_4 : r_4 = -2 := hwr_4
  subst hwr_4
  refine lv_icmp_eq (tgt := 1455) hx hb dL_law_457 (by decide) (fun _ => ?_) (fun h => absurd rfl h)
  exact lc_end hx hb hr hml hown htg hK hN hX hbl hlk hA hAq hbA o1 o2 hS (lv_sub hl [0, 1, 2, 3] rfl)
set_option maxHeartbeats 4000000 in
set_option maxRecDepth 100000 in
theorem lc_8 {p : Program} {l : Launch} {e : Env} {s : State} {m : MethodId} {below : List Frame} {meth : Method} {c : Code} {b : Nat} {xs : Nat → Int32} {D : va_G} {cT : Nat → ClassId} {A : Nat → Prop} (hx : p.tables.exec = Jvm.exec) (hb : c.code = cL_law) (hr : meth.sig.returnType = ret) (hml : c.maxLocals = 4) (hown : s.vm.findClass RL = some m.cls) (htg : ∀ w ∈ gw_T, w.before #[Value.ref b] s = true) (hK : va_K D classes (tysX cT) s) (hN : NX s) (hX : va_X b 6 xs s s.heap) (hbl : b < s.heap.size) (hlk : meth.locks = false) (hA : ∀ q, s.heap.size ≤ q → A q) (hAq : ∀ q, A q → s.heap.size ≤ q) (hbA : ¬ A b) (o1 o2 : Nat) (u1 u2 : Nat → Nat) {H : Heap} {locs : List Loc} {ls : Array Slot} (hP : va_P D classes (wBig cT o1 o2 u1 u2) H) (hD : va_D A (wBig cT o1 o2 u1 u2)) (hS : va_S A s.heap H locs) (hl : lv_has ls 4 [(3, .int 0), (2, .ref o2), (1, .ref o1), (0, .ref b)]) : W p l e room_1 s m #[Value.ref b] below meth c H locs 2000 100000 (lw_Z below #[Value.ref b] s) (F0 m 462 ls []) := by
  refine lv_aload_n hx hb dL_law_462 rfl (lv_at hl 2 rfl) ?_
  refine lv_aload_n hx hb dL_law_463 rfl (lv_at hl 3 rfl) ?_
  refine lv_iload_n hx hb dL_law_464 rfl (lv_at hl 0 rfl) ?_
  refine lv_iconst (v := 1) hx hb dL_law_465 (by decide) ?_
  refine lv_iadd hx hb dL_law_466 ?_
  refine lv_is (y := 1) (by decide) ?_
  refine va_sld hx hb hX hbl hbA hS (by unfold vp_in; decide) dL_law_467 ?_
  refine lv_is (y := xs 1) rfl ?_
  refine lv_aload_n hx hb dL_law_468 rfl (lv_at hl 3 rfl) ?_
  refine lv_iload_n hx hb dL_law_469 rfl (lv_at hl 0 rfl) ?_
  refine lv_iconst (v := 2) hx hb dL_law_470 (by decide) ?_
  refine lv_iadd hx hb dL_law_471 ?_
  refine lv_is (y := 2) (by decide) ?_
  refine va_sld hx hb hX hbl hbA hS (by unfold vp_in; decide) dL_law_472 ?_
  refine lv_is (y := xs 2) rfl ?_
  refine xk_i (wr := [(o2, .inr (9, (.int 0 :: .ref (u2 0) :: .ref (u2 1) :: .ref (u2 2) :: .ref (u2 3) :: .int 0 :: .int 0 :: .int 0 :: .int 0 :: .int 0 :: .int 0 :: .int 0 :: .int 0 :: .int 0 :: .int (-1) :: .ref (u2 4) :: .ref (u2 5) :: .int 0 :: .int 0 :: .int 0 :: .ref (u2 6) :: .ref (u2 7) :: .ref (u2 8) :: .int 0 :: .int 0 :: .int 0 :: .int 0 :: .int 0 :: .ref (u2 9) :: .int 0 :: .ref (u2 10) :: .int 0 :: .int 0 :: .int 0 :: .ref (u2 11) :: .ref (u2 12) :: .ref (u2 13) :: []))), ((u2 0), .inl (cT 0, 288, .inl (allK))), ((u2 1), .inl (cT 3, 2, .inl (fun _ => 0))), ((u2 2), .inl (cT 0, 900, .inl (fun _ => 0))), ((u2 3), .inl (cT 0, 96, .inl (fun _ => 0))), ((u2 10), .inl (cT 0, 16, .inl (fun _ => 0))), ((u2 11), .inl (cT 0, 4, .inl (rsK))), ((u2 12), .inl (cT 0, 4, .inl (fun _ => 0))), ((u2 13), .inl (cT 1, 160, .inr (.inl (fun _ => 0))))]) (xr_V (n := 2) (As := [.int (xs 1), .int (xs 2)]) (rest := []) ⟨hx, hb, hml, hown, htg⟩ hK hN hP hD [0, 11] rfl (by decide) (k_high l D cT _ (o1) (u1) ((xs 1)) ((xs 2))) wi_721 wi_722 wi_723 wi_121 wi_724 rfl rfl rfl ⟨rfl, by decide +kernel⟩ ⟨Nat.le_of_ble_eq_true rfl, Nat.le_of_ble_eq_true rfl⟩ rfl hl.1 rfl (Nat.le_of_ble_eq_true rfl) dL_law_473 ⟨Nat.le_of_ble_eq_true rfl, Nat.le_of_ble_eq_true rfl⟩) hP hD hS hA [0, 11] [46, 47, 48, 49, 50, 51, 52, 53, 54] rfl rfl (by decide) (by decide) (fun r_2 u_1 H locs hwr_2 hP hD hS => ?_)
  have hP : va_P D classes [(o2, .inr (9, (.int 0 :: .ref (u2 0) :: .ref (u2 1) :: .ref (u2 2) :: .ref (u2 3) :: .int 0 :: .int 0 :: .int 0 :: .int 0 :: .int 0 :: .int 0 :: .int 0 :: .int 0 :: .int 0 :: .int (-1) :: .ref (u2 4) :: .ref (u2 5) :: .int 0 :: .int 0 :: .int 0 :: .ref (u2 6) :: .ref (u2 7) :: .ref (u2 8) :: .int 0 :: .int 0 :: .int 0 :: .int 0 :: .int 0 :: .ref (u2 9) :: .int 0 :: .ref (u2 10) :: .int 0 :: .int 0 :: .int 0 :: .ref (u2 11) :: .ref (u2 12) :: .ref (u2 13) :: []))), ((u2 0), .inl (cT 0, 288, .inl (allK))), ((u2 1), .inl (cT 3, 2, .inl (fun _ => 0))), ((u2 2), .inl (cT 0, 900, .inl (fun _ => 0))), ((u2 3), .inl (cT 0, 96, .inl (fun _ => 0))), ((u2 10), .inl (cT 0, 16, .inl (fun _ => 0))), ((u2 11), .inl (cT 0, 4, .inl (rsK))), ((u2 12), .inl (cT 0, 4, .inl (fun _ => 0))), ((u2 13), .inl (cT 1, 160, .inr (.inl (fun _ => 0))))] _ := hP
  have hD : va_D A [(o2, .inr (9, (.int 0 :: .ref (u2 0) :: .ref (u2 1) :: .ref (u2 2) :: .ref (u2 3) :: .int 0 :: .int 0 :: .int 0 :: .int 0 :: .int 0 :: .int 0 :: .int 0 :: .int 0 :: .int 0 :: .int (-1) :: .ref (u2 4) :: .ref (u2 5) :: .int 0 :: .int 0 :: .int 0 :: .ref (u2 6) :: .ref (u2 7) :: .ref (u2 8) :: .int 0 :: .int 0 :: .int 0 :: .int 0 :: .int 0 :: .ref (u2 9) :: .int 0 :: .ref (u2 10) :: .int 0 :: .int 0 :: .int 0 :: .ref (u2 11) :: .ref (u2 12) :: .ref (u2 13) :: []))), ((u2 0), .inl (cT 0, 288, .inl (allK))), ((u2 1), .inl (cT 3, 2, .inl (fun _ => 0))), ((u2 2), .inl (cT 0, 900, .inl (fun _ => 0))), ((u2 3), .inl (cT 0, 96, .inl (fun _ => 0))), ((u2 10), .inl (cT 0, 16, .inl (fun _ => 0))), ((u2 11), .inl (cT 0, 4, .inl (rsK))), ((u2 12), .inl (cT 0, 4, .inl (fun _ => 0))), ((u2 13), .inl (cT 1, 160, .inr (.inl (fun _ => 0))))] := hD
  have hwr_2 : r_2 = -2 := hwr_2
  subst hwr_2
  refine lv_aload_n hx hb dL_law_476 rfl (lv_at hl 1 rfl) ?_
  refine lv_aload_n hx hb dL_law_477 rfl (lv_at hl 3 rfl) ?_
  refine lv_iload_n hx hb dL_law_478 rfl (lv_at hl 0 rfl) ?_
  refine lv_iconst (v := 1) hx hb dL_law_479 (by decide) ?_
  refine lv_iadd hx hb dL_law_480 ?_
  refine lv_is (y := 1) (by decide) ?_
  refine va_sld hx hb hX hbl hbA hS (by unfold vp_in; decide) dL_law_481 ?_
  refine lv_is (y := xs 1) rfl ?_
  refine lv_aload_n hx hb dL_law_482 rfl (lv_at hl 3 rfl) ?_
  refine lv_iload_n hx hb dL_law_483 rfl (lv_at hl 0 rfl) ?_
  refine lv_iconst (v := 2) hx hb dL_law_484 (by decide) ?_
  refine lv_iadd hx hb dL_law_485 ?_
  refine lv_is (y := 2) (by decide) ?_
  refine va_sld hx hb hX hbl hbA hS (by unfold vp_in; decide) dL_law_486 ?_
  refine lv_is (y := xs 2) rfl ?_
  refine xk_i (wr := []) (xr_V (n := 2) (As := [.int (xs 1), .int (xs 2)]) (rest := [.int (-2)]) ⟨hx, hb, hml, hown, htg⟩ hK hN hP hD [0, 1] rfl (by decide) (m_high l D cT _ (o2) (u2) ((xs 1)) ((xs 2))) wi_1391 wi_1392 wi_1393 wi_131 wi_1394 rfl rfl rfl ⟨rfl, by decide +kernel⟩ ⟨Nat.le_of_ble_eq_true rfl, Nat.le_of_ble_eq_true rfl⟩ rfl hl.1 rfl (Nat.le_of_ble_eq_true rfl) dL_law_487 ⟨Nat.le_of_ble_eq_true rfl, Nat.le_of_ble_eq_true rfl⟩) hP hD hS hA [0, 1] [] rfl rfl (by decide) (by decide) (fun r_4 u_3 H locs hwr_4 hP hD hS => ?_)
  have hP : va_P D classes [] _ := hP
  have hD : va_D A [] := hD
  have hwr_4 : r_4 = -2 := hwr_4
  subst hwr_4
  refine lv_icmp_eq (tgt := 1455) hx hb dL_law_490 (by decide) (fun _ => ?_) (fun h => absurd rfl h)
  exact lc_end hx hb hr hml hown htg hK hN hX hbl hlk hA hAq hbA o1 o2 hS (lv_sub hl [0, 1, 2, 3] rfl)
set_option maxHeartbeats 4000000 in
set_option maxRecDepth 100000 in
theorem lc_9 {p : Program} {l : Launch} {e : Env} {s : State} {m : MethodId} {below : List Frame} {meth : Method} {c : Code} {b : Nat} {xs : Nat → Int32} {D : va_G} {cT : Nat → ClassId} {A : Nat → Prop} (hx : p.tables.exec = Jvm.exec) (hb : c.code = cL_law) (hr : meth.sig.returnType = ret) (hml : c.maxLocals = 4) (hown : s.vm.findClass RL = some m.cls) (htg : ∀ w ∈ gw_T, w.before #[Value.ref b] s = true) (hK : va_K D classes (tysX cT) s) (hN : NX s) (hX : va_X b 6 xs s s.heap) (hbl : b < s.heap.size) (hlk : meth.locks = false) (hA : ∀ q, s.heap.size ≤ q → A q) (hAq : ∀ q, A q → s.heap.size ≤ q) (hbA : ¬ A b) (o1 o2 : Nat) (u1 u2 : Nat → Nat) {H : Heap} {locs : List Loc} {ls : Array Slot} (hP : va_P D classes (wBig cT o1 o2 u1 u2) H) (hD : va_D A (wBig cT o1 o2 u1 u2)) (hS : va_S A s.heap H locs) (hl : lv_has ls 4 [(3, .int 0), (2, .ref o2), (1, .ref o1), (0, .ref b)]) : W p l e room_1 s m #[Value.ref b] below meth c H locs 2000 100000 (lw_Z below #[Value.ref b] s) (F0 m 495 ls []) := by
  refine lv_aload_n hx hb dL_law_495 rfl (lv_at hl 2 rfl) ?_
  refine lv_aload_n hx hb dL_law_496 rfl (lv_at hl 3 rfl) ?_
  refine lv_iload_n hx hb dL_law_497 rfl (lv_at hl 0 rfl) ?_
  refine lv_iconst (v := 1) hx hb dL_law_498 (by decide) ?_
  refine lv_iadd hx hb dL_law_499 ?_
  refine lv_is (y := 1) (by decide) ?_
  refine va_sld hx hb hX hbl hbA hS (by unfold vp_in; decide) dL_law_500 ?_
  refine lv_is (y := xs 1) rfl ?_
  refine lv_aload_n hx hb dL_law_501 rfl (lv_at hl 3 rfl) ?_
  refine lv_iload_n hx hb dL_law_502 rfl (lv_at hl 0 rfl) ?_
  refine lv_iconst (v := 2) hx hb dL_law_503 (by decide) ?_
  refine lv_iadd hx hb dL_law_504 ?_
  refine lv_is (y := 2) (by decide) ?_
  refine va_sld hx hb hX hbl hbA hS (by unfold vp_in; decide) dL_law_505 ?_
  refine lv_is (y := xs 2) rfl ?_
  refine lv_if_eq (tgt := 513) hx hb dL_law_506 (by decide) (fun c_1 => ?_) (fun c_1 => ?_)
  · have ic_1 : ((xs 2)).toInt = 0 := ieq c_1 (rfl) (by decide)
    refine lv_iconst (v := 0) hx hb dL_law_513 (by decide) ?_
    refine xk_i (wr := [(o2, .inr (9, (.int 0 :: .ref (u2 0) :: .ref (u2 1) :: .ref (u2 2) :: .ref (u2 3) :: .int 0 :: .int 0 :: .int 0 :: .int 0 :: .int 0 :: .int 0 :: .int 0 :: .int 0 :: .int 0 :: .int (-1) :: .ref (u2 4) :: .ref (u2 5) :: .int 0 :: .int 0 :: .int 0 :: .ref (u2 6) :: .ref (u2 7) :: .ref (u2 8) :: .int 0 :: .int 0 :: .int 0 :: .int 0 :: .int 0 :: .ref (u2 9) :: .int 0 :: .ref (u2 10) :: .int 0 :: .int 0 :: .int 0 :: .ref (u2 11) :: .ref (u2 12) :: .ref (u2 13) :: []))), ((u2 0), .inl (cT 0, 288, .inl (allK))), ((u2 1), .inl (cT 3, 2, .inl (fun _ => 0))), ((u2 2), .inl (cT 0, 900, .inl (fun _ => 0))), ((u2 3), .inl (cT 0, 96, .inl (fun _ => 0))), ((u2 10), .inl (cT 0, 16, .inl (fun _ => 0))), ((u2 11), .inl (cT 0, 4, .inl (rsK))), ((u2 12), .inl (cT 0, 4, .inl (fun _ => 0))), ((u2 13), .inl (cT 1, 160, .inr (.inl (fun _ => 0))))]) (xr_V (n := 2) (As := [.int (xs 1), .int 0]) (rest := []) ⟨hx, hb, hml, hown, htg⟩ hK hN hP hD [0, 11] rfl (by decide) (k_highFor l D cT _ (o1) (u1) ((xs 1)) (0)) wi_729 wi_730 wi_731 wi_121 wi_732 rfl rfl rfl ⟨rfl, by decide +kernel⟩ ⟨Nat.le_of_ble_eq_true rfl, Nat.le_of_ble_eq_true rfl⟩ rfl hl.1 rfl (Nat.le_of_ble_eq_true rfl) dL_law_514 ⟨Nat.le_of_ble_eq_true rfl, Nat.le_of_ble_eq_true rfl⟩) hP hD hS hA [0, 11] [46, 47, 48, 49, 50, 51, 52, 53, 54] rfl rfl (by decide) (by decide) (fun r_3 u_2 H locs hwr_3 hP hD hS => ?_)
    have hP : va_P D classes [(o2, .inr (9, (.int 0 :: .ref (u2 0) :: .ref (u2 1) :: .ref (u2 2) :: .ref (u2 3) :: .int 0 :: .int 0 :: .int 0 :: .int 0 :: .int 0 :: .int 0 :: .int 0 :: .int 0 :: .int 0 :: .int (-1) :: .ref (u2 4) :: .ref (u2 5) :: .int 0 :: .int 0 :: .int 0 :: .ref (u2 6) :: .ref (u2 7) :: .ref (u2 8) :: .int 0 :: .int 0 :: .int 0 :: .int 0 :: .int 0 :: .ref (u2 9) :: .int 0 :: .ref (u2 10) :: .int 0 :: .int 0 :: .int 0 :: .ref (u2 11) :: .ref (u2 12) :: .ref (u2 13) :: []))), ((u2 0), .inl (cT 0, 288, .inl (allK))), ((u2 1), .inl (cT 3, 2, .inl (fun _ => 0))), ((u2 2), .inl (cT 0, 900, .inl (fun _ => 0))), ((u2 3), .inl (cT 0, 96, .inl (fun _ => 0))), ((u2 10), .inl (cT 0, 16, .inl (fun _ => 0))), ((u2 11), .inl (cT 0, 4, .inl (rsK))), ((u2 12), .inl (cT 0, 4, .inl (fun _ => 0))), ((u2 13), .inl (cT 1, 160, .inr (.inl (fun _ => 0))))] _ := hP
    have hD : va_D A [(o2, .inr (9, (.int 0 :: .ref (u2 0) :: .ref (u2 1) :: .ref (u2 2) :: .ref (u2 3) :: .int 0 :: .int 0 :: .int 0 :: .int 0 :: .int 0 :: .int 0 :: .int 0 :: .int 0 :: .int 0 :: .int (-1) :: .ref (u2 4) :: .ref (u2 5) :: .int 0 :: .int 0 :: .int 0 :: .ref (u2 6) :: .ref (u2 7) :: .ref (u2 8) :: .int 0 :: .int 0 :: .int 0 :: .int 0 :: .int 0 :: .ref (u2 9) :: .int 0 :: .ref (u2 10) :: .int 0 :: .int 0 :: .int 0 :: .ref (u2 11) :: .ref (u2 12) :: .ref (u2 13) :: []))), ((u2 0), .inl (cT 0, 288, .inl (allK))), ((u2 1), .inl (cT 3, 2, .inl (fun _ => 0))), ((u2 2), .inl (cT 0, 900, .inl (fun _ => 0))), ((u2 3), .inl (cT 0, 96, .inl (fun _ => 0))), ((u2 10), .inl (cT 0, 16, .inl (fun _ => 0))), ((u2 11), .inl (cT 0, 4, .inl (rsK))), ((u2 12), .inl (cT 0, 4, .inl (fun _ => 0))), ((u2 13), .inl (cT 1, 160, .inr (.inl (fun _ => 0))))] := hD
    have hwr_3 : r_3 = -3 := hwr_3
    subst hwr_3
    refine lv_aload_n hx hb dL_law_517 rfl (lv_at hl 1 rfl) ?_
    refine lv_aload_n hx hb dL_law_518 rfl (lv_at hl 3 rfl) ?_
    refine lv_iload_n hx hb dL_law_519 rfl (lv_at hl 0 rfl) ?_
    refine lv_iconst (v := 1) hx hb dL_law_520 (by decide) ?_
    refine lv_iadd hx hb dL_law_521 ?_
    refine lv_is (y := 1) (by decide) ?_
    refine va_sld hx hb hX hbl hbA hS (by unfold vp_in; decide) dL_law_522 ?_
    refine lv_is (y := xs 1) rfl ?_
    refine lv_aload_n hx hb dL_law_523 rfl (lv_at hl 3 rfl) ?_
    refine lv_iload_n hx hb dL_law_524 rfl (lv_at hl 0 rfl) ?_
    refine lv_iconst (v := 2) hx hb dL_law_525 (by decide) ?_
    refine lv_iadd hx hb dL_law_526 ?_
    refine lv_is (y := 2) (by decide) ?_
    refine va_sld hx hb hX hbl hbA hS (by unfold vp_in; decide) dL_law_527 ?_
    refine lv_is (y := xs 2) rfl ?_
    refine lv_if_eq (tgt := 535) hx hb dL_law_528 (by decide) (fun c_4 => ?_) (fun c_4 => ?_)
    · have ic_4 : ((xs 2)).toInt = 0 := ieq c_4 (rfl) (by decide)
      refine lv_iconst (v := 0) hx hb dL_law_535 (by decide) ?_
      refine xk_i (wr := []) (xr_V (n := 2) (As := [.int (xs 1), .int 0]) (rest := [.int (-3)]) ⟨hx, hb, hml, hown, htg⟩ hK hN hP hD [0, 1] rfl (by decide) (m_highFor l D cT _ (o2) (u2) ((xs 1)) (0)) wi_1395 wi_1396 wi_1397 wi_131 wi_1398 rfl rfl rfl ⟨rfl, by decide +kernel⟩ ⟨Nat.le_of_ble_eq_true rfl, Nat.le_of_ble_eq_true rfl⟩ rfl hl.1 rfl (Nat.le_of_ble_eq_true rfl) dL_law_536 ⟨Nat.le_of_ble_eq_true rfl, Nat.le_of_ble_eq_true rfl⟩) hP hD hS hA [0, 1] [] rfl rfl (by decide) (by decide) (fun r_6 u_5 H locs hwr_6 hP hD hS => ?_)
      have hP : va_P D classes [] _ := hP
      have hD : va_D A [] := hD
      have hwr_6 : r_6 = -3 := hwr_6
      subst hwr_6
      refine lv_icmp_eq (tgt := 1455) hx hb dL_law_539 (by decide) (fun _ => ?_) (fun h => absurd rfl h)
      exact lc_end hx hb hr hml hown htg hK hN hX hbl hlk hA hAq hbA o1 o2 hS (lv_sub hl [0, 1, 2, 3] rfl)
    · have ic_4 : ¬ ((xs 2)).toInt = 0 := ine c_4 (rfl) (by decide)
      refine lv_iconst (v := 1) hx hb dL_law_531 (by decide) ?_
      refine lv_goto (tgt := 536) hx hb dL_law_532 (by decide) ?_
      refine xk_i (wr := []) (xr_V (n := 2) (As := [.int (xs 1), .int 1]) (rest := [.int (-3)]) ⟨hx, hb, hml, hown, htg⟩ hK hN hP hD [0, 1] rfl (by decide) (m_highFor l D cT _ (o2) (u2) ((xs 1)) (1)) wi_1395 wi_1396 wi_1397 wi_131 wi_1398 rfl rfl rfl ⟨rfl, by decide +kernel⟩ ⟨Nat.le_of_ble_eq_true rfl, Nat.le_of_ble_eq_true rfl⟩ rfl hl.1 rfl (Nat.le_of_ble_eq_true rfl) dL_law_536 ⟨Nat.le_of_ble_eq_true rfl, Nat.le_of_ble_eq_true rfl⟩) hP hD hS hA [0, 1] [] rfl rfl (by decide) (by decide) (fun r_8 u_7 H locs hwr_8 hP hD hS => ?_)
      have hP : va_P D classes [] _ := hP
      have hD : va_D A [] := hD
      have hwr_8 : r_8 = -3 := hwr_8
      subst hwr_8
      refine lv_icmp_eq (tgt := 1455) hx hb dL_law_539 (by decide) (fun _ => ?_) (fun h => absurd rfl h)
      exact lc_end hx hb hr hml hown htg hK hN hX hbl hlk hA hAq hbA o1 o2 hS (lv_sub hl [0, 1, 2, 3] rfl)
  · have ic_1 : ¬ ((xs 2)).toInt = 0 := ine c_1 (rfl) (by decide)
    refine lv_iconst (v := 1) hx hb dL_law_509 (by decide) ?_
    refine lv_goto (tgt := 514) hx hb dL_law_510 (by decide) ?_
    refine xk_i (wr := [(o2, .inr (9, (.int 0 :: .ref (u2 0) :: .ref (u2 1) :: .ref (u2 2) :: .ref (u2 3) :: .int 0 :: .int 0 :: .int 0 :: .int 0 :: .int 0 :: .int 0 :: .int 0 :: .int 0 :: .int 0 :: .int (-1) :: .ref (u2 4) :: .ref (u2 5) :: .int 0 :: .int 0 :: .int 0 :: .ref (u2 6) :: .ref (u2 7) :: .ref (u2 8) :: .int 0 :: .int 0 :: .int 0 :: .int 0 :: .int 0 :: .ref (u2 9) :: .int 0 :: .ref (u2 10) :: .int 0 :: .int 0 :: .int 0 :: .ref (u2 11) :: .ref (u2 12) :: .ref (u2 13) :: []))), ((u2 0), .inl (cT 0, 288, .inl (allK))), ((u2 1), .inl (cT 3, 2, .inl (fun _ => 0))), ((u2 2), .inl (cT 0, 900, .inl (fun _ => 0))), ((u2 3), .inl (cT 0, 96, .inl (fun _ => 0))), ((u2 10), .inl (cT 0, 16, .inl (fun _ => 0))), ((u2 11), .inl (cT 0, 4, .inl (rsK))), ((u2 12), .inl (cT 0, 4, .inl (fun _ => 0))), ((u2 13), .inl (cT 1, 160, .inr (.inl (fun _ => 0))))]) (xr_V (n := 2) (As := [.int (xs 1), .int 1]) (rest := []) ⟨hx, hb, hml, hown, htg⟩ hK hN hP hD [0, 11] rfl (by decide) (k_highFor l D cT _ (o1) (u1) ((xs 1)) (1)) wi_729 wi_730 wi_731 wi_121 wi_732 rfl rfl rfl ⟨rfl, by decide +kernel⟩ ⟨Nat.le_of_ble_eq_true rfl, Nat.le_of_ble_eq_true rfl⟩ rfl hl.1 rfl (Nat.le_of_ble_eq_true rfl) dL_law_514 ⟨Nat.le_of_ble_eq_true rfl, Nat.le_of_ble_eq_true rfl⟩) hP hD hS hA [0, 11] [46, 47, 48, 49, 50, 51, 52, 53, 54] rfl rfl (by decide) (by decide) (fun r_10 u_9 H locs hwr_10 hP hD hS => ?_)
    have hP : va_P D classes [(o2, .inr (9, (.int 0 :: .ref (u2 0) :: .ref (u2 1) :: .ref (u2 2) :: .ref (u2 3) :: .int 0 :: .int 0 :: .int 0 :: .int 0 :: .int 0 :: .int 0 :: .int 0 :: .int 0 :: .int 0 :: .int (-1) :: .ref (u2 4) :: .ref (u2 5) :: .int 0 :: .int 0 :: .int 0 :: .ref (u2 6) :: .ref (u2 7) :: .ref (u2 8) :: .int 0 :: .int 0 :: .int 0 :: .int 0 :: .int 0 :: .ref (u2 9) :: .int 0 :: .ref (u2 10) :: .int 0 :: .int 0 :: .int 0 :: .ref (u2 11) :: .ref (u2 12) :: .ref (u2 13) :: []))), ((u2 0), .inl (cT 0, 288, .inl (allK))), ((u2 1), .inl (cT 3, 2, .inl (fun _ => 0))), ((u2 2), .inl (cT 0, 900, .inl (fun _ => 0))), ((u2 3), .inl (cT 0, 96, .inl (fun _ => 0))), ((u2 10), .inl (cT 0, 16, .inl (fun _ => 0))), ((u2 11), .inl (cT 0, 4, .inl (rsK))), ((u2 12), .inl (cT 0, 4, .inl (fun _ => 0))), ((u2 13), .inl (cT 1, 160, .inr (.inl (fun _ => 0))))] _ := hP
    have hD : va_D A [(o2, .inr (9, (.int 0 :: .ref (u2 0) :: .ref (u2 1) :: .ref (u2 2) :: .ref (u2 3) :: .int 0 :: .int 0 :: .int 0 :: .int 0 :: .int 0 :: .int 0 :: .int 0 :: .int 0 :: .int 0 :: .int (-1) :: .ref (u2 4) :: .ref (u2 5) :: .int 0 :: .int 0 :: .int 0 :: .ref (u2 6) :: .ref (u2 7) :: .ref (u2 8) :: .int 0 :: .int 0 :: .int 0 :: .int 0 :: .int 0 :: .ref (u2 9) :: .int 0 :: .ref (u2 10) :: .int 0 :: .int 0 :: .int 0 :: .ref (u2 11) :: .ref (u2 12) :: .ref (u2 13) :: []))), ((u2 0), .inl (cT 0, 288, .inl (allK))), ((u2 1), .inl (cT 3, 2, .inl (fun _ => 0))), ((u2 2), .inl (cT 0, 900, .inl (fun _ => 0))), ((u2 3), .inl (cT 0, 96, .inl (fun _ => 0))), ((u2 10), .inl (cT 0, 16, .inl (fun _ => 0))), ((u2 11), .inl (cT 0, 4, .inl (rsK))), ((u2 12), .inl (cT 0, 4, .inl (fun _ => 0))), ((u2 13), .inl (cT 1, 160, .inr (.inl (fun _ => 0))))] := hD
    have hwr_10 : r_10 = -3 := hwr_10
    subst hwr_10
    refine lv_aload_n hx hb dL_law_517 rfl (lv_at hl 1 rfl) ?_
    refine lv_aload_n hx hb dL_law_518 rfl (lv_at hl 3 rfl) ?_
    refine lv_iload_n hx hb dL_law_519 rfl (lv_at hl 0 rfl) ?_
    refine lv_iconst (v := 1) hx hb dL_law_520 (by decide) ?_
    refine lv_iadd hx hb dL_law_521 ?_
    refine lv_is (y := 1) (by decide) ?_
    refine va_sld hx hb hX hbl hbA hS (by unfold vp_in; decide) dL_law_522 ?_
    refine lv_is (y := xs 1) rfl ?_
    refine lv_aload_n hx hb dL_law_523 rfl (lv_at hl 3 rfl) ?_
    refine lv_iload_n hx hb dL_law_524 rfl (lv_at hl 0 rfl) ?_
    refine lv_iconst (v := 2) hx hb dL_law_525 (by decide) ?_
    refine lv_iadd hx hb dL_law_526 ?_
    refine lv_is (y := 2) (by decide) ?_
    refine va_sld hx hb hX hbl hbA hS (by unfold vp_in; decide) dL_law_527 ?_
    refine lv_is (y := xs 2) rfl ?_
    refine lv_if_eq (tgt := 535) hx hb dL_law_528 (by decide) (fun c_11 => ?_) (fun c_11 => ?_)
    · have ic_11 : ((xs 2)).toInt = 0 := ieq c_11 (rfl) (by decide)
      refine lv_iconst (v := 0) hx hb dL_law_535 (by decide) ?_
      refine xk_i (wr := []) (xr_V (n := 2) (As := [.int (xs 1), .int 0]) (rest := [.int (-3)]) ⟨hx, hb, hml, hown, htg⟩ hK hN hP hD [0, 1] rfl (by decide) (m_highFor l D cT _ (o2) (u2) ((xs 1)) (0)) wi_1395 wi_1396 wi_1397 wi_131 wi_1398 rfl rfl rfl ⟨rfl, by decide +kernel⟩ ⟨Nat.le_of_ble_eq_true rfl, Nat.le_of_ble_eq_true rfl⟩ rfl hl.1 rfl (Nat.le_of_ble_eq_true rfl) dL_law_536 ⟨Nat.le_of_ble_eq_true rfl, Nat.le_of_ble_eq_true rfl⟩) hP hD hS hA [0, 1] [] rfl rfl (by decide) (by decide) (fun r_13 u_12 H locs hwr_13 hP hD hS => ?_)
      have hP : va_P D classes [] _ := hP
      have hD : va_D A [] := hD
      have hwr_13 : r_13 = -3 := hwr_13
      subst hwr_13
      refine lv_icmp_eq (tgt := 1455) hx hb dL_law_539 (by decide) (fun _ => ?_) (fun h => absurd rfl h)
      exact lc_end hx hb hr hml hown htg hK hN hX hbl hlk hA hAq hbA o1 o2 hS (lv_sub hl [0, 1, 2, 3] rfl)
    · have ic_11 : ¬ ((xs 2)).toInt = 0 := ine c_11 (rfl) (by decide)
      refine lv_iconst (v := 1) hx hb dL_law_531 (by decide) ?_
      refine lv_goto (tgt := 536) hx hb dL_law_532 (by decide) ?_
      refine xk_i (wr := []) (xr_V (n := 2) (As := [.int (xs 1), .int 1]) (rest := [.int (-3)]) ⟨hx, hb, hml, hown, htg⟩ hK hN hP hD [0, 1] rfl (by decide) (m_highFor l D cT _ (o2) (u2) ((xs 1)) (1)) wi_1395 wi_1396 wi_1397 wi_131 wi_1398 rfl rfl rfl ⟨rfl, by decide +kernel⟩ ⟨Nat.le_of_ble_eq_true rfl, Nat.le_of_ble_eq_true rfl⟩ rfl hl.1 rfl (Nat.le_of_ble_eq_true rfl) dL_law_536 ⟨Nat.le_of_ble_eq_true rfl, Nat.le_of_ble_eq_true rfl⟩) hP hD hS hA [0, 1] [] rfl rfl (by decide) (by decide) (fun r_15 u_14 H locs hwr_15 hP hD hS => ?_)
      have hP : va_P D classes [] _ := hP
      have hD : va_D A [] := hD
      have hwr_15 : r_15 = -3 := hwr_15
      subst hwr_15
      refine lv_icmp_eq (tgt := 1455) hx hb dL_law_539 (by decide) (fun _ => ?_) (fun h => absurd rfl h)
      exact lc_end hx hb hr hml hown htg hK hN hX hbl hlk hA hAq hbA o1 o2 hS (lv_sub hl [0, 1, 2, 3] rfl)
