set_option maxHeartbeats 4000000 in
set_option maxRecDepth 100000 in
theorem lc_0 {p : Program} {l : Launch} {e : Env} {s : State} {m : MethodId} {below : List Frame} {meth : Method} {c : Code} {b L : Nat} {xs : Nat → Int32} {D : va_G} {cT : Nat → ClassId} {A : Nat → Prop} (hx : p.tables.exec = Jvm.exec) (hb : c.code = cL_law) (hr : meth.sig.returnType = ret) (hml : c.maxLocals = 4) (hown : s.vm.findClass RL = some m.cls) (htg : ∀ w ∈ gw_T, w.before #[Value.ref b] s = true) (hK : va_K D classes (tysX cT) s) (hN : NX cT A s) (hX : va_X b L xs s s.heap) (hbl : b < s.heap.size) (hlk : meth.locks = false) (hA : ∀ q, s.heap.size ≤ q → A q) (hAq : ∀ q, A q → s.heap.size ≤ q) (hbA : ¬ A b) (hL : L ≤ 3072) (o1 o2 : Nat) (q g : Nat → Nat) (k9 : Nat) (hk : 6 * k9 + 6 ≤ L) (ih : ∀ (H : Heap) (locs : List Loc) (ls : Array Slot), LInv D cT A o1 o2 q g H → va_S A s.heap H locs → lv_has ls 4 [(3, .int (nI (6 * (k9 + 1)))), (2, .ref o2), (1, .ref o1), (0, .ref b)] → W p l e room_1 s m #[Value.ref b] below meth c H locs 2000 100000 (lw_Z below #[Value.ref b] s) (F0 m 18 ls [])) {H : Heap} {locs : List Loc} {ls : Array Slot} (y1 y2 y3 y4 y5 : Int32) (hy1 : y1 = xs (6 * k9 + 1)) (hy2 : y2 = xs (6 * k9 + 2)) (hy3 : y3 = xs (6 * k9 + 3)) (hy4 : y4 = xs (6 * k9 + 4)) (hy5 : y5 = xs (6 * k9 + 5)) (hI : LInv D cT A o1 o2 q g H) (hS : va_S A s.heap H locs) (hl : lv_has ls 4 [(3, .int (nI (6 * k9))), (2, .ref o2), (1, .ref o1), (0, .ref b)]) : W p l e room_1 s m #[Value.ref b] below meth c H locs 2000 100000 (lw_Z below #[Value.ref b] s) (F0 m 208 ls []) := by
  refine LInv_e hI (fun gh w9_0 w9_1 w9_2 w9_3 w9_4 w9_5 w9_6 w9_7 w9_8 w9_9 w9_10 w9_11 w9_12 w9_13 w9_14 w9_15 w9_16 w9_17 v9_0 v9_1 v9_2 v9_3 v9_4 v9_5 v9_6 v9_7 v9_8 v9_9 v9_10 v9_11 v9_12 v9_13 v9_14 v9_15 v9_16 v9_17 hP hD => ?_)
  refine gv_mo_e v9_0 (fun n1 b0 b5 b6 b7 b8 b9 b10 b11 b12 b13 b14 b17 b18 b19 b23 b24 b25 b26 b27 b29 b31 b32 b33 bf a2 rt1 rt2 rt4 rt5 rt6 rt7 rt8 e9_0 h_n1 h_b5 h_b29 rel_tape fitb rel_bytes rel_fk rel_fp => ?_)
  clear v9_0
  subst e9_0
  obtain ⟨wr, hwr⟩ : ∃ w : va_W, w = List.flatten [w9_1, w9_2, w9_3, w9_4, w9_5, w9_6, w9_7, w9_8, w9_9, w9_10, w9_11, w9_12, w9_13, w9_14, w9_15, w9_16, w9_17] := ⟨_, rfl⟩
  obtain ⟨hP, hD⟩ : PD D A ([(sw_8 o1 q n1), (sw_9 o2 g b0 b5 b6 b7 b8 b9 b10 b11 b12 b13 b14 b17 b18 b19 b23 b24 b25 b26 b27 b29 b31 b32 b33), (sw_by cT (q 0) 900 bf), (sw_in cT (g 2) 900 a2), (sw_6 (q 1) (q 19) rt1 rt2 (q 18) rt4 rt5 rt6 rt7 rt8)] ++ wr) H := by rw [hwr]; exact PD_G (n := 18) (Gs' := [[(sw_8 o1 q n1), (sw_9 o2 g b0 b5 b6 b7 b8 b9 b10 b11 b12 b13 b14 b17 b18 b19 b23 b24 b25 b26 b27 b29 b31 b32 b33), (sw_by cT (q 0) 900 bf), (sw_in cT (g 2) 900 a2), (sw_6 (q 1) (q 19) rt1 rt2 (q 18) rt4 rt5 rt6 rt7 rt8)], w9_1, w9_2, w9_3, w9_4, w9_5, w9_6, w9_7, w9_8, w9_9, w9_10, w9_11, w9_12, w9_13, w9_14, w9_15, w9_16, w9_17]) ⟨hP, hD⟩ [0, 1, 2, 3, 4, 5, 6, 7, 8, 9, 10, 11, 12, 13, 14, 15, 16, 17] rfl rfl (by decide +kernel)
  refine lv_aload_n hx hb dL_law_208 rfl (lv_at hl 2 rfl) ?_
  refine lv_aload_n hx hb dL_law_209 rfl (lv_at hl 3 rfl) ?_
  refine lv_iload_n hx hb dL_law_210 rfl (lv_at hl 0 rfl) ?_
  refine lv_iconst (v := 1) hx hb dL_law_211 (by decide) ?_
  refine lv_iadd hx hb dL_law_212 ?_
  refine lv_is (y := nI (6 * k9 + 1)) (nI_add (6 * k9) 1) ?_
  refine va_sld hx hb hX hbl hbA hS (vp_in_nI (by omega) (by omega)) dL_law_213 ?_
  refine lv_is (y := y1) (by rw [nI_clamp (by omega)]; exact hy1.symm) ?_
  refine lv_aload_n hx hb dL_law_214 rfl (lv_at hl 3 rfl) ?_
  refine lv_iload_n hx hb dL_law_215 rfl (lv_at hl 0 rfl) ?_
  refine lv_iconst (v := 2) hx hb dL_law_216 (by decide) ?_
  refine lv_iadd hx hb dL_law_217 ?_
  refine lv_is (y := nI (6 * k9 + 2)) (nI_add (6 * k9) 2) ?_
  refine va_sld hx hb hX hbl hbA hS (vp_in_nI (by omega) (by omega)) dL_law_218 ?_
  refine lv_is (y := y2) (by rw [nI_clamp (by omega)]; exact hy2.symm) ?_
  refine lv_aload_n hx hb dL_law_219 rfl (lv_at hl 3 rfl) ?_
  refine lv_iload_n hx hb dL_law_220 rfl (lv_at hl 0 rfl) ?_
  refine lv_iconst (v := 3) hx hb dL_law_221 (by decide) ?_
  refine lv_iadd hx hb dL_law_222 ?_
  refine lv_is (y := nI (6 * k9 + 3)) (nI_add (6 * k9) 3) ?_
  refine va_sld hx hb hX hbl hbA hS (vp_in_nI (by omega) (by omega)) dL_law_223 ?_
  refine lv_is (y := y3) (by rw [nI_clamp (by omega)]; exact hy3.symm) ?_
  refine lv_aload_n hx hb dL_law_224 rfl (lv_at hl 3 rfl) ?_
  refine lv_iload_n hx hb dL_law_225 rfl (lv_at hl 0 rfl) ?_
  refine lv_iconst (v := 4) hx hb dL_law_226 (by decide) ?_
  refine lv_iadd hx hb dL_law_227 ?_
  refine lv_is (y := nI (6 * k9 + 4)) (nI_add (6 * k9) 4) ?_
  refine va_sld hx hb hX hbl hbA hS (vp_in_nI (by omega) (by omega)) dL_law_228 ?_
  refine lv_is (y := y4) (by rw [nI_clamp (by omega)]; exact hy4.symm) ?_
  refine lv_aload_n hx hb dL_law_229 rfl (lv_at hl 3 rfl) ?_
  refine lv_iload_n hx hb dL_law_230 rfl (lv_at hl 0 rfl) ?_
  refine lv_iconst (v := 5) hx hb dL_law_231 (by decide) ?_
  refine lv_iadd hx hb dL_law_232 ?_
  refine lv_is (y := nI (6 * k9 + 5)) (nI_add (6 * k9) 5) ?_
  refine va_sld hx hb hX hbl hbA hS (vp_in_nI (by omega) (by omega)) dL_law_233 ?_
  refine lv_is (y := y5) (by rw [nI_clamp (by omega)]; exact hy5.symm) ?_
  refine xj_i (n := 5) (er := [(sw_9 o2 g b0 b5 b6 b7 b8 b9 b10 b11 b12 b13 b14 b17 b18 b19 b23 b24 b25 b26 b27 b29 b31 b32 b33), (sw_in cT (g 2) 900 a2), (sw_6 (q 1) (q 19) rt1 rt2 (q 18) rt4 rt5 rt6 rt7 rt8)]) (wr := wr) (xr_V (n := 5) (As := [.int y1, .int y2, .int y3, .int y4, .int y5]) (rest := []) ⟨hx, hb, hml, hown, htg⟩ hK hN hP hD hS hA [0, 2] rfl (by decide) (g_k_feedX l D cT _ (o1) (q) (n1) (by first | assumption | omega | decide | exact el_z (by decide) | (simp only [ti_0, ti_1, ti_2, ti_3, ti_4, ti_5, ti_6, ti_7, ti_8, ti_9, ti_10, ti_11, ti_12, ti_m1]; omega)) (bf) (by first | assumption | omega | decide | exact el_z (by decide) | (simp only [ti_0, ti_1, ti_2, ti_3, ti_4, ti_5, ti_6, ti_7, ti_8, ti_9, ti_10, ti_11, ti_12, ti_m1]; omega)) (y1) (y2) (y3) (y4) (y5)) wi_507 wi_508 wi_509 wi_121 wi_510 rfl rfl rfl ⟨rfl, by decide +kernel⟩ ⟨Nat.le_of_ble_eq_true rfl, Nat.le_of_ble_eq_true rfl⟩ rfl hl.1 rfl (Nat.le_of_ble_eq_true rfl) dL_law_234 ⟨Nat.le_of_ble_eq_true rfl, Nat.le_of_ble_eq_true rfl⟩) hP hD hS hA [0, 2] [1, 3, 4] rfl rfl rfl (by decide +kernel) (fun r_2 u_1 H locs hwr_2 hP hD hS => ?_)
  obtain ⟨hP, hD⟩ : PD D A ([(sw_9 o2 g b0 b5 b6 b7 b8 b9 b10 b11 b12 b13 b14 b17 b18 b19 b23 b24 b25 b26 b27 b29 b31 b32 b33), (sw_in cT (g 2) 900 a2), (sw_6 (q 1) (q 19) rt1 rt2 (q 18) rt4 rt5 rt6 rt7 rt8), (sw_8 o1 q u_1.1), (sw_by cT (q 0) 900 u_1.2)] ++ wr) _ := ⟨hP, hD⟩
  have qr_2_0 : 0 ≤ u_1.1.toInt ∧ u_1.1.toInt ≤ 900 := hwr_2.1
  have qr_2_1 : sb_Fit u_1.2 := hwr_2.2.1
  have qr_2_2 : (n1.toInt ≤ 880 ∧ u_1.1.toInt = n1.toInt + 20 ∧ r_2.toInt = n1.toInt + 20) ∨ (880 < n1.toInt ∧ u_1.1.toInt = n1.toInt ∧ r_2.toInt = -5) := hwr_2.2.2.1
  have qr_2_3 : Hd (n1.toInt ≤ 880) (∀ j : Nat, (j : Int) < n1.toInt → u_1.2 j = bf j) := hwr_2.2.2.2.1
  have qr_2_4 : Hd (880 < n1.toInt) (u_1.2 = bf) := hwr_2.2.2.2.2.1
  have qr_2_5 : Hd (n1.toInt ≤ 880) (u_1.2 (n1.toInt.toNat + 0) &&& 255 = byI y1 24) := hwr_2.2.2.2.2.2.1
  have qr_2_6 : Hd (n1.toInt ≤ 880) (u_1.2 (n1.toInt.toNat + 1) &&& 255 = byI y1 16) := hwr_2.2.2.2.2.2.2.1
  have qr_2_7 : Hd (n1.toInt ≤ 880) (u_1.2 (n1.toInt.toNat + 2) &&& 255 = byI y1 8) := hwr_2.2.2.2.2.2.2.2.1
  have qr_2_8 : Hd (n1.toInt ≤ 880) (u_1.2 (n1.toInt.toNat + 3) &&& 255 = byI y1 0) := hwr_2.2.2.2.2.2.2.2.2.1
  have qr_2_9 : Hd (n1.toInt ≤ 880) (u_1.2 (n1.toInt.toNat + 4) &&& 255 = byI y2 24) := hwr_2.2.2.2.2.2.2.2.2.2.1
  have qr_2_10 : Hd (n1.toInt ≤ 880) (u_1.2 (n1.toInt.toNat + 5) &&& 255 = byI y2 16) := hwr_2.2.2.2.2.2.2.2.2.2.2.1
  have qr_2_11 : Hd (n1.toInt ≤ 880) (u_1.2 (n1.toInt.toNat + 6) &&& 255 = byI y2 8) := hwr_2.2.2.2.2.2.2.2.2.2.2.2.1
  have qr_2_12 : Hd (n1.toInt ≤ 880) (u_1.2 (n1.toInt.toNat + 7) &&& 255 = byI y2 0) := hwr_2.2.2.2.2.2.2.2.2.2.2.2.2.1
  have qr_2_13 : Hd (n1.toInt ≤ 880) (u_1.2 (n1.toInt.toNat + 8) &&& 255 = byI y3 24) := hwr_2.2.2.2.2.2.2.2.2.2.2.2.2.2.1
  have qr_2_14 : Hd (n1.toInt ≤ 880) (u_1.2 (n1.toInt.toNat + 9) &&& 255 = byI y3 16) := hwr_2.2.2.2.2.2.2.2.2.2.2.2.2.2.2.1
  have qr_2_15 : Hd (n1.toInt ≤ 880) (u_1.2 (n1.toInt.toNat + 10) &&& 255 = byI y3 8) := hwr_2.2.2.2.2.2.2.2.2.2.2.2.2.2.2.2.1
  have qr_2_16 : Hd (n1.toInt ≤ 880) (u_1.2 (n1.toInt.toNat + 11) &&& 255 = byI y3 0) := hwr_2.2.2.2.2.2.2.2.2.2.2.2.2.2.2.2.2.1
  have qr_2_17 : Hd (n1.toInt ≤ 880) (u_1.2 (n1.toInt.toNat + 12) &&& 255 = byI y4 24) := hwr_2.2.2.2.2.2.2.2.2.2.2.2.2.2.2.2.2.2.1
  have qr_2_18 : Hd (n1.toInt ≤ 880) (u_1.2 (n1.toInt.toNat + 13) &&& 255 = byI y4 16) := hwr_2.2.2.2.2.2.2.2.2.2.2.2.2.2.2.2.2.2.2.1
  have qr_2_19 : Hd (n1.toInt ≤ 880) (u_1.2 (n1.toInt.toNat + 14) &&& 255 = byI y4 8) := hwr_2.2.2.2.2.2.2.2.2.2.2.2.2.2.2.2.2.2.2.2.1
  have qr_2_20 : Hd (n1.toInt ≤ 880) (u_1.2 (n1.toInt.toNat + 15) &&& 255 = byI y4 0) := hwr_2.2.2.2.2.2.2.2.2.2.2.2.2.2.2.2.2.2.2.2.2.1
  have qr_2_21 : Hd (n1.toInt ≤ 880) (u_1.2 (n1.toInt.toNat + 16) &&& 255 = byI y5 24) := hwr_2.2.2.2.2.2.2.2.2.2.2.2.2.2.2.2.2.2.2.2.2.2.1
  have qr_2_22 : Hd (n1.toInt ≤ 880) (u_1.2 (n1.toInt.toNat + 17) &&& 255 = byI y5 16) := hwr_2.2.2.2.2.2.2.2.2.2.2.2.2.2.2.2.2.2.2.2.2.2.2.1
  have qr_2_23 : Hd (n1.toInt ≤ 880) (u_1.2 (n1.toInt.toNat + 18) &&& 255 = byI y5 8) := hwr_2.2.2.2.2.2.2.2.2.2.2.2.2.2.2.2.2.2.2.2.2.2.2.2.1
  have qr_2_24 : Hd (n1.toInt ≤ 880) (u_1.2 (n1.toInt.toNat + 19) &&& 255 = byI y5 0) := hwr_2.2.2.2.2.2.2.2.2.2.2.2.2.2.2.2.2.2.2.2.2.2.2.2.2.1
  refine lv_pop hx hb dL_law_237 rfl ?_
  refine lv_aload_n hx hb dL_law_238 rfl (lv_at hl 1 rfl) ?_
  refine lv_aload_n hx hb dL_law_239 rfl (lv_at hl 3 rfl) ?_
  refine lv_iload_n hx hb dL_law_240 rfl (lv_at hl 0 rfl) ?_
  refine lv_iconst (v := 1) hx hb dL_law_241 (by decide) ?_
  refine lv_iadd hx hb dL_law_242 ?_
  refine lv_is (y := nI (6 * k9 + 1)) (nI_add (6 * k9) 1) ?_
  refine va_sld hx hb hX hbl hbA hS (vp_in_nI (by omega) (by omega)) dL_law_243 ?_
  refine lv_is (y := y1) (by rw [nI_clamp (by omega)]; exact hy1.symm) ?_
  refine lv_aload_n hx hb dL_law_244 rfl (lv_at hl 3 rfl) ?_
  refine lv_iload_n hx hb dL_law_245 rfl (lv_at hl 0 rfl) ?_
  refine lv_iconst (v := 2) hx hb dL_law_246 (by decide) ?_
  refine lv_iadd hx hb dL_law_247 ?_
  refine lv_is (y := nI (6 * k9 + 2)) (nI_add (6 * k9) 2) ?_
  refine va_sld hx hb hX hbl hbA hS (vp_in_nI (by omega) (by omega)) dL_law_248 ?_
  refine lv_is (y := y2) (by rw [nI_clamp (by omega)]; exact hy2.symm) ?_
  refine lv_aload_n hx hb dL_law_249 rfl (lv_at hl 3 rfl) ?_
  refine lv_iload_n hx hb dL_law_250 rfl (lv_at hl 0 rfl) ?_
  refine lv_iconst (v := 3) hx hb dL_law_251 (by decide) ?_
  refine lv_iadd hx hb dL_law_252 ?_
  refine lv_is (y := nI (6 * k9 + 3)) (nI_add (6 * k9) 3) ?_
  refine va_sld hx hb hX hbl hbA hS (vp_in_nI (by omega) (by omega)) dL_law_253 ?_
  refine lv_is (y := y3) (by rw [nI_clamp (by omega)]; exact hy3.symm) ?_
  refine lv_aload_n hx hb dL_law_254 rfl (lv_at hl 3 rfl) ?_
  refine lv_iload_n hx hb dL_law_255 rfl (lv_at hl 0 rfl) ?_
  refine lv_iconst (v := 4) hx hb dL_law_256 (by decide) ?_
  refine lv_iadd hx hb dL_law_257 ?_
  refine lv_is (y := nI (6 * k9 + 4)) (nI_add (6 * k9) 4) ?_
  refine va_sld hx hb hX hbl hbA hS (vp_in_nI (by omega) (by omega)) dL_law_258 ?_
  refine lv_is (y := y4) (by rw [nI_clamp (by omega)]; exact hy4.symm) ?_
  refine lv_aload_n hx hb dL_law_259 rfl (lv_at hl 3 rfl) ?_
  refine lv_iload_n hx hb dL_law_260 rfl (lv_at hl 0 rfl) ?_
  refine lv_iconst (v := 5) hx hb dL_law_261 (by decide) ?_
  refine lv_iadd hx hb dL_law_262 ?_
  refine lv_is (y := nI (6 * k9 + 5)) (nI_add (6 * k9) 5) ?_
  refine va_sld hx hb hX hbl hbA hS (vp_in_nI (by omega) (by omega)) dL_law_263 ?_
  refine lv_is (y := y5) (by rw [nI_clamp (by omega)]; exact hy5.symm) ?_
  refine xj_i (n := 5) (er := [(sw_6 (q 1) (q 19) rt1 rt2 (q 18) rt4 rt5 rt6 rt7 rt8), (sw_8 o1 q u_1.1), (sw_by cT (q 0) 900 u_1.2)]) (wr := wr) (xr_V (n := 5) (As := [.int y1, .int y2, .int y3, .int y4, .int y5]) (rest := []) ⟨hx, hb, hml, hown, htg⟩ hK hN hP hD hS hA [0, 1] rfl (by decide) (m_feedX l D cT _ (o2) (g) (b0) (b5) (b6) (b7) (b8) (b9) (b10) (b11) (b12) (b13) (b14) (b17) (b18) (b19) (b23) (b24) (b25) (b26) (b27) (b29) (b31) (b32) (b33) (by first | assumption | omega | decide | exact el_z (by decide) | (simp only [ti_0, ti_1, ti_2, ti_3, ti_4, ti_5, ti_6, ti_7, ti_8, ti_9, ti_10, ti_11, ti_12, ti_m1]; omega)) (a2) (y1) (y2) (y3) (y4) (y5)) wi_1262 wi_1263 wi_1264 wi_131 wi_1265 rfl rfl rfl ⟨rfl, by decide +kernel⟩ ⟨Nat.le_of_ble_eq_true rfl, Nat.le_of_ble_eq_true rfl⟩ rfl hl.1 rfl (Nat.le_of_ble_eq_true rfl) dL_law_264 ⟨Nat.le_of_ble_eq_true rfl, Nat.le_of_ble_eq_true rfl⟩) hP hD hS hA [0, 1] [2, 3, 4] rfl rfl rfl (by decide +kernel) (fun r_4 u_3 H locs hwr_4 hP hD hS => ?_)
  obtain ⟨hP, hD⟩ : PD D A ([(sw_6 (q 1) (q 19) rt1 rt2 (q 18) rt4 rt5 rt6 rt7 rt8), (sw_8 o1 q u_1.1), (sw_by cT (q 0) 900 u_1.2), (sw_9 o2 g u_3.1 u_3.2.1 b6 b7 b8 b9 b10 b11 b12 b13 b14 b17 b18 b19 b23 b24 b25 b26 b27 b29 b31 b32 b33), (sw_in cT (g 2) 900 u_3.2.2)] ++ wr) _ := ⟨hP, hD⟩
  have qr_4_0 : 0 ≤ u_3.2.1.toInt ∧ u_3.2.1.toInt ≤ 900 := hwr_4.1
  have qr_4_1 : (b5.toInt ≤ 880 ∧ u_3.2.1.toInt = b5.toInt + 20 ∧ r_4.toInt = b5.toInt + 20) ∨ (880 < b5.toInt ∧ u_3.2.1.toInt = b5.toInt ∧ r_4.toInt = -5) := hwr_4.2.1
  have qr_4_2 : Hd (b5.toInt ≤ 880) (∀ j : Nat, (j : Int) < b5.toInt → u_3.2.2 j = a2 j) := hwr_4.2.2.1
  have qr_4_3 : Hd (880 < b5.toInt) (u_3.2.2 = a2) := hwr_4.2.2.2.1
  have qr_4_4 : Hd (b5.toInt ≤ 880) (u_3.2.2 (b5.toInt.toNat + 0) = byI y1 24) := hwr_4.2.2.2.2.1
  have qr_4_5 : Hd (b5.toInt ≤ 880) (u_3.2.2 (b5.toInt.toNat + 1) = byI y1 16) := hwr_4.2.2.2.2.2.1
  have qr_4_6 : Hd (b5.toInt ≤ 880) (u_3.2.2 (b5.toInt.toNat + 2) = byI y1 8) := hwr_4.2.2.2.2.2.2.1
  have qr_4_7 : Hd (b5.toInt ≤ 880) (u_3.2.2 (b5.toInt.toNat + 3) = byI y1 0) := hwr_4.2.2.2.2.2.2.2.1
  have qr_4_8 : Hd (b5.toInt ≤ 880) (u_3.2.2 (b5.toInt.toNat + 4) = byI y2 24) := hwr_4.2.2.2.2.2.2.2.2.1
  have qr_4_9 : Hd (b5.toInt ≤ 880) (u_3.2.2 (b5.toInt.toNat + 5) = byI y2 16) := hwr_4.2.2.2.2.2.2.2.2.2.1
  have qr_4_10 : Hd (b5.toInt ≤ 880) (u_3.2.2 (b5.toInt.toNat + 6) = byI y2 8) := hwr_4.2.2.2.2.2.2.2.2.2.2.1
  have qr_4_11 : Hd (b5.toInt ≤ 880) (u_3.2.2 (b5.toInt.toNat + 7) = byI y2 0) := hwr_4.2.2.2.2.2.2.2.2.2.2.2.1
  have qr_4_12 : Hd (b5.toInt ≤ 880) (u_3.2.2 (b5.toInt.toNat + 8) = byI y3 24) := hwr_4.2.2.2.2.2.2.2.2.2.2.2.2.1
  have qr_4_13 : Hd (b5.toInt ≤ 880) (u_3.2.2 (b5.toInt.toNat + 9) = byI y3 16) := hwr_4.2.2.2.2.2.2.2.2.2.2.2.2.2.1
  have qr_4_14 : Hd (b5.toInt ≤ 880) (u_3.2.2 (b5.toInt.toNat + 10) = byI y3 8) := hwr_4.2.2.2.2.2.2.2.2.2.2.2.2.2.2.1
  have qr_4_15 : Hd (b5.toInt ≤ 880) (u_3.2.2 (b5.toInt.toNat + 11) = byI y3 0) := hwr_4.2.2.2.2.2.2.2.2.2.2.2.2.2.2.2.1
  have qr_4_16 : Hd (b5.toInt ≤ 880) (u_3.2.2 (b5.toInt.toNat + 12) = byI y4 24) := hwr_4.2.2.2.2.2.2.2.2.2.2.2.2.2.2.2.2.1
  have qr_4_17 : Hd (b5.toInt ≤ 880) (u_3.2.2 (b5.toInt.toNat + 13) = byI y4 16) := hwr_4.2.2.2.2.2.2.2.2.2.2.2.2.2.2.2.2.2.1
  have qr_4_18 : Hd (b5.toInt ≤ 880) (u_3.2.2 (b5.toInt.toNat + 14) = byI y4 8) := hwr_4.2.2.2.2.2.2.2.2.2.2.2.2.2.2.2.2.2.2.1
  have qr_4_19 : Hd (b5.toInt ≤ 880) (u_3.2.2 (b5.toInt.toNat + 15) = byI y4 0) := hwr_4.2.2.2.2.2.2.2.2.2.2.2.2.2.2.2.2.2.2.2.1
  have qr_4_20 : Hd (b5.toInt ≤ 880) (u_3.2.2 (b5.toInt.toNat + 16) = byI y5 24) := hwr_4.2.2.2.2.2.2.2.2.2.2.2.2.2.2.2.2.2.2.2.2.1
  have qr_4_21 : Hd (b5.toInt ≤ 880) (u_3.2.2 (b5.toInt.toNat + 17) = byI y5 16) := hwr_4.2.2.2.2.2.2.2.2.2.2.2.2.2.2.2.2.2.2.2.2.2.1
  have qr_4_22 : Hd (b5.toInt ≤ 880) (u_3.2.2 (b5.toInt.toNat + 18) = byI y5 8) := hwr_4.2.2.2.2.2.2.2.2.2.2.2.2.2.2.2.2.2.2.2.2.2.2.1
  have qr_4_23 : Hd (b5.toInt ≤ 880) (u_3.2.2 (b5.toInt.toNat + 19) = byI y5 0) := hwr_4.2.2.2.2.2.2.2.2.2.2.2.2.2.2.2.2.2.2.2.2.2.2.2.1
  refine lv_pop hx hb dL_law_267 rfl ?_
  refine lv_goto (tgt := 1454) hx hb dL_law_268 (by decide) ?_
  obtain ⟨hP, hD⟩ : PD D A ([(sw_8 o1 q u_1.1), (sw_9 o2 g u_3.1 u_3.2.1 b6 b7 b8 b9 b10 b11 b12 b13 b14 b17 b18 b19 b23 b24 b25 b26 b27 b29 b31 b32 b33), (sw_by cT (q 0) 900 u_1.2), (sw_in cT (g 2) 900 u_3.2.2), (sw_6 (q 1) (q 19) rt1 rt2 (q 18) rt4 rt5 rt6 rt7 rt8)] ++ wr) H := PD_E (n := 5) ⟨hP, hD⟩ [1, 3, 2, 4, 0] rfl rfl (by decide +kernel)
  rw [hwr] at hP hD
  obtain ⟨hP, hD⟩ : PD D A (List.flatten [[(sw_8 o1 q u_1.1), (sw_9 o2 g u_3.1 u_3.2.1 b6 b7 b8 b9 b10 b11 b12 b13 b14 b17 b18 b19 b23 b24 b25 b26 b27 b29 b31 b32 b33), (sw_by cT (q 0) 900 u_1.2), (sw_in cT (g 2) 900 u_3.2.2), (sw_6 (q 1) (q 19) rt1 rt2 (q 18) rt4 rt5 rt6 rt7 rt8)], w9_1, w9_2, w9_3, w9_4, w9_5, w9_6, w9_7, w9_8, w9_9, w9_10, w9_11, w9_12, w9_13, w9_14, w9_15, w9_16, w9_17]) H := PD_G (n := 18) (Gs := [[(sw_8 o1 q u_1.1), (sw_9 o2 g u_3.1 u_3.2.1 b6 b7 b8 b9 b10 b11 b12 b13 b14 b17 b18 b19 b23 b24 b25 b26 b27 b29 b31 b32 b33), (sw_by cT (q 0) 900 u_1.2), (sw_in cT (g 2) 900 u_3.2.2), (sw_6 (q 1) (q 19) rt1 rt2 (q 18) rt4 rt5 rt6 rt7 rt8)], w9_1, w9_2, w9_3, w9_4, w9_5, w9_6, w9_7, w9_8, w9_9, w9_10, w9_11, w9_12, w9_13, w9_14, w9_15, w9_16, w9_17]) ⟨hP, hD⟩ [0, 1, 2, 3, 4, 5, 6, 7, 8, 9, 10, 11, 12, 13, 14, 15, 16, 17] rfl rfl (by decide +kernel)
  exact lc_next hx hb hr hml hown htg hK hN hX hbl hlk hA hAq hbA hL o1 o2 q g k9 ih (LInv_i (gh) (gv_mo_i u_1.1 u_3.1 u_3.2.1 b6 b7 b8 b9 b10 b11 b12 b13 b14 b17 b18 b19 b23 b24 b25 b26 b27 b29 b31 b32 b33 u_1.2 u_3.2.2 rt1 rt2 rt4 rt5 rt6 rt7 rt8 (by first | assumption | omega | decide | (simp only [ti_0, ti_1, ti_2, ti_3, ti_4, ti_5, ti_6, ti_7, ti_8, ti_9, ti_10, ti_11, ti_12, ti_m1]; omega)) (by first | assumption | omega | decide | (simp only [ti_0, ti_1, ti_2, ti_3, ti_4, ti_5, ti_6, ti_7, ti_8, ti_9, ti_10, ti_11, ti_12, ti_m1]; omega)) (by first | assumption | omega | decide | (simp only [ti_0, ti_1, ti_2, ti_3, ti_4, ti_5, ti_6, ti_7, ti_8, ti_9, ti_10, ti_11, ti_12, ti_m1]; omega)) (by first | assumption | omega | decide | (simp only [ti_0, ti_1, ti_2, ti_3, ti_4, ti_5, ti_6, ti_7, ti_8, ti_9, ti_10, ti_11, ti_12, ti_m1]; omega)) (by first | assumption | omega | decide | (simp only [ti_0, ti_1, ti_2, ti_3, ti_4, ti_5, ti_6, ti_7, ti_8, ti_9, ti_10, ti_11, ti_12, ti_m1]; omega)) ((fun j hj => by rcases (show n1.toInt ≤ 880 ∨ 880 < n1.toInt from by omega) with h | h; (rcases (show (j : Int) < n1.toInt ∨ j = n1.toInt.toNat + 0 ∨ j = n1.toInt.toNat + 1 ∨ j = n1.toInt.toNat + 2 ∨ j = n1.toInt.toNat + 3 ∨ j = n1.toInt.toNat + 4 ∨ j = n1.toInt.toNat + 5 ∨ j = n1.toInt.toNat + 6 ∨ j = n1.toInt.toNat + 7 ∨ j = n1.toInt.toNat + 8 ∨ j = n1.toInt.toNat + 9 ∨ j = n1.toInt.toNat + 10 ∨ j = n1.toInt.toNat + 11 ∨ j = n1.toInt.toNat + 12 ∨ j = n1.toInt.toNat + 13 ∨ j = n1.toInt.toNat + 14 ∨ j = n1.toInt.toNat + 15 ∨ j = n1.toInt.toNat + 16 ∨ j = n1.toInt.toNat + 17 ∨ j = n1.toInt.toNat + 18 ∨ j = n1.toInt.toNat + 19 from by omega) with g | g | g | g | g | g | g | g | g | g | g | g | g | g | g | g | g | g | g | g | g; (rw [qr_2_3 h j g, qr_4_2 (by omega) j (by omega)]; exact rel_bytes j g); (rw [g, qr_2_5 h, show n1.toInt.toNat + 0 = b5.toInt.toNat + 0 from by omega, qr_4_4 (by omega)]); (rw [g, qr_2_6 h, show n1.toInt.toNat + 1 = b5.toInt.toNat + 1 from by omega, qr_4_5 (by omega)]); (rw [g, qr_2_7 h, show n1.toInt.toNat + 2 = b5.toInt.toNat + 2 from by omega, qr_4_6 (by omega)]); (rw [g, qr_2_8 h, show n1.toInt.toNat + 3 = b5.toInt.toNat + 3 from by omega, qr_4_7 (by omega)]); (rw [g, qr_2_9 h, show n1.toInt.toNat + 4 = b5.toInt.toNat + 4 from by omega, qr_4_8 (by omega)]); (rw [g, qr_2_10 h, show n1.toInt.toNat + 5 = b5.toInt.toNat + 5 from by omega, qr_4_9 (by omega)]); (rw [g, qr_2_11 h, show n1.toInt.toNat + 6 = b5.toInt.toNat + 6 from by omega, qr_4_10 (by omega)]); (rw [g, qr_2_12 h, show n1.toInt.toNat + 7 = b5.toInt.toNat + 7 from by omega, qr_4_11 (by omega)]); (rw [g, qr_2_13 h, show n1.toInt.toNat + 8 = b5.toInt.toNat + 8 from by omega, qr_4_12 (by omega)]); (rw [g, qr_2_14 h, show n1.toInt.toNat + 9 = b5.toInt.toNat + 9 from by omega, qr_4_13 (by omega)]); (rw [g, qr_2_15 h, show n1.toInt.toNat + 10 = b5.toInt.toNat + 10 from by omega, qr_4_14 (by omega)]); (rw [g, qr_2_16 h, show n1.toInt.toNat + 11 = b5.toInt.toNat + 11 from by omega, qr_4_15 (by omega)]); (rw [g, qr_2_17 h, show n1.toInt.toNat + 12 = b5.toInt.toNat + 12 from by omega, qr_4_16 (by omega)]); (rw [g, qr_2_18 h, show n1.toInt.toNat + 13 = b5.toInt.toNat + 13 from by omega, qr_4_17 (by omega)]); (rw [g, qr_2_19 h, show n1.toInt.toNat + 14 = b5.toInt.toNat + 14 from by omega, qr_4_18 (by omega)]); (rw [g, qr_2_20 h, show n1.toInt.toNat + 15 = b5.toInt.toNat + 15 from by omega, qr_4_19 (by omega)]); (rw [g, qr_2_21 h, show n1.toInt.toNat + 16 = b5.toInt.toNat + 16 from by omega, qr_4_20 (by omega)]); (rw [g, qr_2_22 h, show n1.toInt.toNat + 17 = b5.toInt.toNat + 17 from by omega, qr_4_21 (by omega)]); (rw [g, qr_2_23 h, show n1.toInt.toNat + 18 = b5.toInt.toNat + 18 from by omega, qr_4_22 (by omega)]); (rw [g, qr_2_24 h, show n1.toInt.toNat + 19 = b5.toInt.toNat + 19 from by omega, qr_4_23 (by omega)])); (rw [qr_2_4 h, qr_4_3 (by omega)]; exact rel_bytes j (by omega)))) (by first | assumption | omega | decide | (simp only [ti_0, ti_1, ti_2, ti_3, ti_4, ti_5, ti_6, ti_7, ti_8, ti_9, ti_10, ti_11, ti_12, ti_m1]; omega)) (by first | assumption | omega | decide | (simp only [ti_0, ti_1, ti_2, ti_3, ti_4, ti_5, ti_6, ti_7, ti_8, ti_9, ti_10, ti_11, ti_12, ti_m1]; omega))) v9_1 v9_2 v9_3 v9_4 v9_5 v9_6 v9_7 v9_8 v9_9 v9_10 v9_11 v9_12 v9_13 v9_14 v9_15 v9_16 v9_17 hP hD) hS (lv_sub hl [0, 1, 2, 3] rfl)
