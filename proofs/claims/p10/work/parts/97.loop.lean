set_option maxHeartbeats 4000000 in
set_option maxRecDepth 100000 in
theorem lc_body {p : Program} {l : Launch} {e : Env} {s : State} {m : MethodId} {below : List Frame} {meth : Method} {c : Code} {b L : Nat} {xs : Nat → Int32} {D : va_G} {cT : Nat → ClassId} {A : Nat → Prop} (hx : p.tables.exec = Jvm.exec) (hb : c.code = cL_law) (hr : meth.sig.returnType = ret) (hml : c.maxLocals = 4) (hown : s.vm.findClass RL = some m.cls) (htg : ∀ w ∈ gw_T, w.before #[Value.ref b] s = true) (hK : va_K D classes (tysX cT) s) (hN : NX cT A s) (hX : va_X b L xs s s.heap) (hbl : b < s.heap.size) (hlk : meth.locks = false) (hA : ∀ q, s.heap.size ≤ q → A q) (hAq : ∀ q, A q → s.heap.size ≤ q) (hbA : ¬ A b) (hL : L ≤ 3072) (o1 o2 : Nat) (q g : Nat → Nat) (k9 : Nat) (hk : 6 * k9 ≤ L + 6) (ih : 6 * k9 + 6 ≤ L → ∀ (H : Heap) (locs : List Loc) (ls : Array Slot), LInv D cT A o1 o2 q g H → va_S A s.heap H locs → lv_has ls 4 [(3, .int (nI (6 * (k9 + 1)))), (2, .ref o2), (1, .ref o1), (0, .ref b)] → W p l e room_1 s m #[Value.ref b] below meth c H locs 2000 100000 (lw_Z below #[Value.ref b] s) (F0 m 18 ls [])) {H : Heap} {locs : List Loc} {ls : Array Slot} (hI : LInv D cT A o1 o2 q g H) (hS : va_S A s.heap H locs) (hl : lv_has ls 4 [(3, .int (nI (6 * k9))), (2, .ref o2), (1, .ref o1), (0, .ref b)]) : W p l e room_1 s m #[Value.ref b] below meth c H locs 2000 100000 (lw_Z below #[Value.ref b] s) (F0 m 18 ls []) := by
  obtain ⟨y0, hy0⟩ : ∃ y : Int32, y = xs (6 * k9) := ⟨_, rfl⟩
  have hk9 : (nI (6 * k9)).toInt = ((6 * k9 : Nat) : Int) := nI_toInt (by omega)
  have hLI : (nI L).toInt = ((L : Nat) : Int) := nI_toInt (by omega)
  refine lv_iload_n hx hb dL_law_18 rfl (lv_at hl 0 rfl) ?_
  refine lv_aload_n hx hb dL_law_19 rfl (lv_at hl 3 rfl) ?_
  refine va_slen hx hb hX hbl hbA hS dL_law_20 ?_
  refine lv_is (y := nI L) rfl ?_
  refine lv_bipush (v := 6) hx hb dL_law_21 (by decide) ?_
  refine lv_isub hx hb dL_law_23 ?_
  refine lv_topi (fun z_1 ez_1 => ?_)
  have iz_1 : z_1.toInt = ((L : Nat) : Int) - 6 := toInt_subI ez_1 (nI_toInt (by omega)) (by decide) (by omega)
  refine lv_icmp_gt (tgt := 1460) hx hb dL_law_24 (by decide) (fun c_2 => ?_) (fun c_2 => ?_)
  · have ic_2 : z_1.toInt < ((6 * k9 : Nat) : Int) := ilt c_2 (rfl) (nI_toInt (by omega))
    exact lc_end hx hb hr hml hown htg hK hN hX hbl hlk hA hAq hbA hL o1 o2 k9 hS (lv_sub hl [0, 1, 2, 3] rfl)
  · have ic_2 : ((6 * k9 : Nat) : Int) ≤ z_1.toInt := inlt c_2 (rfl) (nI_toInt (by omega))
    refine lv_aload_n hx hb dL_law_27 rfl (lv_at hl 3 rfl) ?_
    refine lv_iload_n hx hb dL_law_28 rfl (lv_at hl 0 rfl) ?_
    refine va_sld hx hb hX hbl hbA hS (vp_in_nI (by omega) (by omega)) dL_law_29 ?_
    refine lv_is (y := y0) (by rw [nI_clamp (by omega)]; exact hy0.symm) ?_
    refine lv_bipush (v := 63) hx hb dL_law_30 (by decide) ?_
    refine lv_iand hx hb dL_law_32 ?_
    refine lv_topi (fun z_3 ez_3 => ?_)
    have iz_3 : 0 ≤ z_3.toInt ∧ z_3.toInt ≤ 63 := andI ez_3 (by decide) (by decide)
    have c_4 : (z_3.toInt < 0 ∨ 39 < z_3.toInt) ∨ z_3 = 0 ∨ z_3 = 1 ∨ z_3 = 2 ∨ z_3 = 3 ∨ z_3 = 4 ∨ z_3 = 5 ∨ z_3 = 6 ∨ z_3 = 7 ∨ z_3 = 8 ∨ z_3 = 9 ∨ z_3 = 10 ∨ z_3 = 11 ∨ z_3 = 12 ∨ z_3 = 13 ∨ z_3 = 14 ∨ z_3 = 15 ∨ z_3 = 16 ∨ z_3 = 17 ∨ z_3 = 18 ∨ z_3 = 19 ∨ z_3 = 20 ∨ z_3 = 21 ∨ z_3 = 22 ∨ z_3 = 23 ∨ z_3 = 24 ∨ z_3 = 25 ∨ z_3 = 26 ∨ z_3 = 27 ∨ z_3 = 28 ∨ z_3 = 29 ∨ z_3 = 30 ∨ z_3 = 31 ∨ z_3 = 32 ∨ z_3 = 33 ∨ z_3 = 34 ∨ z_3 = 35 ∨ z_3 = 36 ∨ z_3 = 37 ∨ z_3 = 38 ∨ z_3 = 39 := by
      rcases (show (z_3.toInt < 0 ∨ 39 < z_3.toInt) ∨ z_3.toInt = 0 ∨ z_3.toInt = 1 ∨ z_3.toInt = 2 ∨ z_3.toInt = 3 ∨ z_3.toInt = 4 ∨ z_3.toInt = 5 ∨ z_3.toInt = 6 ∨ z_3.toInt = 7 ∨ z_3.toInt = 8 ∨ z_3.toInt = 9 ∨ z_3.toInt = 10 ∨ z_3.toInt = 11 ∨ z_3.toInt = 12 ∨ z_3.toInt = 13 ∨ z_3.toInt = 14 ∨ z_3.toInt = 15 ∨ z_3.toInt = 16 ∨ z_3.toInt = 17 ∨ z_3.toInt = 18 ∨ z_3.toInt = 19 ∨ z_3.toInt = 20 ∨ z_3.toInt = 21 ∨ z_3.toInt = 22 ∨ z_3.toInt = 23 ∨ z_3.toInt = 24 ∨ z_3.toInt = 25 ∨ z_3.toInt = 26 ∨ z_3.toInt = 27 ∨ z_3.toInt = 28 ∨ z_3.toInt = 29 ∨ z_3.toInt = 30 ∨ z_3.toInt = 31 ∨ z_3.toInt = 32 ∨ z_3.toInt = 33 ∨ z_3.toInt = 34 ∨ z_3.toInt = 35 ∨ z_3.toInt = 36 ∨ z_3.toInt = 37 ∨ z_3.toInt = 38 ∨ z_3.toInt = 39 from by omega) with h | h | h | h | h | h | h | h | h | h | h | h | h | h | h | h | h | h | h | h | h | h | h | h | h | h | h | h | h | h | h | h | h | h | h | h | h | h | h | h | h
      · exact Or.inl h
      · exact Or.inr (Or.inl (i32_is (h.trans (by decide))))
      · exact Or.inr (Or.inr (Or.inl (i32_is (h.trans (by decide)))))
      · exact Or.inr (Or.inr (Or.inr (Or.inl (i32_is (h.trans (by decide))))))
      · exact Or.inr (Or.inr (Or.inr (Or.inr (Or.inl (i32_is (h.trans (by decide)))))))
      · exact Or.inr (Or.inr (Or.inr (Or.inr (Or.inr (Or.inl (i32_is (h.trans (by decide))))))))
      · exact Or.inr (Or.inr (Or.inr (Or.inr (Or.inr (Or.inr (Or.inl (i32_is (h.trans (by decide)))))))))
      · exact Or.inr (Or.inr (Or.inr (Or.inr (Or.inr (Or.inr (Or.inr (Or.inl (i32_is (h.trans (by decide))))))))))
      · exact Or.inr (Or.inr (Or.inr (Or.inr (Or.inr (Or.inr (Or.inr (Or.inr (Or.inl (i32_is (h.trans (by decide)))))))))))
      · exact Or.inr (Or.inr (Or.inr (Or.inr (Or.inr (Or.inr (Or.inr (Or.inr (Or.inr (Or.inl (i32_is (h.trans (by decide))))))))))))
      · exact Or.inr (Or.inr (Or.inr (Or.inr (Or.inr (Or.inr (Or.inr (Or.inr (Or.inr (Or.inr (Or.inl (i32_is (h.trans (by decide)))))))))))))
      · exact Or.inr (Or.inr (Or.inr (Or.inr (Or.inr (Or.inr (Or.inr (Or.inr (Or.inr (Or.inr (Or.inr (Or.inl (i32_is (h.trans (by decide))))))))))))))
      · exact Or.inr (Or.inr (Or.inr (Or.inr (Or.inr (Or.inr (Or.inr (Or.inr (Or.inr (Or.inr (Or.inr (Or.inr (Or.inl (i32_is (h.trans (by decide)))))))))))))))
      · exact Or.inr (Or.inr (Or.inr (Or.inr (Or.inr (Or.inr (Or.inr (Or.inr (Or.inr (Or.inr (Or.inr (Or.inr (Or.inr (Or.inl (i32_is (h.trans (by decide))))))))))))))))
      · exact Or.inr (Or.inr (Or.inr (Or.inr (Or.inr (Or.inr (Or.inr (Or.inr (Or.inr (Or.inr (Or.inr (Or.inr (Or.inr (Or.inr (Or.inl (i32_is (h.trans (by decide)))))))))))))))))
      · exact Or.inr (Or.inr (Or.inr (Or.inr (Or.inr (Or.inr (Or.inr (Or.inr (Or.inr (Or.inr (Or.inr (Or.inr (Or.inr (Or.inr (Or.inr (Or.inl (i32_is (h.trans (by decide))))))))))))))))))
      · exact Or.inr (Or.inr (Or.inr (Or.inr (Or.inr (Or.inr (Or.inr (Or.inr (Or.inr (Or.inr (Or.inr (Or.inr (Or.inr (Or.inr (Or.inr (Or.inr (Or.inl (i32_is (h.trans (by decide)))))))))))))))))))
      · exact Or.inr (Or.inr (Or.inr (Or.inr (Or.inr (Or.inr (Or.inr (Or.inr (Or.inr (Or.inr (Or.inr (Or.inr (Or.inr (Or.inr (Or.inr (Or.inr (Or.inr (Or.inl (i32_is (h.trans (by decide))))))))))))))))))))
      · exact Or.inr (Or.inr (Or.inr (Or.inr (Or.inr (Or.inr (Or.inr (Or.inr (Or.inr (Or.inr (Or.inr (Or.inr (Or.inr (Or.inr (Or.inr (Or.inr (Or.inr (Or.inr (Or.inl (i32_is (h.trans (by decide)))))))))))))))))))))
      · exact Or.inr (Or.inr (Or.inr (Or.inr (Or.inr (Or.inr (Or.inr (Or.inr (Or.inr (Or.inr (Or.inr (Or.inr (Or.inr (Or.inr (Or.inr (Or.inr (Or.inr (Or.inr (Or.inr (Or.inl (i32_is (h.trans (by decide))))))))))))))))))))))
      · exact Or.inr (Or.inr (Or.inr (Or.inr (Or.inr (Or.inr (Or.inr (Or.inr (Or.inr (Or.inr (Or.inr (Or.inr (Or.inr (Or.inr (Or.inr (Or.inr (Or.inr (Or.inr (Or.inr (Or.inr (Or.inl (i32_is (h.trans (by decide)))))))))))))))))))))))
      · exact Or.inr (Or.inr (Or.inr (Or.inr (Or.inr (Or.inr (Or.inr (Or.inr (Or.inr (Or.inr (Or.inr (Or.inr (Or.inr (Or.inr (Or.inr (Or.inr (Or.inr (Or.inr (Or.inr (Or.inr (Or.inr (Or.inl (i32_is (h.trans (by decide))))))))))))))))))))))))
      · exact Or.inr (Or.inr (Or.inr (Or.inr (Or.inr (Or.inr (Or.inr (Or.inr (Or.inr (Or.inr (Or.inr (Or.inr (Or.inr (Or.inr (Or.inr (Or.inr (Or.inr (Or.inr (Or.inr (Or.inr (Or.inr (Or.inr (Or.inl (i32_is (h.trans (by decide)))))))))))))))))))))))))
      · exact Or.inr (Or.inr (Or.inr (Or.inr (Or.inr (Or.inr (Or.inr (Or.inr (Or.inr (Or.inr (Or.inr (Or.inr (Or.inr (Or.inr (Or.inr (Or.inr (Or.inr (Or.inr (Or.inr (Or.inr (Or.inr (Or.inr (Or.inr (Or.inl (i32_is (h.trans (by decide))))))))))))))))))))))))))
      · exact Or.inr (Or.inr (Or.inr (Or.inr (Or.inr (Or.inr (Or.inr (Or.inr (Or.inr (Or.inr (Or.inr (Or.inr (Or.inr (Or.inr (Or.inr (Or.inr (Or.inr (Or.inr (Or.inr (Or.inr (Or.inr (Or.inr (Or.inr (Or.inr (Or.inl (i32_is (h.trans (by decide)))))))))))))))))))))))))))
      · exact Or.inr (Or.inr (Or.inr (Or.inr (Or.inr (Or.inr (Or.inr (Or.inr (Or.inr (Or.inr (Or.inr (Or.inr (Or.inr (Or.inr (Or.inr (Or.inr (Or.inr (Or.inr (Or.inr (Or.inr (Or.inr (Or.inr (Or.inr (Or.inr (Or.inr (Or.inl (i32_is (h.trans (by decide))))))))))))))))))))))))))))
      · exact Or.inr (Or.inr (Or.inr (Or.inr (Or.inr (Or.inr (Or.inr (Or.inr (Or.inr (Or.inr (Or.inr (Or.inr (Or.inr (Or.inr (Or.inr (Or.inr (Or.inr (Or.inr (Or.inr (Or.inr (Or.inr (Or.inr (Or.inr (Or.inr (Or.inr (Or.inr (Or.inl (i32_is (h.trans (by decide)))))))))))))))))))))))))))))
      · exact Or.inr (Or.inr (Or.inr (Or.inr (Or.inr (Or.inr (Or.inr (Or.inr (Or.inr (Or.inr (Or.inr (Or.inr (Or.inr (Or.inr (Or.inr (Or.inr (Or.inr (Or.inr (Or.inr (Or.inr (Or.inr (Or.inr (Or.inr (Or.inr (Or.inr (Or.inr (Or.inr (Or.inl (i32_is (h.trans (by decide))))))))))))))))))))))))))))))
      · exact Or.inr (Or.inr (Or.inr (Or.inr (Or.inr (Or.inr (Or.inr (Or.inr (Or.inr (Or.inr (Or.inr (Or.inr (Or.inr (Or.inr (Or.inr (Or.inr (Or.inr (Or.inr (Or.inr (Or.inr (Or.inr (Or.inr (Or.inr (Or.inr (Or.inr (Or.inr (Or.inr (Or.inr (Or.inl (i32_is (h.trans (by decide)))))))))))))))))))))))))))))))
      · exact Or.inr (Or.inr (Or.inr (Or.inr (Or.inr (Or.inr (Or.inr (Or.inr (Or.inr (Or.inr (Or.inr (Or.inr (Or.inr (Or.inr (Or.inr (Or.inr (Or.inr (Or.inr (Or.inr (Or.inr (Or.inr (Or.inr (Or.inr (Or.inr (Or.inr (Or.inr (Or.inr (Or.inr (Or.inr (Or.inl (i32_is (h.trans (by decide))))))))))))))))))))))))))))))))
      · exact Or.inr (Or.inr (Or.inr (Or.inr (Or.inr (Or.inr (Or.inr (Or.inr (Or.inr (Or.inr (Or.inr (Or.inr (Or.inr (Or.inr (Or.inr (Or.inr (Or.inr (Or.inr (Or.inr (Or.inr (Or.inr (Or.inr (Or.inr (Or.inr (Or.inr (Or.inr (Or.inr (Or.inr (Or.inr (Or.inr (Or.inl (i32_is (h.trans (by decide)))))))))))))))))))))))))))))))))
      · exact Or.inr (Or.inr (Or.inr (Or.inr (Or.inr (Or.inr (Or.inr (Or.inr (Or.inr (Or.inr (Or.inr (Or.inr (Or.inr (Or.inr (Or.inr (Or.inr (Or.inr (Or.inr (Or.inr (Or.inr (Or.inr (Or.inr (Or.inr (Or.inr (Or.inr (Or.inr (Or.inr (Or.inr (Or.inr (Or.inr (Or.inr (Or.inl (i32_is (h.trans (by decide))))))))))))))))))))))))))))))))))
      · exact Or.inr (Or.inr (Or.inr (Or.inr (Or.inr (Or.inr (Or.inr (Or.inr (Or.inr (Or.inr (Or.inr (Or.inr (Or.inr (Or.inr (Or.inr (Or.inr (Or.inr (Or.inr (Or.inr (Or.inr (Or.inr (Or.inr (Or.inr (Or.inr (Or.inr (Or.inr (Or.inr (Or.inr (Or.inr (Or.inr (Or.inr (Or.inr (Or.inl (i32_is (h.trans (by decide)))))))))))))))))))))))))))))))))))
      · exact Or.inr (Or.inr (Or.inr (Or.inr (Or.inr (Or.inr (Or.inr (Or.inr (Or.inr (Or.inr (Or.inr (Or.inr (Or.inr (Or.inr (Or.inr (Or.inr (Or.inr (Or.inr (Or.inr (Or.inr (Or.inr (Or.inr (Or.inr (Or.inr (Or.inr (Or.inr (Or.inr (Or.inr (Or.inr (Or.inr (Or.inr (Or.inr (Or.inr (Or.inl (i32_is (h.trans (by decide))))))))))))))))))))))))))))))))))))
      · exact Or.inr (Or.inr (Or.inr (Or.inr (Or.inr (Or.inr (Or.inr (Or.inr (Or.inr (Or.inr (Or.inr (Or.inr (Or.inr (Or.inr (Or.inr (Or.inr (Or.inr (Or.inr (Or.inr (Or.inr (Or.inr (Or.inr (Or.inr (Or.inr (Or.inr (Or.inr (Or.inr (Or.inr (Or.inr (Or.inr (Or.inr (Or.inr (Or.inr (Or.inr (Or.inl (i32_is (h.trans (by decide)))))))))))))))))))))))))))))))))))))
      · exact Or.inr (Or.inr (Or.inr (Or.inr (Or.inr (Or.inr (Or.inr (Or.inr (Or.inr (Or.inr (Or.inr (Or.inr (Or.inr (Or.inr (Or.inr (Or.inr (Or.inr (Or.inr (Or.inr (Or.inr (Or.inr (Or.inr (Or.inr (Or.inr (Or.inr (Or.inr (Or.inr (Or.inr (Or.inr (Or.inr (Or.inr (Or.inr (Or.inr (Or.inr (Or.inr (Or.inl (i32_is (h.trans (by decide))))))))))))))))))))))))))))))))))))))
      · exact Or.inr (Or.inr (Or.inr (Or.inr (Or.inr (Or.inr (Or.inr (Or.inr (Or.inr (Or.inr (Or.inr (Or.inr (Or.inr (Or.inr (Or.inr (Or.inr (Or.inr (Or.inr (Or.inr (Or.inr (Or.inr (Or.inr (Or.inr (Or.inr (Or.inr (Or.inr (Or.inr (Or.inr (Or.inr (Or.inr (Or.inr (Or.inr (Or.inr (Or.inr (Or.inr (Or.inr (Or.inl (i32_is (h.trans (by decide)))))))))))))))))))))))))))))))))))))))
      · exact Or.inr (Or.inr (Or.inr (Or.inr (Or.inr (Or.inr (Or.inr (Or.inr (Or.inr (Or.inr (Or.inr (Or.inr (Or.inr (Or.inr (Or.inr (Or.inr (Or.inr (Or.inr (Or.inr (Or.inr (Or.inr (Or.inr (Or.inr (Or.inr (Or.inr (Or.inr (Or.inr (Or.inr (Or.inr (Or.inr (Or.inr (Or.inr (Or.inr (Or.inr (Or.inr (Or.inr (Or.inr (Or.inl (i32_is (h.trans (by decide))))))))))))))))))))))))))))))))))))))))
      · exact Or.inr (Or.inr (Or.inr (Or.inr (Or.inr (Or.inr (Or.inr (Or.inr (Or.inr (Or.inr (Or.inr (Or.inr (Or.inr (Or.inr (Or.inr (Or.inr (Or.inr (Or.inr (Or.inr (Or.inr (Or.inr (Or.inr (Or.inr (Or.inr (Or.inr (Or.inr (Or.inr (Or.inr (Or.inr (Or.inr (Or.inr (Or.inr (Or.inr (Or.inr (Or.inr (Or.inr (Or.inr (Or.inr (Or.inl (i32_is (h.trans (by decide)))))))))))))))))))))))))))))))))))))))))
      · exact Or.inr (Or.inr (Or.inr (Or.inr (Or.inr (Or.inr (Or.inr (Or.inr (Or.inr (Or.inr (Or.inr (Or.inr (Or.inr (Or.inr (Or.inr (Or.inr (Or.inr (Or.inr (Or.inr (Or.inr (Or.inr (Or.inr (Or.inr (Or.inr (Or.inr (Or.inr (Or.inr (Or.inr (Or.inr (Or.inr (Or.inr (Or.inr (Or.inr (Or.inr (Or.inr (Or.inr (Or.inr (Or.inr (Or.inr (Or.inl (i32_is (h.trans (by decide))))))))))))))))))))))))))))))))))))))))))
      · exact Or.inr (Or.inr (Or.inr (Or.inr (Or.inr (Or.inr (Or.inr (Or.inr (Or.inr (Or.inr (Or.inr (Or.inr (Or.inr (Or.inr (Or.inr (Or.inr (Or.inr (Or.inr (Or.inr (Or.inr (Or.inr (Or.inr (Or.inr (Or.inr (Or.inr (Or.inr (Or.inr (Or.inr (Or.inr (Or.inr (Or.inr (Or.inr (Or.inr (Or.inr (Or.inr (Or.inr (Or.inr (Or.inr (Or.inr (Or.inr (i32_is (h.trans (by decide))))))))))))))))))))))))))))))))))))))))))
    rcases c_4 with c_4 | c_4 | c_4 | c_4 | c_4 | c_4 | c_4 | c_4 | c_4 | c_4 | c_4 | c_4 | c_4 | c_4 | c_4 | c_4 | c_4 | c_4 | c_4 | c_4 | c_4 | c_4 | c_4 | c_4 | c_4 | c_4 | c_4 | c_4 | c_4 | c_4 | c_4 | c_4 | c_4 | c_4 | c_4 | c_4 | c_4 | c_4 | c_4 | c_4 | c_4
    · refine lv_tableOut (tgt := 1454) hx hb dL_law_33 c_4 (by decide) ?_
      exact lc_next hx hb hr hml hown htg hK hN hX hbl hlk hA hAq hbA hL o1 o2 q g k9 (ih (by omega)) hI hS (lv_sub hl [0, 1, 2, 3] rfl)
    · have ic_4 : z_3.toInt = 0 := ieq c_4 rfl (by decide)
      refine lv_is (y := 0) c_4 ?_
      refine lv_tableIn (off := 175) (tgt := 208) hx hb dL_law_33 (by decide) (by decide) (by decide) (by decide) ?_
      exact lc_0 hx hb hr hml hown htg hK hN hX hbl hlk hA hAq hbA hL o1 o2 q g k9 (by omega) (ih (by omega)) _ _ _ _ _ rfl rfl rfl rfl rfl hI hS (lv_sub hl [0, 1, 2, 3] rfl)
    · have ic_4 : z_3.toInt = 1 := ieq c_4 rfl (by decide)
      refine lv_is (y := 1) c_4 ?_
      refine lv_tableIn (off := 238) (tgt := 271) hx hb dL_law_33 (by decide) (by decide) (by decide) (by decide) ?_
      exact lc_1 hx hb hr hml hown htg hK hN hX hbl hlk hA hAq hbA hL o1 o2 q g k9 (by omega) (ih (by omega)) _ _ _ _ _ rfl rfl rfl rfl rfl hI hS (lv_sub hl [0, 1, 2, 3] rfl)
    · have ic_4 : z_3.toInt = 2 := ieq c_4 rfl (by decide)
      refine lv_is (y := 2) c_4 ?_
      refine lv_tableIn (off := 261) (tgt := 294) hx hb dL_law_33 (by decide) (by decide) (by decide) (by decide) ?_
      exact lc_2 hx hb hr hml hown htg hK hN hX hbl hlk hA hAq hbA hL o1 o2 q g k9 (by omega) (ih (by omega)) _ _ _ _ _ rfl rfl rfl rfl rfl hI hS (lv_sub hl [0, 1, 2, 3] rfl)
    · have ic_4 : z_3.toInt = 3 := ieq c_4 rfl (by decide)
      refine lv_is (y := 3) c_4 ?_
      refine lv_tableIn (off := 284) (tgt := 317) hx hb dL_law_33 (by decide) (by decide) (by decide) (by decide) ?_
      exact lc_3 hx hb hr hml hown htg hK hN hX hbl hlk hA hAq hbA hL o1 o2 q g k9 (by omega) (ih (by omega)) _ _ _ _ _ rfl rfl rfl rfl rfl hI hS (lv_sub hl [0, 1, 2, 3] rfl)
    · have ic_4 : z_3.toInt = 4 := ieq c_4 rfl (by decide)
      refine lv_is (y := 4) c_4 ?_
      refine lv_tableIn (off := 317) (tgt := 350) hx hb dL_law_33 (by decide) (by decide) (by decide) (by decide) ?_
      exact lc_4 hx hb hr hml hown htg hK hN hX hbl hlk hA hAq hbA hL o1 o2 q g k9 (by omega) (ih (by omega)) _ _ _ _ _ rfl rfl rfl rfl rfl hI hS (lv_sub hl [0, 1, 2, 3] rfl)
    · have ic_4 : z_3.toInt = 5 := ieq c_4 rfl (by decide)
      refine lv_is (y := 5) c_4 ?_
      refine lv_tableIn (off := 350) (tgt := 383) hx hb dL_law_33 (by decide) (by decide) (by decide) (by decide) ?_
      exact lc_5 hx hb hr hml hown htg hK hN hX hbl hlk hA hAq hbA hL o1 o2 q g k9 (by omega) (ih (by omega)) _ _ _ _ _ rfl rfl rfl rfl rfl hI hS (lv_sub hl [0, 1, 2, 3] rfl)
    · have ic_4 : z_3.toInt = 6 := ieq c_4 rfl (by decide)
      refine lv_is (y := 6) c_4 ?_
      refine lv_tableIn (off := 383) (tgt := 416) hx hb dL_law_33 (by decide) (by decide) (by decide) (by decide) ?_
      exact lc_6 hx hb hr hml hown htg hK hN hX hbl hlk hA hAq hbA hL o1 o2 q g k9 (by omega) (ih (by omega)) _ _ _ _ _ rfl rfl rfl rfl rfl hI hS (lv_sub hl [0, 1, 2, 3] rfl)
    · have ic_4 : z_3.toInt = 7 := ieq c_4 rfl (by decide)
      refine lv_is (y := 7) c_4 ?_
      refine lv_tableIn (off := 406) (tgt := 439) hx hb dL_law_33 (by decide) (by decide) (by decide) (by decide) ?_
      exact lc_7 hx hb hr hml hown htg hK hN hX hbl hlk hA hAq hbA hL o1 o2 q g k9 (by omega) (ih (by omega)) _ _ _ _ _ rfl rfl rfl rfl rfl hI hS (lv_sub hl [0, 1, 2, 3] rfl)
    · have ic_4 : z_3.toInt = 8 := ieq c_4 rfl (by decide)
      refine lv_is (y := 8) c_4 ?_
      refine lv_tableIn (off := 429) (tgt := 462) hx hb dL_law_33 (by decide) (by decide) (by decide) (by decide) ?_
      exact lc_8 hx hb hr hml hown htg hK hN hX hbl hlk hA hAq hbA hL o1 o2 q g k9 (by omega) (ih (by omega)) _ _ _ _ _ rfl rfl rfl rfl rfl hI hS (lv_sub hl [0, 1, 2, 3] rfl)
    · have ic_4 : z_3.toInt = 9 := ieq c_4 rfl (by decide)
      refine lv_is (y := 9) c_4 ?_
      refine lv_tableIn (off := 462) (tgt := 495) hx hb dL_law_33 (by decide) (by decide) (by decide) (by decide) ?_
      exact lc_9 hx hb hr hml hown htg hK hN hX hbl hlk hA hAq hbA hL o1 o2 q g k9 (by omega) (ih (by omega)) _ _ _ _ _ rfl rfl rfl rfl rfl hI hS (lv_sub hl [0, 1, 2, 3] rfl)
    · have ic_4 : z_3.toInt = 10 := ieq c_4 rfl (by decide)
      refine lv_is (y := 10) c_4 ?_
      refine lv_tableIn (off := 511) (tgt := 544) hx hb dL_law_33 (by decide) (by decide) (by decide) (by decide) ?_
      exact lc_10 hx hb hr hml hown htg hK hN hX hbl hlk hA hAq hbA hL o1 o2 q g k9 (by omega) (ih (by omega)) _ _ _ _ _ rfl rfl rfl rfl rfl hI hS (lv_sub hl [0, 1, 2, 3] rfl)
    · have ic_4 : z_3.toInt = 11 := ieq c_4 rfl (by decide)
      refine lv_is (y := 11) c_4 ?_
      refine lv_tableIn (off := 534) (tgt := 567) hx hb dL_law_33 (by decide) (by decide) (by decide) (by decide) ?_
      exact lc_11 hx hb hr hml hown htg hK hN hX hbl hlk hA hAq hbA hL o1 o2 q g k9 (by omega) (ih (by omega)) _ _ _ _ _ rfl rfl rfl rfl rfl hI hS (lv_sub hl [0, 1, 2, 3] rfl)
    · have ic_4 : z_3.toInt = 12 := ieq c_4 rfl (by decide)
      refine lv_is (y := 12) c_4 ?_
      refine lv_tableIn (off := 557) (tgt := 590) hx hb dL_law_33 (by decide) (by decide) (by decide) (by decide) ?_
      exact lc_12 hx hb hr hml hown htg hK hN hX hbl hlk hA hAq hbA hL o1 o2 q g k9 (by omega) (ih (by omega)) _ _ _ _ _ rfl rfl rfl rfl rfl hI hS (lv_sub hl [0, 1, 2, 3] rfl)
    · have ic_4 : z_3.toInt = 13 := ieq c_4 rfl (by decide)
      refine lv_is (y := 13) c_4 ?_
      refine lv_tableIn (off := 580) (tgt := 613) hx hb dL_law_33 (by decide) (by decide) (by decide) (by decide) ?_
      exact lc_13 hx hb hr hml hown htg hK hN hX hbl hlk hA hAq hbA hL o1 o2 q g k9 (by omega) (ih (by omega)) _ _ _ _ _ rfl rfl rfl rfl rfl hI hS (lv_sub hl [0, 1, 2, 3] rfl)
    · have ic_4 : z_3.toInt = 14 := ieq c_4 rfl (by decide)
      refine lv_is (y := 14) c_4 ?_
      refine lv_tableIn (off := 613) (tgt := 646) hx hb dL_law_33 (by decide) (by decide) (by decide) (by decide) ?_
      exact lc_14 hx hb hr hml hown htg hK hN hX hbl hlk hA hAq hbA hL o1 o2 q g k9 (by omega) (ih (by omega)) _ _ _ _ _ rfl rfl rfl rfl rfl hI hS (lv_sub hl [0, 1, 2, 3] rfl)
    · have ic_4 : z_3.toInt = 15 := ieq c_4 rfl (by decide)
      refine lv_is (y := 15) c_4 ?_
      refine lv_tableIn (off := 636) (tgt := 669) hx hb dL_law_33 (by decide) (by decide) (by decide) (by decide) ?_
      exact lc_15 hx hb hr hml hown htg hK hN hX hbl hlk hA hAq hbA hL o1 o2 q g k9 (by omega) (ih (by omega)) _ _ _ _ _ rfl rfl rfl rfl rfl hI hS (lv_sub hl [0, 1, 2, 3] rfl)
    · have ic_4 : z_3.toInt = 16 := ieq c_4 rfl (by decide)
      refine lv_is (y := 16) c_4 ?_
      refine lv_tableIn (off := 659) (tgt := 692) hx hb dL_law_33 (by decide) (by decide) (by decide) (by decide) ?_
      exact lc_16 hx hb hr hml hown htg hK hN hX hbl hlk hA hAq hbA hL o1 o2 q g k9 (by omega) (ih (by omega)) _ _ _ _ _ rfl rfl rfl rfl rfl hI hS (lv_sub hl [0, 1, 2, 3] rfl)
    · have ic_4 : z_3.toInt = 17 := ieq c_4 rfl (by decide)
      refine lv_is (y := 17) c_4 ?_
      refine lv_tableIn (off := 692) (tgt := 725) hx hb dL_law_33 (by decide) (by decide) (by decide) (by decide) ?_
      exact lc_17 hx hb hr hml hown htg hK hN hX hbl hlk hA hAq hbA hL o1 o2 q g k9 (by omega) (ih (by omega)) _ _ _ _ _ rfl rfl rfl rfl rfl hI hS (lv_sub hl [0, 1, 2, 3] rfl)
    · have ic_4 : z_3.toInt = 18 := ieq c_4 rfl (by decide)
      refine lv_is (y := 18) c_4 ?_
      refine lv_tableIn (off := 735) (tgt := 768) hx hb dL_law_33 (by decide) (by decide) (by decide) (by decide) ?_
      exact lc_18 hx hb hr hml hown htg hK hN hX hbl hlk hA hAq hbA hL o1 o2 q g k9 (by omega) (ih (by omega)) _ _ _ _ _ rfl rfl rfl rfl rfl hI hS (lv_sub hl [0, 1, 2, 3] rfl)
    · have ic_4 : z_3.toInt = 19 := ieq c_4 rfl (by decide)
      refine lv_is (y := 19) c_4 ?_
      refine lv_tableIn (off := 768) (tgt := 801) hx hb dL_law_33 (by decide) (by decide) (by decide) (by decide) ?_
      exact lc_19 hx hb hr hml hown htg hK hN hX hbl hlk hA hAq hbA hL o1 o2 q g k9 (by omega) (ih (by omega)) _ _ _ _ _ rfl rfl rfl rfl rfl hI hS (lv_sub hl [0, 1, 2, 3] rfl)
    · have ic_4 : z_3.toInt = 20 := ieq c_4 rfl (by decide)
      refine lv_is (y := 20) c_4 ?_
      refine lv_tableIn (off := 801) (tgt := 834) hx hb dL_law_33 (by decide) (by decide) (by decide) (by decide) ?_
      exact lc_20 hx hb hr hml hown htg hK hN hX hbl hlk hA hAq hbA hL o1 o2 q g k9 (by omega) (ih (by omega)) _ _ _ _ _ rfl rfl rfl rfl rfl hI hS (lv_sub hl [0, 1, 2, 3] rfl)
    · have ic_4 : z_3.toInt = 21 := ieq c_4 rfl (by decide)
      refine lv_is (y := 21) c_4 ?_
      refine lv_tableIn (off := 834) (tgt := 867) hx hb dL_law_33 (by decide) (by decide) (by decide) (by decide) ?_
      exact lc_21 hx hb hr hml hown htg hK hN hX hbl hlk hA hAq hbA hL o1 o2 q g k9 (by omega) (ih (by omega)) _ _ _ _ _ rfl rfl rfl rfl rfl hI hS (lv_sub hl [0, 1, 2, 3] rfl)
    · have ic_4 : z_3.toInt = 22 := ieq c_4 rfl (by decide)
      refine lv_is (y := 22) c_4 ?_
      refine lv_tableIn (off := 877) (tgt := 910) hx hb dL_law_33 (by decide) (by decide) (by decide) (by decide) ?_
      exact lc_22 hx hb hr hml hown htg hK hN hX hbl hlk hA hAq hbA hL o1 o2 q g k9 (by omega) (ih (by omega)) _ _ _ _ _ rfl rfl rfl rfl rfl hI hS (lv_sub hl [0, 1, 2, 3] rfl)
    · have ic_4 : z_3.toInt = 23 := ieq c_4 rfl (by decide)
      refine lv_is (y := 23) c_4 ?_
      refine lv_tableIn (off := 910) (tgt := 943) hx hb dL_law_33 (by decide) (by decide) (by decide) (by decide) ?_
      exact lc_23 hx hb hr hml hown htg hK hN hX hbl hlk hA hAq hbA hL o1 o2 q g k9 (by omega) (ih (by omega)) _ _ _ _ _ rfl rfl rfl rfl rfl hI hS (lv_sub hl [0, 1, 2, 3] rfl)
    · have ic_4 : z_3.toInt = 24 := ieq c_4 rfl (by decide)
      refine lv_is (y := 24) c_4 ?_
      refine lv_tableIn (off := 943) (tgt := 976) hx hb dL_law_33 (by decide) (by decide) (by decide) (by decide) ?_
      exact lc_24 hx hb hr hml hown htg hK hN hX hbl hlk hA hAq hbA hL o1 o2 q g k9 (by omega) (ih (by omega)) _ _ _ _ _ rfl rfl rfl rfl rfl hI hS (lv_sub hl [0, 1, 2, 3] rfl)
    · have ic_4 : z_3.toInt = 25 := ieq c_4 rfl (by decide)
      refine lv_is (y := 25) c_4 ?_
      refine lv_tableIn (off := 976) (tgt := 1009) hx hb dL_law_33 (by decide) (by decide) (by decide) (by decide) ?_
      exact lc_25 hx hb hr hml hown htg hK hN hX hbl hlk hA hAq hbA hL o1 o2 q g k9 (by omega) (ih (by omega)) _ _ _ _ _ rfl rfl rfl rfl rfl hI hS (lv_sub hl [0, 1, 2, 3] rfl)
    · have ic_4 : z_3.toInt = 26 := ieq c_4 rfl (by decide)
      refine lv_is (y := 26) c_4 ?_
      refine lv_tableIn (off := 999) (tgt := 1032) hx hb dL_law_33 (by decide) (by decide) (by decide) (by decide) ?_
      exact lc_26 hx hb hr hml hown htg hK hN hX hbl hlk hA hAq hbA hL o1 o2 q g k9 (by omega) (ih (by omega)) _ _ _ _ _ rfl rfl rfl rfl rfl hI hS (lv_sub hl [0, 1, 2, 3] rfl)
    · have ic_4 : z_3.toInt = 27 := ieq c_4 rfl (by decide)
      refine lv_is (y := 27) c_4 ?_
      refine lv_tableIn (off := 1012) (tgt := 1045) hx hb dL_law_33 (by decide) (by decide) (by decide) (by decide) ?_
      exact lc_27 hx hb hr hml hown htg hK hN hX hbl hlk hA hAq hbA hL o1 o2 q g k9 (by omega) (ih (by omega)) _ _ _ _ _ rfl rfl rfl rfl rfl hI hS (lv_sub hl [0, 1, 2, 3] rfl)
    · have ic_4 : z_3.toInt = 28 := ieq c_4 rfl (by decide)
      refine lv_is (y := 28) c_4 ?_
      refine lv_tableIn (off := 1035) (tgt := 1068) hx hb dL_law_33 (by decide) (by decide) (by decide) (by decide) ?_
      exact lc_28 hx hb hr hml hown htg hK hN hX hbl hlk hA hAq hbA hL o1 o2 q g k9 (by omega) (ih (by omega)) _ _ _ _ _ rfl rfl rfl rfl rfl hI hS (lv_sub hl [0, 1, 2, 3] rfl)
    · have ic_4 : z_3.toInt = 29 := ieq c_4 rfl (by decide)
      refine lv_is (y := 29) c_4 ?_
      refine lv_tableIn (off := 1058) (tgt := 1091) hx hb dL_law_33 (by decide) (by decide) (by decide) (by decide) ?_
      exact lc_29 hx hb hr hml hown htg hK hN hX hbl hlk hA hAq hbA hL o1 o2 q g k9 (by omega) (ih (by omega)) _ _ _ _ _ rfl rfl rfl rfl rfl hI hS (lv_sub hl [0, 1, 2, 3] rfl)
    · have ic_4 : z_3.toInt = 30 := ieq c_4 rfl (by decide)
      refine lv_is (y := 30) c_4 ?_
      refine lv_tableIn (off := 1081) (tgt := 1114) hx hb dL_law_33 (by decide) (by decide) (by decide) (by decide) ?_
      exact lc_30 hx hb hr hml hown htg hK hN hX hbl hlk hA hAq hbA hL o1 o2 q g k9 (by omega) (ih (by omega)) _ _ _ _ _ rfl rfl rfl rfl rfl hI hS (lv_sub hl [0, 1, 2, 3] rfl)
    · have ic_4 : z_3.toInt = 31 := ieq c_4 rfl (by decide)
      refine lv_is (y := 31) c_4 ?_
      refine lv_tableIn (off := 1114) (tgt := 1147) hx hb dL_law_33 (by decide) (by decide) (by decide) (by decide) ?_
      exact lc_31 hx hb hr hml hown htg hK hN hX hbl hlk hA hAq hbA hL o1 o2 q g k9 (by omega) (ih (by omega)) _ _ _ _ _ rfl rfl rfl rfl rfl hI hS (lv_sub hl [0, 1, 2, 3] rfl)
    · have ic_4 : z_3.toInt = 32 := ieq c_4 rfl (by decide)
      refine lv_is (y := 32) c_4 ?_
      refine lv_tableIn (off := 1147) (tgt := 1180) hx hb dL_law_33 (by decide) (by decide) (by decide) (by decide) ?_
      exact lc_32 hx hb hr hml hown htg hK hN hX hbl hlk hA hAq hbA hL o1 o2 q g k9 (by omega) (ih (by omega)) _ _ _ _ _ rfl rfl rfl rfl rfl hI hS (lv_sub hl [0, 1, 2, 3] rfl)
    · have ic_4 : z_3.toInt = 33 := ieq c_4 rfl (by decide)
      refine lv_is (y := 33) c_4 ?_
      refine lv_tableIn (off := 1180) (tgt := 1213) hx hb dL_law_33 (by decide) (by decide) (by decide) (by decide) ?_
      exact lc_33 hx hb hr hml hown htg hK hN hX hbl hlk hA hAq hbA hL o1 o2 q g k9 (by omega) (ih (by omega)) _ _ _ _ _ rfl rfl rfl rfl rfl hI hS (lv_sub hl [0, 1, 2, 3] rfl)
    · have ic_4 : z_3.toInt = 34 := ieq c_4 rfl (by decide)
      refine lv_is (y := 34) c_4 ?_
      refine lv_tableIn (off := 1213) (tgt := 1246) hx hb dL_law_33 (by decide) (by decide) (by decide) (by decide) ?_
      exact lc_34 hx hb hr hml hown htg hK hN hX hbl hlk hA hAq hbA hL o1 o2 q g k9 (by omega) (ih (by omega)) _ _ _ _ _ rfl rfl rfl rfl rfl hI hS (lv_sub hl [0, 1, 2, 3] rfl)
    · have ic_4 : z_3.toInt = 35 := ieq c_4 rfl (by decide)
      refine lv_is (y := 35) c_4 ?_
      refine lv_tableIn (off := 1256) (tgt := 1289) hx hb dL_law_33 (by decide) (by decide) (by decide) (by decide) ?_
      exact lc_35 hx hb hr hml hown htg hK hN hX hbl hlk hA hAq hbA hL o1 o2 q g k9 (by omega) (ih (by omega)) _ _ _ _ _ rfl rfl rfl rfl rfl hI hS (lv_sub hl [0, 1, 2, 3] rfl)
    · have ic_4 : z_3.toInt = 36 := ieq c_4 rfl (by decide)
      refine lv_is (y := 36) c_4 ?_
      refine lv_tableIn (off := 1329) (tgt := 1362) hx hb dL_law_33 (by decide) (by decide) (by decide) (by decide) ?_
      exact lc_36 hx hb hr hml hown htg hK hN hX hbl hlk hA hAq hbA hL o1 o2 q g k9 (by omega) (ih (by omega)) _ _ _ _ _ rfl rfl rfl rfl rfl hI hS (lv_sub hl [0, 1, 2, 3] rfl)
    · have ic_4 : z_3.toInt = 37 := ieq c_4 rfl (by decide)
      refine lv_is (y := 37) c_4 ?_
      refine lv_tableIn (off := 1352) (tgt := 1385) hx hb dL_law_33 (by decide) (by decide) (by decide) (by decide) ?_
      exact lc_37 hx hb hr hml hown htg hK hN hX hbl hlk hA hAq hbA hL o1 o2 q g k9 (by omega) (ih (by omega)) _ _ _ _ _ rfl rfl rfl rfl rfl hI hS (lv_sub hl [0, 1, 2, 3] rfl)
    · have ic_4 : z_3.toInt = 38 := ieq c_4 rfl (by decide)
      refine lv_is (y := 38) c_4 ?_
      refine lv_tableIn (off := 1375) (tgt := 1408) hx hb dL_law_33 (by decide) (by decide) (by decide) (by decide) ?_
      exact lc_38 hx hb hr hml hown htg hK hN hX hbl hlk hA hAq hbA hL o1 o2 q g k9 (by omega) (ih (by omega)) _ _ _ _ _ rfl rfl rfl rfl rfl hI hS (lv_sub hl [0, 1, 2, 3] rfl)
    · have ic_4 : z_3.toInt = 39 := ieq c_4 rfl (by decide)
      refine lv_is (y := 39) c_4 ?_
      refine lv_tableIn (off := 1398) (tgt := 1431) hx hb dL_law_33 (by decide) (by decide) (by decide) (by decide) ?_
      exact lc_39 hx hb hr hml hown htg hK hN hX hbl hlk hA hAq hbA hL o1 o2 q g k9 (by omega) (ih (by omega)) _ _ _ _ _ rfl rfl rfl rfl rfl hI hS (lv_sub hl [0, 1, 2, 3] rfl)
set_option maxHeartbeats 4000000 in
set_option maxRecDepth 100000 in
theorem lc_loop {p : Program} {l : Launch} {e : Env} {s : State} {m : MethodId} {below : List Frame} {meth : Method} {c : Code} {b L : Nat} {xs : Nat → Int32} {D : va_G} {cT : Nat → ClassId} {A : Nat → Prop} (hx : p.tables.exec = Jvm.exec) (hb : c.code = cL_law) (hr : meth.sig.returnType = ret) (hml : c.maxLocals = 4) (hown : s.vm.findClass RL = some m.cls) (htg : ∀ w ∈ gw_T, w.before #[Value.ref b] s = true) (hK : va_K D classes (tysX cT) s) (hN : NX cT A s) (hX : va_X b L xs s s.heap) (hbl : b < s.heap.size) (hlk : meth.locks = false) (hA : ∀ q, s.heap.size ≤ q → A q) (hAq : ∀ q, A q → s.heap.size ≤ q) (hbA : ¬ A b) (hL : L ≤ 3072) (o1 o2 : Nat) (q g : Nat → Nat) : ∀ (n9 k9 : Nat) (H : Heap) (locs : List Loc) (ls : Array Slot), L < 6 * k9 + 6 * n9 → 6 * k9 ≤ L + 6 → LInv D cT A o1 o2 q g H → va_S A s.heap H locs → lv_has ls 4 [(3, .int (nI (6 * k9))), (2, .ref o2), (1, .ref o1), (0, .ref b)] → W p l e room_1 s m #[Value.ref b] below meth c H locs 2000 100000 (lw_Z below #[Value.ref b] s) (F0 m 18 ls []) := by
  intro n9
  induction n9 with
  | zero => intro k9 H locs ls h1 h2 hI hS hl; exact lc_body hx hb hr hml hown htg hK hN hX hbl hlk hA hAq hbA hL o1 o2 q g k9 h2 (fun h => absurd h (by omega)) hI hS hl
  | succ n9 ih9 => intro k9 H locs ls h1 h2 hI hS hl; exact lc_body hx hb hr hml hown htg hK hN hX hbl hlk hA hAq hbA hL o1 o2 q g k9 h2 (fun h H locs ls hI hS hl => ih9 (k9 + 1) H locs ls (by omega) (by omega) hI hS hl) hI hS hl
