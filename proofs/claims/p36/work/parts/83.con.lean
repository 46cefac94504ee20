set_option maxHeartbeats 4000000 in
set_option maxRecDepth 100000 in
theorem m_haltsFor (l : Launch) (D : va_G) (cT : Nat → ClassId) (sz : Nat) (h0 : Nat) (g : Nat → Nat) (b0 : Int32) (b5 : Int32) (b6 : Int32) (b7 : Int32) (b8 : Int32) (b9 : Int32) (b10 : Int32) (b11 : Int32) (b12 : Int32) (b13 : Int32) (b14 : Int32) (b17 : Int32) (b18 : Int32) (b19 : Int32) (b23 : Int32) (b24 : Int32) (b25 : Int32) (b26 : Int32) (b27 : Int32) (b29 : Int32) (b31 : Int32) (b32 : Int32) (b33 : Int32) (hb5 : 0 ≤ b5.toInt ∧ b5.toInt ≤ 900) (a0 : Nat → Int32) (pa0 : PI 288 a0) (a10 : Nat → Int32) (x : Int32) : Met l yX9_haltsFor (wsc yX9_haltsFor cX9_haltsFor 6 (some .int)) { frames := 6, cells := 0, slots := 0, locals := 194 } (va_Pc [.ref h0, .int x] (PX D cT sz [(h0, .inr (9, (.int b0 :: .ref (g 0) :: .ref (g 1) :: .ref (g 2) :: .ref (g 3) :: .int b5 :: .int b6 :: .int b7 :: .int b8 :: .int b9 :: .int b10 :: .int b11 :: .int b12 :: .int b13 :: .int b14 :: .ref (g 4) :: .ref (g 5) :: .int b17 :: .int b18 :: .int b19 :: .ref (g 6) :: .ref (g 7) :: .ref (g 8) :: .int b23 :: .int b24 :: .int b25 :: .int b26 :: .int b27 :: .ref (g 9) :: .int b29 :: .ref (g 10) :: .int b31 :: .int b32 :: .int b33 :: .ref (g 11) :: .ref (g 12) :: .ref (g 13) :: []))), ((g 0), .inl (cT 0, 288, .inl (a0))), ((g 10), .inl (cT 0, 16, .inl (a10)))])) (va_Qi (fun (r : Int32) (u : (Nat → Int32)) => (True)) (fun u t => RW D (va_A [(h0, .inr (9, (.int b0 :: .ref (g 0) :: .ref (g 1) :: .ref (g 2) :: .ref (g 3) :: .int b5 :: .int b6 :: .int b7 :: .int b8 :: .int b9 :: .int b10 :: .int b11 :: .int b12 :: .int b13 :: .int b14 :: .ref (g 4) :: .ref (g 5) :: .int b17 :: .int b18 :: .int b19 :: .ref (g 6) :: .ref (g 7) :: .ref (g 8) :: .int b23 :: .int b24 :: .int b25 :: .int b26 :: .int b27 :: .ref (g 9) :: .int b29 :: .ref (g 10) :: .int b31 :: .int b32 :: .int b33 :: .ref (g 11) :: .ref (g 12) :: .ref (g 13) :: []))), ((g 0), .inl (cT 0, 288, .inl (a0))), ((g 10), .inl (cT 0, 16, .inl (a10)))] sz) ((fun u : (Nat → Int32) => [(h0, .inr (9, (.int b0 :: .ref (g 0) :: .ref (g 1) :: .ref (g 2) :: .ref (g 3) :: .int b5 :: .int b6 :: .int b7 :: .int b8 :: .int b9 :: .int b10 :: .int b11 :: .int b12 :: .int b13 :: .int b14 :: .ref (g 4) :: .ref (g 5) :: .int b17 :: .int b18 :: .int b19 :: .ref (g 6) :: .ref (g 7) :: .ref (g 8) :: .int b23 :: .int b24 :: .int b25 :: .int b26 :: .int b27 :: .ref (g 9) :: .int b29 :: .ref (g 10) :: .int b31 :: .int b32 :: .int b33 :: .ref (g 11) :: .ref (g 12) :: .ref (g 13) :: []))), ((g 0), .inl (cT 0, 288, .inl (a0))), ((g 10), .inl (cT 0, 16, .inl (u)))]) u) t) (va_A [(h0, .inr (9, (.int b0 :: .ref (g 0) :: .ref (g 1) :: .ref (g 2) :: .ref (g 3) :: .int b5 :: .int b6 :: .int b7 :: .int b8 :: .int b9 :: .int b10 :: .int b11 :: .int b12 :: .int b13 :: .int b14 :: .ref (g 4) :: .ref (g 5) :: .int b17 :: .int b18 :: .int b19 :: .ref (g 6) :: .ref (g 7) :: .ref (g 8) :: .int b23 :: .int b24 :: .int b25 :: .int b26 :: .int b27 :: .ref (g 9) :: .int b29 :: .ref (g 10) :: .int b31 :: .int b32 :: .int b33 :: .ref (g 11) :: .ref (g 12) :: .ref (g 13) :: []))), ((g 0), .inl (cT 0, 288, .inl (a0))), ((g 10), .inl (cT 0, 16, .inl (a10)))] sz)) 0 0 (va_A [(h0, .inr (9, (.int b0 :: .ref (g 0) :: .ref (g 1) :: .ref (g 2) :: .ref (g 3) :: .int b5 :: .int b6 :: .int b7 :: .int b8 :: .int b9 :: .int b10 :: .int b11 :: .int b12 :: .int b13 :: .int b14 :: .ref (g 4) :: .ref (g 5) :: .int b17 :: .int b18 :: .int b19 :: .ref (g 6) :: .ref (g 7) :: .ref (g 8) :: .int b23 :: .int b24 :: .int b25 :: .int b26 :: .int b27 :: .ref (g 9) :: .int b29 :: .ref (g 10) :: .int b31 :: .int b32 :: .int b33 :: .ref (g 11) :: .ref (g 12) :: .ref (g 13) :: []))), ((g 0), .inl (cT 0, 288, .inl (a0))), ((g 10), .inl (cT 0, 16, .inl (a10)))] sz) := by
  refine m_of (y := yX9_haltsFor) (cc := cX9_haltsFor) (nL := 6) (ret := (some .int)) (D := D) (cT := cT) (av := [.ref h0, .int x]) (wi := [(h0, .inr (9, (.int b0 :: .ref (g 0) :: .ref (g 1) :: .ref (g 2) :: .ref (g 3) :: .int b5 :: .int b6 :: .int b7 :: .int b8 :: .int b9 :: .int b10 :: .int b11 :: .int b12 :: .int b13 :: .int b14 :: .ref (g 4) :: .ref (g 5) :: .int b17 :: .int b18 :: .int b19 :: .ref (g 6) :: .ref (g 7) :: .ref (g 8) :: .int b23 :: .int b24 :: .int b25 :: .int b26 :: .int b27 :: .ref (g 9) :: .int b29 :: .ref (g 10) :: .int b31 :: .int b32 :: .int b33 :: .ref (g 11) :: .ref (g 12) :: .ref (g 13) :: []))), ((g 0), .inl (cT 0, 288, .inl (a0))), ((g 10), .inl (cT 0, 16, .inl (a10)))]) (fun A => va_Qi (fun (r : Int32) (u : (Nat → Int32)) => (True)) (fun u t => RW D A ((fun u : (Nat → Int32) => [(h0, .inr (9, (.int b0 :: .ref (g 0) :: .ref (g 1) :: .ref (g 2) :: .ref (g 3) :: .int b5 :: .int b6 :: .int b7 :: .int b8 :: .int b9 :: .int b10 :: .int b11 :: .int b12 :: .int b13 :: .int b14 :: .ref (g 4) :: .ref (g 5) :: .int b17 :: .int b18 :: .int b19 :: .ref (g 6) :: .ref (g 7) :: .ref (g 8) :: .int b23 :: .int b24 :: .int b25 :: .int b26 :: .int b27 :: .ref (g 9) :: .int b29 :: .ref (g 10) :: .int b31 :: .int b32 :: .int b33 :: .ref (g 11) :: .ref (g 12) :: .ref (g 13) :: []))), ((g 0), .inl (cT 0, 288, .inl (a0))), ((g 10), .inl (cT 0, 16, .inl (u)))]) u) t) A) (by decide) (Nat.le_of_ble_eq_true rfl) ?_
  intro p e s m below meth c A hx hb hml hown htg hK hN hr hlk hnm hsz hP hD hS hA ls hl
  have hown : s.vm.findClass RX9 = some m.cls := hown
  have hl : lv_has ls 6 [(0, .ref h0), (1, .int x)] := hl
  have tc_m1 : ((-1) : Int32).toInt = (-1) := by decide
  have tc_0 : (0 : Int32).toInt = 0 := by decide
  have tc_1 : (1 : Int32).toInt = 1 := by decide
  have tc_3 : (3 : Int32).toInt = 3 := by decide
  refine lv_iconst (v := 0) hx hb dX9_haltsFor_0 (by decide) ?_
  refine lv_istore_n (lv' := [(2, .int 0), (0, .ref h0), (1, .int x)]) hx hb dX9_haltsFor_1 rfl hl (by decide) rfl (fun ls hl => ?_)
  refine (fun (key : ∀ (n9_2 : Nat) (k9_2 : Nat) (f9_2_0 : Nat → Int32) (H : Heap) (locs : List Loc) (ls : Array Slot), (k9_2 : Int) ≤ 16 → 16 < (k9_2 : Int) + n9_2 → va_P D classes [(h0, .inr (9, (.int b0 :: .ref (g 0) :: .ref (g 1) :: .ref (g 2) :: .ref (g 3) :: .int b5 :: .int b6 :: .int b7 :: .int b8 :: .int b9 :: .int b10 :: .int b11 :: .int b12 :: .int b13 :: .int b14 :: .ref (g 4) :: .ref (g 5) :: .int b17 :: .int b18 :: .int b19 :: .ref (g 6) :: .ref (g 7) :: .ref (g 8) :: .int b23 :: .int b24 :: .int b25 :: .int b26 :: .int b27 :: .ref (g 9) :: .int b29 :: .ref (g 10) :: .int b31 :: .int b32 :: .int b33 :: .ref (g 11) :: .ref (g 12) :: .ref (g 13) :: []))), ((g 0), .inl (cT 0, 288, .inl (a0))), ((g 10), .inl (cT 0, 16, .inl (f9_2_0)))] H → va_D A [(h0, .inr (9, (.int b0 :: .ref (g 0) :: .ref (g 1) :: .ref (g 2) :: .ref (g 3) :: .int b5 :: .int b6 :: .int b7 :: .int b8 :: .int b9 :: .int b10 :: .int b11 :: .int b12 :: .int b13 :: .int b14 :: .ref (g 4) :: .ref (g 5) :: .int b17 :: .int b18 :: .int b19 :: .ref (g 6) :: .ref (g 7) :: .ref (g 8) :: .int b23 :: .int b24 :: .int b25 :: .int b26 :: .int b27 :: .ref (g 9) :: .int b29 :: .ref (g 10) :: .int b31 :: .int b32 :: .int b33 :: .ref (g 11) :: .ref (g 12) :: .ref (g 13) :: []))), ((g 0), .inl (cT 0, 288, .inl (a0))), ((g 10), .inl (cT 0, 16, .inl (f9_2_0)))] → va_S A s.heap H locs → lv_has ls 6 [(2, .int (nI k9_2)), (0, .ref h0), (1, .int x)] → W p l e _ s m _ below meth c H locs _ _ _ (F0 m 2 ls [])) => key (Int.toNat (16 - 0) + 1) 0 _ _ _ _ (by omega) (by omega)  hP hD hS (lv_sub hl [0, 1, 2] rfl)) ?_
  intro n9_2
  induction n9_2 with
  | zero => intro k9_2 f9_2_0 H locs ls hq1 hq2; exact absurd hq2 (by omega)
  | succ n9_2 ih_2 =>
    intro k9_2 f9_2_0 H locs ls hq1_2 hq2_2  hP hD hS hl
    have hk9_2 : (nI k9_2).toInt = (k9_2 : Int) := nI_toInt (by omega)
    refine lv_iload_n hx hb dX9_haltsFor_2 rfl (lv_at hl 0 rfl) ?_
    refine lv_aload_n hx hb dX9_haltsFor_3 rfl (lv_at hl 1 rfl) ?_
    refine va_get (D := D) (ci := 9) (v := .ref (g 0)) (C := RX9) (T := TX9) (N := 37) hx hb htg gRX9 hown hK hP 0 rfl rfl 1 (by decide) (htg _ wi_1151) (fun _ h9 => h9) rfl dX9_haltsFor_4 ?_
    refine lv_iconst (v := 0) hx hb dX9_haltsFor_7 (by decide) ?_
    refine va_iald hx hb hK hP 1 0 rfl rfl (by unfold vp_in; decide) dX9_haltsFor_8 ?_
    refine lv_topi (fun z_1 ez_1 => ?_)
    have iz_1 : 0 ≤ z_1.toInt ∧ z_1.toInt ≤ 16 := by rw [ez_1]; exact rd0 pa0 (by decide) rfl
    have nz_1 : z_1.toInt = ((a0) 0).toInt := by rw [ez_1]; rfl
    refine lv_icmp_ge (tgt := 35) hx hb dX9_haltsFor_9 (by decide) (fun c_2 => ?_) (fun c_2 => ?_)
    · have ic_2 : z_1.toInt ≤ ((k9_2 : Nat) : Int) := ile c_2 (rfl) (nI_toInt (by omega))
      refine lv_iconst (v := (-1)) hx hb dX9_haltsFor_35 (by decide) ?_
      refine lv_istore_n (lv' := [(2, .int (-1)), (0, .ref h0), (1, .int x)]) hx hb dX9_haltsFor_36 rfl hl (by decide) rfl (fun ls hl => ?_)
      refine lv_iconst (v := 0) hx hb dX9_haltsFor_37 (by decide) ?_
      refine lv_istore_n (lv' := [(3, .int 0), (2, .int (-1)), (0, .ref h0), (1, .int x)]) hx hb dX9_haltsFor_38 rfl hl (by decide) rfl (fun ls hl => ?_)
      refine (fun (key : ∀ (n9_39 : Nat) (k9_39 : Nat) (x9_39_2 : Int32) (H : Heap) (locs : List Loc) (ls : Array Slot), (k9_39 : Int) ≤ 2147483647 → 2147483647 < (k9_39 : Int) + n9_39 → va_P D classes [(h0, .inr (9, (.int b0 :: .ref (g 0) :: .ref (g 1) :: .ref (g 2) :: .ref (g 3) :: .int b5 :: .int b6 :: .int b7 :: .int b8 :: .int b9 :: .int b10 :: .int b11 :: .int b12 :: .int b13 :: .int b14 :: .ref (g 4) :: .ref (g 5) :: .int b17 :: .int b18 :: .int b19 :: .ref (g 6) :: .ref (g 7) :: .ref (g 8) :: .int b23 :: .int b24 :: .int b25 :: .int b26 :: .int b27 :: .ref (g 9) :: .int b29 :: .ref (g 10) :: .int b31 :: .int b32 :: .int b33 :: .ref (g 11) :: .ref (g 12) :: .ref (g 13) :: []))), ((g 0), .inl (cT 0, 288, .inl (a0))), ((g 10), .inl (cT 0, 16, .inl (f9_2_0)))] H → va_D A [(h0, .inr (9, (.int b0 :: .ref (g 0) :: .ref (g 1) :: .ref (g 2) :: .ref (g 3) :: .int b5 :: .int b6 :: .int b7 :: .int b8 :: .int b9 :: .int b10 :: .int b11 :: .int b12 :: .int b13 :: .int b14 :: .ref (g 4) :: .ref (g 5) :: .int b17 :: .int b18 :: .int b19 :: .ref (g 6) :: .ref (g 7) :: .ref (g 8) :: .int b23 :: .int b24 :: .int b25 :: .int b26 :: .int b27 :: .ref (g 9) :: .int b29 :: .ref (g 10) :: .int b31 :: .int b32 :: .int b33 :: .ref (g 11) :: .ref (g 12) :: .ref (g 13) :: []))), ((g 0), .inl (cT 0, 288, .inl (a0))), ((g 10), .inl (cT 0, 16, .inl (f9_2_0)))] → va_S A s.heap H locs → lv_has ls 6 [(3, .int (nI k9_39)), (2, .int x9_39_2), (0, .ref h0), (1, .int x)] → W p l e _ s m _ below meth c H locs _ _ _ (F0 m 39 ls [])) => key (Int.toNat (2147483647 - 0) + 1) 0 _ _ _ _ (by omega) (by omega)  hP hD hS (lv_sub hl [0, 1, 2, 3] rfl)) ?_
      intro n9_39
      induction n9_39 with
      | zero => intro k9_39 x9_39_2 H locs ls hq1 hq2; exact absurd hq2 (by omega)
      | succ n9_39 ih_39 =>
        intro k9_39 x9_39_2 H locs ls hq1_39 hq2_39  hP hD hS hl
        have hk9_39 : (nI k9_39).toInt = (k9_39 : Int) := nI_toInt (by omega)
        refine lv_iload_n hx hb dX9_haltsFor_39 rfl (lv_at hl 0 rfl) ?_
        refine lv_iconst (v := 1) hx hb dX9_haltsFor_40 (by decide) ?_
        refine lv_aload_n hx hb dX9_haltsFor_41 rfl (lv_at hl 2 rfl) ?_
        refine va_get (D := D) (ci := 9) (v := .ref (g 0)) (C := RX9) (T := TX9) (N := 37) hx hb htg gRX9 hown hK hP 0 rfl rfl 1 (by decide) (htg _ wi_1151) (fun _ h9 => h9) rfl dX9_haltsFor_42 ?_
        refine lv_iconst (v := 0) hx hb dX9_haltsFor_45 (by decide) ?_
        refine va_iald hx hb hK hP 1 0 rfl rfl (by unfold vp_in; decide) dX9_haltsFor_46 ?_
        refine lv_topi (fun z_3 ez_3 => ?_)
        have iz_3 : 0 ≤ z_3.toInt ∧ z_3.toInt ≤ 16 := by rw [ez_3]; exact rd0 pa0 (by decide) rfl
        have nz_3 : z_3.toInt = ((a0) 0).toInt := by rw [ez_3]; rfl
        refine lv_ishl hx hb dX9_haltsFor_47 ?_
        refine lv_topi (fun z_4 ez_4 => ?_)
        have hz39 := Int32.toInt_lt z_4
        refine lv_icmp_ge (tgt := 136) hx hb dX9_haltsFor_48 (by decide) (fun c_5 => ?_) (fun c_5 => ?_)
        · have ic_5 : z_4.toInt ≤ ((k9_39 : Nat) : Int) := ile c_5 (rfl) (nI_toInt (by omega))
          refine lv_iload_n hx hb dX9_haltsFor_136 rfl (lv_at hl 1 rfl) ?_
          exact x_iret hx hb hr hlk hP hD hS [0, 1, 2] ((f9_2_0)) rfl (by decide) trivial (by decide) (by decide) dX9_haltsFor_137
        · have ic_5 : ((k9_39 : Nat) : Int) < z_4.toInt := inle c_5 (rfl) (nI_toInt (by omega))
          refine lv_iload_n hx hb dX9_haltsFor_51 rfl (lv_at hl 1 rfl) ?_
          refine lv_iconst (v := (-1)) hx hb dX9_haltsFor_52 (by decide) ?_
          refine lv_icmp_eq (tgt := 70) hx hb dX9_haltsFor_53 (by decide) (fun c_6 => ?_) (fun c_6 => ?_)
          · have ic_6 : x9_39_2.toInt = (-1) := ieq c_6 (rfl) (by decide)
            refine lv_iconst (v := 0) hx hb dX9_haltsFor_70 (by decide) ?_
            refine lv_istore (lv' := [(4, .int 0), (3, .int (nI k9_39)), (2, .int x9_39_2), (0, .ref h0), (1, .int x)]) hx hb dX9_haltsFor_71 hl (by decide) rfl (fun ls hl => ?_)
            refine lv_iconst (v := 0) hx hb dX9_haltsFor_73 (by decide) ?_
            refine lv_istore (lv' := [(5, .int 0), (4, .int 0), (3, .int (nI k9_39)), (2, .int x9_39_2), (0, .ref h0), (1, .int x)]) hx hb dX9_haltsFor_74 hl (by decide) rfl (fun ls hl => ?_)
            refine (fun (key : ∀ (n9_76 : Nat) (k9_76 : Nat) (x9_76_4 : Int32) (H : Heap) (locs : List Loc) (ls : Array Slot), (k9_76 : Int) ≤ 16 → 16 < (k9_76 : Int) + n9_76 → va_P D classes [(h0, .inr (9, (.int b0 :: .ref (g 0) :: .ref (g 1) :: .ref (g 2) :: .ref (g 3) :: .int b5 :: .int b6 :: .int b7 :: .int b8 :: .int b9 :: .int b10 :: .int b11 :: .int b12 :: .int b13 :: .int b14 :: .ref (g 4) :: .ref (g 5) :: .int b17 :: .int b18 :: .int b19 :: .ref (g 6) :: .ref (g 7) :: .ref (g 8) :: .int b23 :: .int b24 :: .int b25 :: .int b26 :: .int b27 :: .ref (g 9) :: .int b29 :: .ref (g 10) :: .int b31 :: .int b32 :: .int b33 :: .ref (g 11) :: .ref (g 12) :: .ref (g 13) :: []))), ((g 0), .inl (cT 0, 288, .inl (a0))), ((g 10), .inl (cT 0, 16, .inl (f9_2_0)))] H → va_D A [(h0, .inr (9, (.int b0 :: .ref (g 0) :: .ref (g 1) :: .ref (g 2) :: .ref (g 3) :: .int b5 :: .int b6 :: .int b7 :: .int b8 :: .int b9 :: .int b10 :: .int b11 :: .int b12 :: .int b13 :: .int b14 :: .ref (g 4) :: .ref (g 5) :: .int b17 :: .int b18 :: .int b19 :: .ref (g 6) :: .ref (g 7) :: .ref (g 8) :: .int b23 :: .int b24 :: .int b25 :: .int b26 :: .int b27 :: .ref (g 9) :: .int b29 :: .ref (g 10) :: .int b31 :: .int b32 :: .int b33 :: .ref (g 11) :: .ref (g 12) :: .ref (g 13) :: []))), ((g 0), .inl (cT 0, 288, .inl (a0))), ((g 10), .inl (cT 0, 16, .inl (f9_2_0)))] → va_S A s.heap H locs → lv_has ls 6 [(5, .int (nI k9_76)), (4, .int x9_76_4), (3, .int (nI k9_39)), (2, .int x9_39_2), (0, .ref h0), (1, .int x)] → W p l e _ s m _ below meth c H locs _ _ _ (F0 m 76 ls [])) => key (Int.toNat (16 - 0) + 1) 0 _ _ _ _ (by omega) (by omega)  hP hD hS (lv_sub hl [0, 1, 2, 3, 4, 5] rfl)) ?_
            intro n9_76
            induction n9_76 with
            | zero => intro k9_76 x9_76_4 H locs ls hq1 hq2; exact absurd hq2 (by omega)
            | succ n9_76 ih_76 =>
              intro k9_76 x9_76_4 H locs ls hq1_76 hq2_76  hP hD hS hl
              have hk9_76 : (nI k9_76).toInt = (k9_76 : Int) := nI_toInt (by omega)
              refine lv_iload hx hb dX9_haltsFor_76 (lv_at hl 0 rfl) ?_
              refine lv_aload_n hx hb dX9_haltsFor_78 rfl (lv_at hl 4 rfl) ?_
              refine va_get (D := D) (ci := 9) (v := .ref (g 0)) (C := RX9) (T := TX9) (N := 37) hx hb htg gRX9 hown hK hP 0 rfl rfl 1 (by decide) (htg _ wi_1151) (fun _ h9 => h9) rfl dX9_haltsFor_79 ?_
              refine lv_iconst (v := 0) hx hb dX9_haltsFor_82 (by decide) ?_
              refine va_iald hx hb hK hP 1 0 rfl rfl (by unfold vp_in; decide) dX9_haltsFor_83 ?_
              refine lv_topi (fun z_7 ez_7 => ?_)
              have iz_7 : 0 ≤ z_7.toInt ∧ z_7.toInt ≤ 16 := by rw [ez_7]; exact rd0 pa0 (by decide) rfl
              have nz_7 : z_7.toInt = ((a0) 0).toInt := by rw [ez_7]; rfl
              refine lv_icmp_ge (tgt := 119) hx hb dX9_haltsFor_84 (by decide) (fun c_8 => ?_) (fun c_8 => ?_)
              · have ic_8 : z_7.toInt ≤ ((k9_76 : Nat) : Int) := ile c_8 (rfl) (nI_toInt (by omega))
                refine lv_iload_n hx hb dX9_haltsFor_119 rfl (lv_at hl 5 rfl) ?_
                refine lv_iload hx hb dX9_haltsFor_120 (lv_at hl 1 rfl) ?_
                refine lv_iconst (v := (-1)) hx hb dX9_haltsFor_122 (by decide) ?_
                refine lv_ixor hx hb dX9_haltsFor_123 ?_
                refine lv_topi (fun z_9 ez_9 => ?_)
                refine lv_iand hx hb dX9_haltsFor_124 ?_
                refine lv_topi (fun z_10 ez_10 => ?_)
                refine lv_if_ne (tgt := 130) hx hb dX9_haltsFor_125 (by decide) (fun c_11 => ?_) (fun c_11 => ?_)
                · have ic_11 : ¬ z_10.toInt = 0 := ine c_11 (rfl) (by decide)
                  refine lv_iinc (v := (nI (k9_39 + 1))) (lv' := [(3, .int (nI (k9_39 + 1))), (5, .int (nI k9_76)), (4, .int x9_76_4), (2, .int x9_39_2), (0, .ref h0), (1, .int x)]) hx hb dX9_haltsFor_130 hl (k := 2) rfl (by exact nI_1 (k9_39)) (by decide) rfl (fun ls hl => ?_)
                  refine lv_goto (tgt := 39) hx hb dX9_haltsFor_133 (by decide) ?_
                  exact ih_39 (k9_39 + 1) _ _ _ _ (by omega) (by omega)  (hP.sub [0, 1, 2] rfl) (hD.sub [0, 1, 2] (by decide) rfl) hS (lv_sub hl [0, 3, 4, 5] rfl)
                · have ic_11 : z_10.toInt = 0 := ieq c_11 (rfl) (by decide)
                  refine lv_iload_n hx hb dX9_haltsFor_128 rfl (lv_at hl 2 rfl) ?_
                  refine lv_istore_n (lv' := [(2, .int (nI k9_39)), (5, .int (nI k9_76)), (4, .int x9_76_4), (3, .int (nI k9_39)), (0, .ref h0), (1, .int x)]) hx hb dX9_haltsFor_129 rfl hl (by decide) rfl (fun ls hl => ?_)
                  refine lv_iinc (v := (nI (k9_39 + 1))) (lv' := [(3, .int (nI (k9_39 + 1))), (2, .int (nI k9_39)), (5, .int (nI k9_76)), (4, .int x9_76_4), (0, .ref h0), (1, .int x)]) hx hb dX9_haltsFor_130 hl (k := 3) rfl (by exact nI_1 (k9_39)) (by decide) rfl (fun ls hl => ?_)
                  refine lv_goto (tgt := 39) hx hb dX9_haltsFor_133 (by decide) ?_
                  exact ih_39 (k9_39 + 1) _ _ _ _ (by omega) (by omega)  (hP.sub [0, 1, 2] rfl) (hD.sub [0, 1, 2] (by decide) rfl) hS (lv_sub hl [0, 1, 4, 5] rfl)
              · have ic_8 : ((k9_76 : Nat) : Int) < z_7.toInt := inle c_8 (rfl) (nI_toInt (by omega))
                refine lv_iload hx hb dX9_haltsFor_87 (lv_at hl 1 rfl) ?_
                refine lv_iload_n hx hb dX9_haltsFor_89 rfl (lv_at hl 2 rfl) ?_
                refine lv_iload hx hb dX9_haltsFor_90 (lv_at hl 0 rfl) ?_
                refine lv_ishr hx hb dX9_haltsFor_92 ?_
                refine lv_topi (fun z_12 ez_12 => ?_)
                refine lv_iconst (v := 1) hx hb dX9_haltsFor_93 (by decide) ?_
                refine lv_iand hx hb dX9_haltsFor_94 ?_
                refine lv_topi (fun z_13 ez_13 => ?_)
                have iz_13 : 0 ≤ z_13.toInt ∧ z_13.toInt ≤ 1 := andI ez_13 (by decide) (by decide)
                refine lv_iconst (v := 1) hx hb dX9_haltsFor_95 (by decide) ?_
                refine lv_icmp_ne (tgt := 109) hx hb dX9_haltsFor_96 (by decide) (fun c_14 => ?_) (fun c_14 => ?_)
                · have ic_14 : ¬ z_13.toInt = 1 := ine c_14 (rfl) (by decide)
                  refine lv_iconst (v := 0) hx hb dX9_haltsFor_109 (by decide) ?_
                  refine lv_ior hx hb dX9_haltsFor_110 ?_
                  refine lv_topi (fun z_15 ez_15 => ?_)
                  refine lv_istore (lv' := [(4, .int z_15), (5, .int (nI k9_76)), (3, .int (nI k9_39)), (2, .int x9_39_2), (0, .ref h0), (1, .int x)]) hx hb dX9_haltsFor_111 hl (by decide) rfl (fun ls hl => ?_)
                  refine lv_iinc (v := (nI (k9_76 + 1))) (lv' := [(5, .int (nI (k9_76 + 1))), (4, .int z_15), (3, .int (nI k9_39)), (2, .int x9_39_2), (0, .ref h0), (1, .int x)]) hx hb dX9_haltsFor_113 hl (k := 1) rfl (by exact nI_1 (k9_76)) (by decide) rfl (fun ls hl => ?_)
                  refine lv_goto (tgt := 76) hx hb dX9_haltsFor_116 (by decide) ?_
                  exact ih_76 (k9_76 + 1) _ _ _ _ (by omega) (by omega)  (hP.sub [0, 1, 2] rfl) (hD.sub [0, 1, 2] (by decide) rfl) hS (lv_sub hl [0, 1, 2, 3, 4, 5] rfl)
                · have ic_14 : z_13.toInt = 1 := ieq c_14 (rfl) (by decide)
                  refine lv_aload_n hx hb dX9_haltsFor_99 rfl (lv_at hl 4 rfl) ?_
                  refine va_get (D := D) (ci := 9) (v := .ref (g 10)) (C := RX9) (T := TX9) (N := 37) hx hb htg gRX9 hown hK hP 0 rfl rfl 30 (by decide) (htg _ wi_1180) (fun _ h9 => h9) rfl dX9_haltsFor_100 ?_
                  refine lv_iload hx hb dX9_haltsFor_103 (lv_at hl 0 rfl) ?_
                  refine va_iald hx hb hK hP 2 0 rfl rfl (vp_in_nI (by omega) (by omega)) dX9_haltsFor_105 ?_
                  refine lv_topi (fun z_16 ez_16 => ?_)
                  refine lv_goto (tgt := 110) hx hb dX9_haltsFor_106 (by decide) ?_
                  refine lv_ior hx hb dX9_haltsFor_110 ?_
                  refine lv_topi (fun z_17 ez_17 => ?_)
                  refine lv_istore (lv' := [(4, .int z_17), (5, .int (nI k9_76)), (3, .int (nI k9_39)), (2, .int x9_39_2), (0, .ref h0), (1, .int x)]) hx hb dX9_haltsFor_111 hl (by decide) rfl (fun ls hl => ?_)
                  refine lv_iinc (v := (nI (k9_76 + 1))) (lv' := [(5, .int (nI (k9_76 + 1))), (4, .int z_17), (3, .int (nI k9_39)), (2, .int x9_39_2), (0, .ref h0), (1, .int x)]) hx hb dX9_haltsFor_113 hl (k := 1) rfl (by exact nI_1 (k9_76)) (by decide) rfl (fun ls hl => ?_)
                  refine lv_goto (tgt := 76) hx hb dX9_haltsFor_116 (by decide) ?_
                  exact ih_76 (k9_76 + 1) _ _ _ _ (by omega) (by omega)  (hP.sub [0, 1, 2] rfl) (hD.sub [0, 1, 2] (by decide) rfl) hS (lv_sub hl [0, 1, 2, 3, 4, 5] rfl)
          · have ic_6 : ¬ x9_39_2.toInt = (-1) := ine c_6 (rfl) (by decide)
            refine lv_iload_n hx hb dX9_haltsFor_56 rfl (lv_at hl 0 rfl) ?_
            refine xk_i (wr := [(h0, .inr (9, (.int b0 :: .ref (g 0) :: .ref (g 1) :: .ref (g 2) :: .ref (g 3) :: .int b5 :: .int b6 :: .int b7 :: .int b8 :: .int b9 :: .int b10 :: .int b11 :: .int b12 :: .int b13 :: .int b14 :: .ref (g 4) :: .ref (g 5) :: .int b17 :: .int b18 :: .int b19 :: .ref (g 6) :: .ref (g 7) :: .ref (g 8) :: .int b23 :: .int b24 :: .int b25 :: .int b26 :: .int b27 :: .ref (g 9) :: .int b29 :: .ref (g 10) :: .int b31 :: .int b32 :: .int b33 :: .ref (g 11) :: .ref (g 12) :: .ref (g 13) :: []))), ((g 0), .inl (cT 0, 288, .inl (a0))), ((g 10), .inl (cT 0, 16, .inl (f9_2_0)))]) (xr_S (n := 1) (As := [.int (nI k9_39)]) (rest := []) ⟨hx, hb, hml, hown, htg⟩ hK hN hP hD hS hA [] rfl (by decide) (m_bitsOf l D cT _ ((nI k9_39))) wi_1552 wi_1553 wi_131 wi_1554 ⟨rfl, by decide +kernel⟩ ⟨Nat.le_of_ble_eq_true rfl, Nat.le_of_ble_eq_true rfl⟩ rfl hl.1 rfl (Nat.le_of_ble_eq_true rfl) dX9_haltsFor_57 ⟨Nat.le_of_ble_eq_true rfl, Nat.le_of_ble_eq_true rfl⟩) hP hD hS hA [] [0, 1, 2] rfl rfl (by decide) (by decide) (fun r_19 u_18 H locs hwr_19 hP hD hS => ?_)
            have hP : va_P D classes [(h0, .inr (9, (.int b0 :: .ref (g 0) :: .ref (g 1) :: .ref (g 2) :: .ref (g 3) :: .int b5 :: .int b6 :: .int b7 :: .int b8 :: .int b9 :: .int b10 :: .int b11 :: .int b12 :: .int b13 :: .int b14 :: .ref (g 4) :: .ref (g 5) :: .int b17 :: .int b18 :: .int b19 :: .ref (g 6) :: .ref (g 7) :: .ref (g 8) :: .int b23 :: .int b24 :: .int b25 :: .int b26 :: .int b27 :: .ref (g 9) :: .int b29 :: .ref (g 10) :: .int b31 :: .int b32 :: .int b33 :: .ref (g 11) :: .ref (g 12) :: .ref (g 13) :: []))), ((g 0), .inl (cT 0, 288, .inl (a0))), ((g 10), .inl (cT 0, 16, .inl (f9_2_0)))] _ := hP
            have hD : va_D A [(h0, .inr (9, (.int b0 :: .ref (g 0) :: .ref (g 1) :: .ref (g 2) :: .ref (g 3) :: .int b5 :: .int b6 :: .int b7 :: .int b8 :: .int b9 :: .int b10 :: .int b11 :: .int b12 :: .int b13 :: .int b14 :: .ref (g 4) :: .ref (g 5) :: .int b17 :: .int b18 :: .int b19 :: .ref (g 6) :: .ref (g 7) :: .ref (g 8) :: .int b23 :: .int b24 :: .int b25 :: .int b26 :: .int b27 :: .ref (g 9) :: .int b29 :: .ref (g 10) :: .int b31 :: .int b32 :: .int b33 :: .ref (g 11) :: .ref (g 12) :: .ref (g 13) :: []))), ((g 0), .inl (cT 0, 288, .inl (a0))), ((g 10), .inl (cT 0, 16, .inl (f9_2_0)))] := hD
            refine lv_iload_n hx hb dX9_haltsFor_60 rfl (lv_at hl 1 rfl) ?_
            refine xk_i (wr := [(h0, .inr (9, (.int b0 :: .ref (g 0) :: .ref (g 1) :: .ref (g 2) :: .ref (g 3) :: .int b5 :: .int b6 :: .int b7 :: .int b8 :: .int b9 :: .int b10 :: .int b11 :: .int b12 :: .int b13 :: .int b14 :: .ref (g 4) :: .ref (g 5) :: .int b17 :: .int b18 :: .int b19 :: .ref (g 6) :: .ref (g 7) :: .ref (g 8) :: .int b23 :: .int b24 :: .int b25 :: .int b26 :: .int b27 :: .ref (g 9) :: .int b29 :: .ref (g 10) :: .int b31 :: .int b32 :: .int b33 :: .ref (g 11) :: .ref (g 12) :: .ref (g 13) :: []))), ((g 0), .inl (cT 0, 288, .inl (a0))), ((g 10), .inl (cT 0, 16, .inl (f9_2_0)))]) (xr_S (n := 1) (As := [.int x9_39_2]) (rest := [.int r_19]) ⟨hx, hb, hml, hown, htg⟩ hK hN hP hD hS hA [] rfl (by decide) (m_bitsOf l D cT _ (x9_39_2)) wi_1552 wi_1553 wi_131 wi_1554 ⟨rfl, by decide +kernel⟩ ⟨Nat.le_of_ble_eq_true rfl, Nat.le_of_ble_eq_true rfl⟩ rfl hl.1 rfl (Nat.le_of_ble_eq_true rfl) dX9_haltsFor_61 ⟨Nat.le_of_ble_eq_true rfl, Nat.le_of_ble_eq_true rfl⟩) hP hD hS hA [] [0, 1, 2] rfl rfl (by decide) (by decide) (fun r_21 u_20 H locs hwr_21 hP hD hS => ?_)
            have hP : va_P D classes [(h0, .inr (9, (.int b0 :: .ref (g 0) :: .ref (g 1) :: .ref (g 2) :: .ref (g 3) :: .int b5 :: .int b6 :: .int b7 :: .int b8 :: .int b9 :: .int b10 :: .int b11 :: .int b12 :: .int b13 :: .int b14 :: .ref (g 4) :: .ref (g 5) :: .int b17 :: .int b18 :: .int b19 :: .ref (g 6) :: .ref (g 7) :: .ref (g 8) :: .int b23 :: .int b24 :: .int b25 :: .int b26 :: .int b27 :: .ref (g 9) :: .int b29 :: .ref (g 10) :: .int b31 :: .int b32 :: .int b33 :: .ref (g 11) :: .ref (g 12) :: .ref (g 13) :: []))), ((g 0), .inl (cT 0, 288, .inl (a0))), ((g 10), .inl (cT 0, 16, .inl (f9_2_0)))] _ := hP
            have hD : va_D A [(h0, .inr (9, (.int b0 :: .ref (g 0) :: .ref (g 1) :: .ref (g 2) :: .ref (g 3) :: .int b5 :: .int b6 :: .int b7 :: .int b8 :: .int b9 :: .int b10 :: .int b11 :: .int b12 :: .int b13 :: .int b14 :: .ref (g 4) :: .ref (g 5) :: .int b17 :: .int b18 :: .int b19 :: .ref (g 6) :: .ref (g 7) :: .ref (g 8) :: .int b23 :: .int b24 :: .int b25 :: .int b26 :: .int b27 :: .ref (g 9) :: .int b29 :: .ref (g 10) :: .int b31 :: .int b32 :: .int b33 :: .ref (g 11) :: .ref (g 12) :: .ref (g 13) :: []))), ((g 0), .inl (cT 0, 288, .inl (a0))), ((g 10), .inl (cT 0, 16, .inl (f9_2_0)))] := hD
            refine lv_icmp_lt (tgt := 70) hx hb dX9_haltsFor_64 (by decide) (fun c_22 => ?_) (fun c_22 => ?_)
            · have ic_22 : r_19.toInt < r_21.toInt := ilt c_22 (rfl) (rfl)
              refine lv_iconst (v := 0) hx hb dX9_haltsFor_70 (by decide) ?_
              refine lv_istore (lv' := [(4, .int 0), (3, .int (nI k9_39)), (2, .int x9_39_2), (0, .ref h0), (1, .int x)]) hx hb dX9_haltsFor_71 hl (by decide) rfl (fun ls hl => ?_)
              refine lv_iconst (v := 0) hx hb dX9_haltsFor_73 (by decide) ?_
              refine lv_istore (lv' := [(5, .int 0), (4, .int 0), (3, .int (nI k9_39)), (2, .int x9_39_2), (0, .ref h0), (1, .int x)]) hx hb dX9_haltsFor_74 hl (by decide) rfl (fun ls hl => ?_)
              refine (fun (key : ∀ (n9_76 : Nat) (k9_76 : Nat) (x9_76_4 : Int32) (H : Heap) (locs : List Loc) (ls : Array Slot), (k9_76 : Int) ≤ 16 → 16 < (k9_76 : Int) + n9_76 → va_P D classes [(h0, .inr (9, (.int b0 :: .ref (g 0) :: .ref (g 1) :: .ref (g 2) :: .ref (g 3) :: .int b5 :: .int b6 :: .int b7 :: .int b8 :: .int b9 :: .int b10 :: .int b11 :: .int b12 :: .int b13 :: .int b14 :: .ref (g 4) :: .ref (g 5) :: .int b17 :: .int b18 :: .int b19 :: .ref (g 6) :: .ref (g 7) :: .ref (g 8) :: .int b23 :: .int b24 :: .int b25 :: .int b26 :: .int b27 :: .ref (g 9) :: .int b29 :: .ref (g 10) :: .int b31 :: .int b32 :: .int b33 :: .ref (g 11) :: .ref (g 12) :: .ref (g 13) :: []))), ((g 0), .inl (cT 0, 288, .inl (a0))), ((g 10), .inl (cT 0, 16, .inl (f9_2_0)))] H → va_D A [(h0, .inr (9, (.int b0 :: .ref (g 0) :: .ref (g 1) :: .ref (g 2) :: .ref (g 3) :: .int b5 :: .int b6 :: .int b7 :: .int b8 :: .int b9 :: .int b10 :: .int b11 :: .int b12 :: .int b13 :: .int b14 :: .ref (g 4) :: .ref (g 5) :: .int b17 :: .int b18 :: .int b19 :: .ref (g 6) :: .ref (g 7) :: .ref (g 8) :: .int b23 :: .int b24 :: .int b25 :: .int b26 :: .int b27 :: .ref (g 9) :: .int b29 :: .ref (g 10) :: .int b31 :: .int b32 :: .int b33 :: .ref (g 11) :: .ref (g 12) :: .ref (g 13) :: []))), ((g 0), .inl (cT 0, 288, .inl (a0))), ((g 10), .inl (cT 0, 16, .inl (f9_2_0)))] → va_S A s.heap H locs → lv_has ls 6 [(5, .int (nI k9_76)), (4, .int x9_76_4), (3, .int (nI k9_39)), (2, .int x9_39_2), (0, .ref h0), (1, .int x)] → W p l e _ s m _ below meth c H locs _ _ _ (F0 m 76 ls [])) => key (Int.toNat (16 - 0) + 1) 0 _ _ _ _ (by omega) (by omega)  hP hD hS (lv_sub hl [0, 1, 2, 3, 4, 5] rfl)) ?_
              intro n9_76
              induction n9_76 with
              | zero => intro k9_76 x9_76_4 H locs ls hq1 hq2; exact absurd hq2 (by omega)
              | succ n9_76 ih_76 =>
                intro k9_76 x9_76_4 H locs ls hq1_76 hq2_76  hP hD hS hl
                have hk9_76 : (nI k9_76).toInt = (k9_76 : Int) := nI_toInt (by omega)
                refine lv_iload hx hb dX9_haltsFor_76 (lv_at hl 0 rfl) ?_
                refine lv_aload_n hx hb dX9_haltsFor_78 rfl (lv_at hl 4 rfl) ?_
                refine va_get (D := D) (ci := 9) (v := .ref (g 0)) (C := RX9) (T := TX9) (N := 37) hx hb htg gRX9 hown hK hP 0 rfl rfl 1 (by decide) (htg _ wi_1151) (fun _ h9 => h9) rfl dX9_haltsFor_79 ?_
                refine lv_iconst (v := 0) hx hb dX9_haltsFor_82 (by decide) ?_
                refine va_iald hx hb hK hP 1 0 rfl rfl (by unfold vp_in; decide) dX9_haltsFor_83 ?_
                refine lv_topi (fun z_23 ez_23 => ?_)
                have iz_23 : 0 ≤ z_23.toInt ∧ z_23.toInt ≤ 16 := by rw [ez_23]; exact rd0 pa0 (by decide) rfl
                have nz_23 : z_23.toInt = ((a0) 0).toInt := by rw [ez_23]; rfl
                refine lv_icmp_ge (tgt := 119) hx hb dX9_haltsFor_84 (by decide) (fun c_24 => ?_) (fun c_24 => ?_)
                · have ic_24 : z_23.toInt ≤ ((k9_76 : Nat) : Int) := ile c_24 (rfl) (nI_toInt (by omega))
                  refine lv_iload_n hx hb dX9_haltsFor_119 rfl (lv_at hl 5 rfl) ?_
                  refine lv_iload hx hb dX9_haltsFor_120 (lv_at hl 1 rfl) ?_
                  refine lv_iconst (v := (-1)) hx hb dX9_haltsFor_122 (by decide) ?_
                  refine lv_ixor hx hb dX9_haltsFor_123 ?_
                  refine lv_topi (fun z_25 ez_25 => ?_)
                  refine lv_iand hx hb dX9_haltsFor_124 ?_
                  refine lv_topi (fun z_26 ez_26 => ?_)
                  refine lv_if_ne (tgt := 130) hx hb dX9_haltsFor_125 (by decide) (fun c_27 => ?_) (fun c_27 => ?_)
                  · have ic_27 : ¬ z_26.toInt = 0 := ine c_27 (rfl) (by decide)
                    refine lv_iinc (v := (nI (k9_39 + 1))) (lv' := [(3, .int (nI (k9_39 + 1))), (5, .int (nI k9_76)), (4, .int x9_76_4), (2, .int x9_39_2), (0, .ref h0), (1, .int x)]) hx hb dX9_haltsFor_130 hl (k := 2) rfl (by exact nI_1 (k9_39)) (by decide) rfl (fun ls hl => ?_)
                    refine lv_goto (tgt := 39) hx hb dX9_haltsFor_133 (by decide) ?_
                    exact ih_39 (k9_39 + 1) _ _ _ _ (by omega) (by omega)  (hP.sub [0, 1, 2] rfl) (hD.sub [0, 1, 2] (by decide) rfl) hS (lv_sub hl [0, 3, 4, 5] rfl)
                  · have ic_27 : z_26.toInt = 0 := ieq c_27 (rfl) (by decide)
                    refine lv_iload_n hx hb dX9_haltsFor_128 rfl (lv_at hl 2 rfl) ?_
                    refine lv_istore_n (lv' := [(2, .int (nI k9_39)), (5, .int (nI k9_76)), (4, .int x9_76_4), (3, .int (nI k9_39)), (0, .ref h0), (1, .int x)]) hx hb dX9_haltsFor_129 rfl hl (by decide) rfl (fun ls hl => ?_)
                    refine lv_iinc (v := (nI (k9_39 + 1))) (lv' := [(3, .int (nI (k9_39 + 1))), (2, .int (nI k9_39)), (5, .int (nI k9_76)), (4, .int x9_76_4), (0, .ref h0), (1, .int x)]) hx hb dX9_haltsFor_130 hl (k := 3) rfl (by exact nI_1 (k9_39)) (by decide) rfl (fun ls hl => ?_)
                    refine lv_goto (tgt := 39) hx hb dX9_haltsFor_133 (by decide) ?_
                    exact ih_39 (k9_39 + 1) _ _ _ _ (by omega) (by omega)  (hP.sub [0, 1, 2] rfl) (hD.sub [0, 1, 2] (by decide) rfl) hS (lv_sub hl [0, 1, 4, 5] rfl)
                · have ic_24 : ((k9_76 : Nat) : Int) < z_23.toInt := inle c_24 (rfl) (nI_toInt (by omega))
                  refine lv_iload hx hb dX9_haltsFor_87 (lv_at hl 1 rfl) ?_
                  refine lv_iload_n hx hb dX9_haltsFor_89 rfl (lv_at hl 2 rfl) ?_
                  refine lv_iload hx hb dX9_haltsFor_90 (lv_at hl 0 rfl) ?_
                  refine lv_ishr hx hb dX9_haltsFor_92 ?_
                  refine lv_topi (fun z_28 ez_28 => ?_)
                  refine lv_iconst (v := 1) hx hb dX9_haltsFor_93 (by decide) ?_
                  refine lv_iand hx hb dX9_haltsFor_94 ?_
                  refine lv_topi (fun z_29 ez_29 => ?_)
                  have iz_29 : 0 ≤ z_29.toInt ∧ z_29.toInt ≤ 1 := andI ez_29 (by decide) (by decide)
                  refine lv_iconst (v := 1) hx hb dX9_haltsFor_95 (by decide) ?_
                  refine lv_icmp_ne (tgt := 109) hx hb dX9_haltsFor_96 (by decide) (fun c_30 => ?_) (fun c_30 => ?_)
                  · have ic_30 : ¬ z_29.toInt = 1 := ine c_30 (rfl) (by decide)
                    refine lv_iconst (v := 0) hx hb dX9_haltsFor_109 (by decide) ?_
                    refine lv_ior hx hb dX9_haltsFor_110 ?_
                    refine lv_topi (fun z_31 ez_31 => ?_)
                    refine lv_istore (lv' := [(4, .int z_31), (5, .int (nI k9_76)), (3, .int (nI k9_39)), (2, .int x9_39_2), (0, .ref h0), (1, .int x)]) hx hb dX9_haltsFor_111 hl (by decide) rfl (fun ls hl => ?_)
                    refine lv_iinc (v := (nI (k9_76 + 1))) (lv' := [(5, .int (nI (k9_76 + 1))), (4, .int z_31), (3, .int (nI k9_39)), (2, .int x9_39_2), (0, .ref h0), (1, .int x)]) hx hb dX9_haltsFor_113 hl (k := 1) rfl (by exact nI_1 (k9_76)) (by decide) rfl (fun ls hl => ?_)
                    refine lv_goto (tgt := 76) hx hb dX9_haltsFor_116 (by decide) ?_
                    exact ih_76 (k9_76 + 1) _ _ _ _ (by omega) (by omega)  (hP.sub [0, 1, 2] rfl) (hD.sub [0, 1, 2] (by decide) rfl) hS (lv_sub hl [0, 1, 2, 3, 4, 5] rfl)
                  · have ic_30 : z_29.toInt = 1 := ieq c_30 (rfl) (by decide)
                    refine lv_aload_n hx hb dX9_haltsFor_99 rfl (lv_at hl 4 rfl) ?_
                    refine va_get (D := D) (ci := 9) (v := .ref (g 10)) (C := RX9) (T := TX9) (N := 37) hx hb htg gRX9 hown hK hP 0 rfl rfl 30 (by decide) (htg _ wi_1180) (fun _ h9 => h9) rfl dX9_haltsFor_100 ?_
                    refine lv_iload hx hb dX9_haltsFor_103 (lv_at hl 0 rfl) ?_
                    refine va_iald hx hb hK hP 2 0 rfl rfl (vp_in_nI (by omega) (by omega)) dX9_haltsFor_105 ?_
                    refine lv_topi (fun z_32 ez_32 => ?_)
                    refine lv_goto (tgt := 110) hx hb dX9_haltsFor_106 (by decide) ?_
                    refine lv_ior hx hb dX9_haltsFor_110 ?_
                    refine lv_topi (fun z_33 ez_33 => ?_)
                    refine lv_istore (lv' := [(4, .int z_33), (5, .int (nI k9_76)), (3, .int (nI k9_39)), (2, .int x9_39_2), (0, .ref h0), (1, .int x)]) hx hb dX9_haltsFor_111 hl (by decide) rfl (fun ls hl => ?_)
                    refine lv_iinc (v := (nI (k9_76 + 1))) (lv' := [(5, .int (nI (k9_76 + 1))), (4, .int z_33), (3, .int (nI k9_39)), (2, .int x9_39_2), (0, .ref h0), (1, .int x)]) hx hb dX9_haltsFor_113 hl (k := 1) rfl (by exact nI_1 (k9_76)) (by decide) rfl (fun ls hl => ?_)
                    refine lv_goto (tgt := 76) hx hb dX9_haltsFor_116 (by decide) ?_
                    exact ih_76 (k9_76 + 1) _ _ _ _ (by omega) (by omega)  (hP.sub [0, 1, 2] rfl) (hD.sub [0, 1, 2] (by decide) rfl) hS (lv_sub hl [0, 1, 2, 3, 4, 5] rfl)
            · have ic_22 : r_21.toInt ≤ r_19.toInt := inlt c_22 (rfl) (rfl)
              refine lv_goto (tgt := 130) hx hb dX9_haltsFor_67 (by decide) ?_
              refine lv_iinc (v := (nI (k9_39 + 1))) (lv' := [(3, .int (nI (k9_39 + 1))), (2, .int x9_39_2), (0, .ref h0), (1, .int x)]) hx hb dX9_haltsFor_130 hl (k := 0) rfl (by exact nI_1 (k9_39)) (by decide) rfl (fun ls hl => ?_)
              refine lv_goto (tgt := 39) hx hb dX9_haltsFor_133 (by decide) ?_
              exact ih_39 (k9_39 + 1) _ _ _ _ (by omega) (by omega)  (hP.sub [0, 1, 2] rfl) (hD.sub [0, 1, 2] (by decide) rfl) hS (lv_sub hl [0, 1, 2, 3] rfl)
    · have ic_2 : ((k9_2 : Nat) : Int) < z_1.toInt := inle c_2 (rfl) (nI_toInt (by omega))
      refine lv_aload_n hx hb dX9_haltsFor_12 rfl (lv_at hl 1 rfl) ?_
      refine va_get (D := D) (ci := 9) (v := .ref (g 10)) (C := RX9) (T := TX9) (N := 37) hx hb htg gRX9 hown hK hP 0 rfl rfl 30 (by decide) (htg _ wi_1180) (fun _ h9 => h9) rfl dX9_haltsFor_13 ?_
      refine lv_iload_n hx hb dX9_haltsFor_16 rfl (lv_at hl 0 rfl) ?_
      refine lv_aload_n hx hb dX9_haltsFor_17 rfl (lv_at hl 1 rfl) ?_
      refine lv_iload_n hx hb dX9_haltsFor_18 rfl (lv_at hl 0 rfl) ?_
      refine lv_aload_n hx hb dX9_haltsFor_19 rfl (lv_at hl 1 rfl) ?_
      refine va_get (D := D) (ci := 9) (v := .ref (g 0)) (C := RX9) (T := TX9) (N := 37) hx hb htg gRX9 hown hK hP 0 rfl rfl 1 (by decide) (htg _ wi_1151) (fun _ h9 => h9) rfl dX9_haltsFor_20 ?_
      refine lv_iconst (v := 3) hx hb dX9_haltsFor_23 (by decide) ?_
      refine va_iald hx hb hK hP 1 0 rfl rfl (by unfold vp_in; decide) dX9_haltsFor_24 ?_
      refine lv_topi (fun z_34 ez_34 => ?_)
      refine xk_i (wr := [((g 10), .inl (cT 0, 16, .inl (f9_2_0)))]) (xr_V (n := 2) (As := [.int (nI k9_2), .int z_34]) (rest := [.int (nI k9_2), .ref (g 10)]) ⟨hx, hb, hml, hown, htg⟩ hK hN hP hD hS hA [0, 1] rfl (by decide) (m_litBy l D cT _ (h0) (g) (b0) (b5) (b6) (b7) (b8) (b9) (b10) (b11) (b12) (b13) (b14) (b17) (b18) (b19) (b23) (b24) (b25) (b26) (b27) (b29) (b31) (b32) (b33) (by first | assumption | omega | decide | exact Or.inl (by decide) | (intro h9; exact absurd h9 (by decide)) | (intro _; omega) | (intro _; assumption) | (intro _; decide)) (a0) (by first | assumption | omega | decide | exact Or.inl (by decide) | (intro h9; exact absurd h9 (by decide)) | (intro _; omega) | (intro _; assumption) | (intro _; decide)) ((nI k9_2)) (z_34) (by first | assumption | omega | decide | exact Or.inl (by decide) | (intro h9; exact absurd h9 (by decide)) | (intro _; omega) | (intro _; assumption) | (intro _; decide))) wi_1383 wi_1385 wi_97 wi_131 wi_1386 rfl rfl rfl ⟨rfl, by decide +kernel⟩ ⟨Nat.le_of_ble_eq_true rfl, Nat.le_of_ble_eq_true rfl⟩ rfl hl.1 rfl (Nat.le_of_ble_eq_true rfl) dX9_haltsFor_25 ⟨Nat.le_of_ble_eq_true rfl, Nat.le_of_ble_eq_true rfl⟩) hP hD hS hA [0, 1] [2] rfl rfl (by decide) (by decide) (fun r_36 u_35 H locs hwr_36 hP hD hS => ?_)
      have hP : va_P D classes [((g 10), .inl (cT 0, 16, .inl (f9_2_0))), (h0, .inr (9, (.int b0 :: .ref (g 0) :: .ref (g 1) :: .ref (g 2) :: .ref (g 3) :: .int b5 :: .int b6 :: .int b7 :: .int b8 :: .int b9 :: .int b10 :: .int b11 :: .int b12 :: .int b13 :: .int b14 :: .ref (g 4) :: .ref (g 5) :: .int b17 :: .int b18 :: .int b19 :: .ref (g 6) :: .ref (g 7) :: .ref (g 8) :: .int b23 :: .int b24 :: .int b25 :: .int b26 :: .int b27 :: .ref (g 9) :: .int b29 :: .ref (g 10) :: .int b31 :: .int b32 :: .int b33 :: .ref (g 11) :: .ref (g 12) :: .ref (g 13) :: []))), ((g 0), .inl (cT 0, 288, .inl (a0)))] _ := hP
      have hD : va_D A [((g 10), .inl (cT 0, 16, .inl (f9_2_0))), (h0, .inr (9, (.int b0 :: .ref (g 0) :: .ref (g 1) :: .ref (g 2) :: .ref (g 3) :: .int b5 :: .int b6 :: .int b7 :: .int b8 :: .int b9 :: .int b10 :: .int b11 :: .int b12 :: .int b13 :: .int b14 :: .ref (g 4) :: .ref (g 5) :: .int b17 :: .int b18 :: .int b19 :: .ref (g 6) :: .ref (g 7) :: .ref (g 8) :: .int b23 :: .int b24 :: .int b25 :: .int b26 :: .int b27 :: .ref (g 9) :: .int b29 :: .ref (g 10) :: .int b31 :: .int b32 :: .int b33 :: .ref (g 11) :: .ref (g 12) :: .ref (g 13) :: []))), ((g 0), .inl (cT 0, 288, .inl (a0)))] := hD
      refine va_iast hx hb hK hP hD hS 0 0 rfl rfl (vp_in_nI (by omega) (by omega)) dX9_haltsFor_28 (fun H locs hP hD hS => ?_)
      obtain ⟨f_37, hP, hD⟩ : ∃ f_37 : Nat → Int32, va_P D classes [((g 10), .inl (cT 0, 16, .inl (f_37))), (h0, .inr (9, (.int b0 :: .ref (g 0) :: .ref (g 1) :: .ref (g 2) :: .ref (g 3) :: .int b5 :: .int b6 :: .int b7 :: .int b8 :: .int b9 :: .int b10 :: .int b11 :: .int b12 :: .int b13 :: .int b14 :: .ref (g 4) :: .ref (g 5) :: .int b17 :: .int b18 :: .int b19 :: .ref (g 6) :: .ref (g 7) :: .ref (g 8) :: .int b23 :: .int b24 :: .int b25 :: .int b26 :: .int b27 :: .ref (g 9) :: .int b29 :: .ref (g 10) :: .int b31 :: .int b32 :: .int b33 :: .ref (g 11) :: .ref (g 12) :: .ref (g 13) :: []))), ((g 0), .inl (cT 0, 288, .inl (a0)))] H ∧ va_D A [((g 10), .inl (cT 0, 16, .inl (f_37))), (h0, .inr (9, (.int b0 :: .ref (g 0) :: .ref (g 1) :: .ref (g 2) :: .ref (g 3) :: .int b5 :: .int b6 :: .int b7 :: .int b8 :: .int b9 :: .int b10 :: .int b11 :: .int b12 :: .int b13 :: .int b14 :: .ref (g 4) :: .ref (g 5) :: .int b17 :: .int b18 :: .int b19 :: .ref (g 6) :: .ref (g 7) :: .ref (g 8) :: .int b23 :: .int b24 :: .int b25 :: .int b26 :: .int b27 :: .ref (g 9) :: .int b29 :: .ref (g 10) :: .int b31 :: .int b32 :: .int b33 :: .ref (g 11) :: .ref (g 12) :: .ref (g 13) :: []))), ((g 0), .inl (cT 0, 288, .inl (a0)))] := ⟨_, hP, hD⟩
      refine lv_iinc (v := (nI (k9_2 + 1))) (lv' := [(2, .int (nI (k9_2 + 1))), (0, .ref h0), (1, .int x)]) hx hb dX9_haltsFor_29 hl (k := 0) rfl (by exact nI_1 (k9_2)) (by decide) rfl (fun ls hl => ?_)
      refine lv_goto (tgt := 2) hx hb dX9_haltsFor_32 (by decide) ?_
      exact ih_2 (k9_2 + 1) _ _ _ _ (by omega) (by omega)  (hP.sub [1, 2, 0] rfl) (hD.sub [1, 2, 0] (by decide) rfl) hS (lv_sub hl [0, 1, 2] rfl)
set_option maxHeartbeats 4000000 in
set_option maxRecDepth 100000 in
theorem m_halts (l : Launch) (D : va_G) (cT : Nat → ClassId) (sz : Nat) (h0 : Nat) (g : Nat → Nat) (b0 : Int32) (b5 : Int32) (b6 : Int32) (b7 : Int32) (b8 : Int32) (b9 : Int32) (b10 : Int32) (b11 : Int32) (b12 : Int32) (b13 : Int32) (b14 : Int32) (b17 : Int32) (b18 : Int32) (b19 : Int32) (b23 : Int32) (b24 : Int32) (b25 : Int32) (b26 : Int32) (b27 : Int32) (b29 : Int32) (b31 : Int32) (b32 : Int32) (b33 : Int32) (hb5 : 0 ≤ b5.toInt ∧ b5.toInt ≤ 900) (a0 : Nat → Int32) (pa0 : PI 288 a0) (a10 : Nat → Int32) (x : Int32) : Met l yX9_halts (wsc yX9_halts cX9_halts 2 (some .int)) { frames := 7, cells := 0, slots := 0, locals := 219 } (va_Pc [.ref h0, .int x] (PX D cT sz [(h0, .inr (9, (.int b0 :: .ref (g 0) :: .ref (g 1) :: .ref (g 2) :: .ref (g 3) :: .int b5 :: .int b6 :: .int b7 :: .int b8 :: .int b9 :: .int b10 :: .int b11 :: .int b12 :: .int b13 :: .int b14 :: .ref (g 4) :: .ref (g 5) :: .int b17 :: .int b18 :: .int b19 :: .ref (g 6) :: .ref (g 7) :: .ref (g 8) :: .int b23 :: .int b24 :: .int b25 :: .int b26 :: .int b27 :: .ref (g 9) :: .int b29 :: .ref (g 10) :: .int b31 :: .int b32 :: .int b33 :: .ref (g 11) :: .ref (g 12) :: .ref (g 13) :: []))), ((g 0), .inl (cT 0, 288, .inl (a0))), ((g 10), .inl (cT 0, 16, .inl (a10)))])) (va_Qi (fun (r : Int32) (u : Int32 × (Nat → Int32)) => (True)) (fun u t => RW D (va_A [(h0, .inr (9, (.int b0 :: .ref (g 0) :: .ref (g 1) :: .ref (g 2) :: .ref (g 3) :: .int b5 :: .int b6 :: .int b7 :: .int b8 :: .int b9 :: .int b10 :: .int b11 :: .int b12 :: .int b13 :: .int b14 :: .ref (g 4) :: .ref (g 5) :: .int b17 :: .int b18 :: .int b19 :: .ref (g 6) :: .ref (g 7) :: .ref (g 8) :: .int b23 :: .int b24 :: .int b25 :: .int b26 :: .int b27 :: .ref (g 9) :: .int b29 :: .ref (g 10) :: .int b31 :: .int b32 :: .int b33 :: .ref (g 11) :: .ref (g 12) :: .ref (g 13) :: []))), ((g 0), .inl (cT 0, 288, .inl (a0))), ((g 10), .inl (cT 0, 16, .inl (a10)))] sz) ((fun u : Int32 × (Nat → Int32) => [(h0, .inr (9, (.int u.1 :: .ref (g 0) :: .ref (g 1) :: .ref (g 2) :: .ref (g 3) :: .int b5 :: .int b6 :: .int b7 :: .int b8 :: .int b9 :: .int b10 :: .int b11 :: .int b12 :: .int b13 :: .int b14 :: .ref (g 4) :: .ref (g 5) :: .int b17 :: .int b18 :: .int b19 :: .ref (g 6) :: .ref (g 7) :: .ref (g 8) :: .int b23 :: .int b24 :: .int b25 :: .int b26 :: .int b27 :: .ref (g 9) :: .int b29 :: .ref (g 10) :: .int b31 :: .int b32 :: .int b33 :: .ref (g 11) :: .ref (g 12) :: .ref (g 13) :: []))), ((g 0), .inl (cT 0, 288, .inl (a0))), ((g 10), .inl (cT 0, 16, .inl (u.2)))]) u) t) (va_A [(h0, .inr (9, (.int b0 :: .ref (g 0) :: .ref (g 1) :: .ref (g 2) :: .ref (g 3) :: .int b5 :: .int b6 :: .int b7 :: .int b8 :: .int b9 :: .int b10 :: .int b11 :: .int b12 :: .int b13 :: .int b14 :: .ref (g 4) :: .ref (g 5) :: .int b17 :: .int b18 :: .int b19 :: .ref (g 6) :: .ref (g 7) :: .ref (g 8) :: .int b23 :: .int b24 :: .int b25 :: .int b26 :: .int b27 :: .ref (g 9) :: .int b29 :: .ref (g 10) :: .int b31 :: .int b32 :: .int b33 :: .ref (g 11) :: .ref (g 12) :: .ref (g 13) :: []))), ((g 0), .inl (cT 0, 288, .inl (a0))), ((g 10), .inl (cT 0, 16, .inl (a10)))] sz)) 0 0 (va_A [(h0, .inr (9, (.int b0 :: .ref (g 0) :: .ref (g 1) :: .ref (g 2) :: .ref (g 3) :: .int b5 :: .int b6 :: .int b7 :: .int b8 :: .int b9 :: .int b10 :: .int b11 :: .int b12 :: .int b13 :: .int b14 :: .ref (g 4) :: .ref (g 5) :: .int b17 :: .int b18 :: .int b19 :: .ref (g 6) :: .ref (g 7) :: .ref (g 8) :: .int b23 :: .int b24 :: .int b25 :: .int b26 :: .int b27 :: .ref (g 9) :: .int b29 :: .ref (g 10) :: .int b31 :: .int b32 :: .int b33 :: .ref (g 11) :: .ref (g 12) :: .ref (g 13) :: []))), ((g 0), .inl (cT 0, 288, .inl (a0))), ((g 10), .inl (cT 0, 16, .inl (a10)))] sz) := by
  refine m_of (y := yX9_halts) (cc := cX9_halts) (nL := 2) (ret := (some .int)) (D := D) (cT := cT) (av := [.ref h0, .int x]) (wi := [(h0, .inr (9, (.int b0 :: .ref (g 0) :: .ref (g 1) :: .ref (g 2) :: .ref (g 3) :: .int b5 :: .int b6 :: .int b7 :: .int b8 :: .int b9 :: .int b10 :: .int b11 :: .int b12 :: .int b13 :: .int b14 :: .ref (g 4) :: .ref (g 5) :: .int b17 :: .int b18 :: .int b19 :: .ref (g 6) :: .ref (g 7) :: .ref (g 8) :: .int b23 :: .int b24 :: .int b25 :: .int b26 :: .int b27 :: .ref (g 9) :: .int b29 :: .ref (g 10) :: .int b31 :: .int b32 :: .int b33 :: .ref (g 11) :: .ref (g 12) :: .ref (g 13) :: []))), ((g 0), .inl (cT 0, 288, .inl (a0))), ((g 10), .inl (cT 0, 16, .inl (a10)))]) (fun A => va_Qi (fun (r : Int32) (u : Int32 × (Nat → Int32)) => (True)) (fun u t => RW D A ((fun u : Int32 × (Nat → Int32) => [(h0, .inr (9, (.int u.1 :: .ref (g 0) :: .ref (g 1) :: .ref (g 2) :: .ref (g 3) :: .int b5 :: .int b6 :: .int b7 :: .int b8 :: .int b9 :: .int b10 :: .int b11 :: .int b12 :: .int b13 :: .int b14 :: .ref (g 4) :: .ref (g 5) :: .int b17 :: .int b18 :: .int b19 :: .ref (g 6) :: .ref (g 7) :: .ref (g 8) :: .int b23 :: .int b24 :: .int b25 :: .int b26 :: .int b27 :: .ref (g 9) :: .int b29 :: .ref (g 10) :: .int b31 :: .int b32 :: .int b33 :: .ref (g 11) :: .ref (g 12) :: .ref (g 13) :: []))), ((g 0), .inl (cT 0, 288, .inl (a0))), ((g 10), .inl (cT 0, 16, .inl (u.2)))]) u) t) A) (by decide) (Nat.le_of_ble_eq_true rfl) ?_
  intro p e s m below meth c A hx hb hml hown htg hK hN hr hlk hnm hsz hP hD hS hA ls hl
  have hown : s.vm.findClass RX9 = some m.cls := hown
  have hl : lv_has ls 2 [(0, .ref h0), (1, .int x)] := hl
  have tc_m3 : ((-3) : Int32).toInt = (-3) := by decide
  have tc_0 : (0 : Int32).toInt = 0 := by decide
  refine lv_aload_n hx hb dX9_halts_0 rfl (lv_at hl 0 rfl) ?_
  refine lv_iconst (v := 0) hx hb dX9_halts_1 (by decide) ?_
  refine va_put (D := D) (ci := 9) (v := .int 0) (ty := .int) (C := RX9) (T := TX9) (N := 37) hx hb htg gRX9 tyX9 tyX9_ok nmX9 hown hK hP hD hS 0 rfl rfl 0 (by decide) (htg _ wi_1150) (fun _ h9 => h9) rfl (by decide +kernel) rfl rfl (Nat.le_of_ble_eq_true rfl) dX9_halts_2 (fun H locs hP hD hS => ?_)
  have hP : va_P D classes [(h0, .inr (9, (.int 0 :: .ref (g 0) :: .ref (g 1) :: .ref (g 2) :: .ref (g 3) :: .int b5 :: .int b6 :: .int b7 :: .int b8 :: .int b9 :: .int b10 :: .int b11 :: .int b12 :: .int b13 :: .int b14 :: .ref (g 4) :: .ref (g 5) :: .int b17 :: .int b18 :: .int b19 :: .ref (g 6) :: .ref (g 7) :: .ref (g 8) :: .int b23 :: .int b24 :: .int b25 :: .int b26 :: .int b27 :: .ref (g 9) :: .int b29 :: .ref (g 10) :: .int b31 :: .int b32 :: .int b33 :: .ref (g 11) :: .ref (g 12) :: .ref (g 13) :: []))), ((g 0), .inl (cT 0, 288, .inl (a0))), ((g 10), .inl (cT 0, 16, .inl (a10)))] _ := hP
  have hD : va_D A [(h0, .inr (9, (.int 0 :: .ref (g 0) :: .ref (g 1) :: .ref (g 2) :: .ref (g 3) :: .int b5 :: .int b6 :: .int b7 :: .int b8 :: .int b9 :: .int b10 :: .int b11 :: .int b12 :: .int b13 :: .int b14 :: .ref (g 4) :: .ref (g 5) :: .int b17 :: .int b18 :: .int b19 :: .ref (g 6) :: .ref (g 7) :: .ref (g 8) :: .int b23 :: .int b24 :: .int b25 :: .int b26 :: .int b27 :: .ref (g 9) :: .int b29 :: .ref (g 10) :: .int b31 :: .int b32 :: .int b33 :: .ref (g 11) :: .ref (g 12) :: .ref (g 13) :: []))), ((g 0), .inl (cT 0, 288, .inl (a0))), ((g 10), .inl (cT 0, 16, .inl (a10)))] := hD
  refine lv_aload_n hx hb dX9_halts_5 rfl (lv_at hl 0 rfl) ?_
  refine lv_iload_n hx hb dX9_halts_6 rfl (lv_at hl 1 rfl) ?_
  refine xk_i (wr := [((g 10), .inl (cT 0, 16, .inl (a10)))]) (xr_V (n := 1) (As := [.int x]) (rest := []) ⟨hx, hb, hml, hown, htg⟩ hK hN hP hD hS hA [0, 1] rfl (by decide) (m_isSet l D cT _ (h0) (g) (0) (b5) (b6) (b7) (b8) (b9) (b10) (b11) (b12) (b13) (b14) (b17) (b18) (b19) (b23) (b24) (b25) (b26) (b27) (b29) (b31) (b32) (b33) (by first | assumption | omega | decide | exact Or.inl (by decide) | (intro h9; exact absurd h9 (by decide)) | (intro _; omega) | (intro _; assumption) | (intro _; decide)) (a0) (by first | assumption | omega | decide | exact Or.inl (by decide) | (intro h9; exact absurd h9 (by decide)) | (intro _; omega) | (intro _; assumption) | (intro _; decide)) (x)) wi_1399 wi_1401 wi_98 wi_131 wi_1402 rfl rfl rfl ⟨rfl, by decide +kernel⟩ ⟨Nat.le_of_ble_eq_true rfl, Nat.le_of_ble_eq_true rfl⟩ rfl hl.1 rfl (Nat.le_of_ble_eq_true rfl) dX9_halts_7 ⟨Nat.le_of_ble_eq_true rfl, Nat.le_of_ble_eq_true rfl⟩) hP hD hS hA [0, 1] [2] rfl rfl (by decide) (by decide) (fun r_2 u_1 H locs hwr_2 hP hD hS => ?_)
  have hP : va_P D classes [((g 10), .inl (cT 0, 16, .inl (a10))), (h0, .inr (9, (.int 0 :: .ref (g 0) :: .ref (g 1) :: .ref (g 2) :: .ref (g 3) :: .int b5 :: .int b6 :: .int b7 :: .int b8 :: .int b9 :: .int b10 :: .int b11 :: .int b12 :: .int b13 :: .int b14 :: .ref (g 4) :: .ref (g 5) :: .int b17 :: .int b18 :: .int b19 :: .ref (g 6) :: .ref (g 7) :: .ref (g 8) :: .int b23 :: .int b24 :: .int b25 :: .int b26 :: .int b27 :: .ref (g 9) :: .int b29 :: .ref (g 10) :: .int b31 :: .int b32 :: .int b33 :: .ref (g 11) :: .ref (g 12) :: .ref (g 13) :: []))), ((g 0), .inl (cT 0, 288, .inl (a0)))] _ := hP
  have hD : va_D A [((g 10), .inl (cT 0, 16, .inl (a10))), (h0, .inr (9, (.int 0 :: .ref (g 0) :: .ref (g 1) :: .ref (g 2) :: .ref (g 3) :: .int b5 :: .int b6 :: .int b7 :: .int b8 :: .int b9 :: .int b10 :: .int b11 :: .int b12 :: .int b13 :: .int b14 :: .ref (g 4) :: .ref (g 5) :: .int b17 :: .int b18 :: .int b19 :: .ref (g 6) :: .ref (g 7) :: .ref (g 8) :: .int b23 :: .int b24 :: .int b25 :: .int b26 :: .int b27 :: .ref (g 9) :: .int b29 :: .ref (g 10) :: .int b31 :: .int b32 :: .int b33 :: .ref (g 11) :: .ref (g 12) :: .ref (g 13) :: []))), ((g 0), .inl (cT 0, 288, .inl (a0)))] := hD
  refine lv_if_eq (tgt := 21) hx hb dX9_halts_10 (by decide) (fun c_3 => ?_) (fun c_3 => ?_)
  · have ic_3 : r_2.toInt = 0 := ieq c_3 (rfl) (by decide)
    refine lv_bipush (v := (-3)) hx hb dX9_halts_21 (by decide) ?_
    exact x_iret hx hb hr hlk hP hD hS [1, 2, 0] ((0, a10)) rfl (by decide) trivial (by decide) (by decide) dX9_halts_23
  · have ic_3 : ¬ r_2.toInt = 0 := ine c_3 (rfl) (by decide)
    refine lv_aload_n hx hb dX9_halts_13 rfl (lv_at hl 0 rfl) ?_
    refine lv_iload_n hx hb dX9_halts_14 rfl (lv_at hl 1 rfl) ?_
    refine xk_i (wr := []) (xr_V (n := 1) (As := [.int x]) (rest := []) ⟨hx, hb, hml, hown, htg⟩ hK hN hP hD hS hA [1, 2, 0] rfl (by decide) (m_haltsFor l D cT _ (h0) (g) (0) (b5) (b6) (b7) (b8) (b9) (b10) (b11) (b12) (b13) (b14) (b17) (b18) (b19) (b23) (b24) (b25) (b26) (b27) (b29) (b31) (b32) (b33) (by first | assumption | omega | decide | exact Or.inl (by decide) | (intro h9; exact absurd h9 (by decide)) | (intro _; omega) | (intro _; assumption) | (intro _; decide)) (a0) (by first | assumption | omega | decide | exact Or.inl (by decide) | (intro h9; exact absurd h9 (by decide)) | (intro _; omega) | (intro _; assumption) | (intro _; decide)) (a10) (x)) wi_1548 wi_1550 wi_113 wi_131 wi_1551 rfl rfl rfl ⟨rfl, by decide +kernel⟩ ⟨Nat.le_of_ble_eq_true rfl, Nat.le_of_ble_eq_true rfl⟩ rfl hl.1 rfl (Nat.le_of_ble_eq_true rfl) dX9_halts_15 ⟨Nat.le_of_ble_eq_true rfl, Nat.le_of_ble_eq_true rfl⟩) hP hD hS hA [1, 2, 0] [] rfl rfl (by decide) (by decide) (fun r_5 u_4 H locs hwr_5 hP hD hS => ?_)
    have hP : va_P D classes [(h0, .inr (9, (.int 0 :: .ref (g 0) :: .ref (g 1) :: .ref (g 2) :: .ref (g 3) :: .int b5 :: .int b6 :: .int b7 :: .int b8 :: .int b9 :: .int b10 :: .int b11 :: .int b12 :: .int b13 :: .int b14 :: .ref (g 4) :: .ref (g 5) :: .int b17 :: .int b18 :: .int b19 :: .ref (g 6) :: .ref (g 7) :: .ref (g 8) :: .int b23 :: .int b24 :: .int b25 :: .int b26 :: .int b27 :: .ref (g 9) :: .int b29 :: .ref (g 10) :: .int b31 :: .int b32 :: .int b33 :: .ref (g 11) :: .ref (g 12) :: .ref (g 13) :: []))), ((g 0), .inl (cT 0, 288, .inl (a0))), ((g 10), .inl (cT 0, 16, .inl (u_4)))] _ := hP
    have hD : va_D A [(h0, .inr (9, (.int 0 :: .ref (g 0) :: .ref (g 1) :: .ref (g 2) :: .ref (g 3) :: .int b5 :: .int b6 :: .int b7 :: .int b8 :: .int b9 :: .int b10 :: .int b11 :: .int b12 :: .int b13 :: .int b14 :: .ref (g 4) :: .ref (g 5) :: .int b17 :: .int b18 :: .int b19 :: .ref (g 6) :: .ref (g 7) :: .ref (g 8) :: .int b23 :: .int b24 :: .int b25 :: .int b26 :: .int b27 :: .ref (g 9) :: .int b29 :: .ref (g 10) :: .int b31 :: .int b32 :: .int b33 :: .ref (g 11) :: .ref (g 12) :: .ref (g 13) :: []))), ((g 0), .inl (cT 0, 288, .inl (a0))), ((g 10), .inl (cT 0, 16, .inl (u_4)))] := hD
    refine lv_goto (tgt := 23) hx hb dX9_halts_18 (by decide) ?_
    exact x_iret hx hb hr hlk hP hD hS [0, 1, 2] ((0, u_4)) rfl (by decide) trivial (by decide) (by decide) dX9_halts_23
