set_option maxHeartbeats 4000000 in
set_option maxRecDepth 100000 in
theorem m_feed (l : Launch) (D : va_G) (cT : Nat → ClassId) (sz : Nat) (h0 : Nat) (g : Nat → Nat) (x : Int32) (y : Int32) (z : Int32) (v : Int32) (w : Int32) : Met l yX9_feed (wsc yX9_feed cX9_feed 8 (some .int)) { frames := 2, cells := 0, slots := 0, locals := 100 } (va_Pc [.ref h0, .int x, .int y, .int z, .int v, .int w] (PX D cT sz [(h0, .inr (9, (.int 0 :: .ref (g 0) :: .ref (g 1) :: .ref (g 2) :: .ref (g 3) :: .int 0 :: .int 0 :: .int 0 :: .int 0 :: .int 0 :: .int 0 :: .int 0 :: .int 0 :: .int 0 :: .int (-1) :: .ref (g 4) :: .ref (g 5) :: .int 0 :: .int 0 :: .int 0 :: .ref (g 6) :: .ref (g 7) :: .ref (g 8) :: .int 0 :: .int 0 :: .int 0 :: .int 0 :: .int 0 :: .ref (g 9) :: .int 0 :: .ref (g 10) :: .int 0 :: .int 0 :: .int 0 :: .ref (g 11) :: .ref (g 12) :: .ref (g 13) :: []))), ((g 2), .inl (cT 0, 900, .inl (fun _ => 0)))])) (va_Qi (fun (r : Int32) (u : Unit) => r = 20) (fun u t => RW D (va_A [(h0, .inr (9, (.int 0 :: .ref (g 0) :: .ref (g 1) :: .ref (g 2) :: .ref (g 3) :: .int 0 :: .int 0 :: .int 0 :: .int 0 :: .int 0 :: .int 0 :: .int 0 :: .int 0 :: .int 0 :: .int (-1) :: .ref (g 4) :: .ref (g 5) :: .int 0 :: .int 0 :: .int 0 :: .ref (g 6) :: .ref (g 7) :: .ref (g 8) :: .int 0 :: .int 0 :: .int 0 :: .int 0 :: .int 0 :: .ref (g 9) :: .int 0 :: .ref (g 10) :: .int 0 :: .int 0 :: .int 0 :: .ref (g 11) :: .ref (g 12) :: .ref (g 13) :: []))), ((g 2), .inl (cT 0, 900, .inl (fun _ => 0)))] sz) ((fun _ : Unit => []) u) t) (va_A [(h0, .inr (9, (.int 0 :: .ref (g 0) :: .ref (g 1) :: .ref (g 2) :: .ref (g 3) :: .int 0 :: .int 0 :: .int 0 :: .int 0 :: .int 0 :: .int 0 :: .int 0 :: .int 0 :: .int 0 :: .int (-1) :: .ref (g 4) :: .ref (g 5) :: .int 0 :: .int 0 :: .int 0 :: .ref (g 6) :: .ref (g 7) :: .ref (g 8) :: .int 0 :: .int 0 :: .int 0 :: .int 0 :: .int 0 :: .ref (g 9) :: .int 0 :: .ref (g 10) :: .int 0 :: .int 0 :: .int 0 :: .ref (g 11) :: .ref (g 12) :: .ref (g 13) :: []))), ((g 2), .inl (cT 0, 900, .inl (fun _ => 0)))] sz)) 0 0 (va_A [(h0, .inr (9, (.int 0 :: .ref (g 0) :: .ref (g 1) :: .ref (g 2) :: .ref (g 3) :: .int 0 :: .int 0 :: .int 0 :: .int 0 :: .int 0 :: .int 0 :: .int 0 :: .int 0 :: .int 0 :: .int (-1) :: .ref (g 4) :: .ref (g 5) :: .int 0 :: .int 0 :: .int 0 :: .ref (g 6) :: .ref (g 7) :: .ref (g 8) :: .int 0 :: .int 0 :: .int 0 :: .int 0 :: .int 0 :: .ref (g 9) :: .int 0 :: .ref (g 10) :: .int 0 :: .int 0 :: .int 0 :: .ref (g 11) :: .ref (g 12) :: .ref (g 13) :: []))), ((g 2), .inl (cT 0, 900, .inl (fun _ => 0)))] sz) := by
  refine m_of (y := yX9_feed) (cc := cX9_feed) (nL := 8) (ret := (some .int)) (D := D) (cT := cT) (av := [.ref h0, .int x, .int y, .int z, .int v, .int w]) (wi := [(h0, .inr (9, (.int 0 :: .ref (g 0) :: .ref (g 1) :: .ref (g 2) :: .ref (g 3) :: .int 0 :: .int 0 :: .int 0 :: .int 0 :: .int 0 :: .int 0 :: .int 0 :: .int 0 :: .int 0 :: .int (-1) :: .ref (g 4) :: .ref (g 5) :: .int 0 :: .int 0 :: .int 0 :: .ref (g 6) :: .ref (g 7) :: .ref (g 8) :: .int 0 :: .int 0 :: .int 0 :: .int 0 :: .int 0 :: .ref (g 9) :: .int 0 :: .ref (g 10) :: .int 0 :: .int 0 :: .int 0 :: .ref (g 11) :: .ref (g 12) :: .ref (g 13) :: []))), ((g 2), .inl (cT 0, 900, .inl (fun _ => 0)))]) (fun A => va_Qi (fun (r : Int32) (u : Unit) => r = 20) (fun u t => RW D A ((fun _ : Unit => []) u) t) A) (by decide) (Nat.le_of_ble_eq_true rfl) ?_
  intro p e s m below meth c A hx hb hml hown htg hK hN hr hlk hnm hsz hP hD hS hA ls hl
  have hown : s.vm.findClass RX9 = some m.cls := hown
  have hl : lv_has ls 8 [(0, .ref h0), (1, .int x), (2, .int y), (3, .int z), (4, .int v), (5, .int w)] := hl
  refine lv_aload_n hx hb dX9_feed_0 rfl (lv_at hl 0 rfl) ?_
  refine lv_iconst (v := 0) hx hb dX9_feed_1 (by decide) ?_
  refine va_put (D := D) (ci := 9) (v := .int 0) (ty := .int) (C := RX9) (T := TX9) (N := 37) hx hb htg gRX9 tyX9 tyX9_ok nmX9 hown hK hP hD hS 0 rfl rfl 0 (by decide) (htg _ wi_1150) (fun _ h9 => h9) rfl (by decide +kernel) rfl rfl (Nat.le_of_ble_eq_true rfl) dX9_feed_2 (fun H locs hP hD hS => ?_)
  have hP : va_P D classes [(h0, .inr (9, (.int 0 :: .ref (g 0) :: .ref (g 1) :: .ref (g 2) :: .ref (g 3) :: .int 0 :: .int 0 :: .int 0 :: .int 0 :: .int 0 :: .int 0 :: .int 0 :: .int 0 :: .int 0 :: .int (-1) :: .ref (g 4) :: .ref (g 5) :: .int 0 :: .int 0 :: .int 0 :: .ref (g 6) :: .ref (g 7) :: .ref (g 8) :: .int 0 :: .int 0 :: .int 0 :: .int 0 :: .int 0 :: .ref (g 9) :: .int 0 :: .ref (g 10) :: .int 0 :: .int 0 :: .int 0 :: .ref (g 11) :: .ref (g 12) :: .ref (g 13) :: []))), ((g 2), .inl (cT 0, 900, .inl (fun _ => 0)))] _ := hP
  have hD : va_D A [(h0, .inr (9, (.int 0 :: .ref (g 0) :: .ref (g 1) :: .ref (g 2) :: .ref (g 3) :: .int 0 :: .int 0 :: .int 0 :: .int 0 :: .int 0 :: .int 0 :: .int 0 :: .int 0 :: .int 0 :: .int (-1) :: .ref (g 4) :: .ref (g 5) :: .int 0 :: .int 0 :: .int 0 :: .ref (g 6) :: .ref (g 7) :: .ref (g 8) :: .int 0 :: .int 0 :: .int 0 :: .int 0 :: .int 0 :: .ref (g 9) :: .int 0 :: .ref (g 10) :: .int 0 :: .int 0 :: .int 0 :: .ref (g 11) :: .ref (g 12) :: .ref (g 13) :: []))), ((g 2), .inl (cT 0, 900, .inl (fun _ => 0)))] := hD
  refine lv_aload_n hx hb dX9_feed_5 rfl (lv_at hl 0 rfl) ?_
  refine va_get (D := D) (ci := 9) (v := .int 0) (C := RX9) (T := TX9) (N := 37) hx hb htg gRX9 hown hK hP 0 rfl rfl 5 (by decide) (htg _ wi_1155) (fun _ h9 => h9) rfl dX9_feed_6 ?_
  refine lv_bipush (v := 20) hx hb dX9_feed_9 (by decide) ?_
  refine lv_iadd hx hb dX9_feed_11 ?_
  refine lv_is (y := 20) (by decide) ?_
  refine lv_sipush (v := 900) hx hb dX9_feed_12 (by decide) ?_
  refine lv_icmp_le (tgt := 21) hx hb dX9_feed_15 (by decide) (fun _ => ?_) (fun h => absurd (by decide) h)
  refine lv_iconst (v := 0) hx hb dX9_feed_21 (by decide) ?_
  refine lv_istore (lv' := [(6, .int 0), (0, .ref h0), (1, .int x), (2, .int y), (3, .int z), (4, .int v), (5, .int w)]) hx hb dX9_feed_22 hl (by decide) rfl (fun ls hl => ?_)
  refine lv_iload hx hb dX9_feed_24 (lv_at hl 0 rfl) ?_
  refine lv_bipush (v := 20) hx hb dX9_feed_26 (by decide) ?_
  refine lv_icmp_ge (tgt := 121) hx hb dX9_feed_28 (by decide) (fun h => absurd h (by decide)) (fun _ => ?_)
  refine lv_iload hx hb dX9_feed_31 (lv_at hl 0 rfl) ?_
  refine lv_iconst (v := 4) hx hb dX9_feed_33 (by decide) ?_
  refine lv_icmp_ge (tgt := 41) hx hb dX9_feed_34 (by decide) (fun h => absurd h (by decide)) (fun _ => ?_)
  refine lv_iload_n hx hb dX9_feed_37 rfl (lv_at hl 2 rfl) ?_
  refine lv_goto (tgt := 77) hx hb dX9_feed_38 (by decide) ?_
  refine lv_istore (lv' := [(7, .int x), (6, .int 0), (0, .ref h0), (1, .int x), (2, .int y), (3, .int z), (4, .int v), (5, .int w)]) hx hb dX9_feed_77 hl (by decide) rfl (fun ls hl => ?_)
  refine lv_aload_n hx hb dX9_feed_79 rfl (lv_at hl 2 rfl) ?_
  refine va_get (D := D) (ci := 9) (v := .ref (g 2)) (C := RX9) (T := TX9) (N := 37) hx hb htg gRX9 hown hK hP 0 rfl rfl 3 (by decide) (htg _ wi_1153) (fun _ h9 => h9) rfl dX9_feed_80 ?_
  refine lv_aload_n hx hb dX9_feed_83 rfl (lv_at hl 2 rfl) ?_
  refine va_get (D := D) (ci := 9) (v := .int 0) (C := RX9) (T := TX9) (N := 37) hx hb htg gRX9 hown hK hP 0 rfl rfl 5 (by decide) (htg _ wi_1155) (fun _ h9 => h9) rfl dX9_feed_84 ?_
  refine lv_iload hx hb dX9_feed_87 (lv_at hl 0 rfl) ?_
  refine lv_bipush (v := 24) hx hb dX9_feed_89 (by decide) ?_
  refine lv_bipush (v := 8) hx hb dX9_feed_91 (by decide) ?_
  refine lv_iload hx hb dX9_feed_93 (lv_at hl 1 rfl) ?_
  refine lv_iconst (v := 4) hx hb dX9_feed_95 (by decide) ?_
  refine lv_irem hx hb dX9_feed_96 (by decide) ?_
  refine lv_is (y := 0) (by decide) ?_
  refine lv_imul hx hb dX9_feed_97 ?_
  refine lv_is (y := 0) (by decide) ?_
  refine lv_isub hx hb dX9_feed_98 ?_
  refine lv_is (y := 24) (by decide) ?_
  refine lv_ishr hx hb dX9_feed_99 ?_
  refine lv_sipush (v := 255) hx hb dX9_feed_100 (by decide) ?_
  refine lv_iand hx hb dX9_feed_103 ?_
  refine va_iast hx hb hK hP hD hS 1 0 rfl rfl (by unfold vp_in; decide) dX9_feed_104 (fun H locs hP hD hS => ?_)
  obtain ⟨f_1, hP, hD⟩ : ∃ f_1 : Nat → Int32, va_P D classes [(h0, .inr (9, (.int 0 :: .ref (g 0) :: .ref (g 1) :: .ref (g 2) :: .ref (g 3) :: .int 0 :: .int 0 :: .int 0 :: .int 0 :: .int 0 :: .int 0 :: .int 0 :: .int 0 :: .int 0 :: .int (-1) :: .ref (g 4) :: .ref (g 5) :: .int 0 :: .int 0 :: .int 0 :: .ref (g 6) :: .ref (g 7) :: .ref (g 8) :: .int 0 :: .int 0 :: .int 0 :: .int 0 :: .int 0 :: .ref (g 9) :: .int 0 :: .ref (g 10) :: .int 0 :: .int 0 :: .int 0 :: .ref (g 11) :: .ref (g 12) :: .ref (g 13) :: []))), ((g 2), .inl (cT 0, 900, .inl (f_1)))] H ∧ va_D A [(h0, .inr (9, (.int 0 :: .ref (g 0) :: .ref (g 1) :: .ref (g 2) :: .ref (g 3) :: .int 0 :: .int 0 :: .int 0 :: .int 0 :: .int 0 :: .int 0 :: .int 0 :: .int 0 :: .int 0 :: .int (-1) :: .ref (g 4) :: .ref (g 5) :: .int 0 :: .int 0 :: .int 0 :: .ref (g 6) :: .ref (g 7) :: .ref (g 8) :: .int 0 :: .int 0 :: .int 0 :: .int 0 :: .int 0 :: .ref (g 9) :: .int 0 :: .ref (g 10) :: .int 0 :: .int 0 :: .int 0 :: .ref (g 11) :: .ref (g 12) :: .ref (g 13) :: []))), ((g 2), .inl (cT 0, 900, .inl (f_1)))] := ⟨_, hP, hD⟩
  refine lv_aload_n hx hb dX9_feed_105 rfl (lv_at hl 2 rfl) ?_
  refine lv_dup hx hb dX9_feed_106 rfl ?_
  refine va_get (D := D) (ci := 9) (v := .int 0) (C := RX9) (T := TX9) (N := 37) hx hb htg gRX9 hown hK hP 0 rfl rfl 5 (by decide) (htg _ wi_1155) (fun _ h9 => h9) rfl dX9_feed_107 ?_
  refine lv_iconst (v := 1) hx hb dX9_feed_110 (by decide) ?_
  refine lv_iadd hx hb dX9_feed_111 ?_
  refine lv_is (y := 1) (by decide) ?_
  refine va_put (D := D) (ci := 9) (v := .int 1) (ty := .int) (C := RX9) (T := TX9) (N := 37) hx hb htg gRX9 tyX9 tyX9_ok nmX9 hown hK hP hD hS 0 rfl rfl 5 (by decide) (htg _ wi_1155) (fun _ h9 => h9) rfl (by decide +kernel) rfl rfl (Nat.le_of_ble_eq_true rfl) dX9_feed_112 (fun H locs hP hD hS => ?_)
  have hP : va_P D classes [(h0, .inr (9, (.int 0 :: .ref (g 0) :: .ref (g 1) :: .ref (g 2) :: .ref (g 3) :: .int 1 :: .int 0 :: .int 0 :: .int 0 :: .int 0 :: .int 0 :: .int 0 :: .int 0 :: .int 0 :: .int (-1) :: .ref (g 4) :: .ref (g 5) :: .int 0 :: .int 0 :: .int 0 :: .ref (g 6) :: .ref (g 7) :: .ref (g 8) :: .int 0 :: .int 0 :: .int 0 :: .int 0 :: .int 0 :: .ref (g 9) :: .int 0 :: .ref (g 10) :: .int 0 :: .int 0 :: .int 0 :: .ref (g 11) :: .ref (g 12) :: .ref (g 13) :: []))), ((g 2), .inl (cT 0, 900, .inl (f_1)))] _ := hP
  have hD : va_D A [(h0, .inr (9, (.int 0 :: .ref (g 0) :: .ref (g 1) :: .ref (g 2) :: .ref (g 3) :: .int 1 :: .int 0 :: .int 0 :: .int 0 :: .int 0 :: .int 0 :: .int 0 :: .int 0 :: .int 0 :: .int (-1) :: .ref (g 4) :: .ref (g 5) :: .int 0 :: .int 0 :: .int 0 :: .ref (g 6) :: .ref (g 7) :: .ref (g 8) :: .int 0 :: .int 0 :: .int 0 :: .int 0 :: .int 0 :: .ref (g 9) :: .int 0 :: .ref (g 10) :: .int 0 :: .int 0 :: .int 0 :: .ref (g 11) :: .ref (g 12) :: .ref (g 13) :: []))), ((g 2), .inl (cT 0, 900, .inl (f_1)))] := hD
  refine lv_iinc (v := 1) (lv' := [(6, .int 1), (7, .int x), (0, .ref h0), (1, .int x), (2, .int y), (3, .int z), (4, .int v), (5, .int w)]) hx hb dX9_feed_115 hl (k := 1) rfl (by decide) (by decide) rfl (fun ls hl => ?_)
  refine lv_goto (tgt := 24) hx hb dX9_feed_118 (by decide) ?_
  refine lv_iload hx hb dX9_feed_24 (lv_at hl 0 rfl) ?_
  refine lv_bipush (v := 20) hx hb dX9_feed_26 (by decide) ?_
  refine lv_icmp_ge (tgt := 121) hx hb dX9_feed_28 (by decide) (fun h => absurd h (by decide)) (fun _ => ?_)
  refine lv_iload hx hb dX9_feed_31 (lv_at hl 0 rfl) ?_
  refine lv_iconst (v := 4) hx hb dX9_feed_33 (by decide) ?_
  refine lv_icmp_ge (tgt := 41) hx hb dX9_feed_34 (by decide) (fun h => absurd h (by decide)) (fun _ => ?_)
  refine lv_iload_n hx hb dX9_feed_37 rfl (lv_at hl 3 rfl) ?_
  refine lv_goto (tgt := 77) hx hb dX9_feed_38 (by decide) ?_
  refine lv_istore (lv' := [(7, .int x), (6, .int 1), (0, .ref h0), (1, .int x), (2, .int y), (3, .int z), (4, .int v), (5, .int w)]) hx hb dX9_feed_77 hl (by decide) rfl (fun ls hl => ?_)
  refine lv_aload_n hx hb dX9_feed_79 rfl (lv_at hl 2 rfl) ?_
  refine va_get (D := D) (ci := 9) (v := .ref (g 2)) (C := RX9) (T := TX9) (N := 37) hx hb htg gRX9 hown hK hP 0 rfl rfl 3 (by decide) (htg _ wi_1153) (fun _ h9 => h9) rfl dX9_feed_80 ?_
  refine lv_aload_n hx hb dX9_feed_83 rfl (lv_at hl 2 rfl) ?_
  refine va_get (D := D) (ci := 9) (v := .int 1) (C := RX9) (T := TX9) (N := 37) hx hb htg gRX9 hown hK hP 0 rfl rfl 5 (by decide) (htg _ wi_1155) (fun _ h9 => h9) rfl dX9_feed_84 ?_
  refine lv_iload hx hb dX9_feed_87 (lv_at hl 0 rfl) ?_
  refine lv_bipush (v := 24) hx hb dX9_feed_89 (by decide) ?_
  refine lv_bipush (v := 8) hx hb dX9_feed_91 (by decide) ?_
  refine lv_iload hx hb dX9_feed_93 (lv_at hl 1 rfl) ?_
  refine lv_iconst (v := 4) hx hb dX9_feed_95 (by decide) ?_
  refine lv_irem hx hb dX9_feed_96 (by decide) ?_
  refine lv_is (y := 1) (by decide) ?_
  refine lv_imul hx hb dX9_feed_97 ?_
  refine lv_is (y := 8) (by decide) ?_
  refine lv_isub hx hb dX9_feed_98 ?_
  refine lv_is (y := 16) (by decide) ?_
  refine lv_ishr hx hb dX9_feed_99 ?_
  refine lv_sipush (v := 255) hx hb dX9_feed_100 (by decide) ?_
  refine lv_iand hx hb dX9_feed_103 ?_
  refine va_iast hx hb hK hP hD hS 1 0 rfl rfl (by unfold vp_in; decide) dX9_feed_104 (fun H locs hP hD hS => ?_)
  obtain ⟨f_2, hP, hD⟩ : ∃ f_2 : Nat → Int32, va_P D classes [(h0, .inr (9, (.int 0 :: .ref (g 0) :: .ref (g 1) :: .ref (g 2) :: .ref (g 3) :: .int 1 :: .int 0 :: .int 0 :: .int 0 :: .int 0 :: .int 0 :: .int 0 :: .int 0 :: .int 0 :: .int (-1) :: .ref (g 4) :: .ref (g 5) :: .int 0 :: .int 0 :: .int 0 :: .ref (g 6) :: .ref (g 7) :: .ref (g 8) :: .int 0 :: .int 0 :: .int 0 :: .int 0 :: .int 0 :: .ref (g 9) :: .int 0 :: .ref (g 10) :: .int 0 :: .int 0 :: .int 0 :: .ref (g 11) :: .ref (g 12) :: .ref (g 13) :: []))), ((g 2), .inl (cT 0, 900, .inl (f_2)))] H ∧ va_D A [(h0, .inr (9, (.int 0 :: .ref (g 0) :: .ref (g 1) :: .ref (g 2) :: .ref (g 3) :: .int 1 :: .int 0 :: .int 0 :: .int 0 :: .int 0 :: .int 0 :: .int 0 :: .int 0 :: .int 0 :: .int (-1) :: .ref (g 4) :: .ref (g 5) :: .int 0 :: .int 0 :: .int 0 :: .ref (g 6) :: .ref (g 7) :: .ref (g 8) :: .int 0 :: .int 0 :: .int 0 :: .int 0 :: .int 0 :: .ref (g 9) :: .int 0 :: .ref (g 10) :: .int 0 :: .int 0 :: .int 0 :: .ref (g 11) :: .ref (g 12) :: .ref (g 13) :: []))), ((g 2), .inl (cT 0, 900, .inl (f_2)))] := ⟨_, hP, hD⟩
  refine lv_aload_n hx hb dX9_feed_105 rfl (lv_at hl 2 rfl) ?_
  refine lv_dup hx hb dX9_feed_106 rfl ?_
  refine va_get (D := D) (ci := 9) (v := .int 1) (C := RX9) (T := TX9) (N := 37) hx hb htg gRX9 hown hK hP 0 rfl rfl 5 (by decide) (htg _ wi_1155) (fun _ h9 => h9) rfl dX9_feed_107 ?_
  refine lv_iconst (v := 1) hx hb dX9_feed_110 (by decide) ?_
  refine lv_iadd hx hb dX9_feed_111 ?_
  refine lv_is (y := 2) (by decide) ?_
  refine va_put (D := D) (ci := 9) (v := .int 2) (ty := .int) (C := RX9) (T := TX9) (N := 37) hx hb htg gRX9 tyX9 tyX9_ok nmX9 hown hK hP hD hS 0 rfl rfl 5 (by decide) (htg _ wi_1155) (fun _ h9 => h9) rfl (by decide +kernel) rfl rfl (Nat.le_of_ble_eq_true rfl) dX9_feed_112 (fun H locs hP hD hS => ?_)
  have hP : va_P D classes [(h0, .inr (9, (.int 0 :: .ref (g 0) :: .ref (g 1) :: .ref (g 2) :: .ref (g 3) :: .int 2 :: .int 0 :: .int 0 :: .int 0 :: .int 0 :: .int 0 :: .int 0 :: .int 0 :: .int 0 :: .int (-1) :: .ref (g 4) :: .ref (g 5) :: .int 0 :: .int 0 :: .int 0 :: .ref (g 6) :: .ref (g 7) :: .ref (g 8) :: .int 0 :: .int 0 :: .int 0 :: .int 0 :: .int 0 :: .ref (g 9) :: .int 0 :: .ref (g 10) :: .int 0 :: .int 0 :: .int 0 :: .ref (g 11) :: .ref (g 12) :: .ref (g 13) :: []))), ((g 2), .inl (cT 0, 900, .inl (f_2)))] _ := hP
  have hD : va_D A [(h0, .inr (9, (.int 0 :: .ref (g 0) :: .ref (g 1) :: .ref (g 2) :: .ref (g 3) :: .int 2 :: .int 0 :: .int 0 :: .int 0 :: .int 0 :: .int 0 :: .int 0 :: .int 0 :: .int 0 :: .int (-1) :: .ref (g 4) :: .ref (g 5) :: .int 0 :: .int 0 :: .int 0 :: .ref (g 6) :: .ref (g 7) :: .ref (g 8) :: .int 0 :: .int 0 :: .int 0 :: .int 0 :: .int 0 :: .ref (g 9) :: .int 0 :: .ref (g 10) :: .int 0 :: .int 0 :: .int 0 :: .ref (g 11) :: .ref (g 12) :: .ref (g 13) :: []))), ((g 2), .inl (cT 0, 900, .inl (f_2)))] := hD
  refine lv_iinc (v := 2) (lv' := [(6, .int 2), (7, .int x), (0, .ref h0), (1, .int x), (2, .int y), (3, .int z), (4, .int v), (5, .int w)]) hx hb dX9_feed_115 hl (k := 1) rfl (by decide) (by decide) rfl (fun ls hl => ?_)
  refine lv_goto (tgt := 24) hx hb dX9_feed_118 (by decide) ?_
  refine lv_iload hx hb dX9_feed_24 (lv_at hl 0 rfl) ?_
  refine lv_bipush (v := 20) hx hb dX9_feed_26 (by decide) ?_
  refine lv_icmp_ge (tgt := 121) hx hb dX9_feed_28 (by decide) (fun h => absurd h (by decide)) (fun _ => ?_)
  refine lv_iload hx hb dX9_feed_31 (lv_at hl 0 rfl) ?_
  refine lv_iconst (v := 4) hx hb dX9_feed_33 (by decide) ?_
  refine lv_icmp_ge (tgt := 41) hx hb dX9_feed_34 (by decide) (fun h => absurd h (by decide)) (fun _ => ?_)
  refine lv_iload_n hx hb dX9_feed_37 rfl (lv_at hl 3 rfl) ?_
  refine lv_goto (tgt := 77) hx hb dX9_feed_38 (by decide) ?_
  refine lv_istore (lv' := [(7, .int x), (6, .int 2), (0, .ref h0), (1, .int x), (2, .int y), (3, .int z), (4, .int v), (5, .int w)]) hx hb dX9_feed_77 hl (by decide) rfl (fun ls hl => ?_)
  refine lv_aload_n hx hb dX9_feed_79 rfl (lv_at hl 2 rfl) ?_
  refine va_get (D := D) (ci := 9) (v := .ref (g 2)) (C := RX9) (T := TX9) (N := 37) hx hb htg gRX9 hown hK hP 0 rfl rfl 3 (by decide) (htg _ wi_1153) (fun _ h9 => h9) rfl dX9_feed_80 ?_
  refine lv_aload_n hx hb dX9_feed_83 rfl (lv_at hl 2 rfl) ?_
  refine va_get (D := D) (ci := 9) (v := .int 2) (C := RX9) (T := TX9) (N := 37) hx hb htg gRX9 hown hK hP 0 rfl rfl 5 (by decide) (htg _ wi_1155) (fun _ h9 => h9) rfl dX9_feed_84 ?_
  refine lv_iload hx hb dX9_feed_87 (lv_at hl 0 rfl) ?_
  refine lv_bipush (v := 24) hx hb dX9_feed_89 (by decide) ?_
  refine lv_bipush (v := 8) hx hb dX9_feed_91 (by decide) ?_
  refine lv_iload hx hb dX9_feed_93 (lv_at hl 1 rfl) ?_
  refine lv_iconst (v := 4) hx hb dX9_feed_95 (by decide) ?_
  refine lv_irem hx hb dX9_feed_96 (by decide) ?_
  refine lv_is (y := 2) (by decide) ?_
  refine lv_imul hx hb dX9_feed_97 ?_
  refine lv_is (y := 16) (by decide) ?_
  refine lv_isub hx hb dX9_feed_98 ?_
  refine lv_is (y := 8) (by decide) ?_
  refine lv_ishr hx hb dX9_feed_99 ?_
  refine lv_sipush (v := 255) hx hb dX9_feed_100 (by decide) ?_
  refine lv_iand hx hb dX9_feed_103 ?_
  refine va_iast hx hb hK hP hD hS 1 0 rfl rfl (by unfold vp_in; decide) dX9_feed_104 (fun H locs hP hD hS => ?_)
  obtain ⟨f_3, hP, hD⟩ : ∃ f_3 : Nat → Int32, va_P D classes [(h0, .inr (9, (.int 0 :: .ref (g 0) :: .ref (g 1) :: .ref (g 2) :: .ref (g 3) :: .int 2 :: .int 0 :: .int 0 :: .int 0 :: .int 0 :: .int 0 :: .int 0 :: .int 0 :: .int 0 :: .int (-1) :: .ref (g 4) :: .ref (g 5) :: .int 0 :: .int 0 :: .int 0 :: .ref (g 6) :: .ref (g 7) :: .ref (g 8) :: .int 0 :: .int 0 :: .int 0 :: .int 0 :: .int 0 :: .ref (g 9) :: .int 0 :: .ref (g 10) :: .int 0 :: .int 0 :: .int 0 :: .ref (g 11) :: .ref (g 12) :: .ref (g 13) :: []))), ((g 2), .inl (cT 0, 900, .inl (f_3)))] H ∧ va_D A [(h0, .inr (9, (.int 0 :: .ref (g 0) :: .ref (g 1) :: .ref (g 2) :: .ref (g 3) :: .int 2 :: .int 0 :: .int 0 :: .int 0 :: .int 0 :: .int 0 :: .int 0 :: .int 0 :: .int 0 :: .int (-1) :: .ref (g 4) :: .ref (g 5) :: .int 0 :: .int 0 :: .int 0 :: .ref (g 6) :: .ref (g 7) :: .ref (g 8) :: .int 0 :: .int 0 :: .int 0 :: .int 0 :: .int 0 :: .ref (g 9) :: .int 0 :: .ref (g 10) :: .int 0 :: .int 0 :: .int 0 :: .ref (g 11) :: .ref (g 12) :: .ref (g 13) :: []))), ((g 2), .inl (cT 0, 900, .inl (f_3)))] := ⟨_, hP, hD⟩
  refine lv_aload_n hx hb dX9_feed_105 rfl (lv_at hl 2 rfl) ?_
  refine lv_dup hx hb dX9_feed_106 rfl ?_
  refine va_get (D := D) (ci := 9) (v := .int 2) (C := RX9) (T := TX9) (N := 37) hx hb htg gRX9 hown hK hP 0 rfl rfl 5 (by decide) (htg _ wi_1155) (fun _ h9 => h9) rfl dX9_feed_107 ?_
  refine lv_iconst (v := 1) hx hb dX9_feed_110 (by decide) ?_
  refine lv_iadd hx hb dX9_feed_111 ?_
  refine lv_is (y := 3) (by decide) ?_
  refine va_put (D := D) (ci := 9) (v := .int 3) (ty := .int) (C := RX9) (T := TX9) (N := 37) hx hb htg gRX9 tyX9 tyX9_ok nmX9 hown hK hP hD hS 0 rfl rfl 5 (by decide) (htg _ wi_1155) (fun _ h9 => h9) rfl (by decide +kernel) rfl rfl (Nat.le_of_ble_eq_true rfl) dX9_feed_112 (fun H locs hP hD hS => ?_)
  have hP : va_P D classes [(h0, .inr (9, (.int 0 :: .ref (g 0) :: .ref (g 1) :: .ref (g 2) :: .ref (g 3) :: .int 3 :: .int 0 :: .int 0 :: .int 0 :: .int 0 :: .int 0 :: .int 0 :: .int 0 :: .int 0 :: .int (-1) :: .ref (g 4) :: .ref (g 5) :: .int 0 :: .int 0 :: .int 0 :: .ref (g 6) :: .ref (g 7) :: .ref (g 8) :: .int 0 :: .int 0 :: .int 0 :: .int 0 :: .int 0 :: .ref (g 9) :: .int 0 :: .ref (g 10) :: .int 0 :: .int 0 :: .int 0 :: .ref (g 11) :: .ref (g 12) :: .ref (g 13) :: []))), ((g 2), .inl (cT 0, 900, .inl (f_3)))] _ := hP
  have hD : va_D A [(h0, .inr (9, (.int 0 :: .ref (g 0) :: .ref (g 1) :: .ref (g 2) :: .ref (g 3) :: .int 3 :: .int 0 :: .int 0 :: .int 0 :: .int 0 :: .int 0 :: .int 0 :: .int 0 :: .int 0 :: .int (-1) :: .ref (g 4) :: .ref (g 5) :: .int 0 :: .int 0 :: .int 0 :: .ref (g 6) :: .ref (g 7) :: .ref (g 8) :: .int 0 :: .int 0 :: .int 0 :: .int 0 :: .int 0 :: .ref (g 9) :: .int 0 :: .ref (g 10) :: .int 0 :: .int 0 :: .int 0 :: .ref (g 11) :: .ref (g 12) :: .ref (g 13) :: []))), ((g 2), .inl (cT 0, 900, .inl (f_3)))] := hD
  refine lv_iinc (v := 3) (lv' := [(6, .int 3), (7, .int x), (0, .ref h0), (1, .int x), (2, .int y), (3, .int z), (4, .int v), (5, .int w)]) hx hb dX9_feed_115 hl (k := 1) rfl (by decide) (by decide) rfl (fun ls hl => ?_)
  refine lv_goto (tgt := 24) hx hb dX9_feed_118 (by decide) ?_
  refine lv_iload hx hb dX9_feed_24 (lv_at hl 0 rfl) ?_
  refine lv_bipush (v := 20) hx hb dX9_feed_26 (by decide) ?_
  refine lv_icmp_ge (tgt := 121) hx hb dX9_feed_28 (by decide) (fun h => absurd h (by decide)) (fun _ => ?_)
  refine lv_iload hx hb dX9_feed_31 (lv_at hl 0 rfl) ?_
  refine lv_iconst (v := 4) hx hb dX9_feed_33 (by decide) ?_
  refine lv_icmp_ge (tgt := 41) hx hb dX9_feed_34 (by decide) (fun h => absurd h (by decide)) (fun _ => ?_)
  refine lv_iload_n hx hb dX9_feed_37 rfl (lv_at hl 3 rfl) ?_
  refine lv_goto (tgt := 77) hx hb dX9_feed_38 (by decide) ?_
  refine lv_istore (lv' := [(7, .int x), (6, .int 3), (0, .ref h0), (1, .int x), (2, .int y), (3, .int z), (4, .int v), (5, .int w)]) hx hb dX9_feed_77 hl (by decide) rfl (fun ls hl => ?_)
  refine lv_aload_n hx hb dX9_feed_79 rfl (lv_at hl 2 rfl) ?_
  refine va_get (D := D) (ci := 9) (v := .ref (g 2)) (C := RX9) (T := TX9) (N := 37) hx hb htg gRX9 hown hK hP 0 rfl rfl 3 (by decide) (htg _ wi_1153) (fun _ h9 => h9) rfl dX9_feed_80 ?_
  refine lv_aload_n hx hb dX9_feed_83 rfl (lv_at hl 2 rfl) ?_
  refine va_get (D := D) (ci := 9) (v := .int 3) (C := RX9) (T := TX9) (N := 37) hx hb htg gRX9 hown hK hP 0 rfl rfl 5 (by decide) (htg _ wi_1155) (fun _ h9 => h9) rfl dX9_feed_84 ?_
  refine lv_iload hx hb dX9_feed_87 (lv_at hl 0 rfl) ?_
  refine lv_bipush (v := 24) hx hb dX9_feed_89 (by decide) ?_
  refine lv_bipush (v := 8) hx hb dX9_feed_91 (by decide) ?_
  refine lv_iload hx hb dX9_feed_93 (lv_at hl 1 rfl) ?_
  refine lv_iconst (v := 4) hx hb dX9_feed_95 (by decide) ?_
  refine lv_irem hx hb dX9_feed_96 (by decide) ?_
  refine lv_is (y := 3) (by decide) ?_
  refine lv_imul hx hb dX9_feed_97 ?_
  refine lv_is (y := 24) (by decide) ?_
  refine lv_isub hx hb dX9_feed_98 ?_
  refine lv_is (y := 0) (by decide) ?_
  refine lv_ishr hx hb dX9_feed_99 ?_
  refine lv_sipush (v := 255) hx hb dX9_feed_100 (by decide) ?_
  refine lv_iand hx hb dX9_feed_103 ?_
  refine va_iast hx hb hK hP hD hS 1 0 rfl rfl (by unfold vp_in; decide) dX9_feed_104 (fun H locs hP hD hS => ?_)
  obtain ⟨f_4, hP, hD⟩ : ∃ f_4 : Nat → Int32, va_P D classes [(h0, .inr (9, (.int 0 :: .ref (g 0) :: .ref (g 1) :: .ref (g 2) :: .ref (g 3) :: .int 3 :: .int 0 :: .int 0 :: .int 0 :: .int 0 :: .int 0 :: .int 0 :: .int 0 :: .int 0 :: .int (-1) :: .ref (g 4) :: .ref (g 5) :: .int 0 :: .int 0 :: .int 0 :: .ref (g 6) :: .ref (g 7) :: .ref (g 8) :: .int 0 :: .int 0 :: .int 0 :: .int 0 :: .int 0 :: .ref (g 9) :: .int 0 :: .ref (g 10) :: .int 0 :: .int 0 :: .int 0 :: .ref (g 11) :: .ref (g 12) :: .ref (g 13) :: []))), ((g 2), .inl (cT 0, 900, .inl (f_4)))] H ∧ va_D A [(h0, .inr (9, (.int 0 :: .ref (g 0) :: .ref (g 1) :: .ref (g 2) :: .ref (g 3) :: .int 3 :: .int 0 :: .int 0 :: .int 0 :: .int 0 :: .int 0 :: .int 0 :: .int 0 :: .int 0 :: .int (-1) :: .ref (g 4) :: .ref (g 5) :: .int 0 :: .int 0 :: .int 0 :: .ref (g 6) :: .ref (g 7) :: .ref (g 8) :: .int 0 :: .int 0 :: .int 0 :: .int 0 :: .int 0 :: .ref (g 9) :: .int 0 :: .ref (g 10) :: .int 0 :: .int 0 :: .int 0 :: .ref (g 11) :: .ref (g 12) :: .ref (g 13) :: []))), ((g 2), .inl (cT 0, 900, .inl (f_4)))] := ⟨_, hP, hD⟩
  refine lv_aload_n hx hb dX9_feed_105 rfl (lv_at hl 2 rfl) ?_
  refine lv_dup hx hb dX9_feed_106 rfl ?_
  refine va_get (D := D) (ci := 9) (v := .int 3) (C := RX9) (T := TX9) (N := 37) hx hb htg gRX9 hown hK hP 0 rfl rfl 5 (by decide) (htg _ wi_1155) (fun _ h9 => h9) rfl dX9_feed_107 ?_
  refine lv_iconst (v := 1) hx hb dX9_feed_110 (by decide) ?_
  refine lv_iadd hx hb dX9_feed_111 ?_
  refine lv_is (y := 4) (by decide) ?_
  refine va_put (D := D) (ci := 9) (v := .int 4) (ty := .int) (C := RX9) (T := TX9) (N := 37) hx hb htg gRX9 tyX9 tyX9_ok nmX9 hown hK hP hD hS 0 rfl rfl 5 (by decide) (htg _ wi_1155) (fun _ h9 => h9) rfl (by decide +kernel) rfl rfl (Nat.le_of_ble_eq_true rfl) dX9_feed_112 (fun H locs hP hD hS => ?_)
  have hP : va_P D classes [(h0, .inr (9, (.int 0 :: .ref (g 0) :: .ref (g 1) :: .ref (g 2) :: .ref (g 3) :: .int 4 :: .int 0 :: .int 0 :: .int 0 :: .int 0 :: .int 0 :: .int 0 :: .int 0 :: .int 0 :: .int (-1) :: .ref (g 4) :: .ref (g 5) :: .int 0 :: .int 0 :: .int 0 :: .ref (g 6) :: .ref (g 7) :: .ref (g 8) :: .int 0 :: .int 0 :: .int 0 :: .int 0 :: .int 0 :: .ref (g 9) :: .int 0 :: .ref (g 10) :: .int 0 :: .int 0 :: .int 0 :: .ref (g 11) :: .ref (g 12) :: .ref (g 13) :: []))), ((g 2), .inl (cT 0, 900, .inl (f_4)))] _ := hP
  have hD : va_D A [(h0, .inr (9, (.int 0 :: .ref (g 0) :: .ref (g 1) :: .ref (g 2) :: .ref (g 3) :: .int 4 :: .int 0 :: .int 0 :: .int 0 :: .int 0 :: .int 0 :: .int 0 :: .int 0 :: .int 0 :: .int (-1) :: .ref (g 4) :: .ref (g 5) :: .int 0 :: .int 0 :: .int 0 :: .ref (g 6) :: .ref (g 7) :: .ref (g 8) :: .int 0 :: .int 0 :: .int 0 :: .int 0 :: .int 0 :: .ref (g 9) :: .int 0 :: .ref (g 10) :: .int 0 :: .int 0 :: .int 0 :: .ref (g 11) :: .ref (g 12) :: .ref (g 13) :: []))), ((g 2), .inl (cT 0, 900, .inl (f_4)))] := hD
  refine lv_iinc (v := 4) (lv' := [(6, .int 4), (7, .int x), (0, .ref h0), (1, .int x), (2, .int y), (3, .int z), (4, .int v), (5, .int w)]) hx hb dX9_feed_115 hl (k := 1) rfl (by decide) (by decide) rfl (fun ls hl => ?_)
  refine lv_goto (tgt := 24) hx hb dX9_feed_118 (by decide) ?_
  refine lv_iload hx hb dX9_feed_24 (lv_at hl 0 rfl) ?_
  refine lv_bipush (v := 20) hx hb dX9_feed_26 (by decide) ?_
  refine lv_icmp_ge (tgt := 121) hx hb dX9_feed_28 (by decide) (fun h => absurd h (by decide)) (fun _ => ?_)
  refine lv_iload hx hb dX9_feed_31 (lv_at hl 0 rfl) ?_
  refine lv_iconst (v := 4) hx hb dX9_feed_33 (by decide) ?_
  refine lv_icmp_ge (tgt := 41) hx hb dX9_feed_34 (by decide) (fun _ => ?_) (fun h => absurd (by decide) h)
  refine lv_iload hx hb dX9_feed_41 (lv_at hl 0 rfl) ?_
  refine lv_bipush (v := 8) hx hb dX9_feed_43 (by decide) ?_
  refine lv_icmp_ge (tgt := 52) hx hb dX9_feed_45 (by decide) (fun h => absurd h (by decide)) (fun _ => ?_)
  refine lv_iload_n hx hb dX9_feed_48 rfl (lv_at hl 4 rfl) ?_
  refine lv_goto (tgt := 77) hx hb dX9_feed_49 (by decide) ?_
  refine lv_istore (lv' := [(7, .int y), (6, .int 4), (0, .ref h0), (1, .int x), (2, .int y), (3, .int z), (4, .int v), (5, .int w)]) hx hb dX9_feed_77 hl (by decide) rfl (fun ls hl => ?_)
  refine lv_aload_n hx hb dX9_feed_79 rfl (lv_at hl 2 rfl) ?_
  refine va_get (D := D) (ci := 9) (v := .ref (g 2)) (C := RX9) (T := TX9) (N := 37) hx hb htg gRX9 hown hK hP 0 rfl rfl 3 (by decide) (htg _ wi_1153) (fun _ h9 => h9) rfl dX9_feed_80 ?_
  refine lv_aload_n hx hb dX9_feed_83 rfl (lv_at hl 2 rfl) ?_
  refine va_get (D := D) (ci := 9) (v := .int 4) (C := RX9) (T := TX9) (N := 37) hx hb htg gRX9 hown hK hP 0 rfl rfl 5 (by decide) (htg _ wi_1155) (fun _ h9 => h9) rfl dX9_feed_84 ?_
  refine lv_iload hx hb dX9_feed_87 (lv_at hl 0 rfl) ?_
  refine lv_bipush (v := 24) hx hb dX9_feed_89 (by decide) ?_
  refine lv_bipush (v := 8) hx hb dX9_feed_91 (by decide) ?_
  refine lv_iload hx hb dX9_feed_93 (lv_at hl 1 rfl) ?_
  refine lv_iconst (v := 4) hx hb dX9_feed_95 (by decide) ?_
  refine lv_irem hx hb dX9_feed_96 (by decide) ?_
  refine lv_is (y := 0) (by decide) ?_
  refine lv_imul hx hb dX9_feed_97 ?_
  refine lv_is (y := 0) (by decide) ?_
  refine lv_isub hx hb dX9_feed_98 ?_
  refine lv_is (y := 24) (by decide) ?_
  refine lv_ishr hx hb dX9_feed_99 ?_
  refine lv_sipush (v := 255) hx hb dX9_feed_100 (by decide) ?_
  refine lv_iand hx hb dX9_feed_103 ?_
  refine va_iast hx hb hK hP hD hS 1 0 rfl rfl (by unfold vp_in; decide) dX9_feed_104 (fun H locs hP hD hS => ?_)
  obtain ⟨f_5, hP, hD⟩ : ∃ f_5 : Nat → Int32, va_P D classes [(h0, .inr (9, (.int 0 :: .ref (g 0) :: .ref (g 1) :: .ref (g 2) :: .ref (g 3) :: .int 4 :: .int 0 :: .int 0 :: .int 0 :: .int 0 :: .int 0 :: .int 0 :: .int 0 :: .int 0 :: .int (-1) :: .ref (g 4) :: .ref (g 5) :: .int 0 :: .int 0 :: .int 0 :: .ref (g 6) :: .ref (g 7) :: .ref (g 8) :: .int 0 :: .int 0 :: .int 0 :: .int 0 :: .int 0 :: .ref (g 9) :: .int 0 :: .ref (g 10) :: .int 0 :: .int 0 :: .int 0 :: .ref (g 11) :: .ref (g 12) :: .ref (g 13) :: []))), ((g 2), .inl (cT 0, 900, .inl (f_5)))] H ∧ va_D A [(h0, .inr (9, (.int 0 :: .ref (g 0) :: .ref (g 1) :: .ref (g 2) :: .ref (g 3) :: .int 4 :: .int 0 :: .int 0 :: .int 0 :: .int 0 :: .int 0 :: .int 0 :: .int 0 :: .int 0 :: .int (-1) :: .ref (g 4) :: .ref (g 5) :: .int 0 :: .int 0 :: .int 0 :: .ref (g 6) :: .ref (g 7) :: .ref (g 8) :: .int 0 :: .int 0 :: .int 0 :: .int 0 :: .int 0 :: .ref (g 9) :: .int 0 :: .ref (g 10) :: .int 0 :: .int 0 :: .int 0 :: .ref (g 11) :: .ref (g 12) :: .ref (g 13) :: []))), ((g 2), .inl (cT 0, 900, .inl (f_5)))] := ⟨_, hP, hD⟩
  refine lv_aload_n hx hb dX9_feed_105 rfl (lv_at hl 2 rfl) ?_
  refine lv_dup hx hb dX9_feed_106 rfl ?_
  refine va_get (D := D) (ci := 9) (v := .int 4) (C := RX9) (T := TX9) (N := 37) hx hb htg gRX9 hown hK hP 0 rfl rfl 5 (by decide) (htg _ wi_1155) (fun _ h9 => h9) rfl dX9_feed_107 ?_
  refine lv_iconst (v := 1) hx hb dX9_feed_110 (by decide) ?_
  refine lv_iadd hx hb dX9_feed_111 ?_
  refine lv_is (y := 5) (by decide) ?_
  refine va_put (D := D) (ci := 9) (v := .int 5) (ty := .int) (C := RX9) (T := TX9) (N := 37) hx hb htg gRX9 tyX9 tyX9_ok nmX9 hown hK hP hD hS 0 rfl rfl 5 (by decide) (htg _ wi_1155) (fun _ h9 => h9) rfl (by decide +kernel) rfl rfl (Nat.le_of_ble_eq_true rfl) dX9_feed_112 (fun H locs hP hD hS => ?_)
  have hP : va_P D classes [(h0, .inr (9, (.int 0 :: .ref (g 0) :: .ref (g 1) :: .ref (g 2) :: .ref (g 3) :: .int 5 :: .int 0 :: .int 0 :: .int 0 :: .int 0 :: .int 0 :: .int 0 :: .int 0 :: .int 0 :: .int (-1) :: .ref (g 4) :: .ref (g 5) :: .int 0 :: .int 0 :: .int 0 :: .ref (g 6) :: .ref (g 7) :: .ref (g 8) :: .int 0 :: .int 0 :: .int 0 :: .int 0 :: .int 0 :: .ref (g 9) :: .int 0 :: .ref (g 10) :: .int 0 :: .int 0 :: .int 0 :: .ref (g 11) :: .ref (g 12) :: .ref (g 13) :: []))), ((g 2), .inl (cT 0, 900, .inl (f_5)))] _ := hP
  have hD : va_D A [(h0, .inr (9, (.int 0 :: .ref (g 0) :: .ref (g 1) :: .ref (g 2) :: .ref (g 3) :: .int 5 :: .int 0 :: .int 0 :: .int 0 :: .int 0 :: .int 0 :: .int 0 :: .int 0 :: .int 0 :: .int (-1) :: .ref (g 4) :: .ref (g 5) :: .int 0 :: .int 0 :: .int 0 :: .ref (g 6) :: .ref (g 7) :: .ref (g 8) :: .int 0 :: .int 0 :: .int 0 :: .int 0 :: .int 0 :: .ref (g 9) :: .int 0 :: .ref (g 10) :: .int 0 :: .int 0 :: .int 0 :: .ref (g 11) :: .ref (g 12) :: .ref (g 13) :: []))), ((g 2), .inl (cT 0, 900, .inl (f_5)))] := hD
  refine lv_iinc (v := 5) (lv' := [(6, .int 5), (7, .int y), (0, .ref h0), (1, .int x), (2, .int y), (3, .int z), (4, .int v), (5, .int w)]) hx hb dX9_feed_115 hl (k := 1) rfl (by decide) (by decide) rfl (fun ls hl => ?_)
  refine lv_goto (tgt := 24) hx hb dX9_feed_118 (by decide) ?_
  refine lv_iload hx hb dX9_feed_24 (lv_at hl 0 rfl) ?_
  refine lv_bipush (v := 20) hx hb dX9_feed_26 (by decide) ?_
  refine lv_icmp_ge (tgt := 121) hx hb dX9_feed_28 (by decide) (fun h => absurd h (by decide)) (fun _ => ?_)
  refine lv_iload hx hb dX9_feed_31 (lv_at hl 0 rfl) ?_
  refine lv_iconst (v := 4) hx hb dX9_feed_33 (by decide) ?_
  refine lv_icmp_ge (tgt := 41) hx hb dX9_feed_34 (by decide) (fun _ => ?_) (fun h => absurd (by decide) h)
  refine lv_iload hx hb dX9_feed_41 (lv_at hl 0 rfl) ?_
  refine lv_bipush (v := 8) hx hb dX9_feed_43 (by decide) ?_
  refine lv_icmp_ge (tgt := 52) hx hb dX9_feed_45 (by decide) (fun h => absurd h (by decide)) (fun _ => ?_)
  refine lv_iload_n hx hb dX9_feed_48 rfl (lv_at hl 4 rfl) ?_
  refine lv_goto (tgt := 77) hx hb dX9_feed_49 (by decide) ?_
  refine lv_istore (lv' := [(7, .int y), (6, .int 5), (0, .ref h0), (1, .int x), (2, .int y), (3, .int z), (4, .int v), (5, .int w)]) hx hb dX9_feed_77 hl (by decide) rfl (fun ls hl => ?_)
  refine lv_aload_n hx hb dX9_feed_79 rfl (lv_at hl 2 rfl) ?_
  refine va_get (D := D) (ci := 9) (v := .ref (g 2)) (C := RX9) (T := TX9) (N := 37) hx hb htg gRX9 hown hK hP 0 rfl rfl 3 (by decide) (htg _ wi_1153) (fun _ h9 => h9) rfl dX9_feed_80 ?_
  refine lv_aload_n hx hb dX9_feed_83 rfl (lv_at hl 2 rfl) ?_
  refine va_get (D := D) (ci := 9) (v := .int 5) (C := RX9) (T := TX9) (N := 37) hx hb htg gRX9 hown hK hP 0 rfl rfl 5 (by decide) (htg _ wi_1155) (fun _ h9 => h9) rfl dX9_feed_84 ?_
  refine lv_iload hx hb dX9_feed_87 (lv_at hl 0 rfl) ?_
  refine lv_bipush (v := 24) hx hb dX9_feed_89 (by decide) ?_
  refine lv_bipush (v := 8) hx hb dX9_feed_91 (by decide) ?_
  refine lv_iload hx hb dX9_feed_93 (lv_at hl 1 rfl) ?_
  refine lv_iconst (v := 4) hx hb dX9_feed_95 (by decide) ?_
  refine lv_irem hx hb dX9_feed_96 (by decide) ?_
  refine lv_is (y := 1) (by decide) ?_
  refine lv_imul hx hb dX9_feed_97 ?_
  refine lv_is (y := 8) (by decide) ?_
  refine lv_isub hx hb dX9_feed_98 ?_
  refine lv_is (y := 16) (by decide) ?_
  refine lv_ishr hx hb dX9_feed_99 ?_
  refine lv_sipush (v := 255) hx hb dX9_feed_100 (by decide) ?_
  refine lv_iand hx hb dX9_feed_103 ?_
  refine va_iast hx hb hK hP hD hS 1 0 rfl rfl (by unfold vp_in; decide) dX9_feed_104 (fun H locs hP hD hS => ?_)
  obtain ⟨f_6, hP, hD⟩ : ∃ f_6 : Nat → Int32, va_P D classes [(h0, .inr (9, (.int 0 :: .ref (g 0) :: .ref (g 1) :: .ref (g 2) :: .ref (g 3) :: .int 5 :: .int 0 :: .int 0 :: .int 0 :: .int 0 :: .int 0 :: .int 0 :: .int 0 :: .int 0 :: .int (-1) :: .ref (g 4) :: .ref (g 5) :: .int 0 :: .int 0 :: .int 0 :: .ref (g 6) :: .ref (g 7) :: .ref (g 8) :: .int 0 :: .int 0 :: .int 0 :: .int 0 :: .int 0 :: .ref (g 9) :: .int 0 :: .ref (g 10) :: .int 0 :: .int 0 :: .int 0 :: .ref (g 11) :: .ref (g 12) :: .ref (g 13) :: []))), ((g 2), .inl (cT 0, 900, .inl (f_6)))] H ∧ va_D A [(h0, .inr (9, (.int 0 :: .ref (g 0) :: .ref (g 1) :: .ref (g 2) :: .ref (g 3) :: .int 5 :: .int 0 :: .int 0 :: .int 0 :: .int 0 :: .int 0 :: .int 0 :: .int 0 :: .int 0 :: .int (-1) :: .ref (g 4) :: .ref (g 5) :: .int 0 :: .int 0 :: .int 0 :: .ref (g 6) :: .ref (g 7) :: .ref (g 8) :: .int 0 :: .int 0 :: .int 0 :: .int 0 :: .int 0 :: .ref (g 9) :: .int 0 :: .ref (g 10) :: .int 0 :: .int 0 :: .int 0 :: .ref (g 11) :: .ref (g 12) :: .ref (g 13) :: []))), ((g 2), .inl (cT 0, 900, .inl (f_6)))] := ⟨_, hP, hD⟩
  refine lv_aload_n hx hb dX9_feed_105 rfl (lv_at hl 2 rfl) ?_
  refine lv_dup hx hb dX9_feed_106 rfl ?_
  refine va_get (D := D) (ci := 9) (v := .int 5) (C := RX9) (T := TX9) (N := 37) hx hb htg gRX9 hown hK hP 0 rfl rfl 5 (by decide) (htg _ wi_1155) (fun _ h9 => h9) rfl dX9_feed_107 ?_
  refine lv_iconst (v := 1) hx hb dX9_feed_110 (by decide) ?_
  refine lv_iadd hx hb dX9_feed_111 ?_
  refine lv_is (y := 6) (by decide) ?_
  refine va_put (D := D) (ci := 9) (v := .int 6) (ty := .int) (C := RX9) (T := TX9) (N := 37) hx hb htg gRX9 tyX9 tyX9_ok nmX9 hown hK hP hD hS 0 rfl rfl 5 (by decide) (htg _ wi_1155) (fun _ h9 => h9) rfl (by decide +kernel) rfl rfl (Nat.le_of_ble_eq_true rfl) dX9_feed_112 (fun H locs hP hD hS => ?_)
  have hP : va_P D classes [(h0, .inr (9, (.int 0 :: .ref (g 0) :: .ref (g 1) :: .ref (g 2) :: .ref (g 3) :: .int 6 :: .int 0 :: .int 0 :: .int 0 :: .int 0 :: .int 0 :: .int 0 :: .int 0 :: .int 0 :: .int (-1) :: .ref (g 4) :: .ref (g 5) :: .int 0 :: .int 0 :: .int 0 :: .ref (g 6) :: .ref (g 7) :: .ref (g 8) :: .int 0 :: .int 0 :: .int 0 :: .int 0 :: .int 0 :: .ref (g 9) :: .int 0 :: .ref (g 10) :: .int 0 :: .int 0 :: .int 0 :: .ref (g 11) :: .ref (g 12) :: .ref (g 13) :: []))), ((g 2), .inl (cT 0, 900, .inl (f_6)))] _ := hP
  have hD : va_D A [(h0, .inr (9, (.int 0 :: .ref (g 0) :: .ref (g 1) :: .ref (g 2) :: .ref (g 3) :: .int 6 :: .int 0 :: .int 0 :: .int 0 :: .int 0 :: .int 0 :: .int 0 :: .int 0 :: .int 0 :: .int (-1) :: .ref (g 4) :: .ref (g 5) :: .int 0 :: .int 0 :: .int 0 :: .ref (g 6) :: .ref (g 7) :: .ref (g 8) :: .int 0 :: .int 0 :: .int 0 :: .int 0 :: .int 0 :: .ref (g 9) :: .int 0 :: .ref (g 10) :: .int 0 :: .int 0 :: .int 0 :: .ref (g 11) :: .ref (g 12) :: .ref (g 13) :: []))), ((g 2), .inl (cT 0, 900, .inl (f_6)))] := hD
  refine lv_iinc (v := 6) (lv' := [(6, .int 6), (7, .int y), (0, .ref h0), (1, .int x), (2, .int y), (3, .int z), (4, .int v), (5, .int w)]) hx hb dX9_feed_115 hl (k := 1) rfl (by decide) (by decide) rfl (fun ls hl => ?_)
  refine lv_goto (tgt := 24) hx hb dX9_feed_118 (by decide) ?_
  refine lv_iload hx hb dX9_feed_24 (lv_at hl 0 rfl) ?_
  refine lv_bipush (v := 20) hx hb dX9_feed_26 (by decide) ?_
  refine lv_icmp_ge (tgt := 121) hx hb dX9_feed_28 (by decide) (fun h => absurd h (by decide)) (fun _ => ?_)
  refine lv_iload hx hb dX9_feed_31 (lv_at hl 0 rfl) ?_
  refine lv_iconst (v := 4) hx hb dX9_feed_33 (by decide) ?_
  refine lv_icmp_ge (tgt := 41) hx hb dX9_feed_34 (by decide) (fun _ => ?_) (fun h => absurd (by decide) h)
  refine lv_iload hx hb dX9_feed_41 (lv_at hl 0 rfl) ?_
  refine lv_bipush (v := 8) hx hb dX9_feed_43 (by decide) ?_
  refine lv_icmp_ge (tgt := 52) hx hb dX9_feed_45 (by decide) (fun h => absurd h (by decide)) (fun _ => ?_)
  refine lv_iload_n hx hb dX9_feed_48 rfl (lv_at hl 4 rfl) ?_
  refine lv_goto (tgt := 77) hx hb dX9_feed_49 (by decide) ?_
  refine lv_istore (lv' := [(7, .int y), (6, .int 6), (0, .ref h0), (1, .int x), (2, .int y), (3, .int z), (4, .int v), (5, .int w)]) hx hb dX9_feed_77 hl (by decide) rfl (fun ls hl => ?_)
  refine lv_aload_n hx hb dX9_feed_79 rfl (lv_at hl 2 rfl) ?_
  refine va_get (D := D) (ci := 9) (v := .ref (g 2)) (C := RX9) (T := TX9) (N := 37) hx hb htg gRX9 hown hK hP 0 rfl rfl 3 (by decide) (htg _ wi_1153) (fun _ h9 => h9) rfl dX9_feed_80 ?_
  refine lv_aload_n hx hb dX9_feed_83 rfl (lv_at hl 2 rfl) ?_
  refine va_get (D := D) (ci := 9) (v := .int 6) (C := RX9) (T := TX9) (N := 37) hx hb htg gRX9 hown hK hP 0 rfl rfl 5 (by decide) (htg _ wi_1155) (fun _ h9 => h9) rfl dX9_feed_84 ?_
  refine lv_iload hx hb dX9_feed_87 (lv_at hl 0 rfl) ?_
  refine lv_bipush (v := 24) hx hb dX9_feed_89 (by decide) ?_
  refine lv_bipush (v := 8) hx hb dX9_feed_91 (by decide) ?_
  refine lv_iload hx hb dX9_feed_93 (lv_at hl 1 rfl) ?_
  refine lv_iconst (v := 4) hx hb dX9_feed_95 (by decide) ?_
  refine lv_irem hx hb dX9_feed_96 (by decide) ?_
  refine lv_is (y := 2) (by decide) ?_
  refine lv_imul hx hb dX9_feed_97 ?_
  refine lv_is (y := 16) (by decide) ?_
  refine lv_isub hx hb dX9_feed_98 ?_
  refine lv_is (y := 8) (by decide) ?_
  refine lv_ishr hx hb dX9_feed_99 ?_
  refine lv_sipush (v := 255) hx hb dX9_feed_100 (by decide) ?_
  refine lv_iand hx hb dX9_feed_103 ?_
  refine va_iast hx hb hK hP hD hS 1 0 rfl rfl (by unfold vp_in; decide) dX9_feed_104 (fun H locs hP hD hS => ?_)
  obtain ⟨f_7, hP, hD⟩ : ∃ f_7 : Nat → Int32, va_P D classes [(h0, .inr (9, (.int 0 :: .ref (g 0) :: .ref (g 1) :: .ref (g 2) :: .ref (g 3) :: .int 6 :: .int 0 :: .int 0 :: .int 0 :: .int 0 :: .int 0 :: .int 0 :: .int 0 :: .int 0 :: .int (-1) :: .ref (g 4) :: .ref (g 5) :: .int 0 :: .int 0 :: .int 0 :: .ref (g 6) :: .ref (g 7) :: .ref (g 8) :: .int 0 :: .int 0 :: .int 0 :: .int 0 :: .int 0 :: .ref (g 9) :: .int 0 :: .ref (g 10) :: .int 0 :: .int 0 :: .int 0 :: .ref (g 11) :: .ref (g 12) :: .ref (g 13) :: []))), ((g 2), .inl (cT 0, 900, .inl (f_7)))] H ∧ va_D A [(h0, .inr (9, (.int 0 :: .ref (g 0) :: .ref (g 1) :: .ref (g 2) :: .ref (g 3) :: .int 6 :: .int 0 :: .int 0 :: .int 0 :: .int 0 :: .int 0 :: .int 0 :: .int 0 :: .int 0 :: .int (-1) :: .ref (g 4) :: .ref (g 5) :: .int 0 :: .int 0 :: .int 0 :: .ref (g 6) :: .ref (g 7) :: .ref (g 8) :: .int 0 :: .int 0 :: .int 0 :: .int 0 :: .int 0 :: .ref (g 9) :: .int 0 :: .ref (g 10) :: .int 0 :: .int 0 :: .int 0 :: .ref (g 11) :: .ref (g 12) :: .ref (g 13) :: []))), ((g 2), .inl (cT 0, 900, .inl (f_7)))] := ⟨_, hP, hD⟩
  refine lv_aload_n hx hb dX9_feed_105 rfl (lv_at hl 2 rfl) ?_
  refine lv_dup hx hb dX9_feed_106 rfl ?_
  refine va_get (D := D) (ci := 9) (v := .int 6) (C := RX9) (T := TX9) (N := 37) hx hb htg gRX9 hown hK hP 0 rfl rfl 5 (by decide) (htg _ wi_1155) (fun _ h9 => h9) rfl dX9_feed_107 ?_
  refine lv_iconst (v := 1) hx hb dX9_feed_110 (by decide) ?_
  refine lv_iadd hx hb dX9_feed_111 ?_
  refine lv_is (y := 7) (by decide) ?_
  refine va_put (D := D) (ci := 9) (v := .int 7) (ty := .int) (C := RX9) (T := TX9) (N := 37) hx hb htg gRX9 tyX9 tyX9_ok nmX9 hown hK hP hD hS 0 rfl rfl 5 (by decide) (htg _ wi_1155) (fun _ h9 => h9) rfl (by decide +kernel) rfl rfl (Nat.le_of_ble_eq_true rfl) dX9_feed_112 (fun H locs hP hD hS => ?_)
  have hP : va_P D classes [(h0, .inr (9, (.int 0 :: .ref (g 0) :: .ref (g 1) :: .ref (g 2) :: .ref (g 3) :: .int 7 :: .int 0 :: .int 0 :: .int 0 :: .int 0 :: .int 0 :: .int 0 :: .int 0 :: .int 0 :: .int (-1) :: .ref (g 4) :: .ref (g 5) :: .int 0 :: .int 0 :: .int 0 :: .ref (g 6) :: .ref (g 7) :: .ref (g 8) :: .int 0 :: .int 0 :: .int 0 :: .int 0 :: .int 0 :: .ref (g 9) :: .int 0 :: .ref (g 10) :: .int 0 :: .int 0 :: .int 0 :: .ref (g 11) :: .ref (g 12) :: .ref (g 13) :: []))), ((g 2), .inl (cT 0, 900, .inl (f_7)))] _ := hP
  have hD : va_D A [(h0, .inr (9, (.int 0 :: .ref (g 0) :: .ref (g 1) :: .ref (g 2) :: .ref (g 3) :: .int 7 :: .int 0 :: .int 0 :: .int 0 :: .int 0 :: .int 0 :: .int 0 :: .int 0 :: .int 0 :: .int (-1) :: .ref (g 4) :: .ref (g 5) :: .int 0 :: .int 0 :: .int 0 :: .ref (g 6) :: .ref (g 7) :: .ref (g 8) :: .int 0 :: .int 0 :: .int 0 :: .int 0 :: .int 0 :: .ref (g 9) :: .int 0 :: .ref (g 10) :: .int 0 :: .int 0 :: .int 0 :: .ref (g 11) :: .ref (g 12) :: .ref (g 13) :: []))), ((g 2), .inl (cT 0, 900, .inl (f_7)))] := hD
  refine lv_iinc (v := 7) (lv' := [(6, .int 7), (7, .int y), (0, .ref h0), (1, .int x), (2, .int y), (3, .int z), (4, .int v), (5, .int w)]) hx hb dX9_feed_115 hl (k := 1) rfl (by decide) (by decide) rfl (fun ls hl => ?_)
  refine lv_goto (tgt := 24) hx hb dX9_feed_118 (by decide) ?_
  refine lv_iload hx hb dX9_feed_24 (lv_at hl 0 rfl) ?_
  refine lv_bipush (v := 20) hx hb dX9_feed_26 (by decide) ?_
  refine lv_icmp_ge (tgt := 121) hx hb dX9_feed_28 (by decide) (fun h => absurd h (by decide)) (fun _ => ?_)
  refine lv_iload hx hb dX9_feed_31 (lv_at hl 0 rfl) ?_
  refine lv_iconst (v := 4) hx hb dX9_feed_33 (by decide) ?_
  refine lv_icmp_ge (tgt := 41) hx hb dX9_feed_34 (by decide) (fun _ => ?_) (fun h => absurd (by decide) h)
  refine lv_iload hx hb dX9_feed_41 (lv_at hl 0 rfl) ?_
  refine lv_bipush (v := 8) hx hb dX9_feed_43 (by decide) ?_
  refine lv_icmp_ge (tgt := 52) hx hb dX9_feed_45 (by decide) (fun h => absurd h (by decide)) (fun _ => ?_)
  refine lv_iload_n hx hb dX9_feed_48 rfl (lv_at hl 4 rfl) ?_
  refine lv_goto (tgt := 77) hx hb dX9_feed_49 (by decide) ?_
  refine lv_istore (lv' := [(7, .int y), (6, .int 7), (0, .ref h0), (1, .int x), (2, .int y), (3, .int z), (4, .int v), (5, .int w)]) hx hb dX9_feed_77 hl (by decide) rfl (fun ls hl => ?_)
  refine lv_aload_n hx hb dX9_feed_79 rfl (lv_at hl 2 rfl) ?_
  refine va_get (D := D) (ci := 9) (v := .ref (g 2)) (C := RX9) (T := TX9) (N := 37) hx hb htg gRX9 hown hK hP 0 rfl rfl 3 (by decide) (htg _ wi_1153) (fun _ h9 => h9) rfl dX9_feed_80 ?_
  refine lv_aload_n hx hb dX9_feed_83 rfl (lv_at hl 2 rfl) ?_
  refine va_get (D := D) (ci := 9) (v := .int 7) (C := RX9) (T := TX9) (N := 37) hx hb htg gRX9 hown hK hP 0 rfl rfl 5 (by decide) (htg _ wi_1155) (fun _ h9 => h9) rfl dX9_feed_84 ?_
  refine lv_iload hx hb dX9_feed_87 (lv_at hl 0 rfl) ?_
  refine lv_bipush (v := 24) hx hb dX9_feed_89 (by decide) ?_
  refine lv_bipush (v := 8) hx hb dX9_feed_91 (by decide) ?_
  refine lv_iload hx hb dX9_feed_93 (lv_at hl 1 rfl) ?_
  refine lv_iconst (v := 4) hx hb dX9_feed_95 (by decide) ?_
  refine lv_irem hx hb dX9_feed_96 (by decide) ?_
  refine lv_is (y := 3) (by decide) ?_
  refine lv_imul hx hb dX9_feed_97 ?_
  refine lv_is (y := 24) (by decide) ?_
  refine lv_isub hx hb dX9_feed_98 ?_
  refine lv_is (y := 0) (by decide) ?_
  refine lv_ishr hx hb dX9_feed_99 ?_
  refine lv_sipush (v := 255) hx hb dX9_feed_100 (by decide) ?_
  refine lv_iand hx hb dX9_feed_103 ?_
  refine va_iast hx hb hK hP hD hS 1 0 rfl rfl (by unfold vp_in; decide) dX9_feed_104 (fun H locs hP hD hS => ?_)
  obtain ⟨f_8, hP, hD⟩ : ∃ f_8 : Nat → Int32, va_P D classes [(h0, .inr (9, (.int 0 :: .ref (g 0) :: .ref (g 1) :: .ref (g 2) :: .ref (g 3) :: .int 7 :: .int 0 :: .int 0 :: .int 0 :: .int 0 :: .int 0 :: .int 0 :: .int 0 :: .int 0 :: .int (-1) :: .ref (g 4) :: .ref (g 5) :: .int 0 :: .int 0 :: .int 0 :: .ref (g 6) :: .ref (g 7) :: .ref (g 8) :: .int 0 :: .int 0 :: .int 0 :: .int 0 :: .int 0 :: .ref (g 9) :: .int 0 :: .ref (g 10) :: .int 0 :: .int 0 :: .int 0 :: .ref (g 11) :: .ref (g 12) :: .ref (g 13) :: []))), ((g 2), .inl (cT 0, 900, .inl (f_8)))] H ∧ va_D A [(h0, .inr (9, (.int 0 :: .ref (g 0) :: .ref (g 1) :: .ref (g 2) :: .ref (g 3) :: .int 7 :: .int 0 :: .int 0 :: .int 0 :: .int 0 :: .int 0 :: .int 0 :: .int 0 :: .int 0 :: .int (-1) :: .ref (g 4) :: .ref (g 5) :: .int 0 :: .int 0 :: .int 0 :: .ref (g 6) :: .ref (g 7) :: .ref (g 8) :: .int 0 :: .int 0 :: .int 0 :: .int 0 :: .int 0 :: .ref (g 9) :: .int 0 :: .ref (g 10) :: .int 0 :: .int 0 :: .int 0 :: .ref (g 11) :: .ref (g 12) :: .ref (g 13) :: []))), ((g 2), .inl (cT 0, 900, .inl (f_8)))] := ⟨_, hP, hD⟩
  refine lv_aload_n hx hb dX9_feed_105 rfl (lv_at hl 2 rfl) ?_
  refine lv_dup hx hb dX9_feed_106 rfl ?_
  refine va_get (D := D) (ci := 9) (v := .int 7) (C := RX9) (T := TX9) (N := 37) hx hb htg gRX9 hown hK hP 0 rfl rfl 5 (by decide) (htg _ wi_1155) (fun _ h9 => h9) rfl dX9_feed_107 ?_
  refine lv_iconst (v := 1) hx hb dX9_feed_110 (by decide) ?_
  refine lv_iadd hx hb dX9_feed_111 ?_
  refine lv_is (y := 8) (by decide) ?_
  refine va_put (D := D) (ci := 9) (v := .int 8) (ty := .int) (C := RX9) (T := TX9) (N := 37) hx hb htg gRX9 tyX9 tyX9_ok nmX9 hown hK hP hD hS 0 rfl rfl 5 (by decide) (htg _ wi_1155) (fun _ h9 => h9) rfl (by decide +kernel) rfl rfl (Nat.le_of_ble_eq_true rfl) dX9_feed_112 (fun H locs hP hD hS => ?_)
  have hP : va_P D classes [(h0, .inr (9, (.int 0 :: .ref (g 0) :: .ref (g 1) :: .ref (g 2) :: .ref (g 3) :: .int 8 :: .int 0 :: .int 0 :: .int 0 :: .int 0 :: .int 0 :: .int 0 :: .int 0 :: .int 0 :: .int (-1) :: .ref (g 4) :: .ref (g 5) :: .int 0 :: .int 0 :: .int 0 :: .ref (g 6) :: .ref (g 7) :: .ref (g 8) :: .int 0 :: .int 0 :: .int 0 :: .int 0 :: .int 0 :: .ref (g 9) :: .int 0 :: .ref (g 10) :: .int 0 :: .int 0 :: .int 0 :: .ref (g 11) :: .ref (g 12) :: .ref (g 13) :: []))), ((g 2), .inl (cT 0, 900, .inl (f_8)))] _ := hP
  have hD : va_D A [(h0, .inr (9, (.int 0 :: .ref (g 0) :: .ref (g 1) :: .ref (g 2) :: .ref (g 3) :: .int 8 :: .int 0 :: .int 0 :: .int 0 :: .int 0 :: .int 0 :: .int 0 :: .int 0 :: .int 0 :: .int (-1) :: .ref (g 4) :: .ref (g 5) :: .int 0 :: .int 0 :: .int 0 :: .ref (g 6) :: .ref (g 7) :: .ref (g 8) :: .int 0 :: .int 0 :: .int 0 :: .int 0 :: .int 0 :: .ref (g 9) :: .int 0 :: .ref (g 10) :: .int 0 :: .int 0 :: .int 0 :: .ref (g 11) :: .ref (g 12) :: .ref (g 13) :: []))), ((g 2), .inl (cT 0, 900, .inl (f_8)))] := hD
  refine lv_iinc (v := 8) (lv' := [(6, .int 8), (7, .int y), (0, .ref h0), (1, .int x), (2, .int y), (3, .int z), (4, .int v), (5, .int w)]) hx hb dX9_feed_115 hl (k := 1) rfl (by decide) (by decide) rfl (fun ls hl => ?_)
  refine lv_goto (tgt := 24) hx hb dX9_feed_118 (by decide) ?_
  refine lv_iload hx hb dX9_feed_24 (lv_at hl 0 rfl) ?_
  refine lv_bipush (v := 20) hx hb dX9_feed_26 (by decide) ?_
  refine lv_icmp_ge (tgt := 121) hx hb dX9_feed_28 (by decide) (fun h => absurd h (by decide)) (fun _ => ?_)
  refine lv_iload hx hb dX9_feed_31 (lv_at hl 0 rfl) ?_
  refine lv_iconst (v := 4) hx hb dX9_feed_33 (by decide) ?_
  refine lv_icmp_ge (tgt := 41) hx hb dX9_feed_34 (by decide) (fun _ => ?_) (fun h => absurd (by decide) h)
  refine lv_iload hx hb dX9_feed_41 (lv_at hl 0 rfl) ?_
  refine lv_bipush (v := 8) hx hb dX9_feed_43 (by decide) ?_
  refine lv_icmp_ge (tgt := 52) hx hb dX9_feed_45 (by decide) (fun _ => ?_) (fun h => absurd (by decide) h)
  refine lv_iload hx hb dX9_feed_52 (lv_at hl 0 rfl) ?_
  refine lv_bipush (v := 12) hx hb dX9_feed_54 (by decide) ?_
  refine lv_icmp_ge (tgt := 63) hx hb dX9_feed_56 (by decide) (fun h => absurd h (by decide)) (fun _ => ?_)
  refine lv_iload_n hx hb dX9_feed_59 rfl (lv_at hl 5 rfl) ?_
  refine lv_goto (tgt := 77) hx hb dX9_feed_60 (by decide) ?_
  refine lv_istore (lv' := [(7, .int z), (6, .int 8), (0, .ref h0), (1, .int x), (2, .int y), (3, .int z), (4, .int v), (5, .int w)]) hx hb dX9_feed_77 hl (by decide) rfl (fun ls hl => ?_)
  refine lv_aload_n hx hb dX9_feed_79 rfl (lv_at hl 2 rfl) ?_
  refine va_get (D := D) (ci := 9) (v := .ref (g 2)) (C := RX9) (T := TX9) (N := 37) hx hb htg gRX9 hown hK hP 0 rfl rfl 3 (by decide) (htg _ wi_1153) (fun _ h9 => h9) rfl dX9_feed_80 ?_
  refine lv_aload_n hx hb dX9_feed_83 rfl (lv_at hl 2 rfl) ?_
  refine va_get (D := D) (ci := 9) (v := .int 8) (C := RX9) (T := TX9) (N := 37) hx hb htg gRX9 hown hK hP 0 rfl rfl 5 (by decide) (htg _ wi_1155) (fun _ h9 => h9) rfl dX9_feed_84 ?_
  refine lv_iload hx hb dX9_feed_87 (lv_at hl 0 rfl) ?_
  refine lv_bipush (v := 24) hx hb dX9_feed_89 (by decide) ?_
  refine lv_bipush (v := 8) hx hb dX9_feed_91 (by decide) ?_
  refine lv_iload hx hb dX9_feed_93 (lv_at hl 1 rfl) ?_
  refine lv_iconst (v := 4) hx hb dX9_feed_95 (by decide) ?_
  refine lv_irem hx hb dX9_feed_96 (by decide) ?_
  refine lv_is (y := 0) (by decide) ?_
  refine lv_imul hx hb dX9_feed_97 ?_
  refine lv_is (y := 0) (by decide) ?_
  refine lv_isub hx hb dX9_feed_98 ?_
  refine lv_is (y := 24) (by decide) ?_
  refine lv_ishr hx hb dX9_feed_99 ?_
  refine lv_sipush (v := 255) hx hb dX9_feed_100 (by decide) ?_
  refine lv_iand hx hb dX9_feed_103 ?_
  refine va_iast hx hb hK hP hD hS 1 0 rfl rfl (by unfold vp_in; decide) dX9_feed_104 (fun H locs hP hD hS => ?_)
  obtain ⟨f_9, hP, hD⟩ : ∃ f_9 : Nat → Int32, va_P D classes [(h0, .inr (9, (.int 0 :: .ref (g 0) :: .ref (g 1) :: .ref (g 2) :: .ref (g 3) :: .int 8 :: .int 0 :: .int 0 :: .int 0 :: .int 0 :: .int 0 :: .int 0 :: .int 0 :: .int 0 :: .int (-1) :: .ref (g 4) :: .ref (g 5) :: .int 0 :: .int 0 :: .int 0 :: .ref (g 6) :: .ref (g 7) :: .ref (g 8) :: .int 0 :: .int 0 :: .int 0 :: .int 0 :: .int 0 :: .ref (g 9) :: .int 0 :: .ref (g 10) :: .int 0 :: .int 0 :: .int 0 :: .ref (g 11) :: .ref (g 12) :: .ref (g 13) :: []))), ((g 2), .inl (cT 0, 900, .inl (f_9)))] H ∧ va_D A [(h0, .inr (9, (.int 0 :: .ref (g 0) :: .ref (g 1) :: .ref (g 2) :: .ref (g 3) :: .int 8 :: .int 0 :: .int 0 :: .int 0 :: .int 0 :: .int 0 :: .int 0 :: .int 0 :: .int 0 :: .int (-1) :: .ref (g 4) :: .ref (g 5) :: .int 0 :: .int 0 :: .int 0 :: .ref (g 6) :: .ref (g 7) :: .ref (g 8) :: .int 0 :: .int 0 :: .int 0 :: .int 0 :: .int 0 :: .ref (g 9) :: .int 0 :: .ref (g 10) :: .int 0 :: .int 0 :: .int 0 :: .ref (g 11) :: .ref (g 12) :: .ref (g 13) :: []))), ((g 2), .inl (cT 0, 900, .inl (f_9)))] := ⟨_, hP, hD⟩
  refine lv_aload_n hx hb dX9_feed_105 rfl (lv_at hl 2 rfl) ?_
  refine lv_dup hx hb dX9_feed_106 rfl ?_
  refine va_get (D := D) (ci := 9) (v := .int 8) (C := RX9) (T := TX9) (N := 37) hx hb htg gRX9 hown hK hP 0 rfl rfl 5 (by decide) (htg _ wi_1155) (fun _ h9 => h9) rfl dX9_feed_107 ?_
  refine lv_iconst (v := 1) hx hb dX9_feed_110 (by decide) ?_
  refine lv_iadd hx hb dX9_feed_111 ?_
  refine lv_is (y := 9) (by decide) ?_
  refine va_put (D := D) (ci := 9) (v := .int 9) (ty := .int) (C := RX9) (T := TX9) (N := 37) hx hb htg gRX9 tyX9 tyX9_ok nmX9 hown hK hP hD hS 0 rfl rfl 5 (by decide) (htg _ wi_1155) (fun _ h9 => h9) rfl (by decide +kernel) rfl rfl (Nat.le_of_ble_eq_true rfl) dX9_feed_112 (fun H locs hP hD hS => ?_)
  have hP : va_P D classes [(h0, .inr (9, (.int 0 :: .ref (g 0) :: .ref (g 1) :: .ref (g 2) :: .ref (g 3) :: .int 9 :: .int 0 :: .int 0 :: .int 0 :: .int 0 :: .int 0 :: .int 0 :: .int 0 :: .int 0 :: .int (-1) :: .ref (g 4) :: .ref (g 5) :: .int 0 :: .int 0 :: .int 0 :: .ref (g 6) :: .ref (g 7) :: .ref (g 8) :: .int 0 :: .int 0 :: .int 0 :: .int 0 :: .int 0 :: .ref (g 9) :: .int 0 :: .ref (g 10) :: .int 0 :: .int 0 :: .int 0 :: .ref (g 11) :: .ref (g 12) :: .ref (g 13) :: []))), ((g 2), .inl (cT 0, 900, .inl (f_9)))] _ := hP
  have hD : va_D A [(h0, .inr (9, (.int 0 :: .ref (g 0) :: .ref (g 1) :: .ref (g 2) :: .ref (g 3) :: .int 9 :: .int 0 :: .int 0 :: .int 0 :: .int 0 :: .int 0 :: .int 0 :: .int 0 :: .int 0 :: .int (-1) :: .ref (g 4) :: .ref (g 5) :: .int 0 :: .int 0 :: .int 0 :: .ref (g 6) :: .ref (g 7) :: .ref (g 8) :: .int 0 :: .int 0 :: .int 0 :: .int 0 :: .int 0 :: .ref (g 9) :: .int 0 :: .ref (g 10) :: .int 0 :: .int 0 :: .int 0 :: .ref (g 11) :: .ref (g 12) :: .ref (g 13) :: []))), ((g 2), .inl (cT 0, 900, .inl (f_9)))] := hD
  refine lv_iinc (v := 9) (lv' := [(6, .int 9), (7, .int z), (0, .ref h0), (1, .int x), (2, .int y), (3, .int z), (4, .int v), (5, .int w)]) hx hb dX9_feed_115 hl (k := 1) rfl (by decide) (by decide) rfl (fun ls hl => ?_)
  refine lv_goto (tgt := 24) hx hb dX9_feed_118 (by decide) ?_
  refine lv_iload hx hb dX9_feed_24 (lv_at hl 0 rfl) ?_
  refine lv_bipush (v := 20) hx hb dX9_feed_26 (by decide) ?_
  refine lv_icmp_ge (tgt := 121) hx hb dX9_feed_28 (by decide) (fun h => absurd h (by decide)) (fun _ => ?_)
  refine lv_iload hx hb dX9_feed_31 (lv_at hl 0 rfl) ?_
  refine lv_iconst (v := 4) hx hb dX9_feed_33 (by decide) ?_
  refine lv_icmp_ge (tgt := 41) hx hb dX9_feed_34 (by decide) (fun _ => ?_) (fun h => absurd (by decide) h)
  refine lv_iload hx hb dX9_feed_41 (lv_at hl 0 rfl) ?_
  refine lv_bipush (v := 8) hx hb dX9_feed_43 (by decide) ?_
  refine lv_icmp_ge (tgt := 52) hx hb dX9_feed_45 (by decide) (fun _ => ?_) (fun h => absurd (by decide) h)
  refine lv_iload hx hb dX9_feed_52 (lv_at hl 0 rfl) ?_
  refine lv_bipush (v := 12) hx hb dX9_feed_54 (by decide) ?_
  refine lv_icmp_ge (tgt := 63) hx hb dX9_feed_56 (by decide) (fun h => absurd h (by decide)) (fun _ => ?_)
  refine lv_iload_n hx hb dX9_feed_59 rfl (lv_at hl 5 rfl) ?_
  refine lv_goto (tgt := 77) hx hb dX9_feed_60 (by decide) ?_
  refine lv_istore (lv' := [(7, .int z), (6, .int 9), (0, .ref h0), (1, .int x), (2, .int y), (3, .int z), (4, .int v), (5, .int w)]) hx hb dX9_feed_77 hl (by decide) rfl (fun ls hl => ?_)
  refine lv_aload_n hx hb dX9_feed_79 rfl (lv_at hl 2 rfl) ?_
  refine va_get (D := D) (ci := 9) (v := .ref (g 2)) (C := RX9) (T := TX9) (N := 37) hx hb htg gRX9 hown hK hP 0 rfl rfl 3 (by decide) (htg _ wi_1153) (fun _ h9 => h9) rfl dX9_feed_80 ?_
  refine lv_aload_n hx hb dX9_feed_83 rfl (lv_at hl 2 rfl) ?_
  refine va_get (D := D) (ci := 9) (v := .int 9) (C := RX9) (T := TX9) (N := 37) hx hb htg gRX9 hown hK hP 0 rfl rfl 5 (by decide) (htg _ wi_1155) (fun _ h9 => h9) rfl dX9_feed_84 ?_
  refine lv_iload hx hb dX9_feed_87 (lv_at hl 0 rfl) ?_
  refine lv_bipush (v := 24) hx hb dX9_feed_89 (by decide) ?_
  refine lv_bipush (v := 8) hx hb dX9_feed_91 (by decide) ?_
  refine lv_iload hx hb dX9_feed_93 (lv_at hl 1 rfl) ?_
  refine lv_iconst (v := 4) hx hb dX9_feed_95 (by decide) ?_
  refine lv_irem hx hb dX9_feed_96 (by decide) ?_
  refine lv_is (y := 1) (by decide) ?_
  refine lv_imul hx hb dX9_feed_97 ?_
  refine lv_is (y := 8) (by decide) ?_
  refine lv_isub hx hb dX9_feed_98 ?_
  refine lv_is (y := 16) (by decide) ?_
  refine lv_ishr hx hb dX9_feed_99 ?_
  refine lv_sipush (v := 255) hx hb dX9_feed_100 (by decide) ?_
  refine lv_iand hx hb dX9_feed_103 ?_
  refine va_iast hx hb hK hP hD hS 1 0 rfl rfl (by unfold vp_in; decide) dX9_feed_104 (fun H locs hP hD hS => ?_)
  obtain ⟨f_10, hP, hD⟩ : ∃ f_10 : Nat → Int32, va_P D classes [(h0, .inr (9, (.int 0 :: .ref (g 0) :: .ref (g 1) :: .ref (g 2) :: .ref (g 3) :: .int 9 :: .int 0 :: .int 0 :: .int 0 :: .int 0 :: .int 0 :: .int 0 :: .int 0 :: .int 0 :: .int (-1) :: .ref (g 4) :: .ref (g 5) :: .int 0 :: .int 0 :: .int 0 :: .ref (g 6) :: .ref (g 7) :: .ref (g 8) :: .int 0 :: .int 0 :: .int 0 :: .int 0 :: .int 0 :: .ref (g 9) :: .int 0 :: .ref (g 10) :: .int 0 :: .int 0 :: .int 0 :: .ref (g 11) :: .ref (g 12) :: .ref (g 13) :: []))), ((g 2), .inl (cT 0, 900, .inl (f_10)))] H ∧ va_D A [(h0, .inr (9, (.int 0 :: .ref (g 0) :: .ref (g 1) :: .ref (g 2) :: .ref (g 3) :: .int 9 :: .int 0 :: .int 0 :: .int 0 :: .int 0 :: .int 0 :: .int 0 :: .int 0 :: .int 0 :: .int (-1) :: .ref (g 4) :: .ref (g 5) :: .int 0 :: .int 0 :: .int 0 :: .ref (g 6) :: .ref (g 7) :: .ref (g 8) :: .int 0 :: .int 0 :: .int 0 :: .int 0 :: .int 0 :: .ref (g 9) :: .int 0 :: .ref (g 10) :: .int 0 :: .int 0 :: .int 0 :: .ref (g 11) :: .ref (g 12) :: .ref (g 13) :: []))), ((g 2), .inl (cT 0, 900, .inl (f_10)))] := ⟨_, hP, hD⟩
  refine lv_aload_n hx hb dX9_feed_105 rfl (lv_at hl 2 rfl) ?_
  refine lv_dup hx hb dX9_feed_106 rfl ?_
  refine va_get (D := D) (ci := 9) (v := .int 9) (C := RX9) (T := TX9) (N := 37) hx hb htg gRX9 hown hK hP 0 rfl rfl 5 (by decide) (htg _ wi_1155) (fun _ h9 => h9) rfl dX9_feed_107 ?_
  refine lv_iconst (v := 1) hx hb dX9_feed_110 (by decide) ?_
  refine lv_iadd hx hb dX9_feed_111 ?_
  refine lv_is (y := 10) (by decide) ?_
  refine va_put (D := D) (ci := 9) (v := .int 10) (ty := .int) (C := RX9) (T := TX9) (N := 37) hx hb htg gRX9 tyX9 tyX9_ok nmX9 hown hK hP hD hS 0 rfl rfl 5 (by decide) (htg _ wi_1155) (fun _ h9 => h9) rfl (by decide +kernel) rfl rfl (Nat.le_of_ble_eq_true rfl) dX9_feed_112 (fun H locs hP hD hS => ?_)
  have hP : va_P D classes [(h0, .inr (9, (.int 0 :: .ref (g 0) :: .ref (g 1) :: .ref (g 2) :: .ref (g 3) :: .int 10 :: .int 0 :: .int 0 :: .int 0 :: .int 0 :: .int 0 :: .int 0 :: .int 0 :: .int 0 :: .int (-1) :: .ref (g 4) :: .ref (g 5) :: .int 0 :: .int 0 :: .int 0 :: .ref (g 6) :: .ref (g 7) :: .ref (g 8) :: .int 0 :: .int 0 :: .int 0 :: .int 0 :: .int 0 :: .ref (g 9) :: .int 0 :: .ref (g 10) :: .int 0 :: .int 0 :: .int 0 :: .ref (g 11) :: .ref (g 12) :: .ref (g 13) :: []))), ((g 2), .inl (cT 0, 900, .inl (f_10)))] _ := hP
  have hD : va_D A [(h0, .inr (9, (.int 0 :: .ref (g 0) :: .ref (g 1) :: .ref (g 2) :: .ref (g 3) :: .int 10 :: .int 0 :: .int 0 :: .int 0 :: .int 0 :: .int 0 :: .int 0 :: .int 0 :: .int 0 :: .int (-1) :: .ref (g 4) :: .ref (g 5) :: .int 0 :: .int 0 :: .int 0 :: .ref (g 6) :: .ref (g 7) :: .ref (g 8) :: .int 0 :: .int 0 :: .int 0 :: .int 0 :: .int 0 :: .ref (g 9) :: .int 0 :: .ref (g 10) :: .int 0 :: .int 0 :: .int 0 :: .ref (g 11) :: .ref (g 12) :: .ref (g 13) :: []))), ((g 2), .inl (cT 0, 900, .inl (f_10)))] := hD
  refine lv_iinc (v := 10) (lv' := [(6, .int 10), (7, .int z), (0, .ref h0), (1, .int x), (2, .int y), (3, .int z), (4, .int v), (5, .int w)]) hx hb dX9_feed_115 hl (k := 1) rfl (by decide) (by decide) rfl (fun ls hl => ?_)
  refine lv_goto (tgt := 24) hx hb dX9_feed_118 (by decide) ?_
  refine lv_iload hx hb dX9_feed_24 (lv_at hl 0 rfl) ?_
  refine lv_bipush (v := 20) hx hb dX9_feed_26 (by decide) ?_
  refine lv_icmp_ge (tgt := 121) hx hb dX9_feed_28 (by decide) (fun h => absurd h (by decide)) (fun _ => ?_)
  refine lv_iload hx hb dX9_feed_31 (lv_at hl 0 rfl) ?_
  refine lv_iconst (v := 4) hx hb dX9_feed_33 (by decide) ?_
  refine lv_icmp_ge (tgt := 41) hx hb dX9_feed_34 (by decide) (fun _ => ?_) (fun h => absurd (by decide) h)
  refine lv_iload hx hb dX9_feed_41 (lv_at hl 0 rfl) ?_
  refine lv_bipush (v := 8) hx hb dX9_feed_43 (by decide) ?_
  refine lv_icmp_ge (tgt := 52) hx hb dX9_feed_45 (by decide) (fun _ => ?_) (fun h => absurd (by decide) h)
  refine lv_iload hx hb dX9_feed_52 (lv_at hl 0 rfl) ?_
  refine lv_bipush (v := 12) hx hb dX9_feed_54 (by decide) ?_
  refine lv_icmp_ge (tgt := 63) hx hb dX9_feed_56 (by decide) (fun h => absurd h (by decide)) (fun _ => ?_)
  refine lv_iload_n hx hb dX9_feed_59 rfl (lv_at hl 5 rfl) ?_
  refine lv_goto (tgt := 77) hx hb dX9_feed_60 (by decide) ?_
  refine lv_istore (lv' := [(7, .int z), (6, .int 10), (0, .ref h0), (1, .int x), (2, .int y), (3, .int z), (4, .int v), (5, .int w)]) hx hb dX9_feed_77 hl (by decide) rfl (fun ls hl => ?_)
  refine lv_aload_n hx hb dX9_feed_79 rfl (lv_at hl 2 rfl) ?_
  refine va_get (D := D) (ci := 9) (v := .ref (g 2)) (C := RX9) (T := TX9) (N := 37) hx hb htg gRX9 hown hK hP 0 rfl rfl 3 (by decide) (htg _ wi_1153) (fun _ h9 => h9) rfl dX9_feed_80 ?_
  refine lv_aload_n hx hb dX9_feed_83 rfl (lv_at hl 2 rfl) ?_
  refine va_get (D := D) (ci := 9) (v := .int 10) (C := RX9) (T := TX9) (N := 37) hx hb htg gRX9 hown hK hP 0 rfl rfl 5 (by decide) (htg _ wi_1155) (fun _ h9 => h9) rfl dX9_feed_84 ?_
  refine lv_iload hx hb dX9_feed_87 (lv_at hl 0 rfl) ?_
  refine lv_bipush (v := 24) hx hb dX9_feed_89 (by decide) ?_
  refine lv_bipush (v := 8) hx hb dX9_feed_91 (by decide) ?_
  refine lv_iload hx hb dX9_feed_93 (lv_at hl 1 rfl) ?_
  refine lv_iconst (v := 4) hx hb dX9_feed_95 (by decide) ?_
  refine lv_irem hx hb dX9_feed_96 (by decide) ?_
  refine lv_is (y := 2) (by decide) ?_
  refine lv_imul hx hb dX9_feed_97 ?_
  refine lv_is (y := 16) (by decide) ?_
  refine lv_isub hx hb dX9_feed_98 ?_
  refine lv_is (y := 8) (by decide) ?_
  refine lv_ishr hx hb dX9_feed_99 ?_
  refine lv_sipush (v := 255) hx hb dX9_feed_100 (by decide) ?_
  refine lv_iand hx hb dX9_feed_103 ?_
  refine va_iast hx hb hK hP hD hS 1 0 rfl rfl (by unfold vp_in; decide) dX9_feed_104 (fun H locs hP hD hS => ?_)
  obtain ⟨f_11, hP, hD⟩ : ∃ f_11 : Nat → Int32, va_P D classes [(h0, .inr (9, (.int 0 :: .ref (g 0) :: .ref (g 1) :: .ref (g 2) :: .ref (g 3) :: .int 10 :: .int 0 :: .int 0 :: .int 0 :: .int 0 :: .int 0 :: .int 0 :: .int 0 :: .int 0 :: .int (-1) :: .ref (g 4) :: .ref (g 5) :: .int 0 :: .int 0 :: .int 0 :: .ref (g 6) :: .ref (g 7) :: .ref (g 8) :: .int 0 :: .int 0 :: .int 0 :: .int 0 :: .int 0 :: .ref (g 9) :: .int 0 :: .ref (g 10) :: .int 0 :: .int 0 :: .int 0 :: .ref (g 11) :: .ref (g 12) :: .ref (g 13) :: []))), ((g 2), .inl (cT 0, 900, .inl (f_11)))] H ∧ va_D A [(h0, .inr (9, (.int 0 :: .ref (g 0) :: .ref (g 1) :: .ref (g 2) :: .ref (g 3) :: .int 10 :: .int 0 :: .int 0 :: .int 0 :: .int 0 :: .int 0 :: .int 0 :: .int 0 :: .int 0 :: .int (-1) :: .ref (g 4) :: .ref (g 5) :: .int 0 :: .int 0 :: .int 0 :: .ref (g 6) :: .ref (g 7) :: .ref (g 8) :: .int 0 :: .int 0 :: .int 0 :: .int 0 :: .int 0 :: .ref (g 9) :: .int 0 :: .ref (g 10) :: .int 0 :: .int 0 :: .int 0 :: .ref (g 11) :: .ref (g 12) :: .ref (g 13) :: []))), ((g 2), .inl (cT 0, 900, .inl (f_11)))] := ⟨_, hP, hD⟩
  refine lv_aload_n hx hb dX9_feed_105 rfl (lv_at hl 2 rfl) ?_
  refine lv_dup hx hb dX9_feed_106 rfl ?_
  refine va_get (D := D) (ci := 9) (v := .int 10) (C := RX9) (T := TX9) (N := 37) hx hb htg gRX9 hown hK hP 0 rfl rfl 5 (by decide) (htg _ wi_1155) (fun _ h9 => h9) rfl dX9_feed_107 ?_
  refine lv_iconst (v := 1) hx hb dX9_feed_110 (by decide) ?_
  refine lv_iadd hx hb dX9_feed_111 ?_
  refine lv_is (y := 11) (by decide) ?_
  refine va_put (D := D) (ci := 9) (v := .int 11) (ty := .int) (C := RX9) (T := TX9) (N := 37) hx hb htg gRX9 tyX9 tyX9_ok nmX9 hown hK hP hD hS 0 rfl rfl 5 (by decide) (htg _ wi_1155) (fun _ h9 => h9) rfl (by decide +kernel) rfl rfl (Nat.le_of_ble_eq_true rfl) dX9_feed_112 (fun H locs hP hD hS => ?_)
  have hP : va_P D classes [(h0, .inr (9, (.int 0 :: .ref (g 0) :: .ref (g 1) :: .ref (g 2) :: .ref (g 3) :: .int 11 :: .int 0 :: .int 0 :: .int 0 :: .int 0 :: .int 0 :: .int 0 :: .int 0 :: .int 0 :: .int (-1) :: .ref (g 4) :: .ref (g 5) :: .int 0 :: .int 0 :: .int 0 :: .ref (g 6) :: .ref (g 7) :: .ref (g 8) :: .int 0 :: .int 0 :: .int 0 :: .int 0 :: .int 0 :: .ref (g 9) :: .int 0 :: .ref (g 10) :: .int 0 :: .int 0 :: .int 0 :: .ref (g 11) :: .ref (g 12) :: .ref (g 13) :: []))), ((g 2), .inl (cT 0, 900, .inl (f_11)))] _ := hP
  have hD : va_D A [(h0, .inr (9, (.int 0 :: .ref (g 0) :: .ref (g 1) :: .ref (g 2) :: .ref (g 3) :: .int 11 :: .int 0 :: .int 0 :: .int 0 :: .int 0 :: .int 0 :: .int 0 :: .int 0 :: .int 0 :: .int (-1) :: .ref (g 4) :: .ref (g 5) :: .int 0 :: .int 0 :: .int 0 :: .ref (g 6) :: .ref (g 7) :: .ref (g 8) :: .int 0 :: .int 0 :: .int 0 :: .int 0 :: .int 0 :: .ref (g 9) :: .int 0 :: .ref (g 10) :: .int 0 :: .int 0 :: .int 0 :: .ref (g 11) :: .ref (g 12) :: .ref (g 13) :: []))), ((g 2), .inl (cT 0, 900, .inl (f_11)))] := hD
  refine lv_iinc (v := 11) (lv' := [(6, .int 11), (7, .int z), (0, .ref h0), (1, .int x), (2, .int y), (3, .int z), (4, .int v), (5, .int w)]) hx hb dX9_feed_115 hl (k := 1) rfl (by decide) (by decide) rfl (fun ls hl => ?_)
  refine lv_goto (tgt := 24) hx hb dX9_feed_118 (by decide) ?_
  refine lv_iload hx hb dX9_feed_24 (lv_at hl 0 rfl) ?_
  refine lv_bipush (v := 20) hx hb dX9_feed_26 (by decide) ?_
  refine lv_icmp_ge (tgt := 121) hx hb dX9_feed_28 (by decide) (fun h => absurd h (by decide)) (fun _ => ?_)
  refine lv_iload hx hb dX9_feed_31 (lv_at hl 0 rfl) ?_
  refine lv_iconst (v := 4) hx hb dX9_feed_33 (by decide) ?_
  refine lv_icmp_ge (tgt := 41) hx hb dX9_feed_34 (by decide) (fun _ => ?_) (fun h => absurd (by decide) h)
  refine lv_iload hx hb dX9_feed_41 (lv_at hl 0 rfl) ?_
  refine lv_bipush (v := 8) hx hb dX9_feed_43 (by decide) ?_
  refine lv_icmp_ge (tgt := 52) hx hb dX9_feed_45 (by decide) (fun _ => ?_) (fun h => absurd (by decide) h)
  refine lv_iload hx hb dX9_feed_52 (lv_at hl 0 rfl) ?_
  refine lv_bipush (v := 12) hx hb dX9_feed_54 (by decide) ?_
  refine lv_icmp_ge (tgt := 63) hx hb dX9_feed_56 (by decide) (fun h => absurd h (by decide)) (fun _ => ?_)
  refine lv_iload_n hx hb dX9_feed_59 rfl (lv_at hl 5 rfl) ?_
  refine lv_goto (tgt := 77) hx hb dX9_feed_60 (by decide) ?_
  refine lv_istore (lv' := [(7, .int z), (6, .int 11), (0, .ref h0), (1, .int x), (2, .int y), (3, .int z), (4, .int v), (5, .int w)]) hx hb dX9_feed_77 hl (by decide) rfl (fun ls hl => ?_)
  refine lv_aload_n hx hb dX9_feed_79 rfl (lv_at hl 2 rfl) ?_
  refine va_get (D := D) (ci := 9) (v := .ref (g 2)) (C := RX9) (T := TX9) (N := 37) hx hb htg gRX9 hown hK hP 0 rfl rfl 3 (by decide) (htg _ wi_1153) (fun _ h9 => h9) rfl dX9_feed_80 ?_
  refine lv_aload_n hx hb dX9_feed_83 rfl (lv_at hl 2 rfl) ?_
  refine va_get (D := D) (ci := 9) (v := .int 11) (C := RX9) (T := TX9) (N := 37) hx hb htg gRX9 hown hK hP 0 rfl rfl 5 (by decide) (htg _ wi_1155) (fun _ h9 => h9) rfl dX9_feed_84 ?_
  refine lv_iload hx hb dX9_feed_87 (lv_at hl 0 rfl) ?_
  refine lv_bipush (v := 24) hx hb dX9_feed_89 (by decide) ?_
  refine lv_bipush (v := 8) hx hb dX9_feed_91 (by decide) ?_
  refine lv_iload hx hb dX9_feed_93 (lv_at hl 1 rfl) ?_
  refine lv_iconst (v := 4) hx hb dX9_feed_95 (by decide) ?_
  refine lv_irem hx hb dX9_feed_96 (by decide) ?_
  refine lv_is (y := 3) (by decide) ?_
  refine lv_imul hx hb dX9_feed_97 ?_
  refine lv_is (y := 24) (by decide) ?_
  refine lv_isub hx hb dX9_feed_98 ?_
  refine lv_is (y := 0) (by decide) ?_
  refine lv_ishr hx hb dX9_feed_99 ?_
  refine lv_sipush (v := 255) hx hb dX9_feed_100 (by decide) ?_
  refine lv_iand hx hb dX9_feed_103 ?_
  refine va_iast hx hb hK hP hD hS 1 0 rfl rfl (by unfold vp_in; decide) dX9_feed_104 (fun H locs hP hD hS => ?_)
  obtain ⟨f_12, hP, hD⟩ : ∃ f_12 : Nat → Int32, va_P D classes [(h0, .inr (9, (.int 0 :: .ref (g 0) :: .ref (g 1) :: .ref (g 2) :: .ref (g 3) :: .int 11 :: .int 0 :: .int 0 :: .int 0 :: .int 0 :: .int 0 :: .int 0 :: .int 0 :: .int 0 :: .int (-1) :: .ref (g 4) :: .ref (g 5) :: .int 0 :: .int 0 :: .int 0 :: .ref (g 6) :: .ref (g 7) :: .ref (g 8) :: .int 0 :: .int 0 :: .int 0 :: .int 0 :: .int 0 :: .ref (g 9) :: .int 0 :: .ref (g 10) :: .int 0 :: .int 0 :: .int 0 :: .ref (g 11) :: .ref (g 12) :: .ref (g 13) :: []))), ((g 2), .inl (cT 0, 900, .inl (f_12)))] H ∧ va_D A [(h0, .inr (9, (.int 0 :: .ref (g 0) :: .ref (g 1) :: .ref (g 2) :: .ref (g 3) :: .int 11 :: .int 0 :: .int 0 :: .int 0 :: .int 0 :: .int 0 :: .int 0 :: .int 0 :: .int 0 :: .int (-1) :: .ref (g 4) :: .ref (g 5) :: .int 0 :: .int 0 :: .int 0 :: .ref (g 6) :: .ref (g 7) :: .ref (g 8) :: .int 0 :: .int 0 :: .int 0 :: .int 0 :: .int 0 :: .ref (g 9) :: .int 0 :: .ref (g 10) :: .int 0 :: .int 0 :: .int 0 :: .ref (g 11) :: .ref (g 12) :: .ref (g 13) :: []))), ((g 2), .inl (cT 0, 900, .inl (f_12)))] := ⟨_, hP, hD⟩
  refine lv_aload_n hx hb dX9_feed_105 rfl (lv_at hl 2 rfl) ?_
  refine lv_dup hx hb dX9_feed_106 rfl ?_
  refine va_get (D := D) (ci := 9) (v := .int 11) (C := RX9) (T := TX9) (N := 37) hx hb htg gRX9 hown hK hP 0 rfl rfl 5 (by decide) (htg _ wi_1155) (fun _ h9 => h9) rfl dX9_feed_107 ?_
  refine lv_iconst (v := 1) hx hb dX9_feed_110 (by decide) ?_
  refine lv_iadd hx hb dX9_feed_111 ?_
  refine lv_is (y := 12) (by decide) ?_
  refine va_put (D := D) (ci := 9) (v := .int 12) (ty := .int) (C := RX9) (T := TX9) (N := 37) hx hb htg gRX9 tyX9 tyX9_ok nmX9 hown hK hP hD hS 0 rfl rfl 5 (by decide) (htg _ wi_1155) (fun _ h9 => h9) rfl (by decide +kernel) rfl rfl (Nat.le_of_ble_eq_true rfl) dX9_feed_112 (fun H locs hP hD hS => ?_)
  have hP : va_P D classes [(h0, .inr (9, (.int 0 :: .ref (g 0) :: .ref (g 1) :: .ref (g 2) :: .ref (g 3) :: .int 12 :: .int 0 :: .int 0 :: .int 0 :: .int 0 :: .int 0 :: .int 0 :: .int 0 :: .int 0 :: .int (-1) :: .ref (g 4) :: .ref (g 5) :: .int 0 :: .int 0 :: .int 0 :: .ref (g 6) :: .ref (g 7) :: .ref (g 8) :: .int 0 :: .int 0 :: .int 0 :: .int 0 :: .int 0 :: .ref (g 9) :: .int 0 :: .ref (g 10) :: .int 0 :: .int 0 :: .int 0 :: .ref (g 11) :: .ref (g 12) :: .ref (g 13) :: []))), ((g 2), .inl (cT 0, 900, .inl (f_12)))] _ := hP
  have hD : va_D A [(h0, .inr (9, (.int 0 :: .ref (g 0) :: .ref (g 1) :: .ref (g 2) :: .ref (g 3) :: .int 12 :: .int 0 :: .int 0 :: .int 0 :: .int 0 :: .int 0 :: .int 0 :: .int 0 :: .int 0 :: .int (-1) :: .ref (g 4) :: .ref (g 5) :: .int 0 :: .int 0 :: .int 0 :: .ref (g 6) :: .ref (g 7) :: .ref (g 8) :: .int 0 :: .int 0 :: .int 0 :: .int 0 :: .int 0 :: .ref (g 9) :: .int 0 :: .ref (g 10) :: .int 0 :: .int 0 :: .int 0 :: .ref (g 11) :: .ref (g 12) :: .ref (g 13) :: []))), ((g 2), .inl (cT 0, 900, .inl (f_12)))] := hD
  refine lv_iinc (v := 12) (lv' := [(6, .int 12), (7, .int z), (0, .ref h0), (1, .int x), (2, .int y), (3, .int z), (4, .int v), (5, .int w)]) hx hb dX9_feed_115 hl (k := 1) rfl (by decide) (by decide) rfl (fun ls hl => ?_)
  refine lv_goto (tgt := 24) hx hb dX9_feed_118 (by decide) ?_
  refine lv_iload hx hb dX9_feed_24 (lv_at hl 0 rfl) ?_
  refine lv_bipush (v := 20) hx hb dX9_feed_26 (by decide) ?_
  refine lv_icmp_ge (tgt := 121) hx hb dX9_feed_28 (by decide) (fun h => absurd h (by decide)) (fun _ => ?_)
  refine lv_iload hx hb dX9_feed_31 (lv_at hl 0 rfl) ?_
  refine lv_iconst (v := 4) hx hb dX9_feed_33 (by decide) ?_
  refine lv_icmp_ge (tgt := 41) hx hb dX9_feed_34 (by decide) (fun _ => ?_) (fun h => absurd (by decide) h)
  refine lv_iload hx hb dX9_feed_41 (lv_at hl 0 rfl) ?_
  refine lv_bipush (v := 8) hx hb dX9_feed_43 (by decide) ?_
  refine lv_icmp_ge (tgt := 52) hx hb dX9_feed_45 (by decide) (fun _ => ?_) (fun h => absurd (by decide) h)
  refine lv_iload hx hb dX9_feed_52 (lv_at hl 0 rfl) ?_
  refine lv_bipush (v := 12) hx hb dX9_feed_54 (by decide) ?_
  refine lv_icmp_ge (tgt := 63) hx hb dX9_feed_56 (by decide) (fun _ => ?_) (fun h => absurd (by decide) h)
  refine lv_iload hx hb dX9_feed_63 (lv_at hl 0 rfl) ?_
  refine lv_bipush (v := 16) hx hb dX9_feed_65 (by decide) ?_
  refine lv_icmp_ge (tgt := 75) hx hb dX9_feed_67 (by decide) (fun h => absurd h (by decide)) (fun _ => ?_)
  refine lv_iload hx hb dX9_feed_70 (lv_at hl 6 rfl) ?_
  refine lv_goto (tgt := 77) hx hb dX9_feed_72 (by decide) ?_
  refine lv_istore (lv' := [(7, .int v), (6, .int 12), (0, .ref h0), (1, .int x), (2, .int y), (3, .int z), (4, .int v), (5, .int w)]) hx hb dX9_feed_77 hl (by decide) rfl (fun ls hl => ?_)
  refine lv_aload_n hx hb dX9_feed_79 rfl (lv_at hl 2 rfl) ?_
  refine va_get (D := D) (ci := 9) (v := .ref (g 2)) (C := RX9) (T := TX9) (N := 37) hx hb htg gRX9 hown hK hP 0 rfl rfl 3 (by decide) (htg _ wi_1153) (fun _ h9 => h9) rfl dX9_feed_80 ?_
  refine lv_aload_n hx hb dX9_feed_83 rfl (lv_at hl 2 rfl) ?_
  refine va_get (D := D) (ci := 9) (v := .int 12) (C := RX9) (T := TX9) (N := 37) hx hb htg gRX9 hown hK hP 0 rfl rfl 5 (by decide) (htg _ wi_1155) (fun _ h9 => h9) rfl dX9_feed_84 ?_
  refine lv_iload hx hb dX9_feed_87 (lv_at hl 0 rfl) ?_
  refine lv_bipush (v := 24) hx hb dX9_feed_89 (by decide) ?_
  refine lv_bipush (v := 8) hx hb dX9_feed_91 (by decide) ?_
  refine lv_iload hx hb dX9_feed_93 (lv_at hl 1 rfl) ?_
  refine lv_iconst (v := 4) hx hb dX9_feed_95 (by decide) ?_
  refine lv_irem hx hb dX9_feed_96 (by decide) ?_
  refine lv_is (y := 0) (by decide) ?_
  refine lv_imul hx hb dX9_feed_97 ?_
  refine lv_is (y := 0) (by decide) ?_
  refine lv_isub hx hb dX9_feed_98 ?_
  refine lv_is (y := 24) (by decide) ?_
  refine lv_ishr hx hb dX9_feed_99 ?_
  refine lv_sipush (v := 255) hx hb dX9_feed_100 (by decide) ?_
  refine lv_iand hx hb dX9_feed_103 ?_
  refine va_iast hx hb hK hP hD hS 1 0 rfl rfl (by unfold vp_in; decide) dX9_feed_104 (fun H locs hP hD hS => ?_)
  obtain ⟨f_13, hP, hD⟩ : ∃ f_13 : Nat → Int32, va_P D classes [(h0, .inr (9, (.int 0 :: .ref (g 0) :: .ref (g 1) :: .ref (g 2) :: .ref (g 3) :: .int 12 :: .int 0 :: .int 0 :: .int 0 :: .int 0 :: .int 0 :: .int 0 :: .int 0 :: .int 0 :: .int (-1) :: .ref (g 4) :: .ref (g 5) :: .int 0 :: .int 0 :: .int 0 :: .ref (g 6) :: .ref (g 7) :: .ref (g 8) :: .int 0 :: .int 0 :: .int 0 :: .int 0 :: .int 0 :: .ref (g 9) :: .int 0 :: .ref (g 10) :: .int 0 :: .int 0 :: .int 0 :: .ref (g 11) :: .ref (g 12) :: .ref (g 13) :: []))), ((g 2), .inl (cT 0, 900, .inl (f_13)))] H ∧ va_D A [(h0, .inr (9, (.int 0 :: .ref (g 0) :: .ref (g 1) :: .ref (g 2) :: .ref (g 3) :: .int 12 :: .int 0 :: .int 0 :: .int 0 :: .int 0 :: .int 0 :: .int 0 :: .int 0 :: .int 0 :: .int (-1) :: .ref (g 4) :: .ref (g 5) :: .int 0 :: .int 0 :: .int 0 :: .ref (g 6) :: .ref (g 7) :: .ref (g 8) :: .int 0 :: .int 0 :: .int 0 :: .int 0 :: .int 0 :: .ref (g 9) :: .int 0 :: .ref (g 10) :: .int 0 :: .int 0 :: .int 0 :: .ref (g 11) :: .ref (g 12) :: .ref (g 13) :: []))), ((g 2), .inl (cT 0, 900, .inl (f_13)))] := ⟨_, hP, hD⟩
  refine lv_aload_n hx hb dX9_feed_105 rfl (lv_at hl 2 rfl) ?_
  refine lv_dup hx hb dX9_feed_106 rfl ?_
  refine va_get (D := D) (ci := 9) (v := .int 12) (C := RX9) (T := TX9) (N := 37) hx hb htg gRX9 hown hK hP 0 rfl rfl 5 (by decide) (htg _ wi_1155) (fun _ h9 => h9) rfl dX9_feed_107 ?_
  refine lv_iconst (v := 1) hx hb dX9_feed_110 (by decide) ?_
  refine lv_iadd hx hb dX9_feed_111 ?_
  refine lv_is (y := 13) (by decide) ?_
  refine va_put (D := D) (ci := 9) (v := .int 13) (ty := .int) (C := RX9) (T := TX9) (N := 37) hx hb htg gRX9 tyX9 tyX9_ok nmX9 hown hK hP hD hS 0 rfl rfl 5 (by decide) (htg _ wi_1155) (fun _ h9 => h9) rfl (by decide +kernel) rfl rfl (Nat.le_of_ble_eq_true rfl) dX9_feed_112 (fun H locs hP hD hS => ?_)
  have hP : va_P D classes [(h0, .inr (9, (.int 0 :: .ref (g 0) :: .ref (g 1) :: .ref (g 2) :: .ref (g 3) :: .int 13 :: .int 0 :: .int 0 :: .int 0 :: .int 0 :: .int 0 :: .int 0 :: .int 0 :: .int 0 :: .int (-1) :: .ref (g 4) :: .ref (g 5) :: .int 0 :: .int 0 :: .int 0 :: .ref (g 6) :: .ref (g 7) :: .ref (g 8) :: .int 0 :: .int 0 :: .int 0 :: .int 0 :: .int 0 :: .ref (g 9) :: .int 0 :: .ref (g 10) :: .int 0 :: .int 0 :: .int 0 :: .ref (g 11) :: .ref (g 12) :: .ref (g 13) :: []))), ((g 2), .inl (cT 0, 900, .inl (f_13)))] _ := hP
  have hD : va_D A [(h0, .inr (9, (.int 0 :: .ref (g 0) :: .ref (g 1) :: .ref (g 2) :: .ref (g 3) :: .int 13 :: .int 0 :: .int 0 :: .int 0 :: .int 0 :: .int 0 :: .int 0 :: .int 0 :: .int 0 :: .int (-1) :: .ref (g 4) :: .ref (g 5) :: .int 0 :: .int 0 :: .int 0 :: .ref (g 6) :: .ref (g 7) :: .ref (g 8) :: .int 0 :: .int 0 :: .int 0 :: .int 0 :: .int 0 :: .ref (g 9) :: .int 0 :: .ref (g 10) :: .int 0 :: .int 0 :: .int 0 :: .ref (g 11) :: .ref (g 12) :: .ref (g 13) :: []))), ((g 2), .inl (cT 0, 900, .inl (f_13)))] := hD
  refine lv_iinc (v := 13) (lv' := [(6, .int 13), (7, .int v), (0, .ref h0), (1, .int x), (2, .int y), (3, .int z), (4, .int v), (5, .int w)]) hx hb dX9_feed_115 hl (k := 1) rfl (by decide) (by decide) rfl (fun ls hl => ?_)
  refine lv_goto (tgt := 24) hx hb dX9_feed_118 (by decide) ?_
  refine lv_iload hx hb dX9_feed_24 (lv_at hl 0 rfl) ?_
  refine lv_bipush (v := 20) hx hb dX9_feed_26 (by decide) ?_
  refine lv_icmp_ge (tgt := 121) hx hb dX9_feed_28 (by decide) (fun h => absurd h (by decide)) (fun _ => ?_)
  refine lv_iload hx hb dX9_feed_31 (lv_at hl 0 rfl) ?_
  refine lv_iconst (v := 4) hx hb dX9_feed_33 (by decide) ?_
  refine lv_icmp_ge (tgt := 41) hx hb dX9_feed_34 (by decide) (fun _ => ?_) (fun h => absurd (by decide) h)
  refine lv_iload hx hb dX9_feed_41 (lv_at hl 0 rfl) ?_
  refine lv_bipush (v := 8) hx hb dX9_feed_43 (by decide) ?_
  refine lv_icmp_ge (tgt := 52) hx hb dX9_feed_45 (by decide) (fun _ => ?_) (fun h => absurd (by decide) h)
  refine lv_iload hx hb dX9_feed_52 (lv_at hl 0 rfl) ?_
  refine lv_bipush (v := 12) hx hb dX9_feed_54 (by decide) ?_
  refine lv_icmp_ge (tgt := 63) hx hb dX9_feed_56 (by decide) (fun _ => ?_) (fun h => absurd (by decide) h)
  refine lv_iload hx hb dX9_feed_63 (lv_at hl 0 rfl) ?_
  refine lv_bipush (v := 16) hx hb dX9_feed_65 (by decide) ?_
  refine lv_icmp_ge (tgt := 75) hx hb dX9_feed_67 (by decide) (fun h => absurd h (by decide)) (fun _ => ?_)
  refine lv_iload hx hb dX9_feed_70 (lv_at hl 6 rfl) ?_
  refine lv_goto (tgt := 77) hx hb dX9_feed_72 (by decide) ?_
  refine lv_istore (lv' := [(7, .int v), (6, .int 13), (0, .ref h0), (1, .int x), (2, .int y), (3, .int z), (4, .int v), (5, .int w)]) hx hb dX9_feed_77 hl (by decide) rfl (fun ls hl => ?_)
  refine lv_aload_n hx hb dX9_feed_79 rfl (lv_at hl 2 rfl) ?_
  refine va_get (D := D) (ci := 9) (v := .ref (g 2)) (C := RX9) (T := TX9) (N := 37) hx hb htg gRX9 hown hK hP 0 rfl rfl 3 (by decide) (htg _ wi_1153) (fun _ h9 => h9) rfl dX9_feed_80 ?_
  refine lv_aload_n hx hb dX9_feed_83 rfl (lv_at hl 2 rfl) ?_
  refine va_get (D := D) (ci := 9) (v := .int 13) (C := RX9) (T := TX9) (N := 37) hx hb htg gRX9 hown hK hP 0 rfl rfl 5 (by decide) (htg _ wi_1155) (fun _ h9 => h9) rfl dX9_feed_84 ?_
  refine lv_iload hx hb dX9_feed_87 (lv_at hl 0 rfl) ?_
  refine lv_bipush (v := 24) hx hb dX9_feed_89 (by decide) ?_
  refine lv_bipush (v := 8) hx hb dX9_feed_91 (by decide) ?_
  refine lv_iload hx hb dX9_feed_93 (lv_at hl 1 rfl) ?_
  refine lv_iconst (v := 4) hx hb dX9_feed_95 (by decide) ?_
  refine lv_irem hx hb dX9_feed_96 (by decide) ?_
  refine lv_is (y := 1) (by decide) ?_
  refine lv_imul hx hb dX9_feed_97 ?_
  refine lv_is (y := 8) (by decide) ?_
  refine lv_isub hx hb dX9_feed_98 ?_
  refine lv_is (y := 16) (by decide) ?_
  refine lv_ishr hx hb dX9_feed_99 ?_
  refine lv_sipush (v := 255) hx hb dX9_feed_100 (by decide) ?_
  refine lv_iand hx hb dX9_feed_103 ?_
  refine va_iast hx hb hK hP hD hS 1 0 rfl rfl (by unfold vp_in; decide) dX9_feed_104 (fun H locs hP hD hS => ?_)
  obtain ⟨f_14, hP, hD⟩ : ∃ f_14 : Nat → Int32, va_P D classes [(h0, .inr (9, (.int 0 :: .ref (g 0) :: .ref (g 1) :: .ref (g 2) :: .ref (g 3) :: .int 13 :: .int 0 :: .int 0 :: .int 0 :: .int 0 :: .int 0 :: .int 0 :: .int 0 :: .int 0 :: .int (-1) :: .ref (g 4) :: .ref (g 5) :: .int 0 :: .int 0 :: .int 0 :: .ref (g 6) :: .ref (g 7) :: .ref (g 8) :: .int 0 :: .int 0 :: .int 0 :: .int 0 :: .int 0 :: .ref (g 9) :: .int 0 :: .ref (g 10) :: .int 0 :: .int 0 :: .int 0 :: .ref (g 11) :: .ref (g 12) :: .ref (g 13) :: []))), ((g 2), .inl (cT 0, 900, .inl (f_14)))] H ∧ va_D A [(h0, .inr (9, (.int 0 :: .ref (g 0) :: .ref (g 1) :: .ref (g 2) :: .ref (g 3) :: .int 13 :: .int 0 :: .int 0 :: .int 0 :: .int 0 :: .int 0 :: .int 0 :: .int 0 :: .int 0 :: .int (-1) :: .ref (g 4) :: .ref (g 5) :: .int 0 :: .int 0 :: .int 0 :: .ref (g 6) :: .ref (g 7) :: .ref (g 8) :: .int 0 :: .int 0 :: .int 0 :: .int 0 :: .int 0 :: .ref (g 9) :: .int 0 :: .ref (g 10) :: .int 0 :: .int 0 :: .int 0 :: .ref (g 11) :: .ref (g 12) :: .ref (g 13) :: []))), ((g 2), .inl (cT 0, 900, .inl (f_14)))] := ⟨_, hP, hD⟩
  refine lv_aload_n hx hb dX9_feed_105 rfl (lv_at hl 2 rfl) ?_
  refine lv_dup hx hb dX9_feed_106 rfl ?_
  refine va_get (D := D) (ci := 9) (v := .int 13) (C := RX9) (T := TX9) (N := 37) hx hb htg gRX9 hown hK hP 0 rfl rfl 5 (by decide) (htg _ wi_1155) (fun _ h9 => h9) rfl dX9_feed_107 ?_
  refine lv_iconst (v := 1) hx hb dX9_feed_110 (by decide) ?_
  refine lv_iadd hx hb dX9_feed_111 ?_
  refine lv_is (y := 14) (by decide) ?_
  refine va_put (D := D) (ci := 9) (v := .int 14) (ty := .int) (C := RX9) (T := TX9) (N := 37) hx hb htg gRX9 tyX9 tyX9_ok nmX9 hown hK hP hD hS 0 rfl rfl 5 (by decide) (htg _ wi_1155) (fun _ h9 => h9) rfl (by decide +kernel) rfl rfl (Nat.le_of_ble_eq_true rfl) dX9_feed_112 (fun H locs hP hD hS => ?_)
  have hP : va_P D classes [(h0, .inr (9, (.int 0 :: .ref (g 0) :: .ref (g 1) :: .ref (g 2) :: .ref (g 3) :: .int 14 :: .int 0 :: .int 0 :: .int 0 :: .int 0 :: .int 0 :: .int 0 :: .int 0 :: .int 0 :: .int (-1) :: .ref (g 4) :: .ref (g 5) :: .int 0 :: .int 0 :: .int 0 :: .ref (g 6) :: .ref (g 7) :: .ref (g 8) :: .int 0 :: .int 0 :: .int 0 :: .int 0 :: .int 0 :: .ref (g 9) :: .int 0 :: .ref (g 10) :: .int 0 :: .int 0 :: .int 0 :: .ref (g 11) :: .ref (g 12) :: .ref (g 13) :: []))), ((g 2), .inl (cT 0, 900, .inl (f_14)))] _ := hP
  have hD : va_D A [(h0, .inr (9, (.int 0 :: .ref (g 0) :: .ref (g 1) :: .ref (g 2) :: .ref (g 3) :: .int 14 :: .int 0 :: .int 0 :: .int 0 :: .int 0 :: .int 0 :: .int 0 :: .int 0 :: .int 0 :: .int (-1) :: .ref (g 4) :: .ref (g 5) :: .int 0 :: .int 0 :: .int 0 :: .ref (g 6) :: .ref (g 7) :: .ref (g 8) :: .int 0 :: .int 0 :: .int 0 :: .int 0 :: .int 0 :: .ref (g 9) :: .int 0 :: .ref (g 10) :: .int 0 :: .int 0 :: .int 0 :: .ref (g 11) :: .ref (g 12) :: .ref (g 13) :: []))), ((g 2), .inl (cT 0, 900, .inl (f_14)))] := hD
  refine lv_iinc (v := 14) (lv' := [(6, .int 14), (7, .int v), (0, .ref h0), (1, .int x), (2, .int y), (3, .int z), (4, .int v), (5, .int w)]) hx hb dX9_feed_115 hl (k := 1) rfl (by decide) (by decide) rfl (fun ls hl => ?_)
  refine lv_goto (tgt := 24) hx hb dX9_feed_118 (by decide) ?_
  refine lv_iload hx hb dX9_feed_24 (lv_at hl 0 rfl) ?_
  refine lv_bipush (v := 20) hx hb dX9_feed_26 (by decide) ?_
  refine lv_icmp_ge (tgt := 121) hx hb dX9_feed_28 (by decide) (fun h => absurd h (by decide)) (fun _ => ?_)
  refine lv_iload hx hb dX9_feed_31 (lv_at hl 0 rfl) ?_
  refine lv_iconst (v := 4) hx hb dX9_feed_33 (by decide) ?_
  refine lv_icmp_ge (tgt := 41) hx hb dX9_feed_34 (by decide) (fun _ => ?_) (fun h => absurd (by decide) h)
  refine lv_iload hx hb dX9_feed_41 (lv_at hl 0 rfl) ?_
  refine lv_bipush (v := 8) hx hb dX9_feed_43 (by decide) ?_
  refine lv_icmp_ge (tgt := 52) hx hb dX9_feed_45 (by decide) (fun _ => ?_) (fun h => absurd (by decide) h)
  refine lv_iload hx hb dX9_feed_52 (lv_at hl 0 rfl) ?_
  refine lv_bipush (v := 12) hx hb dX9_feed_54 (by decide) ?_
  refine lv_icmp_ge (tgt := 63) hx hb dX9_feed_56 (by decide) (fun _ => ?_) (fun h => absurd (by decide) h)
  refine lv_iload hx hb dX9_feed_63 (lv_at hl 0 rfl) ?_
  refine lv_bipush (v := 16) hx hb dX9_feed_65 (by decide) ?_
  refine lv_icmp_ge (tgt := 75) hx hb dX9_feed_67 (by decide) (fun h => absurd h (by decide)) (fun _ => ?_)
  refine lv_iload hx hb dX9_feed_70 (lv_at hl 6 rfl) ?_
  refine lv_goto (tgt := 77) hx hb dX9_feed_72 (by decide) ?_
  refine lv_istore (lv' := [(7, .int v), (6, .int 14), (0, .ref h0), (1, .int x), (2, .int y), (3, .int z), (4, .int v), (5, .int w)]) hx hb dX9_feed_77 hl (by decide) rfl (fun ls hl => ?_)
  refine lv_aload_n hx hb dX9_feed_79 rfl (lv_at hl 2 rfl) ?_
  refine va_get (D := D) (ci := 9) (v := .ref (g 2)) (C := RX9) (T := TX9) (N := 37) hx hb htg gRX9 hown hK hP 0 rfl rfl 3 (by decide) (htg _ wi_1153) (fun _ h9 => h9) rfl dX9_feed_80 ?_
  refine lv_aload_n hx hb dX9_feed_83 rfl (lv_at hl 2 rfl) ?_
  refine va_get (D := D) (ci := 9) (v := .int 14) (C := RX9) (T := TX9) (N := 37) hx hb htg gRX9 hown hK hP 0 rfl rfl 5 (by decide) (htg _ wi_1155) (fun _ h9 => h9) rfl dX9_feed_84 ?_
  refine lv_iload hx hb dX9_feed_87 (lv_at hl 0 rfl) ?_
  refine lv_bipush (v := 24) hx hb dX9_feed_89 (by decide) ?_
  refine lv_bipush (v := 8) hx hb dX9_feed_91 (by decide) ?_
  refine lv_iload hx hb dX9_feed_93 (lv_at hl 1 rfl) ?_
  refine lv_iconst (v := 4) hx hb dX9_feed_95 (by decide) ?_
  refine lv_irem hx hb dX9_feed_96 (by decide) ?_
  refine lv_is (y := 2) (by decide) ?_
  refine lv_imul hx hb dX9_feed_97 ?_
  refine lv_is (y := 16) (by decide) ?_
  refine lv_isub hx hb dX9_feed_98 ?_
  refine lv_is (y := 8) (by decide) ?_
  refine lv_ishr hx hb dX9_feed_99 ?_
  refine lv_sipush (v := 255) hx hb dX9_feed_100 (by decide) ?_
  refine lv_iand hx hb dX9_feed_103 ?_
  refine va_iast hx hb hK hP hD hS 1 0 rfl rfl (by unfold vp_in; decide) dX9_feed_104 (fun H locs hP hD hS => ?_)
  obtain ⟨f_15, hP, hD⟩ : ∃ f_15 : Nat → Int32, va_P D classes [(h0, .inr (9, (.int 0 :: .ref (g 0) :: .ref (g 1) :: .ref (g 2) :: .ref (g 3) :: .int 14 :: .int 0 :: .int 0 :: .int 0 :: .int 0 :: .int 0 :: .int 0 :: .int 0 :: .int 0 :: .int (-1) :: .ref (g 4) :: .ref (g 5) :: .int 0 :: .int 0 :: .int 0 :: .ref (g 6) :: .ref (g 7) :: .ref (g 8) :: .int 0 :: .int 0 :: .int 0 :: .int 0 :: .int 0 :: .ref (g 9) :: .int 0 :: .ref (g 10) :: .int 0 :: .int 0 :: .int 0 :: .ref (g 11) :: .ref (g 12) :: .ref (g 13) :: []))), ((g 2), .inl (cT 0, 900, .inl (f_15)))] H ∧ va_D A [(h0, .inr (9, (.int 0 :: .ref (g 0) :: .ref (g 1) :: .ref (g 2) :: .ref (g 3) :: .int 14 :: .int 0 :: .int 0 :: .int 0 :: .int 0 :: .int 0 :: .int 0 :: .int 0 :: .int 0 :: .int (-1) :: .ref (g 4) :: .ref (g 5) :: .int 0 :: .int 0 :: .int 0 :: .ref (g 6) :: .ref (g 7) :: .ref (g 8) :: .int 0 :: .int 0 :: .int 0 :: .int 0 :: .int 0 :: .ref (g 9) :: .int 0 :: .ref (g 10) :: .int 0 :: .int 0 :: .int 0 :: .ref (g 11) :: .ref (g 12) :: .ref (g 13) :: []))), ((g 2), .inl (cT 0, 900, .inl (f_15)))] := ⟨_, hP, hD⟩
  refine lv_aload_n hx hb dX9_feed_105 rfl (lv_at hl 2 rfl) ?_
  refine lv_dup hx hb dX9_feed_106 rfl ?_
  refine va_get (D := D) (ci := 9) (v := .int 14) (C := RX9) (T := TX9) (N := 37) hx hb htg gRX9 hown hK hP 0 rfl rfl 5 (by decide) (htg _ wi_1155) (fun _ h9 => h9) rfl dX9_feed_107 ?_
  refine lv_iconst (v := 1) hx hb dX9_feed_110 (by decide) ?_
  refine lv_iadd hx hb dX9_feed_111 ?_
  refine lv_is (y := 15) (by decide) ?_
  refine va_put (D := D) (ci := 9) (v := .int 15) (ty := .int) (C := RX9) (T := TX9) (N := 37) hx hb htg gRX9 tyX9 tyX9_ok nmX9 hown hK hP hD hS 0 rfl rfl 5 (by decide) (htg _ wi_1155) (fun _ h9 => h9) rfl (by decide +kernel) rfl rfl (Nat.le_of_ble_eq_true rfl) dX9_feed_112 (fun H locs hP hD hS => ?_)
  have hP : va_P D classes [(h0, .inr (9, (.int 0 :: .ref (g 0) :: .ref (g 1) :: .ref (g 2) :: .ref (g 3) :: .int 15 :: .int 0 :: .int 0 :: .int 0 :: .int 0 :: .int 0 :: .int 0 :: .int 0 :: .int 0 :: .int (-1) :: .ref (g 4) :: .ref (g 5) :: .int 0 :: .int 0 :: .int 0 :: .ref (g 6) :: .ref (g 7) :: .ref (g 8) :: .int 0 :: .int 0 :: .int 0 :: .int 0 :: .int 0 :: .ref (g 9) :: .int 0 :: .ref (g 10) :: .int 0 :: .int 0 :: .int 0 :: .ref (g 11) :: .ref (g 12) :: .ref (g 13) :: []))), ((g 2), .inl (cT 0, 900, .inl (f_15)))] _ := hP
  have hD : va_D A [(h0, .inr (9, (.int 0 :: .ref (g 0) :: .ref (g 1) :: .ref (g 2) :: .ref (g 3) :: .int 15 :: .int 0 :: .int 0 :: .int 0 :: .int 0 :: .int 0 :: .int 0 :: .int 0 :: .int 0 :: .int (-1) :: .ref (g 4) :: .ref (g 5) :: .int 0 :: .int 0 :: .int 0 :: .ref (g 6) :: .ref (g 7) :: .ref (g 8) :: .int 0 :: .int 0 :: .int 0 :: .int 0 :: .int 0 :: .ref (g 9) :: .int 0 :: .ref (g 10) :: .int 0 :: .int 0 :: .int 0 :: .ref (g 11) :: .ref (g 12) :: .ref (g 13) :: []))), ((g 2), .inl (cT 0, 900, .inl (f_15)))] := hD
  refine lv_iinc (v := 15) (lv' := [(6, .int 15), (7, .int v), (0, .ref h0), (1, .int x), (2, .int y), (3, .int z), (4, .int v), (5, .int w)]) hx hb dX9_feed_115 hl (k := 1) rfl (by decide) (by decide) rfl (fun ls hl => ?_)
  refine lv_goto (tgt := 24) hx hb dX9_feed_118 (by decide) ?_
  refine lv_iload hx hb dX9_feed_24 (lv_at hl 0 rfl) ?_
  refine lv_bipush (v := 20) hx hb dX9_feed_26 (by decide) ?_
  refine lv_icmp_ge (tgt := 121) hx hb dX9_feed_28 (by decide) (fun h => absurd h (by decide)) (fun _ => ?_)
  refine lv_iload hx hb dX9_feed_31 (lv_at hl 0 rfl) ?_
  refine lv_iconst (v := 4) hx hb dX9_feed_33 (by decide) ?_
  refine lv_icmp_ge (tgt := 41) hx hb dX9_feed_34 (by decide) (fun _ => ?_) (fun h => absurd (by decide) h)
  refine lv_iload hx hb dX9_feed_41 (lv_at hl 0 rfl) ?_
  refine lv_bipush (v := 8) hx hb dX9_feed_43 (by decide) ?_
  refine lv_icmp_ge (tgt := 52) hx hb dX9_feed_45 (by decide) (fun _ => ?_) (fun h => absurd (by decide) h)
  refine lv_iload hx hb dX9_feed_52 (lv_at hl 0 rfl) ?_
  refine lv_bipush (v := 12) hx hb dX9_feed_54 (by decide) ?_
  refine lv_icmp_ge (tgt := 63) hx hb dX9_feed_56 (by decide) (fun _ => ?_) (fun h => absurd (by decide) h)
  refine lv_iload hx hb dX9_feed_63 (lv_at hl 0 rfl) ?_
  refine lv_bipush (v := 16) hx hb dX9_feed_65 (by decide) ?_
  refine lv_icmp_ge (tgt := 75) hx hb dX9_feed_67 (by decide) (fun h => absurd h (by decide)) (fun _ => ?_)
  refine lv_iload hx hb dX9_feed_70 (lv_at hl 6 rfl) ?_
  refine lv_goto (tgt := 77) hx hb dX9_feed_72 (by decide) ?_
  refine lv_istore (lv' := [(7, .int v), (6, .int 15), (0, .ref h0), (1, .int x), (2, .int y), (3, .int z), (4, .int v), (5, .int w)]) hx hb dX9_feed_77 hl (by decide) rfl (fun ls hl => ?_)
  refine lv_aload_n hx hb dX9_feed_79 rfl (lv_at hl 2 rfl) ?_
  refine va_get (D := D) (ci := 9) (v := .ref (g 2)) (C := RX9) (T := TX9) (N := 37) hx hb htg gRX9 hown hK hP 0 rfl rfl 3 (by decide) (htg _ wi_1153) (fun _ h9 => h9) rfl dX9_feed_80 ?_
  refine lv_aload_n hx hb dX9_feed_83 rfl (lv_at hl 2 rfl) ?_
  refine va_get (D := D) (ci := 9) (v := .int 15) (C := RX9) (T := TX9) (N := 37) hx hb htg gRX9 hown hK hP 0 rfl rfl 5 (by decide) (htg _ wi_1155) (fun _ h9 => h9) rfl dX9_feed_84 ?_
  refine lv_iload hx hb dX9_feed_87 (lv_at hl 0 rfl) ?_
  refine lv_bipush (v := 24) hx hb dX9_feed_89 (by decide) ?_
  refine lv_bipush (v := 8) hx hb dX9_feed_91 (by decide) ?_
  refine lv_iload hx hb dX9_feed_93 (lv_at hl 1 rfl) ?_
  refine lv_iconst (v := 4) hx hb dX9_feed_95 (by decide) ?_
  refine lv_irem hx hb dX9_feed_96 (by decide) ?_
  refine lv_is (y := 3) (by decide) ?_
  refine lv_imul hx hb dX9_feed_97 ?_
  refine lv_is (y := 24) (by decide) ?_
  refine lv_isub hx hb dX9_feed_98 ?_
  refine lv_is (y := 0) (by decide) ?_
  refine lv_ishr hx hb dX9_feed_99 ?_
  refine lv_sipush (v := 255) hx hb dX9_feed_100 (by decide) ?_
  refine lv_iand hx hb dX9_feed_103 ?_
  refine va_iast hx hb hK hP hD hS 1 0 rfl rfl (by unfold vp_in; decide) dX9_feed_104 (fun H locs hP hD hS => ?_)
  obtain ⟨f_16, hP, hD⟩ : ∃ f_16 : Nat → Int32, va_P D classes [(h0, .inr (9, (.int 0 :: .ref (g 0) :: .ref (g 1) :: .ref (g 2) :: .ref (g 3) :: .int 15 :: .int 0 :: .int 0 :: .int 0 :: .int 0 :: .int 0 :: .int 0 :: .int 0 :: .int 0 :: .int (-1) :: .ref (g 4) :: .ref (g 5) :: .int 0 :: .int 0 :: .int 0 :: .ref (g 6) :: .ref (g 7) :: .ref (g 8) :: .int 0 :: .int 0 :: .int 0 :: .int 0 :: .int 0 :: .ref (g 9) :: .int 0 :: .ref (g 10) :: .int 0 :: .int 0 :: .int 0 :: .ref (g 11) :: .ref (g 12) :: .ref (g 13) :: []))), ((g 2), .inl (cT 0, 900, .inl (f_16)))] H ∧ va_D A [(h0, .inr (9, (.int 0 :: .ref (g 0) :: .ref (g 1) :: .ref (g 2) :: .ref (g 3) :: .int 15 :: .int 0 :: .int 0 :: .int 0 :: .int 0 :: .int 0 :: .int 0 :: .int 0 :: .int 0 :: .int (-1) :: .ref (g 4) :: .ref (g 5) :: .int 0 :: .int 0 :: .int 0 :: .ref (g 6) :: .ref (g 7) :: .ref (g 8) :: .int 0 :: .int 0 :: .int 0 :: .int 0 :: .int 0 :: .ref (g 9) :: .int 0 :: .ref (g 10) :: .int 0 :: .int 0 :: .int 0 :: .ref (g 11) :: .ref (g 12) :: .ref (g 13) :: []))), ((g 2), .inl (cT 0, 900, .inl (f_16)))] := ⟨_, hP, hD⟩
  refine lv_aload_n hx hb dX9_feed_105 rfl (lv_at hl 2 rfl) ?_
  refine lv_dup hx hb dX9_feed_106 rfl ?_
  refine va_get (D := D) (ci := 9) (v := .int 15) (C := RX9) (T := TX9) (N := 37) hx hb htg gRX9 hown hK hP 0 rfl rfl 5 (by decide) (htg _ wi_1155) (fun _ h9 => h9) rfl dX9_feed_107 ?_
  refine lv_iconst (v := 1) hx hb dX9_feed_110 (by decide) ?_
  refine lv_iadd hx hb dX9_feed_111 ?_
  refine lv_is (y := 16) (by decide) ?_
  refine va_put (D := D) (ci := 9) (v := .int 16) (ty := .int) (C := RX9) (T := TX9) (N := 37) hx hb htg gRX9 tyX9 tyX9_ok nmX9 hown hK hP hD hS 0 rfl rfl 5 (by decide) (htg _ wi_1155) (fun _ h9 => h9) rfl (by decide +kernel) rfl rfl (Nat.le_of_ble_eq_true rfl) dX9_feed_112 (fun H locs hP hD hS => ?_)
  have hP : va_P D classes [(h0, .inr (9, (.int 0 :: .ref (g 0) :: .ref (g 1) :: .ref (g 2) :: .ref (g 3) :: .int 16 :: .int 0 :: .int 0 :: .int 0 :: .int 0 :: .int 0 :: .int 0 :: .int 0 :: .int 0 :: .int (-1) :: .ref (g 4) :: .ref (g 5) :: .int 0 :: .int 0 :: .int 0 :: .ref (g 6) :: .ref (g 7) :: .ref (g 8) :: .int 0 :: .int 0 :: .int 0 :: .int 0 :: .int 0 :: .ref (g 9) :: .int 0 :: .ref (g 10) :: .int 0 :: .int 0 :: .int 0 :: .ref (g 11) :: .ref (g 12) :: .ref (g 13) :: []))), ((g 2), .inl (cT 0, 900, .inl (f_16)))] _ := hP
  have hD : va_D A [(h0, .inr (9, (.int 0 :: .ref (g 0) :: .ref (g 1) :: .ref (g 2) :: .ref (g 3) :: .int 16 :: .int 0 :: .int 0 :: .int 0 :: .int 0 :: .int 0 :: .int 0 :: .int 0 :: .int 0 :: .int (-1) :: .ref (g 4) :: .ref (g 5) :: .int 0 :: .int 0 :: .int 0 :: .ref (g 6) :: .ref (g 7) :: .ref (g 8) :: .int 0 :: .int 0 :: .int 0 :: .int 0 :: .int 0 :: .ref (g 9) :: .int 0 :: .ref (g 10) :: .int 0 :: .int 0 :: .int 0 :: .ref (g 11) :: .ref (g 12) :: .ref (g 13) :: []))), ((g 2), .inl (cT 0, 900, .inl (f_16)))] := hD
  refine lv_iinc (v := 16) (lv' := [(6, .int 16), (7, .int v), (0, .ref h0), (1, .int x), (2, .int y), (3, .int z), (4, .int v), (5, .int w)]) hx hb dX9_feed_115 hl (k := 1) rfl (by decide) (by decide) rfl (fun ls hl => ?_)
  refine lv_goto (tgt := 24) hx hb dX9_feed_118 (by decide) ?_
  refine lv_iload hx hb dX9_feed_24 (lv_at hl 0 rfl) ?_
  refine lv_bipush (v := 20) hx hb dX9_feed_26 (by decide) ?_
  refine lv_icmp_ge (tgt := 121) hx hb dX9_feed_28 (by decide) (fun h => absurd h (by decide)) (fun _ => ?_)
  refine lv_iload hx hb dX9_feed_31 (lv_at hl 0 rfl) ?_
  refine lv_iconst (v := 4) hx hb dX9_feed_33 (by decide) ?_
  refine lv_icmp_ge (tgt := 41) hx hb dX9_feed_34 (by decide) (fun _ => ?_) (fun h => absurd (by decide) h)
  refine lv_iload hx hb dX9_feed_41 (lv_at hl 0 rfl) ?_
  refine lv_bipush (v := 8) hx hb dX9_feed_43 (by decide) ?_
  refine lv_icmp_ge (tgt := 52) hx hb dX9_feed_45 (by decide) (fun _ => ?_) (fun h => absurd (by decide) h)
  refine lv_iload hx hb dX9_feed_52 (lv_at hl 0 rfl) ?_
  refine lv_bipush (v := 12) hx hb dX9_feed_54 (by decide) ?_
  refine lv_icmp_ge (tgt := 63) hx hb dX9_feed_56 (by decide) (fun _ => ?_) (fun h => absurd (by decide) h)
  refine lv_iload hx hb dX9_feed_63 (lv_at hl 0 rfl) ?_
  refine lv_bipush (v := 16) hx hb dX9_feed_65 (by decide) ?_
  refine lv_icmp_ge (tgt := 75) hx hb dX9_feed_67 (by decide) (fun _ => ?_) (fun h => absurd (by decide) h)
  refine lv_iload hx hb dX9_feed_75 (lv_at hl 7 rfl) ?_
  refine lv_istore (lv' := [(7, .int w), (6, .int 16), (0, .ref h0), (1, .int x), (2, .int y), (3, .int z), (4, .int v), (5, .int w)]) hx hb dX9_feed_77 hl (by decide) rfl (fun ls hl => ?_)
  refine lv_aload_n hx hb dX9_feed_79 rfl (lv_at hl 2 rfl) ?_
  refine va_get (D := D) (ci := 9) (v := .ref (g 2)) (C := RX9) (T := TX9) (N := 37) hx hb htg gRX9 hown hK hP 0 rfl rfl 3 (by decide) (htg _ wi_1153) (fun _ h9 => h9) rfl dX9_feed_80 ?_
  refine lv_aload_n hx hb dX9_feed_83 rfl (lv_at hl 2 rfl) ?_
  refine va_get (D := D) (ci := 9) (v := .int 16) (C := RX9) (T := TX9) (N := 37) hx hb htg gRX9 hown hK hP 0 rfl rfl 5 (by decide) (htg _ wi_1155) (fun _ h9 => h9) rfl dX9_feed_84 ?_
  refine lv_iload hx hb dX9_feed_87 (lv_at hl 0 rfl) ?_
  refine lv_bipush (v := 24) hx hb dX9_feed_89 (by decide) ?_
  refine lv_bipush (v := 8) hx hb dX9_feed_91 (by decide) ?_
  refine lv_iload hx hb dX9_feed_93 (lv_at hl 1 rfl) ?_
  refine lv_iconst (v := 4) hx hb dX9_feed_95 (by decide) ?_
  refine lv_irem hx hb dX9_feed_96 (by decide) ?_
  refine lv_is (y := 0) (by decide) ?_
  refine lv_imul hx hb dX9_feed_97 ?_
  refine lv_is (y := 0) (by decide) ?_
  refine lv_isub hx hb dX9_feed_98 ?_
  refine lv_is (y := 24) (by decide) ?_
  refine lv_ishr hx hb dX9_feed_99 ?_
  refine lv_sipush (v := 255) hx hb dX9_feed_100 (by decide) ?_
  refine lv_iand hx hb dX9_feed_103 ?_
  refine va_iast hx hb hK hP hD hS 1 0 rfl rfl (by unfold vp_in; decide) dX9_feed_104 (fun H locs hP hD hS => ?_)
  obtain ⟨f_17, hP, hD⟩ : ∃ f_17 : Nat → Int32, va_P D classes [(h0, .inr (9, (.int 0 :: .ref (g 0) :: .ref (g 1) :: .ref (g 2) :: .ref (g 3) :: .int 16 :: .int 0 :: .int 0 :: .int 0 :: .int 0 :: .int 0 :: .int 0 :: .int 0 :: .int 0 :: .int (-1) :: .ref (g 4) :: .ref (g 5) :: .int 0 :: .int 0 :: .int 0 :: .ref (g 6) :: .ref (g 7) :: .ref (g 8) :: .int 0 :: .int 0 :: .int 0 :: .int 0 :: .int 0 :: .ref (g 9) :: .int 0 :: .ref (g 10) :: .int 0 :: .int 0 :: .int 0 :: .ref (g 11) :: .ref (g 12) :: .ref (g 13) :: []))), ((g 2), .inl (cT 0, 900, .inl (f_17)))] H ∧ va_D A [(h0, .inr (9, (.int 0 :: .ref (g 0) :: .ref (g 1) :: .ref (g 2) :: .ref (g 3) :: .int 16 :: .int 0 :: .int 0 :: .int 0 :: .int 0 :: .int 0 :: .int 0 :: .int 0 :: .int 0 :: .int (-1) :: .ref (g 4) :: .ref (g 5) :: .int 0 :: .int 0 :: .int 0 :: .ref (g 6) :: .ref (g 7) :: .ref (g 8) :: .int 0 :: .int 0 :: .int 0 :: .int 0 :: .int 0 :: .ref (g 9) :: .int 0 :: .ref (g 10) :: .int 0 :: .int 0 :: .int 0 :: .ref (g 11) :: .ref (g 12) :: .ref (g 13) :: []))), ((g 2), .inl (cT 0, 900, .inl (f_17)))] := ⟨_, hP, hD⟩
  refine lv_aload_n hx hb dX9_feed_105 rfl (lv_at hl 2 rfl) ?_
  refine lv_dup hx hb dX9_feed_106 rfl ?_
  refine va_get (D := D) (ci := 9) (v := .int 16) (C := RX9) (T := TX9) (N := 37) hx hb htg gRX9 hown hK hP 0 rfl rfl 5 (by decide) (htg _ wi_1155) (fun _ h9 => h9) rfl dX9_feed_107 ?_
  refine lv_iconst (v := 1) hx hb dX9_feed_110 (by decide) ?_
  refine lv_iadd hx hb dX9_feed_111 ?_
  refine lv_is (y := 17) (by decide) ?_
  refine va_put (D := D) (ci := 9) (v := .int 17) (ty := .int) (C := RX9) (T := TX9) (N := 37) hx hb htg gRX9 tyX9 tyX9_ok nmX9 hown hK hP hD hS 0 rfl rfl 5 (by decide) (htg _ wi_1155) (fun _ h9 => h9) rfl (by decide +kernel) rfl rfl (Nat.le_of_ble_eq_true rfl) dX9_feed_112 (fun H locs hP hD hS => ?_)
  have hP : va_P D classes [(h0, .inr (9, (.int 0 :: .ref (g 0) :: .ref (g 1) :: .ref (g 2) :: .ref (g 3) :: .int 17 :: .int 0 :: .int 0 :: .int 0 :: .int 0 :: .int 0 :: .int 0 :: .int 0 :: .int 0 :: .int (-1) :: .ref (g 4) :: .ref (g 5) :: .int 0 :: .int 0 :: .int 0 :: .ref (g 6) :: .ref (g 7) :: .ref (g 8) :: .int 0 :: .int 0 :: .int 0 :: .int 0 :: .int 0 :: .ref (g 9) :: .int 0 :: .ref (g 10) :: .int 0 :: .int 0 :: .int 0 :: .ref (g 11) :: .ref (g 12) :: .ref (g 13) :: []))), ((g 2), .inl (cT 0, 900, .inl (f_17)))] _ := hP
  have hD : va_D A [(h0, .inr (9, (.int 0 :: .ref (g 0) :: .ref (g 1) :: .ref (g 2) :: .ref (g 3) :: .int 17 :: .int 0 :: .int 0 :: .int 0 :: .int 0 :: .int 0 :: .int 0 :: .int 0 :: .int 0 :: .int (-1) :: .ref (g 4) :: .ref (g 5) :: .int 0 :: .int 0 :: .int 0 :: .ref (g 6) :: .ref (g 7) :: .ref (g 8) :: .int 0 :: .int 0 :: .int 0 :: .int 0 :: .int 0 :: .ref (g 9) :: .int 0 :: .ref (g 10) :: .int 0 :: .int 0 :: .int 0 :: .ref (g 11) :: .ref (g 12) :: .ref (g 13) :: []))), ((g 2), .inl (cT 0, 900, .inl (f_17)))] := hD
  refine lv_iinc (v := 17) (lv' := [(6, .int 17), (7, .int w), (0, .ref h0), (1, .int x), (2, .int y), (3, .int z), (4, .int v), (5, .int w)]) hx hb dX9_feed_115 hl (k := 1) rfl (by decide) (by decide) rfl (fun ls hl => ?_)
  refine lv_goto (tgt := 24) hx hb dX9_feed_118 (by decide) ?_
  refine lv_iload hx hb dX9_feed_24 (lv_at hl 0 rfl) ?_
  refine lv_bipush (v := 20) hx hb dX9_feed_26 (by decide) ?_
  refine lv_icmp_ge (tgt := 121) hx hb dX9_feed_28 (by decide) (fun h => absurd h (by decide)) (fun _ => ?_)
  refine lv_iload hx hb dX9_feed_31 (lv_at hl 0 rfl) ?_
  refine lv_iconst (v := 4) hx hb dX9_feed_33 (by decide) ?_
  refine lv_icmp_ge (tgt := 41) hx hb dX9_feed_34 (by decide) (fun _ => ?_) (fun h => absurd (by decide) h)
  refine lv_iload hx hb dX9_feed_41 (lv_at hl 0 rfl) ?_
  refine lv_bipush (v := 8) hx hb dX9_feed_43 (by decide) ?_
  refine lv_icmp_ge (tgt := 52) hx hb dX9_feed_45 (by decide) (fun _ => ?_) (fun h => absurd (by decide) h)
  refine lv_iload hx hb dX9_feed_52 (lv_at hl 0 rfl) ?_
  refine lv_bipush (v := 12) hx hb dX9_feed_54 (by decide) ?_
  refine lv_icmp_ge (tgt := 63) hx hb dX9_feed_56 (by decide) (fun _ => ?_) (fun h => absurd (by decide) h)
  refine lv_iload hx hb dX9_feed_63 (lv_at hl 0 rfl) ?_
  refine lv_bipush (v := 16) hx hb dX9_feed_65 (by decide) ?_
  refine lv_icmp_ge (tgt := 75) hx hb dX9_feed_67 (by decide) (fun _ => ?_) (fun h => absurd (by decide) h)
  refine lv_iload hx hb dX9_feed_75 (lv_at hl 7 rfl) ?_
  refine lv_istore (lv' := [(7, .int w), (6, .int 17), (0, .ref h0), (1, .int x), (2, .int y), (3, .int z), (4, .int v), (5, .int w)]) hx hb dX9_feed_77 hl (by decide) rfl (fun ls hl => ?_)
  refine lv_aload_n hx hb dX9_feed_79 rfl (lv_at hl 2 rfl) ?_
  refine va_get (D := D) (ci := 9) (v := .ref (g 2)) (C := RX9) (T := TX9) (N := 37) hx hb htg gRX9 hown hK hP 0 rfl rfl 3 (by decide) (htg _ wi_1153) (fun _ h9 => h9) rfl dX9_feed_80 ?_
  refine lv_aload_n hx hb dX9_feed_83 rfl (lv_at hl 2 rfl) ?_
  refine va_get (D := D) (ci := 9) (v := .int 17) (C := RX9) (T := TX9) (N := 37) hx hb htg gRX9 hown hK hP 0 rfl rfl 5 (by decide) (htg _ wi_1155) (fun _ h9 => h9) rfl dX9_feed_84 ?_
  refine lv_iload hx hb dX9_feed_87 (lv_at hl 0 rfl) ?_
  refine lv_bipush (v := 24) hx hb dX9_feed_89 (by decide) ?_
  refine lv_bipush (v := 8) hx hb dX9_feed_91 (by decide) ?_
  refine lv_iload hx hb dX9_feed_93 (lv_at hl 1 rfl) ?_
  refine lv_iconst (v := 4) hx hb dX9_feed_95 (by decide) ?_
  refine lv_irem hx hb dX9_feed_96 (by decide) ?_
  refine lv_is (y := 1) (by decide) ?_
  refine lv_imul hx hb dX9_feed_97 ?_
  refine lv_is (y := 8) (by decide) ?_
  refine lv_isub hx hb dX9_feed_98 ?_
  refine lv_is (y := 16) (by decide) ?_
  refine lv_ishr hx hb dX9_feed_99 ?_
  refine lv_sipush (v := 255) hx hb dX9_feed_100 (by decide) ?_
  refine lv_iand hx hb dX9_feed_103 ?_
  refine va_iast hx hb hK hP hD hS 1 0 rfl rfl (by unfold vp_in; decide) dX9_feed_104 (fun H locs hP hD hS => ?_)
  obtain ⟨f_18, hP, hD⟩ : ∃ f_18 : Nat → Int32, va_P D classes [(h0, .inr (9, (.int 0 :: .ref (g 0) :: .ref (g 1) :: .ref (g 2) :: .ref (g 3) :: .int 17 :: .int 0 :: .int 0 :: .int 0 :: .int 0 :: .int 0 :: .int 0 :: .int 0 :: .int 0 :: .int (-1) :: .ref (g 4) :: .ref (g 5) :: .int 0 :: .int 0 :: .int 0 :: .ref (g 6) :: .ref (g 7) :: .ref (g 8) :: .int 0 :: .int 0 :: .int 0 :: .int 0 :: .int 0 :: .ref (g 9) :: .int 0 :: .ref (g 10) :: .int 0 :: .int 0 :: .int 0 :: .ref (g 11) :: .ref (g 12) :: .ref (g 13) :: []))), ((g 2), .inl (cT 0, 900, .inl (f_18)))] H ∧ va_D A [(h0, .inr (9, (.int 0 :: .ref (g 0) :: .ref (g 1) :: .ref (g 2) :: .ref (g 3) :: .int 17 :: .int 0 :: .int 0 :: .int 0 :: .int 0 :: .int 0 :: .int 0 :: .int 0 :: .int 0 :: .int (-1) :: .ref (g 4) :: .ref (g 5) :: .int 0 :: .int 0 :: .int 0 :: .ref (g 6) :: .ref (g 7) :: .ref (g 8) :: .int 0 :: .int 0 :: .int 0 :: .int 0 :: .int 0 :: .ref (g 9) :: .int 0 :: .ref (g 10) :: .int 0 :: .int 0 :: .int 0 :: .ref (g 11) :: .ref (g 12) :: .ref (g 13) :: []))), ((g 2), .inl (cT 0, 900, .inl (f_18)))] := ⟨_, hP, hD⟩
  refine lv_aload_n hx hb dX9_feed_105 rfl (lv_at hl 2 rfl) ?_
  refine lv_dup hx hb dX9_feed_106 rfl ?_
  refine va_get (D := D) (ci := 9) (v := .int 17) (C := RX9) (T := TX9) (N := 37) hx hb htg gRX9 hown hK hP 0 rfl rfl 5 (by decide) (htg _ wi_1155) (fun _ h9 => h9) rfl dX9_feed_107 ?_
  refine lv_iconst (v := 1) hx hb dX9_feed_110 (by decide) ?_
  refine lv_iadd hx hb dX9_feed_111 ?_
  refine lv_is (y := 18) (by decide) ?_
  refine va_put (D := D) (ci := 9) (v := .int 18) (ty := .int) (C := RX9) (T := TX9) (N := 37) hx hb htg gRX9 tyX9 tyX9_ok nmX9 hown hK hP hD hS 0 rfl rfl 5 (by decide) (htg _ wi_1155) (fun _ h9 => h9) rfl (by decide +kernel) rfl rfl (Nat.le_of_ble_eq_true rfl) dX9_feed_112 (fun H locs hP hD hS => ?_)
  have hP : va_P D classes [(h0, .inr (9, (.int 0 :: .ref (g 0) :: .ref (g 1) :: .ref (g 2) :: .ref (g 3) :: .int 18 :: .int 0 :: .int 0 :: .int 0 :: .int 0 :: .int 0 :: .int 0 :: .int 0 :: .int 0 :: .int (-1) :: .ref (g 4) :: .ref (g 5) :: .int 0 :: .int 0 :: .int 0 :: .ref (g 6) :: .ref (g 7) :: .ref (g 8) :: .int 0 :: .int 0 :: .int 0 :: .int 0 :: .int 0 :: .ref (g 9) :: .int 0 :: .ref (g 10) :: .int 0 :: .int 0 :: .int 0 :: .ref (g 11) :: .ref (g 12) :: .ref (g 13) :: []))), ((g 2), .inl (cT 0, 900, .inl (f_18)))] _ := hP
  have hD : va_D A [(h0, .inr (9, (.int 0 :: .ref (g 0) :: .ref (g 1) :: .ref (g 2) :: .ref (g 3) :: .int 18 :: .int 0 :: .int 0 :: .int 0 :: .int 0 :: .int 0 :: .int 0 :: .int 0 :: .int 0 :: .int (-1) :: .ref (g 4) :: .ref (g 5) :: .int 0 :: .int 0 :: .int 0 :: .ref (g 6) :: .ref (g 7) :: .ref (g 8) :: .int 0 :: .int 0 :: .int 0 :: .int 0 :: .int 0 :: .ref (g 9) :: .int 0 :: .ref (g 10) :: .int 0 :: .int 0 :: .int 0 :: .ref (g 11) :: .ref (g 12) :: .ref (g 13) :: []))), ((g 2), .inl (cT 0, 900, .inl (f_18)))] := hD
  refine lv_iinc (v := 18) (lv' := [(6, .int 18), (7, .int w), (0, .ref h0), (1, .int x), (2, .int y), (3, .int z), (4, .int v), (5, .int w)]) hx hb dX9_feed_115 hl (k := 1) rfl (by decide) (by decide) rfl (fun ls hl => ?_)
  refine lv_goto (tgt := 24) hx hb dX9_feed_118 (by decide) ?_
  refine lv_iload hx hb dX9_feed_24 (lv_at hl 0 rfl) ?_
  refine lv_bipush (v := 20) hx hb dX9_feed_26 (by decide) ?_
  refine lv_icmp_ge (tgt := 121) hx hb dX9_feed_28 (by decide) (fun h => absurd h (by decide)) (fun _ => ?_)
  refine lv_iload hx hb dX9_feed_31 (lv_at hl 0 rfl) ?_
  refine lv_iconst (v := 4) hx hb dX9_feed_33 (by decide) ?_
  refine lv_icmp_ge (tgt := 41) hx hb dX9_feed_34 (by decide) (fun _ => ?_) (fun h => absurd (by decide) h)
  refine lv_iload hx hb dX9_feed_41 (lv_at hl 0 rfl) ?_
  refine lv_bipush (v := 8) hx hb dX9_feed_43 (by decide) ?_
  refine lv_icmp_ge (tgt := 52) hx hb dX9_feed_45 (by decide) (fun _ => ?_) (fun h => absurd (by decide) h)
  refine lv_iload hx hb dX9_feed_52 (lv_at hl 0 rfl) ?_
  refine lv_bipush (v := 12) hx hb dX9_feed_54 (by decide) ?_
  refine lv_icmp_ge (tgt := 63) hx hb dX9_feed_56 (by decide) (fun _ => ?_) (fun h => absurd (by decide) h)
  refine lv_iload hx hb dX9_feed_63 (lv_at hl 0 rfl) ?_
  refine lv_bipush (v := 16) hx hb dX9_feed_65 (by decide) ?_
  refine lv_icmp_ge (tgt := 75) hx hb dX9_feed_67 (by decide) (fun _ => ?_) (fun h => absurd (by decide) h)
  refine lv_iload hx hb dX9_feed_75 (lv_at hl 7 rfl) ?_
  refine lv_istore (lv' := [(7, .int w), (6, .int 18), (0, .ref h0), (1, .int x), (2, .int y), (3, .int z), (4, .int v), (5, .int w)]) hx hb dX9_feed_77 hl (by decide) rfl (fun ls hl => ?_)
  refine lv_aload_n hx hb dX9_feed_79 rfl (lv_at hl 2 rfl) ?_
  refine va_get (D := D) (ci := 9) (v := .ref (g 2)) (C := RX9) (T := TX9) (N := 37) hx hb htg gRX9 hown hK hP 0 rfl rfl 3 (by decide) (htg _ wi_1153) (fun _ h9 => h9) rfl dX9_feed_80 ?_
  refine lv_aload_n hx hb dX9_feed_83 rfl (lv_at hl 2 rfl) ?_
  refine va_get (D := D) (ci := 9) (v := .int 18) (C := RX9) (T := TX9) (N := 37) hx hb htg gRX9 hown hK hP 0 rfl rfl 5 (by decide) (htg _ wi_1155) (fun _ h9 => h9) rfl dX9_feed_84 ?_
  refine lv_iload hx hb dX9_feed_87 (lv_at hl 0 rfl) ?_
  refine lv_bipush (v := 24) hx hb dX9_feed_89 (by decide) ?_
  refine lv_bipush (v := 8) hx hb dX9_feed_91 (by decide) ?_
  refine lv_iload hx hb dX9_feed_93 (lv_at hl 1 rfl) ?_
  refine lv_iconst (v := 4) hx hb dX9_feed_95 (by decide) ?_
  refine lv_irem hx hb dX9_feed_96 (by decide) ?_
  refine lv_is (y := 2) (by decide) ?_
  refine lv_imul hx hb dX9_feed_97 ?_
  refine lv_is (y := 16) (by decide) ?_
  refine lv_isub hx hb dX9_feed_98 ?_
  refine lv_is (y := 8) (by decide) ?_
  refine lv_ishr hx hb dX9_feed_99 ?_
  refine lv_sipush (v := 255) hx hb dX9_feed_100 (by decide) ?_
  refine lv_iand hx hb dX9_feed_103 ?_
  refine va_iast hx hb hK hP hD hS 1 0 rfl rfl (by unfold vp_in; decide) dX9_feed_104 (fun H locs hP hD hS => ?_)
  obtain ⟨f_19, hP, hD⟩ : ∃ f_19 : Nat → Int32, va_P D classes [(h0, .inr (9, (.int 0 :: .ref (g 0) :: .ref (g 1) :: .ref (g 2) :: .ref (g 3) :: .int 18 :: .int 0 :: .int 0 :: .int 0 :: .int 0 :: .int 0 :: .int 0 :: .int 0 :: .int 0 :: .int (-1) :: .ref (g 4) :: .ref (g 5) :: .int 0 :: .int 0 :: .int 0 :: .ref (g 6) :: .ref (g 7) :: .ref (g 8) :: .int 0 :: .int 0 :: .int 0 :: .int 0 :: .int 0 :: .ref (g 9) :: .int 0 :: .ref (g 10) :: .int 0 :: .int 0 :: .int 0 :: .ref (g 11) :: .ref (g 12) :: .ref (g 13) :: []))), ((g 2), .inl (cT 0, 900, .inl (f_19)))] H ∧ va_D A [(h0, .inr (9, (.int 0 :: .ref (g 0) :: .ref (g 1) :: .ref (g 2) :: .ref (g 3) :: .int 18 :: .int 0 :: .int 0 :: .int 0 :: .int 0 :: .int 0 :: .int 0 :: .int 0 :: .int 0 :: .int (-1) :: .ref (g 4) :: .ref (g 5) :: .int 0 :: .int 0 :: .int 0 :: .ref (g 6) :: .ref (g 7) :: .ref (g 8) :: .int 0 :: .int 0 :: .int 0 :: .int 0 :: .int 0 :: .ref (g 9) :: .int 0 :: .ref (g 10) :: .int 0 :: .int 0 :: .int 0 :: .ref (g 11) :: .ref (g 12) :: .ref (g 13) :: []))), ((g 2), .inl (cT 0, 900, .inl (f_19)))] := ⟨_, hP, hD⟩
  refine lv_aload_n hx hb dX9_feed_105 rfl (lv_at hl 2 rfl) ?_
  refine lv_dup hx hb dX9_feed_106 rfl ?_
  refine va_get (D := D) (ci := 9) (v := .int 18) (C := RX9) (T := TX9) (N := 37) hx hb htg gRX9 hown hK hP 0 rfl rfl 5 (by decide) (htg _ wi_1155) (fun _ h9 => h9) rfl dX9_feed_107 ?_
  refine lv_iconst (v := 1) hx hb dX9_feed_110 (by decide) ?_
  refine lv_iadd hx hb dX9_feed_111 ?_
  refine lv_is (y := 19) (by decide) ?_
  refine va_put (D := D) (ci := 9) (v := .int 19) (ty := .int) (C := RX9) (T := TX9) (N := 37) hx hb htg gRX9 tyX9 tyX9_ok nmX9 hown hK hP hD hS 0 rfl rfl 5 (by decide) (htg _ wi_1155) (fun _ h9 => h9) rfl (by decide +kernel) rfl rfl (Nat.le_of_ble_eq_true rfl) dX9_feed_112 (fun H locs hP hD hS => ?_)
  have hP : va_P D classes [(h0, .inr (9, (.int 0 :: .ref (g 0) :: .ref (g 1) :: .ref (g 2) :: .ref (g 3) :: .int 19 :: .int 0 :: .int 0 :: .int 0 :: .int 0 :: .int 0 :: .int 0 :: .int 0 :: .int 0 :: .int (-1) :: .ref (g 4) :: .ref (g 5) :: .int 0 :: .int 0 :: .int 0 :: .ref (g 6) :: .ref (g 7) :: .ref (g 8) :: .int 0 :: .int 0 :: .int 0 :: .int 0 :: .int 0 :: .ref (g 9) :: .int 0 :: .ref (g 10) :: .int 0 :: .int 0 :: .int 0 :: .ref (g 11) :: .ref (g 12) :: .ref (g 13) :: []))), ((g 2), .inl (cT 0, 900, .inl (f_19)))] _ := hP
  have hD : va_D A [(h0, .inr (9, (.int 0 :: .ref (g 0) :: .ref (g 1) :: .ref (g 2) :: .ref (g 3) :: .int 19 :: .int 0 :: .int 0 :: .int 0 :: .int 0 :: .int 0 :: .int 0 :: .int 0 :: .int 0 :: .int (-1) :: .ref (g 4) :: .ref (g 5) :: .int 0 :: .int 0 :: .int 0 :: .ref (g 6) :: .ref (g 7) :: .ref (g 8) :: .int 0 :: .int 0 :: .int 0 :: .int 0 :: .int 0 :: .ref (g 9) :: .int 0 :: .ref (g 10) :: .int 0 :: .int 0 :: .int 0 :: .ref (g 11) :: .ref (g 12) :: .ref (g 13) :: []))), ((g 2), .inl (cT 0, 900, .inl (f_19)))] := hD
  refine lv_iinc (v := 19) (lv' := [(6, .int 19), (7, .int w), (0, .ref h0), (1, .int x), (2, .int y), (3, .int z), (4, .int v), (5, .int w)]) hx hb dX9_feed_115 hl (k := 1) rfl (by decide) (by decide) rfl (fun ls hl => ?_)
  refine lv_goto (tgt := 24) hx hb dX9_feed_118 (by decide) ?_
  refine lv_iload hx hb dX9_feed_24 (lv_at hl 0 rfl) ?_
  refine lv_bipush (v := 20) hx hb dX9_feed_26 (by decide) ?_
  refine lv_icmp_ge (tgt := 121) hx hb dX9_feed_28 (by decide) (fun h => absurd h (by decide)) (fun _ => ?_)
  refine lv_iload hx hb dX9_feed_31 (lv_at hl 0 rfl) ?_
  refine lv_iconst (v := 4) hx hb dX9_feed_33 (by decide) ?_
  refine lv_icmp_ge (tgt := 41) hx hb dX9_feed_34 (by decide) (fun _ => ?_) (fun h => absurd (by decide) h)
  refine lv_iload hx hb dX9_feed_41 (lv_at hl 0 rfl) ?_
  refine lv_bipush (v := 8) hx hb dX9_feed_43 (by decide) ?_
  refine lv_icmp_ge (tgt := 52) hx hb dX9_feed_45 (by decide) (fun _ => ?_) (fun h => absurd (by decide) h)
  refine lv_iload hx hb dX9_feed_52 (lv_at hl 0 rfl) ?_
  refine lv_bipush (v := 12) hx hb dX9_feed_54 (by decide) ?_
  refine lv_icmp_ge (tgt := 63) hx hb dX9_feed_56 (by decide) (fun _ => ?_) (fun h => absurd (by decide) h)
  refine lv_iload hx hb dX9_feed_63 (lv_at hl 0 rfl) ?_
  refine lv_bipush (v := 16) hx hb dX9_feed_65 (by decide) ?_
  refine lv_icmp_ge (tgt := 75) hx hb dX9_feed_67 (by decide) (fun _ => ?_) (fun h => absurd (by decide) h)
  refine lv_iload hx hb dX9_feed_75 (lv_at hl 7 rfl) ?_
  refine lv_istore (lv' := [(7, .int w), (6, .int 19), (0, .ref h0), (1, .int x), (2, .int y), (3, .int z), (4, .int v), (5, .int w)]) hx hb dX9_feed_77 hl (by decide) rfl (fun ls hl => ?_)
  refine lv_aload_n hx hb dX9_feed_79 rfl (lv_at hl 2 rfl) ?_
  refine va_get (D := D) (ci := 9) (v := .ref (g 2)) (C := RX9) (T := TX9) (N := 37) hx hb htg gRX9 hown hK hP 0 rfl rfl 3 (by decide) (htg _ wi_1153) (fun _ h9 => h9) rfl dX9_feed_80 ?_
  refine lv_aload_n hx hb dX9_feed_83 rfl (lv_at hl 2 rfl) ?_
  refine va_get (D := D) (ci := 9) (v := .int 19) (C := RX9) (T := TX9) (N := 37) hx hb htg gRX9 hown hK hP 0 rfl rfl 5 (by decide) (htg _ wi_1155) (fun _ h9 => h9) rfl dX9_feed_84 ?_
  refine lv_iload hx hb dX9_feed_87 (lv_at hl 0 rfl) ?_
  refine lv_bipush (v := 24) hx hb dX9_feed_89 (by decide) ?_
  refine lv_bipush (v := 8) hx hb dX9_feed_91 (by decide) ?_
  refine lv_iload hx hb dX9_feed_93 (lv_at hl 1 rfl) ?_
  refine lv_iconst (v := 4) hx hb dX9_feed_95 (by decide) ?_
  refine lv_irem hx hb dX9_feed_96 (by decide) ?_
  refine lv_is (y := 3) (by decide) ?_
  refine lv_imul hx hb dX9_feed_97 ?_
  refine lv_is (y := 24) (by decide) ?_
  refine lv_isub hx hb dX9_feed_98 ?_
  refine lv_is (y := 0) (by decide) ?_
  refine lv_ishr hx hb dX9_feed_99 ?_
  refine lv_sipush (v := 255) hx hb dX9_feed_100 (by decide) ?_
  refine lv_iand hx hb dX9_feed_103 ?_
  refine va_iast hx hb hK hP hD hS 1 0 rfl rfl (by unfold vp_in; decide) dX9_feed_104 (fun H locs hP hD hS => ?_)
  obtain ⟨f_20, hP, hD⟩ : ∃ f_20 : Nat → Int32, va_P D classes [(h0, .inr (9, (.int 0 :: .ref (g 0) :: .ref (g 1) :: .ref (g 2) :: .ref (g 3) :: .int 19 :: .int 0 :: .int 0 :: .int 0 :: .int 0 :: .int 0 :: .int 0 :: .int 0 :: .int 0 :: .int (-1) :: .ref (g 4) :: .ref (g 5) :: .int 0 :: .int 0 :: .int 0 :: .ref (g 6) :: .ref (g 7) :: .ref (g 8) :: .int 0 :: .int 0 :: .int 0 :: .int 0 :: .int 0 :: .ref (g 9) :: .int 0 :: .ref (g 10) :: .int 0 :: .int 0 :: .int 0 :: .ref (g 11) :: .ref (g 12) :: .ref (g 13) :: []))), ((g 2), .inl (cT 0, 900, .inl (f_20)))] H ∧ va_D A [(h0, .inr (9, (.int 0 :: .ref (g 0) :: .ref (g 1) :: .ref (g 2) :: .ref (g 3) :: .int 19 :: .int 0 :: .int 0 :: .int 0 :: .int 0 :: .int 0 :: .int 0 :: .int 0 :: .int 0 :: .int (-1) :: .ref (g 4) :: .ref (g 5) :: .int 0 :: .int 0 :: .int 0 :: .ref (g 6) :: .ref (g 7) :: .ref (g 8) :: .int 0 :: .int 0 :: .int 0 :: .int 0 :: .int 0 :: .ref (g 9) :: .int 0 :: .ref (g 10) :: .int 0 :: .int 0 :: .int 0 :: .ref (g 11) :: .ref (g 12) :: .ref (g 13) :: []))), ((g 2), .inl (cT 0, 900, .inl (f_20)))] := ⟨_, hP, hD⟩
  refine lv_aload_n hx hb dX9_feed_105 rfl (lv_at hl 2 rfl) ?_
  refine lv_dup hx hb dX9_feed_106 rfl ?_
  refine va_get (D := D) (ci := 9) (v := .int 19) (C := RX9) (T := TX9) (N := 37) hx hb htg gRX9 hown hK hP 0 rfl rfl 5 (by decide) (htg _ wi_1155) (fun _ h9 => h9) rfl dX9_feed_107 ?_
  refine lv_iconst (v := 1) hx hb dX9_feed_110 (by decide) ?_
  refine lv_iadd hx hb dX9_feed_111 ?_
  refine lv_is (y := 20) (by decide) ?_
  refine va_put (D := D) (ci := 9) (v := .int 20) (ty := .int) (C := RX9) (T := TX9) (N := 37) hx hb htg gRX9 tyX9 tyX9_ok nmX9 hown hK hP hD hS 0 rfl rfl 5 (by decide) (htg _ wi_1155) (fun _ h9 => h9) rfl (by decide +kernel) rfl rfl (Nat.le_of_ble_eq_true rfl) dX9_feed_112 (fun H locs hP hD hS => ?_)
  have hP : va_P D classes [(h0, .inr (9, (.int 0 :: .ref (g 0) :: .ref (g 1) :: .ref (g 2) :: .ref (g 3) :: .int 20 :: .int 0 :: .int 0 :: .int 0 :: .int 0 :: .int 0 :: .int 0 :: .int 0 :: .int 0 :: .int (-1) :: .ref (g 4) :: .ref (g 5) :: .int 0 :: .int 0 :: .int 0 :: .ref (g 6) :: .ref (g 7) :: .ref (g 8) :: .int 0 :: .int 0 :: .int 0 :: .int 0 :: .int 0 :: .ref (g 9) :: .int 0 :: .ref (g 10) :: .int 0 :: .int 0 :: .int 0 :: .ref (g 11) :: .ref (g 12) :: .ref (g 13) :: []))), ((g 2), .inl (cT 0, 900, .inl (f_20)))] _ := hP
  have hD : va_D A [(h0, .inr (9, (.int 0 :: .ref (g 0) :: .ref (g 1) :: .ref (g 2) :: .ref (g 3) :: .int 20 :: .int 0 :: .int 0 :: .int 0 :: .int 0 :: .int 0 :: .int 0 :: .int 0 :: .int 0 :: .int (-1) :: .ref (g 4) :: .ref (g 5) :: .int 0 :: .int 0 :: .int 0 :: .ref (g 6) :: .ref (g 7) :: .ref (g 8) :: .int 0 :: .int 0 :: .int 0 :: .int 0 :: .int 0 :: .ref (g 9) :: .int 0 :: .ref (g 10) :: .int 0 :: .int 0 :: .int 0 :: .ref (g 11) :: .ref (g 12) :: .ref (g 13) :: []))), ((g 2), .inl (cT 0, 900, .inl (f_20)))] := hD
  refine lv_iinc (v := 20) (lv' := [(6, .int 20), (7, .int w), (0, .ref h0), (1, .int x), (2, .int y), (3, .int z), (4, .int v), (5, .int w)]) hx hb dX9_feed_115 hl (k := 1) rfl (by decide) (by decide) rfl (fun ls hl => ?_)
  refine lv_goto (tgt := 24) hx hb dX9_feed_118 (by decide) ?_
  refine lv_iload hx hb dX9_feed_24 (lv_at hl 0 rfl) ?_
  refine lv_bipush (v := 20) hx hb dX9_feed_26 (by decide) ?_
  refine lv_icmp_ge (tgt := 121) hx hb dX9_feed_28 (by decide) (fun _ => ?_) (fun h => absurd (by decide) h)
  refine lv_aload_n hx hb dX9_feed_121 rfl (lv_at hl 2 rfl) ?_
  refine va_get (D := D) (ci := 9) (v := .int 20) (C := RX9) (T := TX9) (N := 37) hx hb htg gRX9 hown hK hP 0 rfl rfl 5 (by decide) (htg _ wi_1155) (fun _ h9 => h9) rfl dX9_feed_122 ?_
  exact x_iret hx hb hr hlk hP hD hS [] (()) rfl (by decide) (by first | rfl | decide | (exfalso; omega) | (try simp only [ti_0, ti_1, ti_2, ti_3, ti_4, ti_5, ti_6, ti_7, ti_8, ti_9, ti_10, ti_11, ti_12]); (repeat (first | rw [if_pos (by first | assumption | omega | trivial)] | rw [if_neg (by first | assumption | omega)]))) (by decide) (by decide) dX9_feed_125
