set_option maxHeartbeats 4000000 in
set_option maxRecDepth 100000 in
theorem g_seekAll (l : Launch) (D : va_G) (cT : Nat → ClassId) (sz : Nat) (h2 : Nat) (sh : Nat → Nat) (t0 : Nat → Int32) (t1 : Nat → Int32) (t2 : Nat → Int32) (t3 : Nat → Int32) (t4 : Nat → Int32) (h0 : Nat) (o : Nat) (b : Nat → Nat) (g1 : Int32) (g2 : Int32) (g3 : Int32) (g4 : Int32) (hg2 : 0 ≤ g2.toInt ∧ g2.toInt ≤ 8) (hg4 : 0 ≤ g4.toInt ∧ g4.toInt ≤ 2559) (a : Nat → Nat) (p0 : Int32) (p1 : Int32) (p2 : Int32) (p3 : Int32) (p4 : Int32) (p5 : Int32) (p6 : Int32) (p7 : Int32) (p8 : Int32) (p9 : Int32) (hs : 0 ≤ p0.toInt ∧ p0.toInt ≤ 16) (k1 : Nat → Int32) (k4 : Nat → Int32) (k5 : Nat → Int32) (e4 : EL k4 8 0 15) (f0 : Nat → Int32) (f1 : Nat → Int32) (f2 : Nat → Int32) (h1 : Nat) (d : Nat → Nat) (s7 : Int32) (s8 : Int32) (s9 : Int32) (s10 : Int32) (hs9 : 0 ≤ s9.toInt ∧ s9.toInt ≤ 8) (j0 : Nat → Int64) (j4 : Nat → Int32) (j6 : Nat → Int32) (e6 : EL j6 10 0 2560) (x : Int32) : Met l yX5_seekAll (wsc yX5_seekAll cX5_seekAll 6 none) { frames := 5, cells := 0, slots := 0, locals := 173 } (va_Pc [.ref h2, .ref h0, .ref h1, .int x] (PX D cT sz [(h2, .inr (5, [.ref (sh 0), .ref (sh 1), .ref (sh 2), .ref (sh 3), .ref (sh 4)])), ((sh 0), .inl (cT 0, 256, .inl (t0))), ((sh 1), .inl (cT 0, 256, .inl (t1))), ((sh 2), .inl (cT 0, 16, .inl (t2))), ((sh 3), .inl (cT 0, 16, .inl (t3))), ((sh 4), .inl (cT 0, 256, .inl (t4))), (h0, .inr (2, [.ref o, .int g1, .ref (b 0), .ref (b 1), .ref (b 2), .ref (b 3), .ref (b 4), .ref (b 5), .int g2, .int g3, .int g4])), (o, .inr (3, [.int p0, .int p1, .int p2, .int p3, .int p4, .int p5, .int p6, .int p7, .int p8, .int p9, .ref (a 0), .ref (a 1), .ref (a 2), .ref (a 3), .ref (a 4), .ref (a 5)])), ((b 1), .inl (cT 0, 256, .inl (k1))), ((b 4), .inl (cT 0, 8, .inl (k4))), ((b 5), .inl (cT 0, 8, .inl (k5))), ((a 0), .inl (cT 0, 16, .inl (f0))), ((a 1), .inl (cT 0, 16, .inl (f1))), ((a 2), .inl (cT 0, 16, .inl (f2))), (h1, .inr (7, [.ref (d 0), .ref (d 1), .ref (d 2), .ref (d 3), .ref (d 4), .ref (d 5), .ref (d 6), .int s7, .int s8, .int s9, .int s10])), ((d 0), .inl (cT 1, 2560, .inr (.inl (j0)))), ((d 4), .inl (cT 3, 2560, .inl (j4))), ((d 6), .inl (cT 0, 10, .inl (j6)))])) (va_Qv (fun (u : (Nat → Int32) × (Nat → Int32) × (Nat → Int32) × (Nat → Int32) × (Nat → Int32) × Int32 × (Nat → Int32) × (Nat → Int32)) => (0 ≤ u.2.2.2.2.2.1.toInt ∧ u.2.2.2.2.2.1.toInt ≤ 8) ∧ (EL u.2.2.2.2.2.2.1 8 0 15) ∧ (True)) (fun u t => RW D (va_A [(h2, .inr (5, [.ref (sh 0), .ref (sh 1), .ref (sh 2), .ref (sh 3), .ref (sh 4)])), ((sh 0), .inl (cT 0, 256, .inl (t0))), ((sh 1), .inl (cT 0, 256, .inl (t1))), ((sh 2), .inl (cT 0, 16, .inl (t2))), ((sh 3), .inl (cT 0, 16, .inl (t3))), ((sh 4), .inl (cT 0, 256, .inl (t4))), (h0, .inr (2, [.ref o, .int g1, .ref (b 0), .ref (b 1), .ref (b 2), .ref (b 3), .ref (b 4), .ref (b 5), .int g2, .int g3, .int g4])), (o, .inr (3, [.int p0, .int p1, .int p2, .int p3, .int p4, .int p5, .int p6, .int p7, .int p8, .int p9, .ref (a 0), .ref (a 1), .ref (a 2), .ref (a 3), .ref (a 4), .ref (a 5)])), ((b 1), .inl (cT 0, 256, .inl (k1))), ((b 4), .inl (cT 0, 8, .inl (k4))), ((b 5), .inl (cT 0, 8, .inl (k5))), ((a 0), .inl (cT 0, 16, .inl (f0))), ((a 1), .inl (cT 0, 16, .inl (f1))), ((a 2), .inl (cT 0, 16, .inl (f2))), (h1, .inr (7, [.ref (d 0), .ref (d 1), .ref (d 2), .ref (d 3), .ref (d 4), .ref (d 5), .ref (d 6), .int s7, .int s8, .int s9, .int s10])), ((d 0), .inl (cT 1, 2560, .inr (.inl (j0)))), ((d 4), .inl (cT 3, 2560, .inl (j4))), ((d 6), .inl (cT 0, 10, .inl (j6)))] sz) ((fun u : (Nat → Int32) × (Nat → Int32) × (Nat → Int32) × (Nat → Int32) × (Nat → Int32) × Int32 × (Nat → Int32) × (Nat → Int32) => [(h2, .inr (5, [.ref (sh 0), .ref (sh 1), .ref (sh 2), .ref (sh 3), .ref (sh 4)])), ((sh 0), .inl (cT 0, 256, .inl (u.1))), ((sh 1), .inl (cT 0, 256, .inl (u.2.1))), ((sh 2), .inl (cT 0, 16, .inl (u.2.2.1))), ((sh 3), .inl (cT 0, 16, .inl (u.2.2.2.1))), ((sh 4), .inl (cT 0, 256, .inl (u.2.2.2.2.1))), (h0, .inr (2, [.ref o, .int g1, .ref (b 0), .ref (b 1), .ref (b 2), .ref (b 3), .ref (b 4), .ref (b 5), .int u.2.2.2.2.2.1, .int g3, .int g4])), (o, .inr (3, [.int p0, .int p1, .int p2, .int p3, .int p4, .int p5, .int p6, .int p7, .int p8, .int p9, .ref (a 0), .ref (a 1), .ref (a 2), .ref (a 3), .ref (a 4), .ref (a 5)])), ((b 1), .inl (cT 0, 256, .inl (k1))), ((b 4), .inl (cT 0, 8, .inl (u.2.2.2.2.2.2.1))), ((b 5), .inl (cT 0, 8, .inl (u.2.2.2.2.2.2.2))), ((a 0), .inl (cT 0, 16, .inl (f0))), ((a 1), .inl (cT 0, 16, .inl (f1))), ((a 2), .inl (cT 0, 16, .inl (f2))), (h1, .inr (7, [.ref (d 0), .ref (d 1), .ref (d 2), .ref (d 3), .ref (d 4), .ref (d 5), .ref (d 6), .int s7, .int s8, .int s9, .int s10])), ((d 0), .inl (cT 1, 2560, .inr (.inl (j0)))), ((d 4), .inl (cT 3, 2560, .inl (j4))), ((d 6), .inl (cT 0, 10, .inl (j6)))]) u) t) (va_A [(h2, .inr (5, [.ref (sh 0), .ref (sh 1), .ref (sh 2), .ref (sh 3), .ref (sh 4)])), ((sh 0), .inl (cT 0, 256, .inl (t0))), ((sh 1), .inl (cT 0, 256, .inl (t1))), ((sh 2), .inl (cT 0, 16, .inl (t2))), ((sh 3), .inl (cT 0, 16, .inl (t3))), ((sh 4), .inl (cT 0, 256, .inl (t4))), (h0, .inr (2, [.ref o, .int g1, .ref (b 0), .ref (b 1), .ref (b 2), .ref (b 3), .ref (b 4), .ref (b 5), .int g2, .int g3, .int g4])), (o, .inr (3, [.int p0, .int p1, .int p2, .int p3, .int p4, .int p5, .int p6, .int p7, .int p8, .int p9, .ref (a 0), .ref (a 1), .ref (a 2), .ref (a 3), .ref (a 4), .ref (a 5)])), ((b 1), .inl (cT 0, 256, .inl (k1))), ((b 4), .inl (cT 0, 8, .inl (k4))), ((b 5), .inl (cT 0, 8, .inl (k5))), ((a 0), .inl (cT 0, 16, .inl (f0))), ((a 1), .inl (cT 0, 16, .inl (f1))), ((a 2), .inl (cT 0, 16, .inl (f2))), (h1, .inr (7, [.ref (d 0), .ref (d 1), .ref (d 2), .ref (d 3), .ref (d 4), .ref (d 5), .ref (d 6), .int s7, .int s8, .int s9, .int s10])), ((d 0), .inl (cT 1, 2560, .inr (.inl (j0)))), ((d 4), .inl (cT 3, 2560, .inl (j4))), ((d 6), .inl (cT 0, 10, .inl (j6)))] sz)) 0 0 (va_A [(h2, .inr (5, [.ref (sh 0), .ref (sh 1), .ref (sh 2), .ref (sh 3), .ref (sh 4)])), ((sh 0), .inl (cT 0, 256, .inl (t0))), ((sh 1), .inl (cT 0, 256, .inl (t1))), ((sh 2), .inl (cT 0, 16, .inl (t2))), ((sh 3), .inl (cT 0, 16, .inl (t3))), ((sh 4), .inl (cT 0, 256, .inl (t4))), (h0, .inr (2, [.ref o, .int g1, .ref (b 0), .ref (b 1), .ref (b 2), .ref (b 3), .ref (b 4), .ref (b 5), .int g2, .int g3, .int g4])), (o, .inr (3, [.int p0, .int p1, .int p2, .int p3, .int p4, .int p5, .int p6, .int p7, .int p8, .int p9, .ref (a 0), .ref (a 1), .ref (a 2), .ref (a 3), .ref (a 4), .ref (a 5)])), ((b 1), .inl (cT 0, 256, .inl (k1))), ((b 4), .inl (cT 0, 8, .inl (k4))), ((b 5), .inl (cT 0, 8, .inl (k5))), ((a 0), .inl (cT 0, 16, .inl (f0))), ((a 1), .inl (cT 0, 16, .inl (f1))), ((a 2), .inl (cT 0, 16, .inl (f2))), (h1, .inr (7, [.ref (d 0), .ref (d 1), .ref (d 2), .ref (d 3), .ref (d 4), .ref (d 5), .ref (d 6), .int s7, .int s8, .int s9, .int s10])), ((d 0), .inl (cT 1, 2560, .inr (.inl (j0)))), ((d 4), .inl (cT 3, 2560, .inl (j4))), ((d 6), .inl (cT 0, 10, .inl (j6)))] sz) := by
  refine m_of (y := yX5_seekAll) (cc := cX5_seekAll) (nL := 6) (ret := none) (D := D) (cT := cT) (av := [.ref h2, .ref h0, .ref h1, .int x]) (wi := [(h2, .inr (5, [.ref (sh 0), .ref (sh 1), .ref (sh 2), .ref (sh 3), .ref (sh 4)])), ((sh 0), .inl (cT 0, 256, .inl (t0))), ((sh 1), .inl (cT 0, 256, .inl (t1))), ((sh 2), .inl (cT 0, 16, .inl (t2))), ((sh 3), .inl (cT 0, 16, .inl (t3))), ((sh 4), .inl (cT 0, 256, .inl (t4))), (h0, .inr (2, [.ref o, .int g1, .ref (b 0), .ref (b 1), .ref (b 2), .ref (b 3), .ref (b 4), .ref (b 5), .int g2, .int g3, .int g4])), (o, .inr (3, [.int p0, .int p1, .int p2, .int p3, .int p4, .int p5, .int p6, .int p7, .int p8, .int p9, .ref (a 0), .ref (a 1), .ref (a 2), .ref (a 3), .ref (a 4), .ref (a 5)])), ((b 1), .inl (cT 0, 256, .inl (k1))), ((b 4), .inl (cT 0, 8, .inl (k4))), ((b 5), .inl (cT 0, 8, .inl (k5))), ((a 0), .inl (cT 0, 16, .inl (f0))), ((a 1), .inl (cT 0, 16, .inl (f1))), ((a 2), .inl (cT 0, 16, .inl (f2))), (h1, .inr (7, [.ref (d 0), .ref (d 1), .ref (d 2), .ref (d 3), .ref (d 4), .ref (d 5), .ref (d 6), .int s7, .int s8, .int s9, .int s10])), ((d 0), .inl (cT 1, 2560, .inr (.inl (j0)))), ((d 4), .inl (cT 3, 2560, .inl (j4))), ((d 6), .inl (cT 0, 10, .inl (j6)))]) (fun A => va_Qv (fun (u : (Nat → Int32) × (Nat → Int32) × (Nat → Int32) × (Nat → Int32) × (Nat → Int32) × Int32 × (Nat → Int32) × (Nat → Int32)) => (0 ≤ u.2.2.2.2.2.1.toInt ∧ u.2.2.2.2.2.1.toInt ≤ 8) ∧ (EL u.2.2.2.2.2.2.1 8 0 15) ∧ (True)) (fun u t => RW D A ((fun u : (Nat → Int32) × (Nat → Int32) × (Nat → Int32) × (Nat → Int32) × (Nat → Int32) × Int32 × (Nat → Int32) × (Nat → Int32) => [(h2, .inr (5, [.ref (sh 0), .ref (sh 1), .ref (sh 2), .ref (sh 3), .ref (sh 4)])), ((sh 0), .inl (cT 0, 256, .inl (u.1))), ((sh 1), .inl (cT 0, 256, .inl (u.2.1))), ((sh 2), .inl (cT 0, 16, .inl (u.2.2.1))), ((sh 3), .inl (cT 0, 16, .inl (u.2.2.2.1))), ((sh 4), .inl (cT 0, 256, .inl (u.2.2.2.2.1))), (h0, .inr (2, [.ref o, .int g1, .ref (b 0), .ref (b 1), .ref (b 2), .ref (b 3), .ref (b 4), .ref (b 5), .int u.2.2.2.2.2.1, .int g3, .int g4])), (o, .inr (3, [.int p0, .int p1, .int p2, .int p3, .int p4, .int p5, .int p6, .int p7, .int p8, .int p9, .ref (a 0), .ref (a 1), .ref (a 2), .ref (a 3), .ref (a 4), .ref (a 5)])), ((b 1), .inl (cT 0, 256, .inl (k1))), ((b 4), .inl (cT 0, 8, .inl (u.2.2.2.2.2.2.1))), ((b 5), .inl (cT 0, 8, .inl (u.2.2.2.2.2.2.2))), ((a 0), .inl (cT 0, 16, .inl (f0))), ((a 1), .inl (cT 0, 16, .inl (f1))), ((a 2), .inl (cT 0, 16, .inl (f2))), (h1, .inr (7, [.ref (d 0), .ref (d 1), .ref (d 2), .ref (d 3), .ref (d 4), .ref (d 5), .ref (d 6), .int s7, .int s8, .int s9, .int s10])), ((d 0), .inl (cT 1, 2560, .inr (.inl (j0)))), ((d 4), .inl (cT 3, 2560, .inl (j4))), ((d 6), .inl (cT 0, 10, .inl (j6)))]) u) t) A) (by decide) (Nat.le_of_ble_eq_true rfl) ?_
  intro p e s m below meth c A hx hb hml hown htg hK hN hr hlk hnm hsz hP hD hS hA ls hl
  have hown : s.vm.findClass RX5 = some m.cls := hown
  have hl : lv_has ls 6 [(0, .ref h2), (1, .ref h0), (2, .ref h1), (3, .int x)] := hl
  refine lv_aload_n hx hb dX5_seekAll_0 rfl (lv_at hl 1 rfl) ?_
  refine lv_aload_n hx hb dX5_seekAll_1 rfl (lv_at hl 0 rfl) ?_
  refine va_get (D := D) (ci := 5) (v := .ref (sh 0)) (C := RX5) (T := TX5) (N := 5) hx hb htg gRX5 hown hK hP 0 rfl rfl 0 (by decide) (htg _ wi_392) (fun _ h9 => h9) rfl dX5_seekAll_2 ?_
  refine lv_iconst (v := (-1)) hx hb dX5_seekAll_5 (by decide) ?_
  refine xk_v (wr := [(h2, .inr (5, [.ref (sh 0), .ref (sh 1), .ref (sh 2), .ref (sh 3), .ref (sh 4)])), ((sh 1), .inl (cT 0, 256, .inl (t1))), ((sh 2), .inl (cT 0, 16, .inl (t2))), ((sh 3), .inl (cT 0, 16, .inl (t3))), ((sh 4), .inl (cT 0, 256, .inl (t4))), ((b 1), .inl (cT 0, 256, .inl (k1))), ((b 4), .inl (cT 0, 8, .inl (k4))), ((b 5), .inl (cT 0, 8, .inl (k5))), ((a 0), .inl (cT 0, 16, .inl (f0))), (h1, .inr (7, [.ref (d 0), .ref (d 1), .ref (d 2), .ref (d 3), .ref (d 4), .ref (d 5), .ref (d 6), .int s7, .int s8, .int s9, .int s10])), ((d 0), .inl (cT 1, 2560, .inr (.inl (j0)))), ((d 4), .inl (cT 3, 2560, .inl (j4))), ((d 6), .inl (cT 0, 10, .inl (j6)))]) (xr_VN (n := 2) (As := [.ref (sh 0), .int (-1)]) (rest := []) ⟨hx, hb, hml, hown, htg⟩ hK hN hP hD hS hA [6, 7, 1, 12, 13] rfl (by decide) (g_fillCaps l D cT _ (h0) (o) (b) (g1) (g2) (g3) (g4) (a) (p0) (p1) (p2) (p3) (p4) (p5) (p6) (p7) (p8) (p9) (by first | assumption | omega | decide | (simp only [ti_0, ti_1, ti_2, ti_3, ti_4, ti_5, ti_6, ti_7, ti_8, ti_9, ti_10, ti_11, ti_12, ti_m1]; omega)) ((sh 0)) (t0) ((-1)) (f1) (f2)) ni_961 wi_882 wi_49 wi_126 wi_883 rfl rfl rfl ⟨rfl, by decide +kernel⟩ ⟨Nat.le_of_ble_eq_true rfl, Nat.le_of_ble_eq_true rfl⟩ rfl hl.1 rfl (Nat.le_of_ble_eq_true rfl) dX5_seekAll_6 ⟨Nat.le_of_ble_eq_true rfl, Nat.le_of_ble_eq_true rfl⟩) hP hD hS hA [6, 7, 1, 12, 13] [0, 2, 3, 4, 5, 8, 9, 10, 11, 14, 15, 16, 17] rfl rfl (by decide) (by decide) (fun u_1 H locs hwr_2 hP hD hS => ?_)
  have hP : va_P D classes [(h2, .inr (5, [.ref (sh 0), .ref (sh 1), .ref (sh 2), .ref (sh 3), .ref (sh 4)])), ((sh 1), .inl (cT 0, 256, .inl (t1))), ((sh 2), .inl (cT 0, 16, .inl (t2))), ((sh 3), .inl (cT 0, 16, .inl (t3))), ((sh 4), .inl (cT 0, 256, .inl (t4))), ((b 1), .inl (cT 0, 256, .inl (k1))), ((b 4), .inl (cT 0, 8, .inl (k4))), ((b 5), .inl (cT 0, 8, .inl (k5))), ((a 0), .inl (cT 0, 16, .inl (f0))), (h1, .inr (7, [.ref (d 0), .ref (d 1), .ref (d 2), .ref (d 3), .ref (d 4), .ref (d 5), .ref (d 6), .int s7, .int s8, .int s9, .int s10])), ((d 0), .inl (cT 1, 2560, .inr (.inl (j0)))), ((d 4), .inl (cT 3, 2560, .inl (j4))), ((d 6), .inl (cT 0, 10, .inl (j6))), (h0, .inr (2, [.ref o, .int g1, .ref (b 0), .ref (b 1), .ref (b 2), .ref (b 3), .ref (b 4), .ref (b 5), .int g2, .int g3, .int g4])), (o, .inr (3, [.int p0, .int p1, .int p2, .int p3, .int p4, .int p5, .int p6, .int p7, .int p8, .int p9, .ref (a 0), .ref (a 1), .ref (a 2), .ref (a 3), .ref (a 4), .ref (a 5)])), ((sh 0), .inl (cT 0, 256, .inl (u_1))), ((a 1), .inl (cT 0, 16, .inl (f1))), ((a 2), .inl (cT 0, 16, .inl (f2)))] _ := hP
  have hD : va_D A [(h2, .inr (5, [.ref (sh 0), .ref (sh 1), .ref (sh 2), .ref (sh 3), .ref (sh 4)])), ((sh 1), .inl (cT 0, 256, .inl (t1))), ((sh 2), .inl (cT 0, 16, .inl (t2))), ((sh 3), .inl (cT 0, 16, .inl (t3))), ((sh 4), .inl (cT 0, 256, .inl (t4))), ((b 1), .inl (cT 0, 256, .inl (k1))), ((b 4), .inl (cT 0, 8, .inl (k4))), ((b 5), .inl (cT 0, 8, .inl (k5))), ((a 0), .inl (cT 0, 16, .inl (f0))), (h1, .inr (7, [.ref (d 0), .ref (d 1), .ref (d 2), .ref (d 3), .ref (d 4), .ref (d 5), .ref (d 6), .int s7, .int s8, .int s9, .int s10])), ((d 0), .inl (cT 1, 2560, .inr (.inl (j0)))), ((d 4), .inl (cT 3, 2560, .inl (j4))), ((d 6), .inl (cT 0, 10, .inl (j6))), (h0, .inr (2, [.ref o, .int g1, .ref (b 0), .ref (b 1), .ref (b 2), .ref (b 3), .ref (b 4), .ref (b 5), .int g2, .int g3, .int g4])), (o, .inr (3, [.int p0, .int p1, .int p2, .int p3, .int p4, .int p5, .int p6, .int p7, .int p8, .int p9, .ref (a 0), .ref (a 1), .ref (a 2), .ref (a 3), .ref (a 4), .ref (a 5)])), ((sh 0), .inl (cT 0, 256, .inl (u_1))), ((a 1), .inl (cT 0, 16, .inl (f1))), ((a 2), .inl (cT 0, 16, .inl (f2)))] := hD
  refine lv_aload_n hx hb dX5_seekAll_9 rfl (lv_at hl 1 rfl) ?_
  refine lv_aload_n hx hb dX5_seekAll_10 rfl (lv_at hl 0 rfl) ?_
  refine va_get (D := D) (ci := 5) (v := .ref (sh 1)) (C := RX5) (T := TX5) (N := 5) hx hb htg gRX5 hown hK hP 0 rfl rfl 1 (by decide) (htg _ wi_393) (fun _ h9 => h9) rfl dX5_seekAll_11 ?_
  refine lv_iconst (v := 1) hx hb dX5_seekAll_14 (by decide) ?_
  refine xk_v (wr := [(h2, .inr (5, [.ref (sh 0), .ref (sh 1), .ref (sh 2), .ref (sh 3), .ref (sh 4)])), ((sh 2), .inl (cT 0, 16, .inl (t2))), ((sh 3), .inl (cT 0, 16, .inl (t3))), ((sh 4), .inl (cT 0, 256, .inl (t4))), ((b 1), .inl (cT 0, 256, .inl (k1))), ((b 4), .inl (cT 0, 8, .inl (k4))), ((b 5), .inl (cT 0, 8, .inl (k5))), ((a 0), .inl (cT 0, 16, .inl (f0))), (h1, .inr (7, [.ref (d 0), .ref (d 1), .ref (d 2), .ref (d 3), .ref (d 4), .ref (d 5), .ref (d 6), .int s7, .int s8, .int s9, .int s10])), ((d 0), .inl (cT 1, 2560, .inr (.inl (j0)))), ((d 4), .inl (cT 3, 2560, .inl (j4))), ((d 6), .inl (cT 0, 10, .inl (j6))), ((sh 0), .inl (cT 0, 256, .inl (u_1)))]) (xr_VN (n := 2) (As := [.ref (sh 1), .int 1]) (rest := []) ⟨hx, hb, hml, hown, htg⟩ hK hN hP hD hS hA [13, 14, 1, 16, 17] rfl (by decide) (g_fillCaps l D cT _ (h0) (o) (b) (g1) (g2) (g3) (g4) (a) (p0) (p1) (p2) (p3) (p4) (p5) (p6) (p7) (p8) (p9) (by first | assumption | omega | decide | (simp only [ti_0, ti_1, ti_2, ti_3, ti_4, ti_5, ti_6, ti_7, ti_8, ti_9, ti_10, ti_11, ti_12, ti_m1]; omega)) ((sh 1)) (t1) (1) (f1) (f2)) ni_961 wi_882 wi_49 wi_126 wi_883 rfl rfl rfl ⟨rfl, by decide +kernel⟩ ⟨Nat.le_of_ble_eq_true rfl, Nat.le_of_ble_eq_true rfl⟩ rfl hl.1 rfl (Nat.le_of_ble_eq_true rfl) dX5_seekAll_15 ⟨Nat.le_of_ble_eq_true rfl, Nat.le_of_ble_eq_true rfl⟩) hP hD hS hA [13, 14, 1, 16, 17] [0, 2, 3, 4, 5, 6, 7, 8, 9, 10, 11, 12, 15] rfl rfl (by decide) (by decide) (fun u_3 H locs hwr_4 hP hD hS => ?_)
  have hP : va_P D classes [(h2, .inr (5, [.ref (sh 0), .ref (sh 1), .ref (sh 2), .ref (sh 3), .ref (sh 4)])), ((sh 2), .inl (cT 0, 16, .inl (t2))), ((sh 3), .inl (cT 0, 16, .inl (t3))), ((sh 4), .inl (cT 0, 256, .inl (t4))), ((b 1), .inl (cT 0, 256, .inl (k1))), ((b 4), .inl (cT 0, 8, .inl (k4))), ((b 5), .inl (cT 0, 8, .inl (k5))), ((a 0), .inl (cT 0, 16, .inl (f0))), (h1, .inr (7, [.ref (d 0), .ref (d 1), .ref (d 2), .ref (d 3), .ref (d 4), .ref (d 5), .ref (d 6), .int s7, .int s8, .int s9, .int s10])), ((d 0), .inl (cT 1, 2560, .inr (.inl (j0)))), ((d 4), .inl (cT 3, 2560, .inl (j4))), ((d 6), .inl (cT 0, 10, .inl (j6))), ((sh 0), .inl (cT 0, 256, .inl (u_1))), (h0, .inr (2, [.ref o, .int g1, .ref (b 0), .ref (b 1), .ref (b 2), .ref (b 3), .ref (b 4), .ref (b 5), .int g2, .int g3, .int g4])), (o, .inr (3, [.int p0, .int p1, .int p2, .int p3, .int p4, .int p5, .int p6, .int p7, .int p8, .int p9, .ref (a 0), .ref (a 1), .ref (a 2), .ref (a 3), .ref (a 4), .ref (a 5)])), ((sh 1), .inl (cT 0, 256, .inl (u_3))), ((a 1), .inl (cT 0, 16, .inl (f1))), ((a 2), .inl (cT 0, 16, .inl (f2)))] _ := hP
  have hD : va_D A [(h2, .inr (5, [.ref (sh 0), .ref (sh 1), .ref (sh 2), .ref (sh 3), .ref (sh 4)])), ((sh 2), .inl (cT 0, 16, .inl (t2))), ((sh 3), .inl (cT 0, 16, .inl (t3))), ((sh 4), .inl (cT 0, 256, .inl (t4))), ((b 1), .inl (cT 0, 256, .inl (k1))), ((b 4), .inl (cT 0, 8, .inl (k4))), ((b 5), .inl (cT 0, 8, .inl (k5))), ((a 0), .inl (cT 0, 16, .inl (f0))), (h1, .inr (7, [.ref (d 0), .ref (d 1), .ref (d 2), .ref (d 3), .ref (d 4), .ref (d 5), .ref (d 6), .int s7, .int s8, .int s9, .int s10])), ((d 0), .inl (cT 1, 2560, .inr (.inl (j0)))), ((d 4), .inl (cT 3, 2560, .inl (j4))), ((d 6), .inl (cT 0, 10, .inl (j6))), ((sh 0), .inl (cT 0, 256, .inl (u_1))), (h0, .inr (2, [.ref o, .int g1, .ref (b 0), .ref (b 1), .ref (b 2), .ref (b 3), .ref (b 4), .ref (b 5), .int g2, .int g3, .int g4])), (o, .inr (3, [.int p0, .int p1, .int p2, .int p3, .int p4, .int p5, .int p6, .int p7, .int p8, .int p9, .ref (a 0), .ref (a 1), .ref (a 2), .ref (a 3), .ref (a 4), .ref (a 5)])), ((sh 1), .inl (cT 0, 256, .inl (u_3))), ((a 1), .inl (cT 0, 16, .inl (f1))), ((a 2), .inl (cT 0, 16, .inl (f2)))] := hD
  refine lv_aload_n hx hb dX5_seekAll_18 rfl (lv_at hl 0 rfl) ?_
  refine va_get (D := D) (ci := 5) (v := .ref (sh 4)) (C := RX5) (T := TX5) (N := 5) hx hb htg gRX5 hown hK hP 0 rfl rfl 4 (by decide) (htg _ wi_396) (fun _ h9 => h9) rfl dX5_seekAll_19 ?_
  refine lv_iconst (v := 0) hx hb dX5_seekAll_22 (by decide) ?_
  refine xk_v (wr := [(h2, .inr (5, [.ref (sh 0), .ref (sh 1), .ref (sh 2), .ref (sh 3), .ref (sh 4)])), ((sh 2), .inl (cT 0, 16, .inl (t2))), ((sh 3), .inl (cT 0, 16, .inl (t3))), ((b 1), .inl (cT 0, 256, .inl (k1))), ((b 4), .inl (cT 0, 8, .inl (k4))), ((b 5), .inl (cT 0, 8, .inl (k5))), ((a 0), .inl (cT 0, 16, .inl (f0))), (h1, .inr (7, [.ref (d 0), .ref (d 1), .ref (d 2), .ref (d 3), .ref (d 4), .ref (d 5), .ref (d 6), .int s7, .int s8, .int s9, .int s10])), ((d 0), .inl (cT 1, 2560, .inr (.inl (j0)))), ((d 4), .inl (cT 3, 2560, .inl (j4))), ((d 6), .inl (cT 0, 10, .inl (j6))), ((sh 0), .inl (cT 0, 256, .inl (u_1))), (h0, .inr (2, [.ref o, .int g1, .ref (b 0), .ref (b 1), .ref (b 2), .ref (b 3), .ref (b 4), .ref (b 5), .int g2, .int g3, .int g4])), (o, .inr (3, [.int p0, .int p1, .int p2, .int p3, .int p4, .int p5, .int p6, .int p7, .int p8, .int p9, .ref (a 0), .ref (a 1), .ref (a 2), .ref (a 3), .ref (a 4), .ref (a 5)])), ((sh 1), .inl (cT 0, 256, .inl (u_3))), ((a 1), .inl (cT 0, 16, .inl (f1))), ((a 2), .inl (cT 0, 16, .inl (f2)))]) (xr_S (n := 2) (As := [.ref (sh 4), .int 0]) (rest := []) ⟨hx, hb, hml, hown, htg⟩ hK hN hP hD hS hA [3] rfl (by decide) (g_fillI256 l D cT _ ((sh 4)) (t4) (0)) wi_962 wi_164 wi_124 wi_165 ⟨rfl, by decide +kernel⟩ ⟨Nat.le_of_ble_eq_true rfl, Nat.le_of_ble_eq_true rfl⟩ rfl hl.1 rfl (Nat.le_of_ble_eq_true rfl) dX5_seekAll_23 ⟨Nat.le_of_ble_eq_true rfl, Nat.le_of_ble_eq_true rfl⟩) hP hD hS hA [3] [0, 1, 2, 4, 5, 6, 7, 8, 9, 10, 11, 12, 13, 14, 15, 16, 17] rfl rfl (by decide) (by decide) (fun u_5 H locs hwr_6 hP hD hS => ?_)
  have hP : va_P D classes [(h2, .inr (5, [.ref (sh 0), .ref (sh 1), .ref (sh 2), .ref (sh 3), .ref (sh 4)])), ((sh 2), .inl (cT 0, 16, .inl (t2))), ((sh 3), .inl (cT 0, 16, .inl (t3))), ((b 1), .inl (cT 0, 256, .inl (k1))), ((b 4), .inl (cT 0, 8, .inl (k4))), ((b 5), .inl (cT 0, 8, .inl (k5))), ((a 0), .inl (cT 0, 16, .inl (f0))), (h1, .inr (7, [.ref (d 0), .ref (d 1), .ref (d 2), .ref (d 3), .ref (d 4), .ref (d 5), .ref (d 6), .int s7, .int s8, .int s9, .int s10])), ((d 0), .inl (cT 1, 2560, .inr (.inl (j0)))), ((d 4), .inl (cT 3, 2560, .inl (j4))), ((d 6), .inl (cT 0, 10, .inl (j6))), ((sh 0), .inl (cT 0, 256, .inl (u_1))), (h0, .inr (2, [.ref o, .int g1, .ref (b 0), .ref (b 1), .ref (b 2), .ref (b 3), .ref (b 4), .ref (b 5), .int g2, .int g3, .int g4])), (o, .inr (3, [.int p0, .int p1, .int p2, .int p3, .int p4, .int p5, .int p6, .int p7, .int p8, .int p9, .ref (a 0), .ref (a 1), .ref (a 2), .ref (a 3), .ref (a 4), .ref (a 5)])), ((sh 1), .inl (cT 0, 256, .inl (u_3))), ((a 1), .inl (cT 0, 16, .inl (f1))), ((a 2), .inl (cT 0, 16, .inl (f2))), ((sh 4), .inl (cT 0, 256, .inl (fillF (t4) 256 (0))))] _ := hP
  have hD : va_D A [(h2, .inr (5, [.ref (sh 0), .ref (sh 1), .ref (sh 2), .ref (sh 3), .ref (sh 4)])), ((sh 2), .inl (cT 0, 16, .inl (t2))), ((sh 3), .inl (cT 0, 16, .inl (t3))), ((b 1), .inl (cT 0, 256, .inl (k1))), ((b 4), .inl (cT 0, 8, .inl (k4))), ((b 5), .inl (cT 0, 8, .inl (k5))), ((a 0), .inl (cT 0, 16, .inl (f0))), (h1, .inr (7, [.ref (d 0), .ref (d 1), .ref (d 2), .ref (d 3), .ref (d 4), .ref (d 5), .ref (d 6), .int s7, .int s8, .int s9, .int s10])), ((d 0), .inl (cT 1, 2560, .inr (.inl (j0)))), ((d 4), .inl (cT 3, 2560, .inl (j4))), ((d 6), .inl (cT 0, 10, .inl (j6))), ((sh 0), .inl (cT 0, 256, .inl (u_1))), (h0, .inr (2, [.ref o, .int g1, .ref (b 0), .ref (b 1), .ref (b 2), .ref (b 3), .ref (b 4), .ref (b 5), .int g2, .int g3, .int g4])), (o, .inr (3, [.int p0, .int p1, .int p2, .int p3, .int p4, .int p5, .int p6, .int p7, .int p8, .int p9, .ref (a 0), .ref (a 1), .ref (a 2), .ref (a 3), .ref (a 4), .ref (a 5)])), ((sh 1), .inl (cT 0, 256, .inl (u_3))), ((a 1), .inl (cT 0, 16, .inl (f1))), ((a 2), .inl (cT 0, 16, .inl (f2))), ((sh 4), .inl (cT 0, 256, .inl (fillF (t4) 256 (0))))] := hD
  refine lv_aload_n hx hb dX5_seekAll_26 rfl (lv_at hl 2 rfl) ?_
  refine lv_iload_n hx hb dX5_seekAll_27 rfl (lv_at hl 3 rfl) ?_
  refine xk_i (wr := [(h2, .inr (5, [.ref (sh 0), .ref (sh 1), .ref (sh 2), .ref (sh 3), .ref (sh 4)])), ((sh 2), .inl (cT 0, 16, .inl (t2))), ((sh 3), .inl (cT 0, 16, .inl (t3))), ((b 1), .inl (cT 0, 256, .inl (k1))), ((b 4), .inl (cT 0, 8, .inl (k4))), ((b 5), .inl (cT 0, 8, .inl (k5))), ((a 0), .inl (cT 0, 16, .inl (f0))), ((d 0), .inl (cT 1, 2560, .inr (.inl (j0)))), ((d 4), .inl (cT 3, 2560, .inl (j4))), ((sh 0), .inl (cT 0, 256, .inl (u_1))), (h0, .inr (2, [.ref o, .int g1, .ref (b 0), .ref (b 1), .ref (b 2), .ref (b 3), .ref (b 4), .ref (b 5), .int g2, .int g3, .int g4])), (o, .inr (3, [.int p0, .int p1, .int p2, .int p3, .int p4, .int p5, .int p6, .int p7, .int p8, .int p9, .ref (a 0), .ref (a 1), .ref (a 2), .ref (a 3), .ref (a 4), .ref (a 5)])), ((sh 1), .inl (cT 0, 256, .inl (u_3))), ((a 1), .inl (cT 0, 16, .inl (f1))), ((a 2), .inl (cT 0, 16, .inl (f2))), ((sh 4), .inl (cT 0, 256, .inl (fillF (t4) 256 (0))))]) (xr_VN (n := 1) (As := [.int x]) (rest := []) ⟨hx, hb, hml, hown, htg⟩ hK hN hP hD hS hA [7, 10] rfl (by decide) (g_end l D cT _ (h1) (d) (s7) (s8) (s9) (s10) (by first | assumption | omega | decide | (simp only [ti_0, ti_1, ti_2, ti_3, ti_4, ti_5, ti_6, ti_7, ti_8, ti_9, ti_10, ti_11, ti_12, ti_m1]; omega)) (x) (j6) (by first | assumption | omega | decide | (simp only [ti_0, ti_1, ti_2, ti_3, ti_4, ti_5, ti_6, ti_7, ti_8, ti_9, ti_10, ti_11, ti_12, ti_m1]; omega))) ni_963 wi_856 wi_43 wi_125 wi_857 rfl rfl rfl ⟨rfl, by decide +kernel⟩ ⟨Nat.le_of_ble_eq_true rfl, Nat.le_of_ble_eq_true rfl⟩ rfl hl.1 rfl (Nat.le_of_ble_eq_true rfl) dX5_seekAll_28 ⟨Nat.le_of_ble_eq_true rfl, Nat.le_of_ble_eq_true rfl⟩) hP hD hS hA [7, 10] [0, 1, 2, 3, 4, 5, 6, 8, 9, 11, 12, 13, 14, 15, 16, 17] rfl rfl (by decide) (by decide) (fun r_8 u_7 H locs hwr_8 hP hD hS => ?_)
  have hP : va_P D classes [(h2, .inr (5, [.ref (sh 0), .ref (sh 1), .ref (sh 2), .ref (sh 3), .ref (sh 4)])), ((sh 2), .inl (cT 0, 16, .inl (t2))), ((sh 3), .inl (cT 0, 16, .inl (t3))), ((b 1), .inl (cT 0, 256, .inl (k1))), ((b 4), .inl (cT 0, 8, .inl (k4))), ((b 5), .inl (cT 0, 8, .inl (k5))), ((a 0), .inl (cT 0, 16, .inl (f0))), ((d 0), .inl (cT 1, 2560, .inr (.inl (j0)))), ((d 4), .inl (cT 3, 2560, .inl (j4))), ((sh 0), .inl (cT 0, 256, .inl (u_1))), (h0, .inr (2, [.ref o, .int g1, .ref (b 0), .ref (b 1), .ref (b 2), .ref (b 3), .ref (b 4), .ref (b 5), .int g2, .int g3, .int g4])), (o, .inr (3, [.int p0, .int p1, .int p2, .int p3, .int p4, .int p5, .int p6, .int p7, .int p8, .int p9, .ref (a 0), .ref (a 1), .ref (a 2), .ref (a 3), .ref (a 4), .ref (a 5)])), ((sh 1), .inl (cT 0, 256, .inl (u_3))), ((a 1), .inl (cT 0, 16, .inl (f1))), ((a 2), .inl (cT 0, 16, .inl (f2))), ((sh 4), .inl (cT 0, 256, .inl (fillF (t4) 256 (0)))), (h1, .inr (7, [.ref (d 0), .ref (d 1), .ref (d 2), .ref (d 3), .ref (d 4), .ref (d 5), .ref (d 6), .int s7, .int s8, .int s9, .int s10])), ((d 6), .inl (cT 0, 10, .inl (j6)))] _ := hP
  have hD : va_D A [(h2, .inr (5, [.ref (sh 0), .ref (sh 1), .ref (sh 2), .ref (sh 3), .ref (sh 4)])), ((sh 2), .inl (cT 0, 16, .inl (t2))), ((sh 3), .inl (cT 0, 16, .inl (t3))), ((b 1), .inl (cT 0, 256, .inl (k1))), ((b 4), .inl (cT 0, 8, .inl (k4))), ((b 5), .inl (cT 0, 8, .inl (k5))), ((a 0), .inl (cT 0, 16, .inl (f0))), ((d 0), .inl (cT 1, 2560, .inr (.inl (j0)))), ((d 4), .inl (cT 3, 2560, .inl (j4))), ((sh 0), .inl (cT 0, 256, .inl (u_1))), (h0, .inr (2, [.ref o, .int g1, .ref (b 0), .ref (b 1), .ref (b 2), .ref (b 3), .ref (b 4), .ref (b 5), .int g2, .int g3, .int g4])), (o, .inr (3, [.int p0, .int p1, .int p2, .int p3, .int p4, .int p5, .int p6, .int p7, .int p8, .int p9, .ref (a 0), .ref (a 1), .ref (a 2), .ref (a 3), .ref (a 4), .ref (a 5)])), ((sh 1), .inl (cT 0, 256, .inl (u_3))), ((a 1), .inl (cT 0, 16, .inl (f1))), ((a 2), .inl (cT 0, 16, .inl (f2))), ((sh 4), .inl (cT 0, 256, .inl (fillF (t4) 256 (0)))), (h1, .inr (7, [.ref (d 0), .ref (d 1), .ref (d 2), .ref (d 3), .ref (d 4), .ref (d 5), .ref (d 6), .int s7, .int s8, .int s9, .int s10])), ((d 6), .inl (cT 0, 10, .inl (j6)))] := hD
  have qr_8_0 : 0 ≤ r_8.toInt ∧ r_8.toInt ≤ 2560 := hwr_8.1
  refine lv_istore (lv' := [(4, .int r_8), (0, .ref h2), (1, .ref h0), (2, .ref h1), (3, .int x)]) hx hb dX5_seekAll_31 hl (by decide) rfl (fun ls hl => ?_)
  refine lv_aload_n hx hb dX5_seekAll_33 rfl (lv_at hl 3 rfl) ?_
  refine lv_iload_n hx hb dX5_seekAll_34 rfl (lv_at hl 4 rfl) ?_
  refine xk_i (wr := [(h2, .inr (5, [.ref (sh 0), .ref (sh 1), .ref (sh 2), .ref (sh 3), .ref (sh 4)])), ((sh 2), .inl (cT 0, 16, .inl (t2))), ((sh 3), .inl (cT 0, 16, .inl (t3))), ((b 1), .inl (cT 0, 256, .inl (k1))), ((b 4), .inl (cT 0, 8, .inl (k4))), ((b 5), .inl (cT 0, 8, .inl (k5))), ((a 0), .inl (cT 0, 16, .inl (f0))), ((d 0), .inl (cT 1, 2560, .inr (.inl (j0)))), ((d 4), .inl (cT 3, 2560, .inl (j4))), ((sh 0), .inl (cT 0, 256, .inl (u_1))), (h0, .inr (2, [.ref o, .int g1, .ref (b 0), .ref (b 1), .ref (b 2), .ref (b 3), .ref (b 4), .ref (b 5), .int g2, .int g3, .int g4])), (o, .inr (3, [.int p0, .int p1, .int p2, .int p3, .int p4, .int p5, .int p6, .int p7, .int p8, .int p9, .ref (a 0), .ref (a 1), .ref (a 2), .ref (a 3), .ref (a 4), .ref (a 5)])), ((sh 1), .inl (cT 0, 256, .inl (u_3))), ((a 1), .inl (cT 0, 16, .inl (f1))), ((a 2), .inl (cT 0, 16, .inl (f2))), ((sh 4), .inl (cT 0, 256, .inl (fillF (t4) 256 (0))))]) (xr_VN (n := 1) (As := [.int x]) (rest := []) ⟨hx, hb, hml, hown, htg⟩ hK hN hP hD hS hA [16, 17] rfl (by decide) (g_first l D cT _ (h1) (d) (s7) (s8) (s9) (s10) (by first | assumption | omega | decide | (simp only [ti_0, ti_1, ti_2, ti_3, ti_4, ti_5, ti_6, ti_7, ti_8, ti_9, ti_10, ti_11, ti_12, ti_m1]; omega)) (x) (j6) (by first | assumption | omega | decide | (simp only [ti_0, ti_1, ti_2, ti_3, ti_4, ti_5, ti_6, ti_7, ti_8, ti_9, ti_10, ti_11, ti_12, ti_m1]; omega))) ni_964 wi_861 wi_44 wi_125 wi_862 rfl rfl rfl ⟨rfl, by decide +kernel⟩ ⟨Nat.le_of_ble_eq_true rfl, Nat.le_of_ble_eq_true rfl⟩ rfl hl.1 rfl (Nat.le_of_ble_eq_true rfl) dX5_seekAll_35 ⟨Nat.le_of_ble_eq_true rfl, Nat.le_of_ble_eq_true rfl⟩) hP hD hS hA [16, 17] [0, 1, 2, 3, 4, 5, 6, 7, 8, 9, 10, 11, 12, 13, 14, 15] rfl rfl (by decide) (by decide) (fun r_10 u_9 H locs hwr_10 hP hD hS => ?_)
  have hP : va_P D classes [(h2, .inr (5, [.ref (sh 0), .ref (sh 1), .ref (sh 2), .ref (sh 3), .ref (sh 4)])), ((sh 2), .inl (cT 0, 16, .inl (t2))), ((sh 3), .inl (cT 0, 16, .inl (t3))), ((b 1), .inl (cT 0, 256, .inl (k1))), ((b 4), .inl (cT 0, 8, .inl (k4))), ((b 5), .inl (cT 0, 8, .inl (k5))), ((a 0), .inl (cT 0, 16, .inl (f0))), ((d 0), .inl (cT 1, 2560, .inr (.inl (j0)))), ((d 4), .inl (cT 3, 2560, .inl (j4))), ((sh 0), .inl (cT 0, 256, .inl (u_1))), (h0, .inr (2, [.ref o, .int g1, .ref (b 0), .ref (b 1), .ref (b 2), .ref (b 3), .ref (b 4), .ref (b 5), .int g2, .int g3, .int g4])), (o, .inr (3, [.int p0, .int p1, .int p2, .int p3, .int p4, .int p5, .int p6, .int p7, .int p8, .int p9, .ref (a 0), .ref (a 1), .ref (a 2), .ref (a 3), .ref (a 4), .ref (a 5)])), ((sh 1), .inl (cT 0, 256, .inl (u_3))), ((a 1), .inl (cT 0, 16, .inl (f1))), ((a 2), .inl (cT 0, 16, .inl (f2))), ((sh 4), .inl (cT 0, 256, .inl (fillF (t4) 256 (0)))), (h1, .inr (7, [.ref (d 0), .ref (d 1), .ref (d 2), .ref (d 3), .ref (d 4), .ref (d 5), .ref (d 6), .int s7, .int s8, .int s9, .int s10])), ((d 6), .inl (cT 0, 10, .inl (j6)))] _ := hP
  have hD : va_D A [(h2, .inr (5, [.ref (sh 0), .ref (sh 1), .ref (sh 2), .ref (sh 3), .ref (sh 4)])), ((sh 2), .inl (cT 0, 16, .inl (t2))), ((sh 3), .inl (cT 0, 16, .inl (t3))), ((b 1), .inl (cT 0, 256, .inl (k1))), ((b 4), .inl (cT 0, 8, .inl (k4))), ((b 5), .inl (cT 0, 8, .inl (k5))), ((a 0), .inl (cT 0, 16, .inl (f0))), ((d 0), .inl (cT 1, 2560, .inr (.inl (j0)))), ((d 4), .inl (cT 3, 2560, .inl (j4))), ((sh 0), .inl (cT 0, 256, .inl (u_1))), (h0, .inr (2, [.ref o, .int g1, .ref (b 0), .ref (b 1), .ref (b 2), .ref (b 3), .ref (b 4), .ref (b 5), .int g2, .int g3, .int g4])), (o, .inr (3, [.int p0, .int p1, .int p2, .int p3, .int p4, .int p5, .int p6, .int p7, .int p8, .int p9, .ref (a 0), .ref (a 1), .ref (a 2), .ref (a 3), .ref (a 4), .ref (a 5)])), ((sh 1), .inl (cT 0, 256, .inl (u_3))), ((a 1), .inl (cT 0, 16, .inl (f1))), ((a 2), .inl (cT 0, 16, .inl (f2))), ((sh 4), .inl (cT 0, 256, .inl (fillF (t4) 256 (0)))), (h1, .inr (7, [.ref (d 0), .ref (d 1), .ref (d 2), .ref (d 3), .ref (d 4), .ref (d 5), .ref (d 6), .int s7, .int s8, .int s9, .int s10])), ((d 6), .inl (cT 0, 10, .inl (j6)))] := hD
  have qr_10_0 : 0 ≤ r_10.toInt ∧ r_10.toInt ≤ 2560 := hwr_10.1
  refine lv_istore (lv' := [(5, .int r_10), (4, .int r_8), (0, .ref h2), (1, .ref h0), (2, .ref h1), (3, .int x)]) hx hb dX5_seekAll_38 hl (by decide) rfl (fun ls hl => ?_)
  refine (fun (key : ∀ (n9_40 : Nat) (k9_40 : Int32) (f9_40_0 : Nat → Int32) (f9_40_1 : Nat → Int32) (f9_40_2 : Nat → Int32) (f9_40_3 : Nat → Int32) (f9_40_4 : Nat → Int32) (v9_40_5 : Int32) (H : Heap) (locs : List Loc) (ls : Array Slot), (0 ≤ k9_40.toInt ∧ k9_40.toInt ≤ 2560) → 2560 < k9_40.toInt + n9_40 → EL f9_40_3 8 0 15 → (0 ≤ v9_40_5.toInt ∧ v9_40_5.toInt ≤ 8) → va_P D classes [(h2, .inr (5, [.ref (sh 0), .ref (sh 1), .ref (sh 2), .ref (sh 3), .ref (sh 4)])), ((sh 2), .inl (cT 0, 16, .inl (f9_40_0))), ((sh 3), .inl (cT 0, 16, .inl (f9_40_1))), ((b 1), .inl (cT 0, 256, .inl (k1))), ((b 4), .inl (cT 0, 8, .inl (f9_40_3))), ((b 5), .inl (cT 0, 8, .inl (f9_40_4))), ((a 0), .inl (cT 0, 16, .inl (f0))), ((d 0), .inl (cT 1, 2560, .inr (.inl (j0)))), ((d 4), .inl (cT 3, 2560, .inl (j4))), ((sh 0), .inl (cT 0, 256, .inl (u_1))), (h0, .inr (2, [.ref o, .int g1, .ref (b 0), .ref (b 1), .ref (b 2), .ref (b 3), .ref (b 4), .ref (b 5), .int v9_40_5, .int g3, .int g4])), (o, .inr (3, [.int p0, .int p1, .int p2, .int p3, .int p4, .int p5, .int p6, .int p7, .int p8, .int p9, .ref (a 0), .ref (a 1), .ref (a 2), .ref (a 3), .ref (a 4), .ref (a 5)])), ((sh 1), .inl (cT 0, 256, .inl (u_3))), ((a 1), .inl (cT 0, 16, .inl (f1))), ((a 2), .inl (cT 0, 16, .inl (f2))), ((sh 4), .inl (cT 0, 256, .inl (f9_40_2))), (h1, .inr (7, [.ref (d 0), .ref (d 1), .ref (d 2), .ref (d 3), .ref (d 4), .ref (d 5), .ref (d 6), .int s7, .int s8, .int s9, .int s10])), ((d 6), .inl (cT 0, 10, .inl (j6)))] H → va_D A [(h2, .inr (5, [.ref (sh 0), .ref (sh 1), .ref (sh 2), .ref (sh 3), .ref (sh 4)])), ((sh 2), .inl (cT 0, 16, .inl (f9_40_0))), ((sh 3), .inl (cT 0, 16, .inl (f9_40_1))), ((b 1), .inl (cT 0, 256, .inl (k1))), ((b 4), .inl (cT 0, 8, .inl (f9_40_3))), ((b 5), .inl (cT 0, 8, .inl (f9_40_4))), ((a 0), .inl (cT 0, 16, .inl (f0))), ((d 0), .inl (cT 1, 2560, .inr (.inl (j0)))), ((d 4), .inl (cT 3, 2560, .inl (j4))), ((sh 0), .inl (cT 0, 256, .inl (u_1))), (h0, .inr (2, [.ref o, .int g1, .ref (b 0), .ref (b 1), .ref (b 2), .ref (b 3), .ref (b 4), .ref (b 5), .int v9_40_5, .int g3, .int g4])), (o, .inr (3, [.int p0, .int p1, .int p2, .int p3, .int p4, .int p5, .int p6, .int p7, .int p8, .int p9, .ref (a 0), .ref (a 1), .ref (a 2), .ref (a 3), .ref (a 4), .ref (a 5)])), ((sh 1), .inl (cT 0, 256, .inl (u_3))), ((a 1), .inl (cT 0, 16, .inl (f1))), ((a 2), .inl (cT 0, 16, .inl (f2))), ((sh 4), .inl (cT 0, 256, .inl (f9_40_2))), (h1, .inr (7, [.ref (d 0), .ref (d 1), .ref (d 2), .ref (d 3), .ref (d 4), .ref (d 5), .ref (d 6), .int s7, .int s8, .int s9, .int s10])), ((d 6), .inl (cT 0, 10, .inl (j6)))] → va_S A s.heap H locs → lv_has ls 6 [(5, .int k9_40), (4, .int r_8), (0, .ref h2), (1, .ref h0), (2, .ref h1), (3, .int x)] → W p l e _ s m _ below meth c H locs _ _ _ (F0 m 40 ls [])) => key (Int.toNat (2560 - r_10.toInt) + 1) (r_10) _ _ _ _ _ _ _ _ _ (by omega) (by omega) (by first | assumption | omega | decide | (simp only [ti_0, ti_1, ti_2, ti_3, ti_4, ti_5, ti_6, ti_7, ti_8, ti_9, ti_10, ti_11, ti_12, ti_m1]; omega)) (by first | assumption | omega | decide | (simp only [ti_0, ti_1, ti_2, ti_3, ti_4, ti_5, ti_6, ti_7, ti_8, ti_9, ti_10, ti_11, ti_12, ti_m1]; omega)) hP hD hS (lv_sub hl [0, 1, 2, 3, 4, 5] rfl)) ?_
  intro n9_40
  induction n9_40 with
  | zero => intro k9_40 f9_40_0 f9_40_1 f9_40_2 f9_40_3 f9_40_4 v9_40_5 H locs ls hq1 hq2; exact absurd hq2 (by omega)
  | succ n9_40 ih_40 =>
    intro k9_40 f9_40_0 f9_40_1 f9_40_2 f9_40_3 f9_40_4 v9_40_5 H locs ls hq1_40 hq2_40 h9_40_0 h9_40_1 hP hD hS hl
    refine lv_iload hx hb dX5_seekAll_40 (lv_at hl 0 rfl) ?_
    refine lv_iload hx hb dX5_seekAll_42 (lv_at hl 1 rfl) ?_
    refine lv_icmp_ge (tgt := 79) hx hb dX5_seekAll_44 (by decide) (fun c_11 => ?_) (fun c_11 => ?_)
    · have ic_11 : r_8.toInt ≤ k9_40.toInt := ile c_11 (rfl) (rfl)
      exact x_vret hx hb hr hlk hP hD hS [0, 9, 12, 1, 2, 15, 10, 11, 3, 4, 5, 6, 13, 14, 16, 7, 8, 17] ((u_1, u_3, f9_40_0, f9_40_1, f9_40_2, v9_40_5, f9_40_3, f9_40_4)) rfl (by decide) ⟨by (try dsimp only); first | assumption | omega | decide | exact Or.inl (by decide) | (intro h9; exact absurd h9 (by decide)) | (intro _; decide) | (simp only [ti_0, ti_1, ti_2, ti_3, ti_4, ti_5, ti_6, ti_7, ti_8, ti_9, ti_10, ti_11, ti_12, ti_m1]; omega) | (simp only [ti_0, ti_1, ti_2, ti_3, ti_4, ti_5, ti_6, ti_7, ti_8, ti_9, ti_10, ti_11, ti_12, ti_m1]; done), by (try dsimp only); first | assumption | omega | decide | exact Or.inl (by decide) | (intro h9; exact absurd h9 (by decide)) | (intro _; decide) | (simp only [ti_0, ti_1, ti_2, ti_3, ti_4, ti_5, ti_6, ti_7, ti_8, ti_9, ti_10, ti_11, ti_12, ti_m1]; omega) | (simp only [ti_0, ti_1, ti_2, ti_3, ti_4, ti_5, ti_6, ti_7, ti_8, ti_9, ti_10, ti_11, ti_12, ti_m1]; done), trivial⟩ (by decide) (by decide) dX5_seekAll_79
    · have ic_11 : k9_40.toInt < r_8.toInt := inle c_11 (rfl) (rfl)
      refine lv_aload_n hx hb dX5_seekAll_47 rfl (lv_at hl 4 rfl) ?_
      refine va_getN (D := D) (ci := 7) (v := .ref (d 4)) (C := RX7) (T := TX7) (N := 11) hx hb htg gRX7 hown hK hP 16 rfl rfl 4 (by decide) (va_Nw.use rfl (hN.1 _ ni_305)) (fun _ h9 => h9) rfl dX5_seekAll_48 ?_
      refine lv_iload hx hb dX5_seekAll_51 (lv_at hl 0 rfl) ?_
      refine va_zald hx hb hK hP 8 3 rfl rfl (vp_in_iff.mpr (by omega)) dX5_seekAll_53 ?_
      refine lv_topi (fun z_12 ez_12 => ?_)
      refine lv_if_ne (tgt := 73) hx hb dX5_seekAll_54 (by decide) (fun c_13 => ?_) (fun c_13 => ?_)
      · have ic_13 : ¬ z_12.toInt = 0 := ine c_13 (rfl) (by decide)
        obtain ⟨z_14, ez_14⟩ : ∃ w : Int32, w = k9_40 + 1 := ⟨_, rfl⟩
        have iz_14 : z_14.toInt = k9_40.toInt + 1 := toInt_addI ez_14 (rfl) (by decide) (by omega)
        refine lv_iinc (v := z_14) (lv' := [(5, .int z_14), (4, .int r_8), (0, .ref h2), (1, .ref h0), (2, .ref h1), (3, .int x)]) hx hb dX5_seekAll_73 hl (k := 0) rfl (by rw [ez_14]; rfl) (by decide) rfl (fun ls hl => ?_)
        refine lv_goto (tgt := 40) hx hb dX5_seekAll_76 (by decide) ?_
        exact ih_40 (z_14) _ _ _ _ _ _ _ _ _ (by omega) (by omega) (by first | assumption | omega | decide | (simp only [ti_0, ti_1, ti_2, ti_3, ti_4, ti_5, ti_6, ti_7, ti_8, ti_9, ti_10, ti_11, ti_12, ti_m1]; omega)) (by first | assumption | omega | decide | (simp only [ti_0, ti_1, ti_2, ti_3, ti_4, ti_5, ti_6, ti_7, ti_8, ti_9, ti_10, ti_11, ti_12, ti_m1]; omega)) (hP.sub [0, 1, 2, 3, 4, 5, 6, 7, 8, 9, 10, 11, 12, 13, 14, 15, 16, 17] rfl) (hD.sub [0, 1, 2, 3, 4, 5, 6, 7, 8, 9, 10, 11, 12, 13, 14, 15, 16, 17] (by decide) rfl) hS (lv_sub hl [0, 1, 2, 3, 4, 5] rfl)
      · have ic_13 : z_12.toInt = 0 := ieq c_13 (rfl) (by decide)
        refine lv_aload_n hx hb dX5_seekAll_57 rfl (lv_at hl 3 rfl) ?_
        refine lv_aload_n hx hb dX5_seekAll_58 rfl (lv_at hl 4 rfl) ?_
        refine va_getN (D := D) (ci := 7) (v := .ref (d 0)) (C := RX7) (T := TX7) (N := 11) hx hb htg gRX7 hown hK hP 16 rfl rfl 0 (by decide) (va_Nw.use rfl (hN.1 _ ni_296)) (fun _ h9 => h9) rfl dX5_seekAll_59 ?_
        refine lv_iload hx hb dX5_seekAll_62 (lv_at hl 0 rfl) ?_
        refine va_lald hx hb hK hP 7 1 rfl rfl (vp_in_iff.mpr (by omega)) dX5_seekAll_64 ?_
        refine lv_topl (fun z_15 ez_15 => ?_)
        refine xk_v (wr := [(h2, .inr (5, [.ref (sh 0), .ref (sh 1), .ref (sh 2), .ref (sh 3), .ref (sh 4)])), ((sh 2), .inl (cT 0, 16, .inl (f9_40_0))), ((sh 3), .inl (cT 0, 16, .inl (f9_40_1))), ((b 1), .inl (cT 0, 256, .inl (k1))), ((a 0), .inl (cT 0, 16, .inl (f0))), ((d 0), .inl (cT 1, 2560, .inr (.inl (j0)))), ((d 4), .inl (cT 3, 2560, .inl (j4))), ((sh 0), .inl (cT 0, 256, .inl (u_1))), (o, .inr (3, [.int p0, .int p1, .int p2, .int p3, .int p4, .int p5, .int p6, .int p7, .int p8, .int p9, .ref (a 0), .ref (a 1), .ref (a 2), .ref (a 3), .ref (a 4), .ref (a 5)])), ((sh 1), .inl (cT 0, 256, .inl (u_3))), ((a 1), .inl (cT 0, 16, .inl (f1))), ((a 2), .inl (cT 0, 16, .inl (f2))), ((sh 4), .inl (cT 0, 256, .inl (f9_40_2))), (h1, .inr (7, [.ref (d 0), .ref (d 1), .ref (d 2), .ref (d 3), .ref (d 4), .ref (d 5), .ref (d 6), .int s7, .int s8, .int s9, .int s10])), ((d 6), .inl (cT 0, 10, .inl (j6)))]) (xr_VN (n := 1) (As := [.long z_15]) (rest := []) ⟨hx, hb, hml, hown, htg⟩ hK hN hP hD hS hA [10, 4, 5] rfl (by decide) (g_open l D cT _ (h0) (o) (b) (g1) (v9_40_5) (g3) (g4) (f9_40_3) (f9_40_4) (by first | assumption | omega | decide | (simp only [ti_0, ti_1, ti_2, ti_3, ti_4, ti_5, ti_6, ti_7, ti_8, ti_9, ti_10, ti_11, ti_12, ti_m1]; omega)) (z_15)) ni_965 wi_899 wi_52 wi_126 wi_900 rfl rfl rfl ⟨rfl, by decide +kernel⟩ ⟨Nat.le_of_ble_eq_true rfl, Nat.le_of_ble_eq_true rfl⟩ rfl hl.1 rfl (Nat.le_of_ble_eq_true rfl) dX5_seekAll_65 ⟨Nat.le_of_ble_eq_true rfl, Nat.le_of_ble_eq_true rfl⟩) hP hD hS hA [10, 4, 5] [0, 1, 2, 3, 6, 7, 8, 9, 11, 12, 13, 14, 15, 16, 17] rfl rfl (by decide) (by decide) (fun u_16 H locs hwr_17 hP hD hS => ?_)
        have hP : va_P D classes [(h2, .inr (5, [.ref (sh 0), .ref (sh 1), .ref (sh 2), .ref (sh 3), .ref (sh 4)])), ((sh 2), .inl (cT 0, 16, .inl (f9_40_0))), ((sh 3), .inl (cT 0, 16, .inl (f9_40_1))), ((b 1), .inl (cT 0, 256, .inl (k1))), ((a 0), .inl (cT 0, 16, .inl (f0))), ((d 0), .inl (cT 1, 2560, .inr (.inl (j0)))), ((d 4), .inl (cT 3, 2560, .inl (j4))), ((sh 0), .inl (cT 0, 256, .inl (u_1))), (o, .inr (3, [.int p0, .int p1, .int p2, .int p3, .int p4, .int p5, .int p6, .int p7, .int p8, .int p9, .ref (a 0), .ref (a 1), .ref (a 2), .ref (a 3), .ref (a 4), .ref (a 5)])), ((sh 1), .inl (cT 0, 256, .inl (u_3))), ((a 1), .inl (cT 0, 16, .inl (f1))), ((a 2), .inl (cT 0, 16, .inl (f2))), ((sh 4), .inl (cT 0, 256, .inl (f9_40_2))), (h1, .inr (7, [.ref (d 0), .ref (d 1), .ref (d 2), .ref (d 3), .ref (d 4), .ref (d 5), .ref (d 6), .int s7, .int s8, .int s9, .int s10])), ((d 6), .inl (cT 0, 10, .inl (j6))), (h0, .inr (2, [.ref o, .int g1, .ref (b 0), .ref (b 1), .ref (b 2), .ref (b 3), .ref (b 4), .ref (b 5), .int u_16.1, .int g3, .int g4])), ((b 4), .inl (cT 0, 8, .inl (u_16.2.1))), ((b 5), .inl (cT 0, 8, .inl (u_16.2.2)))] _ := hP
        have hD : va_D A [(h2, .inr (5, [.ref (sh 0), .ref (sh 1), .ref (sh 2), .ref (sh 3), .ref (sh 4)])), ((sh 2), .inl (cT 0, 16, .inl (f9_40_0))), ((sh 3), .inl (cT 0, 16, .inl (f9_40_1))), ((b 1), .inl (cT 0, 256, .inl (k1))), ((a 0), .inl (cT 0, 16, .inl (f0))), ((d 0), .inl (cT 1, 2560, .inr (.inl (j0)))), ((d 4), .inl (cT 3, 2560, .inl (j4))), ((sh 0), .inl (cT 0, 256, .inl (u_1))), (o, .inr (3, [.int p0, .int p1, .int p2, .int p3, .int p4, .int p5, .int p6, .int p7, .int p8, .int p9, .ref (a 0), .ref (a 1), .ref (a 2), .ref (a 3), .ref (a 4), .ref (a 5)])), ((sh 1), .inl (cT 0, 256, .inl (u_3))), ((a 1), .inl (cT 0, 16, .inl (f1))), ((a 2), .inl (cT 0, 16, .inl (f2))), ((sh 4), .inl (cT 0, 256, .inl (f9_40_2))), (h1, .inr (7, [.ref (d 0), .ref (d 1), .ref (d 2), .ref (d 3), .ref (d 4), .ref (d 5), .ref (d 6), .int s7, .int s8, .int s9, .int s10])), ((d 6), .inl (cT 0, 10, .inl (j6))), (h0, .inr (2, [.ref o, .int g1, .ref (b 0), .ref (b 1), .ref (b 2), .ref (b 3), .ref (b 4), .ref (b 5), .int u_16.1, .int g3, .int g4])), ((b 4), .inl (cT 0, 8, .inl (u_16.2.1))), ((b 5), .inl (cT 0, 8, .inl (u_16.2.2)))] := hD
        have qr_17_0 : 0 ≤ u_16.1.toInt ∧ u_16.1.toInt ≤ 8 := hwr_17.1
        have qr_17_1 : EL u_16.2.1 8 0 15 := hwr_17.2.1
        refine lv_aload_n hx hb dX5_seekAll_68 rfl (lv_at hl 2 rfl) ?_
        refine lv_aload_n hx hb dX5_seekAll_69 rfl (lv_at hl 3 rfl) ?_
        refine xk_v (wr := [((d 0), .inl (cT 1, 2560, .inr (.inl (j0)))), ((d 4), .inl (cT 3, 2560, .inl (j4))), ((a 1), .inl (cT 0, 16, .inl (f1))), ((a 2), .inl (cT 0, 16, .inl (f2))), (h1, .inr (7, [.ref (d 0), .ref (d 1), .ref (d 2), .ref (d 3), .ref (d 4), .ref (d 5), .ref (d 6), .int s7, .int s8, .int s9, .int s10])), ((d 6), .inl (cT 0, 10, .inl (j6)))]) (xr_V (n := 1) (As := [.ref h0]) (rest := []) ⟨hx, hb, hml, hown, htg⟩ hK hN hP hD hS hA [0, 7, 9, 1, 2, 12, 15, 8, 3, 16, 17, 4] rfl (by decide) (g_weigh l D cT _ (h2) (sh) (u_1) (u_3) (f9_40_0) (f9_40_1) (f9_40_2) (h0) (o) (b) (g1) (u_16.1) (g3) (g4) (by first | assumption | omega | decide | (simp only [ti_0, ti_1, ti_2, ti_3, ti_4, ti_5, ti_6, ti_7, ti_8, ti_9, ti_10, ti_11, ti_12, ti_m1]; omega)) (by first | assumption | omega | decide | (simp only [ti_0, ti_1, ti_2, ti_3, ti_4, ti_5, ti_6, ti_7, ti_8, ti_9, ti_10, ti_11, ti_12, ti_m1]; omega)) (a) (p0) (p1) (p2) (p3) (p4) (p5) (p6) (p7) (p8) (p9) (by first | assumption | omega | decide | (simp only [ti_0, ti_1, ti_2, ti_3, ti_4, ti_5, ti_6, ti_7, ti_8, ti_9, ti_10, ti_11, ti_12, ti_m1]; omega)) (k1) (u_16.2.1) (u_16.2.2) (by first | assumption | omega | decide | (simp only [ti_0, ti_1, ti_2, ti_3, ti_4, ti_5, ti_6, ti_7, ti_8, ti_9, ti_10, ti_11, ti_12, ti_m1]; omega)) (f0)) wi_966 wi_968 wi_61 wi_127 wi_969 rfl rfl rfl ⟨rfl, by decide +kernel⟩ ⟨Nat.le_of_ble_eq_true rfl, Nat.le_of_ble_eq_true rfl⟩ rfl hl.1 rfl (Nat.le_of_ble_eq_true rfl) dX5_seekAll_70 ⟨Nat.le_of_ble_eq_true rfl, Nat.le_of_ble_eq_true rfl⟩) hP hD hS hA [0, 7, 9, 1, 2, 12, 15, 8, 3, 16, 17, 4] [5, 6, 10, 11, 13, 14] rfl rfl (by decide) (by decide) (fun u_18 H locs hwr_19 hP hD hS => ?_)
        have hP : va_P D classes [((d 0), .inl (cT 1, 2560, .inr (.inl (j0)))), ((d 4), .inl (cT 3, 2560, .inl (j4))), ((a 1), .inl (cT 0, 16, .inl (f1))), ((a 2), .inl (cT 0, 16, .inl (f2))), (h1, .inr (7, [.ref (d 0), .ref (d 1), .ref (d 2), .ref (d 3), .ref (d 4), .ref (d 5), .ref (d 6), .int s7, .int s8, .int s9, .int s10])), ((d 6), .inl (cT 0, 10, .inl (j6))), (h2, .inr (5, [.ref (sh 0), .ref (sh 1), .ref (sh 2), .ref (sh 3), .ref (sh 4)])), ((sh 0), .inl (cT 0, 256, .inl (u_1))), ((sh 1), .inl (cT 0, 256, .inl (u_3))), ((sh 2), .inl (cT 0, 16, .inl (u_18.1))), ((sh 3), .inl (cT 0, 16, .inl (u_18.2.1))), ((sh 4), .inl (cT 0, 256, .inl (u_18.2.2))), (h0, .inr (2, [.ref o, .int g1, .ref (b 0), .ref (b 1), .ref (b 2), .ref (b 3), .ref (b 4), .ref (b 5), .int u_16.1, .int g3, .int g4])), (o, .inr (3, [.int p0, .int p1, .int p2, .int p3, .int p4, .int p5, .int p6, .int p7, .int p8, .int p9, .ref (a 0), .ref (a 1), .ref (a 2), .ref (a 3), .ref (a 4), .ref (a 5)])), ((b 1), .inl (cT 0, 256, .inl (k1))), ((b 4), .inl (cT 0, 8, .inl (u_16.2.1))), ((b 5), .inl (cT 0, 8, .inl (u_16.2.2))), ((a 0), .inl (cT 0, 16, .inl (f0)))] _ := hP
        have hD : va_D A [((d 0), .inl (cT 1, 2560, .inr (.inl (j0)))), ((d 4), .inl (cT 3, 2560, .inl (j4))), ((a 1), .inl (cT 0, 16, .inl (f1))), ((a 2), .inl (cT 0, 16, .inl (f2))), (h1, .inr (7, [.ref (d 0), .ref (d 1), .ref (d 2), .ref (d 3), .ref (d 4), .ref (d 5), .ref (d 6), .int s7, .int s8, .int s9, .int s10])), ((d 6), .inl (cT 0, 10, .inl (j6))), (h2, .inr (5, [.ref (sh 0), .ref (sh 1), .ref (sh 2), .ref (sh 3), .ref (sh 4)])), ((sh 0), .inl (cT 0, 256, .inl (u_1))), ((sh 1), .inl (cT 0, 256, .inl (u_3))), ((sh 2), .inl (cT 0, 16, .inl (u_18.1))), ((sh 3), .inl (cT 0, 16, .inl (u_18.2.1))), ((sh 4), .inl (cT 0, 256, .inl (u_18.2.2))), (h0, .inr (2, [.ref o, .int g1, .ref (b 0), .ref (b 1), .ref (b 2), .ref (b 3), .ref (b 4), .ref (b 5), .int u_16.1, .int g3, .int g4])), (o, .inr (3, [.int p0, .int p1, .int p2, .int p3, .int p4, .int p5, .int p6, .int p7, .int p8, .int p9, .ref (a 0), .ref (a 1), .ref (a 2), .ref (a 3), .ref (a 4), .ref (a 5)])), ((b 1), .inl (cT 0, 256, .inl (k1))), ((b 4), .inl (cT 0, 8, .inl (u_16.2.1))), ((b 5), .inl (cT 0, 8, .inl (u_16.2.2))), ((a 0), .inl (cT 0, 16, .inl (f0)))] := hD
        obtain ⟨z_20, ez_20⟩ : ∃ w : Int32, w = k9_40 + 1 := ⟨_, rfl⟩
        have iz_20 : z_20.toInt = k9_40.toInt + 1 := toInt_addI ez_20 (rfl) (by decide) (by omega)
        refine lv_iinc (v := z_20) (lv' := [(5, .int z_20), (4, .int r_8), (0, .ref h2), (1, .ref h0), (2, .ref h1), (3, .int x)]) hx hb dX5_seekAll_73 hl (k := 0) rfl (by rw [ez_20]; rfl) (by decide) rfl (fun ls hl => ?_)
        refine lv_goto (tgt := 40) hx hb dX5_seekAll_76 (by decide) ?_
        exact ih_40 (z_20) _ _ _ _ _ _ _ _ _ (by omega) (by omega) (by first | assumption | omega | decide | (simp only [ti_0, ti_1, ti_2, ti_3, ti_4, ti_5, ti_6, ti_7, ti_8, ti_9, ti_10, ti_11, ti_12, ti_m1]; omega)) (by first | assumption | omega | decide | (simp only [ti_0, ti_1, ti_2, ti_3, ti_4, ti_5, ti_6, ti_7, ti_8, ti_9, ti_10, ti_11, ti_12, ti_m1]; omega)) (hP.sub [6, 9, 10, 14, 15, 16, 17, 0, 1, 7, 12, 13, 8, 2, 3, 11, 4, 5] rfl) (hD.sub [6, 9, 10, 14, 15, 16, 17, 0, 1, 7, 12, 13, 8, 2, 3, 11, 4, 5] (by decide) rfl) hS (lv_sub hl [0, 1, 2, 3, 4, 5] rfl)
set_option maxHeartbeats 4000000 in
set_option maxRecDepth 100000 in
theorem g_ntz (l : Launch) (D : va_G) (cT : Nat → ClassId) (sz : Nat) (x : Int32) : Met l yJ6_numberOfTrailingZeros_0f7a4 (wsc yJ6_numberOfTrailingZeros_0f7a4 cJ6_numberOfTrailingZeros_0f7a4 2 (some .int)) { frames := 2, cells := 0, slots := 0, locals := 100 } (va_Pc [.int x] (PX D cT sz [])) (va_Qi (fun (r : Int32) (u : Unit) => (0 ≤ r.toInt ∧ r.toInt ≤ 2147483647) ∧ (True)) (fun u t => RW D (va_A [] sz) ((fun _ : Unit => []) u) t) (va_A [] sz)) 0 0 (va_A [] sz) := by
  refine m_of (y := yJ6_numberOfTrailingZeros_0f7a4) (cc := cJ6_numberOfTrailingZeros_0f7a4) (nL := 2) (ret := (some .int)) (D := D) (cT := cT) (av := [.int x]) (wi := []) (fun A => va_Qi (fun (r : Int32) (u : Unit) => (0 ≤ r.toInt ∧ r.toInt ≤ 2147483647) ∧ (True)) (fun u t => RW D A ((fun _ : Unit => []) u) t) A) (by decide) (Nat.le_of_ble_eq_true rfl) ?_
  intro p e s m below meth c A hx hb hml hown htg hK hN hr hlk hnm hsz hP hD hS hA ls hl
  have hown : s.vm.findClass RJ6 = some m.cls := hown
  have hl : lv_has ls 2 [(0, .int x)] := hl
  refine lv_iload_n hx hb dJ6_numberOfTrailingZeros_0f7a4_0 rfl (lv_at hl 0 rfl) ?_
  refine lv_iconst (v := (-1)) hx hb dJ6_numberOfTrailingZeros_0f7a4_1 (by decide) ?_
  refine lv_ixor hx hb dJ6_numberOfTrailingZeros_0f7a4_2 ?_
  refine lv_topi (fun z_1 ez_1 => ?_)
  refine lv_iload_n hx hb dJ6_numberOfTrailingZeros_0f7a4_3 rfl (lv_at hl 0 rfl) ?_
  refine lv_iconst (v := 1) hx hb dJ6_numberOfTrailingZeros_0f7a4_4 (by decide) ?_
  refine lv_isub hx hb dJ6_numberOfTrailingZeros_0f7a4_5 ?_
  refine lv_topi (fun z_2 ez_2 => ?_)
  refine lv_iand hx hb dJ6_numberOfTrailingZeros_0f7a4_6 ?_
  refine lv_topi (fun z_3 ez_3 => ?_)
  refine lv_istore_n (lv' := [(0, .int z_3)]) hx hb dJ6_numberOfTrailingZeros_0f7a4_7 rfl hl (by decide) rfl (fun ls hl => ?_)
  refine lv_iload_n hx hb dJ6_numberOfTrailingZeros_0f7a4_8 rfl (lv_at hl 0 rfl) ?_
  refine lv_if_gt (tgt := 17) hx hb dJ6_numberOfTrailingZeros_0f7a4_9 (by decide) (fun c_4 => ?_) (fun c_4 => ?_)
  · have ic_4 : 0 < z_3.toInt := ilt c_4 (by decide) (rfl)
    refine lv_iconst (v := 1) hx hb dJ6_numberOfTrailingZeros_0f7a4_17 (by decide) ?_
    refine lv_istore_n (lv' := [(1, .int 1), (0, .int z_3)]) hx hb dJ6_numberOfTrailingZeros_0f7a4_18 rfl hl (by decide) rfl (fun ls hl => ?_)
    refine lv_iload_n hx hb dJ6_numberOfTrailingZeros_0f7a4_19 rfl (lv_at hl 1 rfl) ?_
    refine lv_ldcw (v := 65536) hx hb hown (htg _ wi_1029) dJ6_numberOfTrailingZeros_0f7a4_20 ?_
    refine lv_icmp_le (tgt := 34) hx hb dJ6_numberOfTrailingZeros_0f7a4_23 (by decide) (fun c_5 => ?_) (fun c_5 => ?_)
    · have ic_5 : z_3.toInt ≤ 65536 := ile c_5 (rfl) (by decide)
      refine lv_iload_n hx hb dJ6_numberOfTrailingZeros_0f7a4_34 rfl (lv_at hl 1 rfl) ?_
      refine lv_sipush (v := 256) hx hb dJ6_numberOfTrailingZeros_0f7a4_35 (by decide) ?_
      refine lv_icmp_le (tgt := 49) hx hb dJ6_numberOfTrailingZeros_0f7a4_38 (by decide) (fun c_6 => ?_) (fun c_6 => ?_)
      · have ic_6 : z_3.toInt ≤ 256 := ile c_6 (rfl) (by decide)
        refine lv_iload_n hx hb dJ6_numberOfTrailingZeros_0f7a4_49 rfl (lv_at hl 1 rfl) ?_
        refine lv_bipush (v := 16) hx hb dJ6_numberOfTrailingZeros_0f7a4_50 (by decide) ?_
        refine lv_icmp_le (tgt := 62) hx hb dJ6_numberOfTrailingZeros_0f7a4_52 (by decide) (fun c_7 => ?_) (fun c_7 => ?_)
        · have ic_7 : z_3.toInt ≤ 16 := ile c_7 (rfl) (by decide)
          refine lv_iload_n hx hb dJ6_numberOfTrailingZeros_0f7a4_62 rfl (lv_at hl 1 rfl) ?_
          refine lv_iconst (v := 4) hx hb dJ6_numberOfTrailingZeros_0f7a4_63 (by decide) ?_
          refine lv_icmp_le (tgt := 74) hx hb dJ6_numberOfTrailingZeros_0f7a4_64 (by decide) (fun c_8 => ?_) (fun c_8 => ?_)
          · have ic_8 : z_3.toInt ≤ 4 := ile c_8 (rfl) (by decide)
            refine lv_iload_n hx hb dJ6_numberOfTrailingZeros_0f7a4_74 rfl (lv_at hl 0 rfl) ?_
            refine lv_iload_n hx hb dJ6_numberOfTrailingZeros_0f7a4_75 rfl (lv_at hl 1 rfl) ?_
            refine lv_iconst (v := 1) hx hb dJ6_numberOfTrailingZeros_0f7a4_76 (by decide) ?_
            obtain ⟨z_9, ez_9⟩ : ∃ w : Int32, w = (z_3.toUInt32 >>> ((1 : Int32).toUInt32 &&& Int32.toUInt32 31)).toInt32 := ⟨_, rfl⟩
            refine lv_iushr (v := z_9) hx hb dJ6_numberOfTrailingZeros_0f7a4_77 ez_9.symm ?_
            have iz_9 : 0 ≤ z_9.toInt ∧ z_9.toInt ≤ 2147483647 := ushrI (k := 1) ez_9 (by decide) (by decide) (by decide)
            have jz_9 : 0 ≤ z_3.toInt → z_9.toInt = z_3.toInt / 2 := ushrQ (k := 1) ez_9 (rfl) (by decide) (by decide)
            refine lv_iadd hx hb dJ6_numberOfTrailingZeros_0f7a4_78 ?_
            refine lv_topi (fun z_10 ez_10 => ?_)
            have iz_10 : z_10.toInt = 1 + z_9.toInt := toInt_addI ez_10 (by decide) (rfl) (by omega)
            exact x_iret hx hb hr hlk hP hD hS [] (()) rfl (by decide) ⟨by (try dsimp only); first | assumption | omega | decide | exact Or.inl (by decide) | (intro h9; exact absurd h9 (by decide)) | (intro _; decide) | (simp only [ti_0, ti_1, ti_2, ti_3, ti_4, ti_5, ti_6, ti_7, ti_8, ti_9, ti_10, ti_11, ti_12, ti_m1]; omega) | (simp only [ti_0, ti_1, ti_2, ti_3, ti_4, ti_5, ti_6, ti_7, ti_8, ti_9, ti_10, ti_11, ti_12, ti_m1]; done), trivial⟩ (by decide) (by decide) dJ6_numberOfTrailingZeros_0f7a4_79
          · have ic_8 : 4 < z_3.toInt := inle c_8 (rfl) (by decide)
            refine lv_iinc (v := 3) (lv' := [(1, .int 3), (0, .int z_3)]) hx hb dJ6_numberOfTrailingZeros_0f7a4_67 hl (k := 0) rfl (by decide) (by decide) rfl (fun ls hl => ?_)
            refine lv_iload_n hx hb dJ6_numberOfTrailingZeros_0f7a4_70 rfl (lv_at hl 1 rfl) ?_
            refine lv_iconst (v := 2) hx hb dJ6_numberOfTrailingZeros_0f7a4_71 (by decide) ?_
            obtain ⟨z_11, ez_11⟩ : ∃ w : Int32, w = (z_3.toUInt32 >>> ((2 : Int32).toUInt32 &&& Int32.toUInt32 31)).toInt32 := ⟨_, rfl⟩
            refine lv_iushr (v := z_11) hx hb dJ6_numberOfTrailingZeros_0f7a4_72 ez_11.symm ?_
            have iz_11 : 0 ≤ z_11.toInt ∧ z_11.toInt ≤ 1073741823 := ushrI (k := 2) ez_11 (by decide) (by decide) (by decide)
            have jz_11 : 0 ≤ z_3.toInt → z_11.toInt = z_3.toInt / 4 := ushrQ (k := 2) ez_11 (rfl) (by decide) (by decide)
            refine lv_istore_n (lv' := [(0, .int z_11), (1, .int 3)]) hx hb dJ6_numberOfTrailingZeros_0f7a4_73 rfl hl (by decide) rfl (fun ls hl => ?_)
            refine lv_iload_n hx hb dJ6_numberOfTrailingZeros_0f7a4_74 rfl (lv_at hl 1 rfl) ?_
            refine lv_iload_n hx hb dJ6_numberOfTrailingZeros_0f7a4_75 rfl (lv_at hl 0 rfl) ?_
            refine lv_iconst (v := 1) hx hb dJ6_numberOfTrailingZeros_0f7a4_76 (by decide) ?_
            obtain ⟨z_12, ez_12⟩ : ∃ w : Int32, w = (z_11.toUInt32 >>> ((1 : Int32).toUInt32 &&& Int32.toUInt32 31)).toInt32 := ⟨_, rfl⟩
            refine lv_iushr (v := z_12) hx hb dJ6_numberOfTrailingZeros_0f7a4_77 ez_12.symm ?_
            have iz_12 : 0 ≤ z_12.toInt ∧ z_12.toInt ≤ 2147483647 := ushrI (k := 1) ez_12 (by decide) (by decide) (by decide)
            have jz_12 : 0 ≤ z_11.toInt → z_12.toInt = z_11.toInt / 2 := ushrQ (k := 1) ez_12 (rfl) (by decide) (by decide)
            refine lv_iadd hx hb dJ6_numberOfTrailingZeros_0f7a4_78 ?_
            refine lv_topi (fun z_13 ez_13 => ?_)
            have iz_13 : z_13.toInt = 3 + z_12.toInt := toInt_addI ez_13 (by decide) (rfl) (by omega)
            exact x_iret hx hb hr hlk hP hD hS [] (()) rfl (by decide) ⟨by (try dsimp only); first | assumption | omega | decide | exact Or.inl (by decide) | (intro h9; exact absurd h9 (by decide)) | (intro _; decide) | (simp only [ti_0, ti_1, ti_2, ti_3, ti_4, ti_5, ti_6, ti_7, ti_8, ti_9, ti_10, ti_11, ti_12, ti_m1]; omega) | (simp only [ti_0, ti_1, ti_2, ti_3, ti_4, ti_5, ti_6, ti_7, ti_8, ti_9, ti_10, ti_11, ti_12, ti_m1]; done), trivial⟩ (by decide) (by decide) dJ6_numberOfTrailingZeros_0f7a4_79
        · have ic_7 : 16 < z_3.toInt := inle c_7 (rfl) (by decide)
          refine lv_iinc (v := 5) (lv' := [(1, .int 5), (0, .int z_3)]) hx hb dJ6_numberOfTrailingZeros_0f7a4_55 hl (k := 0) rfl (by decide) (by decide) rfl (fun ls hl => ?_)
          refine lv_iload_n hx hb dJ6_numberOfTrailingZeros_0f7a4_58 rfl (lv_at hl 1 rfl) ?_
          refine lv_iconst (v := 4) hx hb dJ6_numberOfTrailingZeros_0f7a4_59 (by decide) ?_
          obtain ⟨z_14, ez_14⟩ : ∃ w : Int32, w = (z_3.toUInt32 >>> ((4 : Int32).toUInt32 &&& Int32.toUInt32 31)).toInt32 := ⟨_, rfl⟩
          refine lv_iushr (v := z_14) hx hb dJ6_numberOfTrailingZeros_0f7a4_60 ez_14.symm ?_
          have iz_14 : 0 ≤ z_14.toInt ∧ z_14.toInt ≤ 268435455 := ushrI (k := 4) ez_14 (by decide) (by decide) (by decide)
          have jz_14 : 0 ≤ z_3.toInt → z_14.toInt = z_3.toInt / 16 := ushrQ (k := 4) ez_14 (rfl) (by decide) (by decide)
          refine lv_istore_n (lv' := [(0, .int z_14), (1, .int 5)]) hx hb dJ6_numberOfTrailingZeros_0f7a4_61 rfl hl (by decide) rfl (fun ls hl => ?_)
          refine lv_iload_n hx hb dJ6_numberOfTrailingZeros_0f7a4_62 rfl (lv_at hl 0 rfl) ?_
          refine lv_iconst (v := 4) hx hb dJ6_numberOfTrailingZeros_0f7a4_63 (by decide) ?_
          refine lv_icmp_le (tgt := 74) hx hb dJ6_numberOfTrailingZeros_0f7a4_64 (by decide) (fun c_15 => ?_) (fun c_15 => ?_)
          · have ic_15 : z_14.toInt ≤ 4 := ile c_15 (rfl) (by decide)
            refine lv_iload_n hx hb dJ6_numberOfTrailingZeros_0f7a4_74 rfl (lv_at hl 1 rfl) ?_
            refine lv_iload_n hx hb dJ6_numberOfTrailingZeros_0f7a4_75 rfl (lv_at hl 0 rfl) ?_
            refine lv_iconst (v := 1) hx hb dJ6_numberOfTrailingZeros_0f7a4_76 (by decide) ?_
            obtain ⟨z_16, ez_16⟩ : ∃ w : Int32, w = (z_14.toUInt32 >>> ((1 : Int32).toUInt32 &&& Int32.toUInt32 31)).toInt32 := ⟨_, rfl⟩
            refine lv_iushr (v := z_16) hx hb dJ6_numberOfTrailingZeros_0f7a4_77 ez_16.symm ?_
            have iz_16 : 0 ≤ z_16.toInt ∧ z_16.toInt ≤ 2147483647 := ushrI (k := 1) ez_16 (by decide) (by decide) (by decide)
            have jz_16 : 0 ≤ z_14.toInt → z_16.toInt = z_14.toInt / 2 := ushrQ (k := 1) ez_16 (rfl) (by decide) (by decide)
            refine lv_iadd hx hb dJ6_numberOfTrailingZeros_0f7a4_78 ?_
            refine lv_topi (fun z_17 ez_17 => ?_)
            have iz_17 : z_17.toInt = 5 + z_16.toInt := toInt_addI ez_17 (by decide) (rfl) (by omega)
            exact x_iret hx hb hr hlk hP hD hS [] (()) rfl (by decide) ⟨by (try dsimp only); first | assumption | omega | decide | exact Or.inl (by decide) | (intro h9; exact absurd h9 (by decide)) | (intro _; decide) | (simp only [ti_0, ti_1, ti_2, ti_3, ti_4, ti_5, ti_6, ti_7, ti_8, ti_9, ti_10, ti_11, ti_12, ti_m1]; omega) | (simp only [ti_0, ti_1, ti_2, ti_3, ti_4, ti_5, ti_6, ti_7, ti_8, ti_9, ti_10, ti_11, ti_12, ti_m1]; done), trivial⟩ (by decide) (by decide) dJ6_numberOfTrailingZeros_0f7a4_79
          · have ic_15 : 4 < z_14.toInt := inle c_15 (rfl) (by decide)
            refine lv_iinc (v := 7) (lv' := [(1, .int 7), (0, .int z_14)]) hx hb dJ6_numberOfTrailingZeros_0f7a4_67 hl (k := 1) rfl (by decide) (by decide) rfl (fun ls hl => ?_)
            refine lv_iload_n hx hb dJ6_numberOfTrailingZeros_0f7a4_70 rfl (lv_at hl 1 rfl) ?_
            refine lv_iconst (v := 2) hx hb dJ6_numberOfTrailingZeros_0f7a4_71 (by decide) ?_
            obtain ⟨z_18, ez_18⟩ : ∃ w : Int32, w = (z_14.toUInt32 >>> ((2 : Int32).toUInt32 &&& Int32.toUInt32 31)).toInt32 := ⟨_, rfl⟩
            refine lv_iushr (v := z_18) hx hb dJ6_numberOfTrailingZeros_0f7a4_72 ez_18.symm ?_
            have iz_18 : 0 ≤ z_18.toInt ∧ z_18.toInt ≤ 1073741823 := ushrI (k := 2) ez_18 (by decide) (by decide) (by decide)
            have jz_18 : 0 ≤ z_14.toInt → z_18.toInt = z_14.toInt / 4 := ushrQ (k := 2) ez_18 (rfl) (by decide) (by decide)
            refine lv_istore_n (lv' := [(0, .int z_18), (1, .int 7)]) hx hb dJ6_numberOfTrailingZeros_0f7a4_73 rfl hl (by decide) rfl (fun ls hl => ?_)
            refine lv_iload_n hx hb dJ6_numberOfTrailingZeros_0f7a4_74 rfl (lv_at hl 1 rfl) ?_
            refine lv_iload_n hx hb dJ6_numberOfTrailingZeros_0f7a4_75 rfl (lv_at hl 0 rfl) ?_
            refine lv_iconst (v := 1) hx hb dJ6_numberOfTrailingZeros_0f7a4_76 (by decide) ?_
            obtain ⟨z_19, ez_19⟩ : ∃ w : Int32, w = (z_18.toUInt32 >>> ((1 : Int32).toUInt32 &&& Int32.toUInt32 31)).toInt32 := ⟨_, rfl⟩
            refine lv_iushr (v := z_19) hx hb dJ6_numberOfTrailingZeros_0f7a4_77 ez_19.symm ?_
            have iz_19 : 0 ≤ z_19.toInt ∧ z_19.toInt ≤ 2147483647 := ushrI (k := 1) ez_19 (by decide) (by decide) (by decide)
            have jz_19 : 0 ≤ z_18.toInt → z_19.toInt = z_18.toInt / 2 := ushrQ (k := 1) ez_19 (rfl) (by decide) (by decide)
            refine lv_iadd hx hb dJ6_numberOfTrailingZeros_0f7a4_78 ?_
            refine lv_topi (fun z_20 ez_20 => ?_)
            have iz_20 : z_20.toInt = 7 + z_19.toInt := toInt_addI ez_20 (by decide) (rfl) (by omega)
            exact x_iret hx hb hr hlk hP hD hS [] (()) rfl (by decide) ⟨by (try dsimp only); first | assumption | omega | decide | exact Or.inl (by decide) | (intro h9; exact absurd h9 (by decide)) | (intro _; decide) | (simp only [ti_0, ti_1, ti_2, ti_3, ti_4, ti_5, ti_6, ti_7, ti_8, ti_9, ti_10, ti_11, ti_12, ti_m1]; omega) | (simp only [ti_0, ti_1, ti_2, ti_3, ti_4, ti_5, ti_6, ti_7, ti_8, ti_9, ti_10, ti_11, ti_12, ti_m1]; done), trivial⟩ (by decide) (by decide) dJ6_numberOfTrailingZeros_0f7a4_79
      · have ic_6 : 256 < z_3.toInt := inle c_6 (rfl) (by decide)
        refine lv_iinc (v := 9) (lv' := [(1, .int 9), (0, .int z_3)]) hx hb dJ6_numberOfTrailingZeros_0f7a4_41 hl (k := 0) rfl (by decide) (by decide) rfl (fun ls hl => ?_)
        refine lv_iload_n hx hb dJ6_numberOfTrailingZeros_0f7a4_44 rfl (lv_at hl 1 rfl) ?_
        refine lv_bipush (v := 8) hx hb dJ6_numberOfTrailingZeros_0f7a4_45 (by decide) ?_
        obtain ⟨z_21, ez_21⟩ : ∃ w : Int32, w = (z_3.toUInt32 >>> ((8 : Int32).toUInt32 &&& Int32.toUInt32 31)).toInt32 := ⟨_, rfl⟩
        refine lv_iushr (v := z_21) hx hb dJ6_numberOfTrailingZeros_0f7a4_47 ez_21.symm ?_
        have iz_21 : 0 ≤ z_21.toInt ∧ z_21.toInt ≤ 16777215 := ushrI (k := 8) ez_21 (by decide) (by decide) (by decide)
        have jz_21 : 0 ≤ z_3.toInt → z_21.toInt = z_3.toInt / 256 := ushrQ (k := 8) ez_21 (rfl) (by decide) (by decide)
        refine lv_istore_n (lv' := [(0, .int z_21), (1, .int 9)]) hx hb dJ6_numberOfTrailingZeros_0f7a4_48 rfl hl (by decide) rfl (fun ls hl => ?_)
        refine lv_iload_n hx hb dJ6_numberOfTrailingZeros_0f7a4_49 rfl (lv_at hl 0 rfl) ?_
        refine lv_bipush (v := 16) hx hb dJ6_numberOfTrailingZeros_0f7a4_50 (by decide) ?_
        refine lv_icmp_le (tgt := 62) hx hb dJ6_numberOfTrailingZeros_0f7a4_52 (by decide) (fun c_22 => ?_) (fun c_22 => ?_)
        · have ic_22 : z_21.toInt ≤ 16 := ile c_22 (rfl) (by decide)
          refine lv_iload_n hx hb dJ6_numberOfTrailingZeros_0f7a4_62 rfl (lv_at hl 0 rfl) ?_
          refine lv_iconst (v := 4) hx hb dJ6_numberOfTrailingZeros_0f7a4_63 (by decide) ?_
          refine lv_icmp_le (tgt := 74) hx hb dJ6_numberOfTrailingZeros_0f7a4_64 (by decide) (fun c_23 => ?_) (fun c_23 => ?_)
          · have ic_23 : z_21.toInt ≤ 4 := ile c_23 (rfl) (by decide)
            refine lv_iload_n hx hb dJ6_numberOfTrailingZeros_0f7a4_74 rfl (lv_at hl 1 rfl) ?_
            refine lv_iload_n hx hb dJ6_numberOfTrailingZeros_0f7a4_75 rfl (lv_at hl 0 rfl) ?_
            refine lv_iconst (v := 1) hx hb dJ6_numberOfTrailingZeros_0f7a4_76 (by decide) ?_
            obtain ⟨z_24, ez_24⟩ : ∃ w : Int32, w = (z_21.toUInt32 >>> ((1 : Int32).toUInt32 &&& Int32.toUInt32 31)).toInt32 := ⟨_, rfl⟩
            refine lv_iushr (v := z_24) hx hb dJ6_numberOfTrailingZeros_0f7a4_77 ez_24.symm ?_
            have iz_24 : 0 ≤ z_24.toInt ∧ z_24.toInt ≤ 2147483647 := ushrI (k := 1) ez_24 (by decide) (by decide) (by decide)
            have jz_24 : 0 ≤ z_21.toInt → z_24.toInt = z_21.toInt / 2 := ushrQ (k := 1) ez_24 (rfl) (by decide) (by decide)
            refine lv_iadd hx hb dJ6_numberOfTrailingZeros_0f7a4_78 ?_
            refine lv_topi (fun z_25 ez_25 => ?_)
            have iz_25 : z_25.toInt = 9 + z_24.toInt := toInt_addI ez_25 (by decide) (rfl) (by omega)
            exact x_iret hx hb hr hlk hP hD hS [] (()) rfl (by decide) ⟨by (try dsimp only); first | assumption | omega | decide | exact Or.inl (by decide) | (intro h9; exact absurd h9 (by decide)) | (intro _; decide) | (simp only [ti_0, ti_1, ti_2, ti_3, ti_4, ti_5, ti_6, ti_7, ti_8, ti_9, ti_10, ti_11, ti_12, ti_m1]; omega) | (simp only [ti_0, ti_1, ti_2, ti_3, ti_4, ti_5, ti_6, ti_7, ti_8, ti_9, ti_10, ti_11, ti_12, ti_m1]; done), trivial⟩ (by decide) (by decide) dJ6_numberOfTrailingZeros_0f7a4_79
          · have ic_23 : 4 < z_21.toInt := inle c_23 (rfl) (by decide)
            refine lv_iinc (v := 11) (lv' := [(1, .int 11), (0, .int z_21)]) hx hb dJ6_numberOfTrailingZeros_0f7a4_67 hl (k := 1) rfl (by decide) (by decide) rfl (fun ls hl => ?_)
            refine lv_iload_n hx hb dJ6_numberOfTrailingZeros_0f7a4_70 rfl (lv_at hl 1 rfl) ?_
            refine lv_iconst (v := 2) hx hb dJ6_numberOfTrailingZeros_0f7a4_71 (by decide) ?_
            obtain ⟨z_26, ez_26⟩ : ∃ w : Int32, w = (z_21.toUInt32 >>> ((2 : Int32).toUInt32 &&& Int32.toUInt32 31)).toInt32 := ⟨_, rfl⟩
            refine lv_iushr (v := z_26) hx hb dJ6_numberOfTrailingZeros_0f7a4_72 ez_26.symm ?_
            have iz_26 : 0 ≤ z_26.toInt ∧ z_26.toInt ≤ 1073741823 := ushrI (k := 2) ez_26 (by decide) (by decide) (by decide)
            have jz_26 : 0 ≤ z_21.toInt → z_26.toInt = z_21.toInt / 4 := ushrQ (k := 2) ez_26 (rfl) (by decide) (by decide)
            refine lv_istore_n (lv' := [(0, .int z_26), (1, .int 11)]) hx hb dJ6_numberOfTrailingZeros_0f7a4_73 rfl hl (by decide) rfl (fun ls hl => ?_)
            refine lv_iload_n hx hb dJ6_numberOfTrailingZeros_0f7a4_74 rfl (lv_at hl 1 rfl) ?_
            refine lv_iload_n hx hb dJ6_numberOfTrailingZeros_0f7a4_75 rfl (lv_at hl 0 rfl) ?_
            refine lv_iconst (v := 1) hx hb dJ6_numberOfTrailingZeros_0f7a4_76 (by decide) ?_
            obtain ⟨z_27, ez_27⟩ : ∃ w : Int32, w = (z_26.toUInt32 >>> ((1 : Int32).toUInt32 &&& Int32.toUInt32 31)).toInt32 := ⟨_, rfl⟩
            refine lv_iushr (v := z_27) hx hb dJ6_numberOfTrailingZeros_0f7a4_77 ez_27.symm ?_
            have iz_27 : 0 ≤ z_27.toInt ∧ z_27.toInt ≤ 2147483647 := ushrI (k := 1) ez_27 (by decide) (by decide) (by decide)
            have jz_27 : 0 ≤ z_26.toInt → z_27.toInt = z_26.toInt / 2 := ushrQ (k := 1) ez_27 (rfl) (by decide) (by decide)
            refine lv_iadd hx hb dJ6_numberOfTrailingZeros_0f7a4_78 ?_
            refine lv_topi (fun z_28 ez_28 => ?_)
            have iz_28 : z_28.toInt = 11 + z_27.toInt := toInt_addI ez_28 (by decide) (rfl) (by omega)
            exact x_iret hx hb hr hlk hP hD hS [] (()) rfl (by decide) ⟨by (try dsimp only); first | assumption | omega | decide | exact Or.inl (by decide) | (intro h9; exact absurd h9 (by decide)) | (intro _; decide) | (simp only [ti_0, ti_1, ti_2, ti_3, ti_4, ti_5, ti_6, ti_7, ti_8, ti_9, ti_10, ti_11, ti_12, ti_m1]; omega) | (simp only [ti_0, ti_1, ti_2, ti_3, ti_4, ti_5, ti_6, ti_7, ti_8, ti_9, ti_10, ti_11, ti_12, ti_m1]; done), trivial⟩ (by decide) (by decide) dJ6_numberOfTrailingZeros_0f7a4_79
        · have ic_22 : 16 < z_21.toInt := inle c_22 (rfl) (by decide)
          refine lv_iinc (v := 13) (lv' := [(1, .int 13), (0, .int z_21)]) hx hb dJ6_numberOfTrailingZeros_0f7a4_55 hl (k := 1) rfl (by decide) (by decide) rfl (fun ls hl => ?_)
          refine lv_iload_n hx hb dJ6_numberOfTrailingZeros_0f7a4_58 rfl (lv_at hl 1 rfl) ?_
          refine lv_iconst (v := 4) hx hb dJ6_numberOfTrailingZeros_0f7a4_59 (by decide) ?_
          obtain ⟨z_29, ez_29⟩ : ∃ w : Int32, w = (z_21.toUInt32 >>> ((4 : Int32).toUInt32 &&& Int32.toUInt32 31)).toInt32 := ⟨_, rfl⟩
          refine lv_iushr (v := z_29) hx hb dJ6_numberOfTrailingZeros_0f7a4_60 ez_29.symm ?_
          have iz_29 : 0 ≤ z_29.toInt ∧ z_29.toInt ≤ 268435455 := ushrI (k := 4) ez_29 (by decide) (by decide) (by decide)
          have jz_29 : 0 ≤ z_21.toInt → z_29.toInt = z_21.toInt / 16 := ushrQ (k := 4) ez_29 (rfl) (by decide) (by decide)
          refine lv_istore_n (lv' := [(0, .int z_29), (1, .int 13)]) hx hb dJ6_numberOfTrailingZeros_0f7a4_61 rfl hl (by decide) rfl (fun ls hl => ?_)
          refine lv_iload_n hx hb dJ6_numberOfTrailingZeros_0f7a4_62 rfl (lv_at hl 0 rfl) ?_
          refine lv_iconst (v := 4) hx hb dJ6_numberOfTrailingZeros_0f7a4_63 (by decide) ?_
          refine lv_icmp_le (tgt := 74) hx hb dJ6_numberOfTrailingZeros_0f7a4_64 (by decide) (fun c_30 => ?_) (fun c_30 => ?_)
          · have ic_30 : z_29.toInt ≤ 4 := ile c_30 (rfl) (by decide)
            refine lv_iload_n hx hb dJ6_numberOfTrailingZeros_0f7a4_74 rfl (lv_at hl 1 rfl) ?_
            refine lv_iload_n hx hb dJ6_numberOfTrailingZeros_0f7a4_75 rfl (lv_at hl 0 rfl) ?_
            refine lv_iconst (v := 1) hx hb dJ6_numberOfTrailingZeros_0f7a4_76 (by decide) ?_
            obtain ⟨z_31, ez_31⟩ : ∃ w : Int32, w = (z_29.toUInt32 >>> ((1 : Int32).toUInt32 &&& Int32.toUInt32 31)).toInt32 := ⟨_, rfl⟩
            refine lv_iushr (v := z_31) hx hb dJ6_numberOfTrailingZeros_0f7a4_77 ez_31.symm ?_
            have iz_31 : 0 ≤ z_31.toInt ∧ z_31.toInt ≤ 2147483647 := ushrI (k := 1) ez_31 (by decide) (by decide) (by decide)
            have jz_31 : 0 ≤ z_29.toInt → z_31.toInt = z_29.toInt / 2 := ushrQ (k := 1) ez_31 (rfl) (by decide) (by decide)
            refine lv_iadd hx hb dJ6_numberOfTrailingZeros_0f7a4_78 ?_
            refine lv_topi (fun z_32 ez_32 => ?_)
            have iz_32 : z_32.toInt = 13 + z_31.toInt := toInt_addI ez_32 (by decide) (rfl) (by omega)
            exact x_iret hx hb hr hlk hP hD hS [] (()) rfl (by decide) ⟨by (try dsimp only); first | assumption | omega | decide | exact Or.inl (by decide) | (intro h9; exact absurd h9 (by decide)) | (intro _; decide) | (simp only [ti_0, ti_1, ti_2, ti_3, ti_4, ti_5, ti_6, ti_7, ti_8, ti_9, ti_10, ti_11, ti_12, ti_m1]; omega) | (simp only [ti_0, ti_1, ti_2, ti_3, ti_4, ti_5, ti_6, ti_7, ti_8, ti_9, ti_10, ti_11, ti_12, ti_m1]; done), trivial⟩ (by decide) (by decide) dJ6_numberOfTrailingZeros_0f7a4_79
          · have ic_30 : 4 < z_29.toInt := inle c_30 (rfl) (by decide)
            refine lv_iinc (v := 15) (lv' := [(1, .int 15), (0, .int z_29)]) hx hb dJ6_numberOfTrailingZeros_0f7a4_67 hl (k := 1) rfl (by decide) (by decide) rfl (fun ls hl => ?_)
            refine lv_iload_n hx hb dJ6_numberOfTrailingZeros_0f7a4_70 rfl (lv_at hl 1 rfl) ?_
            refine lv_iconst (v := 2) hx hb dJ6_numberOfTrailingZeros_0f7a4_71 (by decide) ?_
            obtain ⟨z_33, ez_33⟩ : ∃ w : Int32, w = (z_29.toUInt32 >>> ((2 : Int32).toUInt32 &&& Int32.toUInt32 31)).toInt32 := ⟨_, rfl⟩
            refine lv_iushr (v := z_33) hx hb dJ6_numberOfTrailingZeros_0f7a4_72 ez_33.symm ?_
            have iz_33 : 0 ≤ z_33.toInt ∧ z_33.toInt ≤ 1073741823 := ushrI (k := 2) ez_33 (by decide) (by decide) (by decide)
            have jz_33 : 0 ≤ z_29.toInt → z_33.toInt = z_29.toInt / 4 := ushrQ (k := 2) ez_33 (rfl) (by decide) (by decide)
            refine lv_istore_n (lv' := [(0, .int z_33), (1, .int 15)]) hx hb dJ6_numberOfTrailingZeros_0f7a4_73 rfl hl (by decide) rfl (fun ls hl => ?_)
            refine lv_iload_n hx hb dJ6_numberOfTrailingZeros_0f7a4_74 rfl (lv_at hl 1 rfl) ?_
            refine lv_iload_n hx hb dJ6_numberOfTrailingZeros_0f7a4_75 rfl (lv_at hl 0 rfl) ?_
            refine lv_iconst (v := 1) hx hb dJ6_numberOfTrailingZeros_0f7a4_76 (by decide) ?_
            obtain ⟨z_34, ez_34⟩ : ∃ w : Int32, w = (z_33.toUInt32 >>> ((1 : Int32).toUInt32 &&& Int32.toUInt32 31)).toInt32 := ⟨_, rfl⟩
            refine lv_iushr (v := z_34) hx hb dJ6_numberOfTrailingZeros_0f7a4_77 ez_34.symm ?_
            have iz_34 : 0 ≤ z_34.toInt ∧ z_34.toInt ≤ 2147483647 := ushrI (k := 1) ez_34 (by decide) (by decide) (by decide)
            have jz_34 : 0 ≤ z_33.toInt → z_34.toInt = z_33.toInt / 2 := ushrQ (k := 1) ez_34 (rfl) (by decide) (by decide)
            refine lv_iadd hx hb dJ6_numberOfTrailingZeros_0f7a4_78 ?_
            refine lv_topi (fun z_35 ez_35 => ?_)
            have iz_35 : z_35.toInt = 15 + z_34.toInt := toInt_addI ez_35 (by decide) (rfl) (by omega)
            exact x_iret hx hb hr hlk hP hD hS [] (()) rfl (by decide) ⟨by (try dsimp only); first | assumption | omega | decide | exact Or.inl (by decide) | (intro h9; exact absurd h9 (by decide)) | (intro _; decide) | (simp only [ti_0, ti_1, ti_2, ti_3, ti_4, ti_5, ti_6, ti_7, ti_8, ti_9, ti_10, ti_11, ti_12, ti_m1]; omega) | (simp only [ti_0, ti_1, ti_2, ti_3, ti_4, ti_5, ti_6, ti_7, ti_8, ti_9, ti_10, ti_11, ti_12, ti_m1]; done), trivial⟩ (by decide) (by decide) dJ6_numberOfTrailingZeros_0f7a4_79
    · have ic_5 : 65536 < z_3.toInt := inle c_5 (rfl) (by decide)
      refine lv_iinc (v := 17) (lv' := [(1, .int 17), (0, .int z_3)]) hx hb dJ6_numberOfTrailingZeros_0f7a4_26 hl (k := 0) rfl (by decide) (by decide) rfl (fun ls hl => ?_)
      refine lv_iload_n hx hb dJ6_numberOfTrailingZeros_0f7a4_29 rfl (lv_at hl 1 rfl) ?_
      refine lv_bipush (v := 16) hx hb dJ6_numberOfTrailingZeros_0f7a4_30 (by decide) ?_
      obtain ⟨z_36, ez_36⟩ : ∃ w : Int32, w = (z_3.toUInt32 >>> ((16 : Int32).toUInt32 &&& Int32.toUInt32 31)).toInt32 := ⟨_, rfl⟩
      refine lv_iushr (v := z_36) hx hb dJ6_numberOfTrailingZeros_0f7a4_32 ez_36.symm ?_
      have iz_36 : 0 ≤ z_36.toInt ∧ z_36.toInt ≤ 65535 := ushrI (k := 16) ez_36 (by decide) (by decide) (by decide)
      have jz_36 : 0 ≤ z_3.toInt → z_36.toInt = z_3.toInt / 65536 := ushrQ (k := 16) ez_36 (rfl) (by decide) (by decide)
      refine lv_istore_n (lv' := [(0, .int z_36), (1, .int 17)]) hx hb dJ6_numberOfTrailingZeros_0f7a4_33 rfl hl (by decide) rfl (fun ls hl => ?_)
      refine lv_iload_n hx hb dJ6_numberOfTrailingZeros_0f7a4_34 rfl (lv_at hl 0 rfl) ?_
      refine lv_sipush (v := 256) hx hb dJ6_numberOfTrailingZeros_0f7a4_35 (by decide) ?_
      refine lv_icmp_le (tgt := 49) hx hb dJ6_numberOfTrailingZeros_0f7a4_38 (by decide) (fun c_37 => ?_) (fun c_37 => ?_)
      · have ic_37 : z_36.toInt ≤ 256 := ile c_37 (rfl) (by decide)
        refine lv_iload_n hx hb dJ6_numberOfTrailingZeros_0f7a4_49 rfl (lv_at hl 0 rfl) ?_
        refine lv_bipush (v := 16) hx hb dJ6_numberOfTrailingZeros_0f7a4_50 (by decide) ?_
        refine lv_icmp_le (tgt := 62) hx hb dJ6_numberOfTrailingZeros_0f7a4_52 (by decide) (fun c_38 => ?_) (fun c_38 => ?_)
        · have ic_38 : z_36.toInt ≤ 16 := ile c_38 (rfl) (by decide)
          refine lv_iload_n hx hb dJ6_numberOfTrailingZeros_0f7a4_62 rfl (lv_at hl 0 rfl) ?_
          refine lv_iconst (v := 4) hx hb dJ6_numberOfTrailingZeros_0f7a4_63 (by decide) ?_
          refine lv_icmp_le (tgt := 74) hx hb dJ6_numberOfTrailingZeros_0f7a4_64 (by decide) (fun c_39 => ?_) (fun c_39 => ?_)
          · have ic_39 : z_36.toInt ≤ 4 := ile c_39 (rfl) (by decide)
            refine lv_iload_n hx hb dJ6_numberOfTrailingZeros_0f7a4_74 rfl (lv_at hl 1 rfl) ?_
            refine lv_iload_n hx hb dJ6_numberOfTrailingZeros_0f7a4_75 rfl (lv_at hl 0 rfl) ?_
            refine lv_iconst (v := 1) hx hb dJ6_numberOfTrailingZeros_0f7a4_76 (by decide) ?_
            obtain ⟨z_40, ez_40⟩ : ∃ w : Int32, w = (z_36.toUInt32 >>> ((1 : Int32).toUInt32 &&& Int32.toUInt32 31)).toInt32 := ⟨_, rfl⟩
            refine lv_iushr (v := z_40) hx hb dJ6_numberOfTrailingZeros_0f7a4_77 ez_40.symm ?_
            have iz_40 : 0 ≤ z_40.toInt ∧ z_40.toInt ≤ 2147483647 := ushrI (k := 1) ez_40 (by decide) (by decide) (by decide)
            have jz_40 : 0 ≤ z_36.toInt → z_40.toInt = z_36.toInt / 2 := ushrQ (k := 1) ez_40 (rfl) (by decide) (by decide)
            refine lv_iadd hx hb dJ6_numberOfTrailingZeros_0f7a4_78 ?_
            refine lv_topi (fun z_41 ez_41 => ?_)
            have iz_41 : z_41.toInt = 17 + z_40.toInt := toInt_addI ez_41 (by decide) (rfl) (by omega)
            exact x_iret hx hb hr hlk hP hD hS [] (()) rfl (by decide) ⟨by (try dsimp only); first | assumption | omega | decide | exact Or.inl (by decide) | (intro h9; exact absurd h9 (by decide)) | (intro _; decide) | (simp only [ti_0, ti_1, ti_2, ti_3, ti_4, ti_5, ti_6, ti_7, ti_8, ti_9, ti_10, ti_11, ti_12, ti_m1]; omega) | (simp only [ti_0, ti_1, ti_2, ti_3, ti_4, ti_5, ti_6, ti_7, ti_8, ti_9, ti_10, ti_11, ti_12, ti_m1]; done), trivial⟩ (by decide) (by decide) dJ6_numberOfTrailingZeros_0f7a4_79
          · have ic_39 : 4 < z_36.toInt := inle c_39 (rfl) (by decide)
            refine lv_iinc (v := 19) (lv' := [(1, .int 19), (0, .int z_36)]) hx hb dJ6_numberOfTrailingZeros_0f7a4_67 hl (k := 1) rfl (by decide) (by decide) rfl (fun ls hl => ?_)
            refine lv_iload_n hx hb dJ6_numberOfTrailingZeros_0f7a4_70 rfl (lv_at hl 1 rfl) ?_
            refine lv_iconst (v := 2) hx hb dJ6_numberOfTrailingZeros_0f7a4_71 (by decide) ?_
            obtain ⟨z_42, ez_42⟩ : ∃ w : Int32, w = (z_36.toUInt32 >>> ((2 : Int32).toUInt32 &&& Int32.toUInt32 31)).toInt32 := ⟨_, rfl⟩
            refine lv_iushr (v := z_42) hx hb dJ6_numberOfTrailingZeros_0f7a4_72 ez_42.symm ?_
            have iz_42 : 0 ≤ z_42.toInt ∧ z_42.toInt ≤ 1073741823 := ushrI (k := 2) ez_42 (by decide) (by decide) (by decide)
            have jz_42 : 0 ≤ z_36.toInt → z_42.toInt = z_36.toInt / 4 := ushrQ (k := 2) ez_42 (rfl) (by decide) (by decide)
            refine lv_istore_n (lv' := [(0, .int z_42), (1, .int 19)]) hx hb dJ6_numberOfTrailingZeros_0f7a4_73 rfl hl (by decide) rfl (fun ls hl => ?_)
            refine lv_iload_n hx hb dJ6_numberOfTrailingZeros_0f7a4_74 rfl (lv_at hl 1 rfl) ?_
            refine lv_iload_n hx hb dJ6_numberOfTrailingZeros_0f7a4_75 rfl (lv_at hl 0 rfl) ?_
            refine lv_iconst (v := 1) hx hb dJ6_numberOfTrailingZeros_0f7a4_76 (by decide) ?_
            obtain ⟨z_43, ez_43⟩ : ∃ w : Int32, w = (z_42.toUInt32 >>> ((1 : Int32).toUInt32 &&& Int32.toUInt32 31)).toInt32 := ⟨_, rfl⟩
            refine lv_iushr (v := z_43) hx hb dJ6_numberOfTrailingZeros_0f7a4_77 ez_43.symm ?_
            have iz_43 : 0 ≤ z_43.toInt ∧ z_43.toInt ≤ 2147483647 := ushrI (k := 1) ez_43 (by decide) (by decide) (by decide)
            have jz_43 : 0 ≤ z_42.toInt → z_43.toInt = z_42.toInt / 2 := ushrQ (k := 1) ez_43 (rfl) (by decide) (by decide)
            refine lv_iadd hx hb dJ6_numberOfTrailingZeros_0f7a4_78 ?_
            refine lv_topi (fun z_44 ez_44 => ?_)
            have iz_44 : z_44.toInt = 19 + z_43.toInt := toInt_addI ez_44 (by decide) (rfl) (by omega)
            exact x_iret hx hb hr hlk hP hD hS [] (()) rfl (by decide) ⟨by (try dsimp only); first | assumption | omega | decide | exact Or.inl (by decide) | (intro h9; exact absurd h9 (by decide)) | (intro _; decide) | (simp only [ti_0, ti_1, ti_2, ti_3, ti_4, ti_5, ti_6, ti_7, ti_8, ti_9, ti_10, ti_11, ti_12, ti_m1]; omega) | (simp only [ti_0, ti_1, ti_2, ti_3, ti_4, ti_5, ti_6, ti_7, ti_8, ti_9, ti_10, ti_11, ti_12, ti_m1]; done), trivial⟩ (by decide) (by decide) dJ6_numberOfTrailingZeros_0f7a4_79
        · have ic_38 : 16 < z_36.toInt := inle c_38 (rfl) (by decide)
          refine lv_iinc (v := 21) (lv' := [(1, .int 21), (0, .int z_36)]) hx hb dJ6_numberOfTrailingZeros_0f7a4_55 hl (k := 1) rfl (by decide) (by decide) rfl (fun ls hl => ?_)
          refine lv_iload_n hx hb dJ6_numberOfTrailingZeros_0f7a4_58 rfl (lv_at hl 1 rfl) ?_
          refine lv_iconst (v := 4) hx hb dJ6_numberOfTrailingZeros_0f7a4_59 (by decide) ?_
          obtain ⟨z_45, ez_45⟩ : ∃ w : Int32, w = (z_36.toUInt32 >>> ((4 : Int32).toUInt32 &&& Int32.toUInt32 31)).toInt32 := ⟨_, rfl⟩
          refine lv_iushr (v := z_45) hx hb dJ6_numberOfTrailingZeros_0f7a4_60 ez_45.symm ?_
          have iz_45 : 0 ≤ z_45.toInt ∧ z_45.toInt ≤ 268435455 := ushrI (k := 4) ez_45 (by decide) (by decide) (by decide)
          have jz_45 : 0 ≤ z_36.toInt → z_45.toInt = z_36.toInt / 16 := ushrQ (k := 4) ez_45 (rfl) (by decide) (by decide)
          refine lv_istore_n (lv' := [(0, .int z_45), (1, .int 21)]) hx hb dJ6_numberOfTrailingZeros_0f7a4_61 rfl hl (by decide) rfl (fun ls hl => ?_)
          refine lv_iload_n hx hb dJ6_numberOfTrailingZeros_0f7a4_62 rfl (lv_at hl 0 rfl) ?_
          refine lv_iconst (v := 4) hx hb dJ6_numberOfTrailingZeros_0f7a4_63 (by decide) ?_
          refine lv_icmp_le (tgt := 74) hx hb dJ6_numberOfTrailingZeros_0f7a4_64 (by decide) (fun c_46 => ?_) (fun c_46 => ?_)
          · have ic_46 : z_45.toInt ≤ 4 := ile c_46 (rfl) (by decide)
            refine lv_iload_n hx hb dJ6_numberOfTrailingZeros_0f7a4_74 rfl (lv_at hl 1 rfl) ?_
            refine lv_iload_n hx hb dJ6_numberOfTrailingZeros_0f7a4_75 rfl (lv_at hl 0 rfl) ?_
            refine lv_iconst (v := 1) hx hb dJ6_numberOfTrailingZeros_0f7a4_76 (by decide) ?_
            obtain ⟨z_47, ez_47⟩ : ∃ w : Int32, w = (z_45.toUInt32 >>> ((1 : Int32).toUInt32 &&& Int32.toUInt32 31)).toInt32 := ⟨_, rfl⟩
            refine lv_iushr (v := z_47) hx hb dJ6_numberOfTrailingZeros_0f7a4_77 ez_47.symm ?_
            have iz_47 : 0 ≤ z_47.toInt ∧ z_47.toInt ≤ 2147483647 := ushrI (k := 1) ez_47 (by decide) (by decide) (by decide)
            have jz_47 : 0 ≤ z_45.toInt → z_47.toInt = z_45.toInt / 2 := ushrQ (k := 1) ez_47 (rfl) (by decide) (by decide)
            refine lv_iadd hx hb dJ6_numberOfTrailingZeros_0f7a4_78 ?_
            refine lv_topi (fun z_48 ez_48 => ?_)
            have iz_48 : z_48.toInt = 21 + z_47.toInt := toInt_addI ez_48 (by decide) (rfl) (by omega)
            exact x_iret hx hb hr hlk hP hD hS [] (()) rfl (by decide) ⟨by (try dsimp only); first | assumption | omega | decide | exact Or.inl (by decide) | (intro h9; exact absurd h9 (by decide)) | (intro _; decide) | (simp only [ti_0, ti_1, ti_2, ti_3, ti_4, ti_5, ti_6, ti_7, ti_8, ti_9, ti_10, ti_11, ti_12, ti_m1]; omega) | (simp only [ti_0, ti_1, ti_2, ti_3, ti_4, ti_5, ti_6, ti_7, ti_8, ti_9, ti_10, ti_11, ti_12, ti_m1]; done), trivial⟩ (by decide) (by decide) dJ6_numberOfTrailingZeros_0f7a4_79
          · have ic_46 : 4 < z_45.toInt := inle c_46 (rfl) (by decide)
            refine lv_iinc (v := 23) (lv' := [(1, .int 23), (0, .int z_45)]) hx hb dJ6_numberOfTrailingZeros_0f7a4_67 hl (k := 1) rfl (by decide) (by decide) rfl (fun ls hl => ?_)
            refine lv_iload_n hx hb dJ6_numberOfTrailingZeros_0f7a4_70 rfl (lv_at hl 1 rfl) ?_
            refine lv_iconst (v := 2) hx hb dJ6_numberOfTrailingZeros_0f7a4_71 (by decide) ?_
            obtain ⟨z_49, ez_49⟩ : ∃ w : Int32, w = (z_45.toUInt32 >>> ((2 : Int32).toUInt32 &&& Int32.toUInt32 31)).toInt32 := ⟨_, rfl⟩
            refine lv_iushr (v := z_49) hx hb dJ6_numberOfTrailingZeros_0f7a4_72 ez_49.symm ?_
            have iz_49 : 0 ≤ z_49.toInt ∧ z_49.toInt ≤ 1073741823 := ushrI (k := 2) ez_49 (by decide) (by decide) (by decide)
            have jz_49 : 0 ≤ z_45.toInt → z_49.toInt = z_45.toInt / 4 := ushrQ (k := 2) ez_49 (rfl) (by decide) (by decide)
            refine lv_istore_n (lv' := [(0, .int z_49), (1, .int 23)]) hx hb dJ6_numberOfTrailingZeros_0f7a4_73 rfl hl (by decide) rfl (fun ls hl => ?_)
            refine lv_iload_n hx hb dJ6_numberOfTrailingZeros_0f7a4_74 rfl (lv_at hl 1 rfl) ?_
            refine lv_iload_n hx hb dJ6_numberOfTrailingZeros_0f7a4_75 rfl (lv_at hl 0 rfl) ?_
            refine lv_iconst (v := 1) hx hb dJ6_numberOfTrailingZeros_0f7a4_76 (by decide) ?_
            obtain ⟨z_50, ez_50⟩ : ∃ w : Int32, w = (z_49.toUInt32 >>> ((1 : Int32).toUInt32 &&& Int32.toUInt32 31)).toInt32 := ⟨_, rfl⟩
            refine lv_iushr (v := z_50) hx hb dJ6_numberOfTrailingZeros_0f7a4_77 ez_50.symm ?_
            have iz_50 : 0 ≤ z_50.toInt ∧ z_50.toInt ≤ 2147483647 := ushrI (k := 1) ez_50 (by decide) (by decide) (by decide)
            have jz_50 : 0 ≤ z_49.toInt → z_50.toInt = z_49.toInt / 2 := ushrQ (k := 1) ez_50 (rfl) (by decide) (by decide)
            refine lv_iadd hx hb dJ6_numberOfTrailingZeros_0f7a4_78 ?_
            refine lv_topi (fun z_51 ez_51 => ?_)
            have iz_51 : z_51.toInt = 23 + z_50.toInt := toInt_addI ez_51 (by decide) (rfl) (by omega)
            exact x_iret hx hb hr hlk hP hD hS [] (()) rfl (by decide) ⟨by (try dsimp only); first | assumption | omega | decide | exact Or.inl (by decide) | (intro h9; exact absurd h9 (by decide)) | (intro _; decide) | (simp only [ti_0, ti_1, ti_2, ti_3, ti_4, ti_5, ti_6, ti_7, ti_8, ti_9, ti_10, ti_11, ti_12, ti_m1]; omega) | (simp only [ti_0, ti_1, ti_2, ti_3, ti_4, ti_5, ti_6, ti_7, ti_8, ti_9, ti_10, ti_11, ti_12, ti_m1]; done), trivial⟩ (by decide) (by decide) dJ6_numberOfTrailingZeros_0f7a4_79
      · have ic_37 : 256 < z_36.toInt := inle c_37 (rfl) (by decide)
        refine lv_iinc (v := 25) (lv' := [(1, .int 25), (0, .int z_36)]) hx hb dJ6_numberOfTrailingZeros_0f7a4_41 hl (k := 1) rfl (by decide) (by decide) rfl (fun ls hl => ?_)
        refine lv_iload_n hx hb dJ6_numberOfTrailingZeros_0f7a4_44 rfl (lv_at hl 1 rfl) ?_
        refine lv_bipush (v := 8) hx hb dJ6_numberOfTrailingZeros_0f7a4_45 (by decide) ?_
        obtain ⟨z_52, ez_52⟩ : ∃ w : Int32, w = (z_36.toUInt32 >>> ((8 : Int32).toUInt32 &&& Int32.toUInt32 31)).toInt32 := ⟨_, rfl⟩
        refine lv_iushr (v := z_52) hx hb dJ6_numberOfTrailingZeros_0f7a4_47 ez_52.symm ?_
        have iz_52 : 0 ≤ z_52.toInt ∧ z_52.toInt ≤ 16777215 := ushrI (k := 8) ez_52 (by decide) (by decide) (by decide)
        have jz_52 : 0 ≤ z_36.toInt → z_52.toInt = z_36.toInt / 256 := ushrQ (k := 8) ez_52 (rfl) (by decide) (by decide)
        refine lv_istore_n (lv' := [(0, .int z_52), (1, .int 25)]) hx hb dJ6_numberOfTrailingZeros_0f7a4_48 rfl hl (by decide) rfl (fun ls hl => ?_)
        refine lv_iload_n hx hb dJ6_numberOfTrailingZeros_0f7a4_49 rfl (lv_at hl 0 rfl) ?_
        refine lv_bipush (v := 16) hx hb dJ6_numberOfTrailingZeros_0f7a4_50 (by decide) ?_
        refine lv_icmp_le (tgt := 62) hx hb dJ6_numberOfTrailingZeros_0f7a4_52 (by decide) (fun c_53 => ?_) (fun c_53 => ?_)
        · have ic_53 : z_52.toInt ≤ 16 := ile c_53 (rfl) (by decide)
          refine lv_iload_n hx hb dJ6_numberOfTrailingZeros_0f7a4_62 rfl (lv_at hl 0 rfl) ?_
          refine lv_iconst (v := 4) hx hb dJ6_numberOfTrailingZeros_0f7a4_63 (by decide) ?_
          refine lv_icmp_le (tgt := 74) hx hb dJ6_numberOfTrailingZeros_0f7a4_64 (by decide) (fun c_54 => ?_) (fun c_54 => ?_)
          · have ic_54 : z_52.toInt ≤ 4 := ile c_54 (rfl) (by decide)
            refine lv_iload_n hx hb dJ6_numberOfTrailingZeros_0f7a4_74 rfl (lv_at hl 1 rfl) ?_
            refine lv_iload_n hx hb dJ6_numberOfTrailingZeros_0f7a4_75 rfl (lv_at hl 0 rfl) ?_
            refine lv_iconst (v := 1) hx hb dJ6_numberOfTrailingZeros_0f7a4_76 (by decide) ?_
            obtain ⟨z_55, ez_55⟩ : ∃ w : Int32, w = (z_52.toUInt32 >>> ((1 : Int32).toUInt32 &&& Int32.toUInt32 31)).toInt32 := ⟨_, rfl⟩
            refine lv_iushr (v := z_55) hx hb dJ6_numberOfTrailingZeros_0f7a4_77 ez_55.symm ?_
            have iz_55 : 0 ≤ z_55.toInt ∧ z_55.toInt ≤ 2147483647 := ushrI (k := 1) ez_55 (by decide) (by decide) (by decide)
            have jz_55 : 0 ≤ z_52.toInt → z_55.toInt = z_52.toInt / 2 := ushrQ (k := 1) ez_55 (rfl) (by decide) (by decide)
            refine lv_iadd hx hb dJ6_numberOfTrailingZeros_0f7a4_78 ?_
            refine lv_topi (fun z_56 ez_56 => ?_)
            have iz_56 : z_56.toInt = 25 + z_55.toInt := toInt_addI ez_56 (by decide) (rfl) (by omega)
            exact x_iret hx hb hr hlk hP hD hS [] (()) rfl (by decide) ⟨by (try dsimp only); first | assumption | omega | decide | exact Or.inl (by decide) | (intro h9; exact absurd h9 (by decide)) | (intro _; decide) | (simp only [ti_0, ti_1, ti_2, ti_3, ti_4, ti_5, ti_6, ti_7, ti_8, ti_9, ti_10, ti_11, ti_12, ti_m1]; omega) | (simp only [ti_0, ti_1, ti_2, ti_3, ti_4, ti_5, ti_6, ti_7, ti_8, ti_9, ti_10, ti_11, ti_12, ti_m1]; done), trivial⟩ (by decide) (by decide) dJ6_numberOfTrailingZeros_0f7a4_79
          · have ic_54 : 4 < z_52.toInt := inle c_54 (rfl) (by decide)
            refine lv_iinc (v := 27) (lv' := [(1, .int 27), (0, .int z_52)]) hx hb dJ6_numberOfTrailingZeros_0f7a4_67 hl (k := 1) rfl (by decide) (by decide) rfl (fun ls hl => ?_)
            refine lv_iload_n hx hb dJ6_numberOfTrailingZeros_0f7a4_70 rfl (lv_at hl 1 rfl) ?_
            refine lv_iconst (v := 2) hx hb dJ6_numberOfTrailingZeros_0f7a4_71 (by decide) ?_
            obtain ⟨z_57, ez_57⟩ : ∃ w : Int32, w = (z_52.toUInt32 >>> ((2 : Int32).toUInt32 &&& Int32.toUInt32 31)).toInt32 := ⟨_, rfl⟩
            refine lv_iushr (v := z_57) hx hb dJ6_numberOfTrailingZeros_0f7a4_72 ez_57.symm ?_
            have iz_57 : 0 ≤ z_57.toInt ∧ z_57.toInt ≤ 1073741823 := ushrI (k := 2) ez_57 (by decide) (by decide) (by decide)
            have jz_57 : 0 ≤ z_52.toInt → z_57.toInt = z_52.toInt / 4 := ushrQ (k := 2) ez_57 (rfl) (by decide) (by decide)
            refine lv_istore_n (lv' := [(0, .int z_57), (1, .int 27)]) hx hb dJ6_numberOfTrailingZeros_0f7a4_73 rfl hl (by decide) rfl (fun ls hl => ?_)
            refine lv_iload_n hx hb dJ6_numberOfTrailingZeros_0f7a4_74 rfl (lv_at hl 1 rfl) ?_
            refine lv_iload_n hx hb dJ6_numberOfTrailingZeros_0f7a4_75 rfl (lv_at hl 0 rfl) ?_
            refine lv_iconst (v := 1) hx hb dJ6_numberOfTrailingZeros_0f7a4_76 (by decide) ?_
            obtain ⟨z_58, ez_58⟩ : ∃ w : Int32, w = (z_57.toUInt32 >>> ((1 : Int32).toUInt32 &&& Int32.toUInt32 31)).toInt32 := ⟨_, rfl⟩
            refine lv_iushr (v := z_58) hx hb dJ6_numberOfTrailingZeros_0f7a4_77 ez_58.symm ?_
            have iz_58 : 0 ≤ z_58.toInt ∧ z_58.toInt ≤ 2147483647 := ushrI (k := 1) ez_58 (by decide) (by decide) (by decide)
            have jz_58 : 0 ≤ z_57.toInt → z_58.toInt = z_57.toInt / 2 := ushrQ (k := 1) ez_58 (rfl) (by decide) (by decide)
            refine lv_iadd hx hb dJ6_numberOfTrailingZeros_0f7a4_78 ?_
            refine lv_topi (fun z_59 ez_59 => ?_)
            have iz_59 : z_59.toInt = 27 + z_58.toInt := toInt_addI ez_59 (by decide) (rfl) (by omega)
            exact x_iret hx hb hr hlk hP hD hS [] (()) rfl (by decide) ⟨by (try dsimp only); first | assumption | omega | decide | exact Or.inl (by decide) | (intro h9; exact absurd h9 (by decide)) | (intro _; decide) | (simp only [ti_0, ti_1, ti_2, ti_3, ti_4, ti_5, ti_6, ti_7, ti_8, ti_9, ti_10, ti_11, ti_12, ti_m1]; omega) | (simp only [ti_0, ti_1, ti_2, ti_3, ti_4, ti_5, ti_6, ti_7, ti_8, ti_9, ti_10, ti_11, ti_12, ti_m1]; done), trivial⟩ (by decide) (by decide) dJ6_numberOfTrailingZeros_0f7a4_79
        · have ic_53 : 16 < z_52.toInt := inle c_53 (rfl) (by decide)
          refine lv_iinc (v := 29) (lv' := [(1, .int 29), (0, .int z_52)]) hx hb dJ6_numberOfTrailingZeros_0f7a4_55 hl (k := 1) rfl (by decide) (by decide) rfl (fun ls hl => ?_)
          refine lv_iload_n hx hb dJ6_numberOfTrailingZeros_0f7a4_58 rfl (lv_at hl 1 rfl) ?_
          refine lv_iconst (v := 4) hx hb dJ6_numberOfTrailingZeros_0f7a4_59 (by decide) ?_
          obtain ⟨z_60, ez_60⟩ : ∃ w : Int32, w = (z_52.toUInt32 >>> ((4 : Int32).toUInt32 &&& Int32.toUInt32 31)).toInt32 := ⟨_, rfl⟩
          refine lv_iushr (v := z_60) hx hb dJ6_numberOfTrailingZeros_0f7a4_60 ez_60.symm ?_
          have iz_60 : 0 ≤ z_60.toInt ∧ z_60.toInt ≤ 268435455 := ushrI (k := 4) ez_60 (by decide) (by decide) (by decide)
          have jz_60 : 0 ≤ z_52.toInt → z_60.toInt = z_52.toInt / 16 := ushrQ (k := 4) ez_60 (rfl) (by decide) (by decide)
          refine lv_istore_n (lv' := [(0, .int z_60), (1, .int 29)]) hx hb dJ6_numberOfTrailingZeros_0f7a4_61 rfl hl (by decide) rfl (fun ls hl => ?_)
          refine lv_iload_n hx hb dJ6_numberOfTrailingZeros_0f7a4_62 rfl (lv_at hl 0 rfl) ?_
          refine lv_iconst (v := 4) hx hb dJ6_numberOfTrailingZeros_0f7a4_63 (by decide) ?_
          refine lv_icmp_le (tgt := 74) hx hb dJ6_numberOfTrailingZeros_0f7a4_64 (by decide) (fun c_61 => ?_) (fun c_61 => ?_)
          · have ic_61 : z_60.toInt ≤ 4 := ile c_61 (rfl) (by decide)
            refine lv_iload_n hx hb dJ6_numberOfTrailingZeros_0f7a4_74 rfl (lv_at hl 1 rfl) ?_
            refine lv_iload_n hx hb dJ6_numberOfTrailingZeros_0f7a4_75 rfl (lv_at hl 0 rfl) ?_
            refine lv_iconst (v := 1) hx hb dJ6_numberOfTrailingZeros_0f7a4_76 (by decide) ?_
            obtain ⟨z_62, ez_62⟩ : ∃ w : Int32, w = (z_60.toUInt32 >>> ((1 : Int32).toUInt32 &&& Int32.toUInt32 31)).toInt32 := ⟨_, rfl⟩
            refine lv_iushr (v := z_62) hx hb dJ6_numberOfTrailingZeros_0f7a4_77 ez_62.symm ?_
            have iz_62 : 0 ≤ z_62.toInt ∧ z_62.toInt ≤ 2147483647 := ushrI (k := 1) ez_62 (by decide) (by decide) (by decide)
            have jz_62 : 0 ≤ z_60.toInt → z_62.toInt = z_60.toInt / 2 := ushrQ (k := 1) ez_62 (rfl) (by decide) (by decide)
            refine lv_iadd hx hb dJ6_numberOfTrailingZeros_0f7a4_78 ?_
            refine lv_topi (fun z_63 ez_63 => ?_)
            have iz_63 : z_63.toInt = 29 + z_62.toInt := toInt_addI ez_63 (by decide) (rfl) (by omega)
            exact x_iret hx hb hr hlk hP hD hS [] (()) rfl (by decide) ⟨by (try dsimp only); first | assumption | omega | decide | exact Or.inl (by decide) | (intro h9; exact absurd h9 (by decide)) | (intro _; decide) | (simp only [ti_0, ti_1, ti_2, ti_3, ti_4, ti_5, ti_6, ti_7, ti_8, ti_9, ti_10, ti_11, ti_12, ti_m1]; omega) | (simp only [ti_0, ti_1, ti_2, ti_3, ti_4, ti_5, ti_6, ti_7, ti_8, ti_9, ti_10, ti_11, ti_12, ti_m1]; done), trivial⟩ (by decide) (by decide) dJ6_numberOfTrailingZeros_0f7a4_79
          · have ic_61 : 4 < z_60.toInt := inle c_61 (rfl) (by decide)
            refine lv_iinc (v := 31) (lv' := [(1, .int 31), (0, .int z_60)]) hx hb dJ6_numberOfTrailingZeros_0f7a4_67 hl (k := 1) rfl (by decide) (by decide) rfl (fun ls hl => ?_)
            refine lv_iload_n hx hb dJ6_numberOfTrailingZeros_0f7a4_70 rfl (lv_at hl 1 rfl) ?_
            refine lv_iconst (v := 2) hx hb dJ6_numberOfTrailingZeros_0f7a4_71 (by decide) ?_
            obtain ⟨z_64, ez_64⟩ : ∃ w : Int32, w = (z_60.toUInt32 >>> ((2 : Int32).toUInt32 &&& Int32.toUInt32 31)).toInt32 := ⟨_, rfl⟩
            refine lv_iushr (v := z_64) hx hb dJ6_numberOfTrailingZeros_0f7a4_72 ez_64.symm ?_
            have iz_64 : 0 ≤ z_64.toInt ∧ z_64.toInt ≤ 1073741823 := ushrI (k := 2) ez_64 (by decide) (by decide) (by decide)
            have jz_64 : 0 ≤ z_60.toInt → z_64.toInt = z_60.toInt / 4 := ushrQ (k := 2) ez_64 (rfl) (by decide) (by decide)
            refine lv_istore_n (lv' := [(0, .int z_64), (1, .int 31)]) hx hb dJ6_numberOfTrailingZeros_0f7a4_73 rfl hl (by decide) rfl (fun ls hl => ?_)
            refine lv_iload_n hx hb dJ6_numberOfTrailingZeros_0f7a4_74 rfl (lv_at hl 1 rfl) ?_
            refine lv_iload_n hx hb dJ6_numberOfTrailingZeros_0f7a4_75 rfl (lv_at hl 0 rfl) ?_
            refine lv_iconst (v := 1) hx hb dJ6_numberOfTrailingZeros_0f7a4_76 (by decide) ?_
            obtain ⟨z_65, ez_65⟩ : ∃ w : Int32, w = (z_64.toUInt32 >>> ((1 : Int32).toUInt32 &&& Int32.toUInt32 31)).toInt32 := ⟨_, rfl⟩
            refine lv_iushr (v := z_65) hx hb dJ6_numberOfTrailingZeros_0f7a4_77 ez_65.symm ?_
            have iz_65 : 0 ≤ z_65.toInt ∧ z_65.toInt ≤ 2147483647 := ushrI (k := 1) ez_65 (by decide) (by decide) (by decide)
            have jz_65 : 0 ≤ z_64.toInt → z_65.toInt = z_64.toInt / 2 := ushrQ (k := 1) ez_65 (rfl) (by decide) (by decide)
            refine lv_iadd hx hb dJ6_numberOfTrailingZeros_0f7a4_78 ?_
            refine lv_topi (fun z_66 ez_66 => ?_)
            have iz_66 : z_66.toInt = 31 + z_65.toInt := toInt_addI ez_66 (by decide) (rfl) (by omega)
            exact x_iret hx hb hr hlk hP hD hS [] (()) rfl (by decide) ⟨by (try dsimp only); first | assumption | omega | decide | exact Or.inl (by decide) | (intro h9; exact absurd h9 (by decide)) | (intro _; decide) | (simp only [ti_0, ti_1, ti_2, ti_3, ti_4, ti_5, ti_6, ti_7, ti_8, ti_9, ti_10, ti_11, ti_12, ti_m1]; omega) | (simp only [ti_0, ti_1, ti_2, ti_3, ti_4, ti_5, ti_6, ti_7, ti_8, ti_9, ti_10, ti_11, ti_12, ti_m1]; done), trivial⟩ (by decide) (by decide) dJ6_numberOfTrailingZeros_0f7a4_79
  · have ic_4 : z_3.toInt ≤ 0 := inlt c_4 (by decide) (rfl)
    refine lv_iload_n hx hb dJ6_numberOfTrailingZeros_0f7a4_12 rfl (lv_at hl 0 rfl) ?_
    refine lv_bipush (v := 32) hx hb dJ6_numberOfTrailingZeros_0f7a4_13 (by decide) ?_
    refine lv_iand hx hb dJ6_numberOfTrailingZeros_0f7a4_15 ?_
    refine lv_topi (fun z_67 ez_67 => ?_)
    have iz_67 : 0 ≤ z_67.toInt ∧ z_67.toInt ≤ 32 := andI ez_67 (by decide) (by decide)
    exact x_iret hx hb hr hlk hP hD hS [] (()) rfl (by decide) ⟨by (try dsimp only); first | assumption | omega | decide | exact Or.inl (by decide) | (intro h9; exact absurd h9 (by decide)) | (intro _; decide) | (simp only [ti_0, ti_1, ti_2, ti_3, ti_4, ti_5, ti_6, ti_7, ti_8, ti_9, ti_10, ti_11, ti_12, ti_m1]; omega) | (simp only [ti_0, ti_1, ti_2, ti_3, ti_4, ti_5, ti_6, ti_7, ti_8, ti_9, ti_10, ti_11, ti_12, ti_m1]; done), trivial⟩ (by decide) (by decide) dJ6_numberOfTrailingZeros_0f7a4_16
