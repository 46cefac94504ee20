set_option maxHeartbeats 4000000 in
set_option maxRecDepth 100000 in
theorem g_areStripsX (l : Launch) (D : va_G) (cT : Nat → ClassId) (sz : Nat) (h0 : Nat) (a : Nat → Nat) (p0 : Int32) (p1 : Int32) (p2 : Int32) (p3 : Int32) (p4 : Int32) (p5 : Int32) (p6 : Int32) (p7 : Int32) (p8 : Int32) (p9 : Int32) (x : Int32) : Met l yX3_areStrips (wsc yX3_areStrips cX3_areStrips 2 (some .boolean)) { frames := 3, cells := 0, slots := 0, locals := 120 } (va_Pc [.ref h0, .int x] (PX D cT sz [(sw_3 h0 p0 p1 p2 p3 p4 p5 p6 p7 p8 p9 (a 0) (a 1) (a 2) (a 3) (a 4) (a 5))])) (va_Qi (fun (r : Int32) (u : Unit) => (¬ r.toInt = 0 → x &&& ((((1 : Int32) <<< (p0 &&& 31)) - 1) ^^^ (-1)) = 0) ∧ (r.toInt = 0 → ¬ x &&& ((((1 : Int32) <<< (p0 &&& 31)) - 1) ^^^ (-1)) = 0) ∧ (True)) (fun u t => RW D (va_A [(sw_3 h0 p0 p1 p2 p3 p4 p5 p6 p7 p8 p9 (a 0) (a 1) (a 2) (a 3) (a 4) (a 5))] sz) ((fun _ : Unit => [(sw_3 h0 p0 p1 p2 p3 p4 p5 p6 p7 p8 p9 (a 0) (a 1) (a 2) (a 3) (a 4) (a 5))]) u) t) (va_A [(sw_3 h0 p0 p1 p2 p3 p4 p5 p6 p7 p8 p9 (a 0) (a 1) (a 2) (a 3) (a 4) (a 5))] sz)) 0 0 (va_A [(sw_3 h0 p0 p1 p2 p3 p4 p5 p6 p7 p8 p9 (a 0) (a 1) (a 2) (a 3) (a 4) (a 5))] sz) := by
  refine m_of (y := yX3_areStrips) (cc := cX3_areStrips) (nL := 2) (ret := (some .boolean)) (D := D) (cT := cT) (av := [.ref h0, .int x]) (wi := [(sw_3 h0 p0 p1 p2 p3 p4 p5 p6 p7 p8 p9 (a 0) (a 1) (a 2) (a 3) (a 4) (a 5))]) (fun A => va_Qi (fun (r : Int32) (u : Unit) => (¬ r.toInt = 0 → x &&& ((((1 : Int32) <<< (p0 &&& 31)) - 1) ^^^ (-1)) = 0) ∧ (r.toInt = 0 → ¬ x &&& ((((1 : Int32) <<< (p0 &&& 31)) - 1) ^^^ (-1)) = 0) ∧ (True)) (fun u t => RW D A ((fun _ : Unit => [(sw_3 h0 p0 p1 p2 p3 p4 p5 p6 p7 p8 p9 (a 0) (a 1) (a 2) (a 3) (a 4) (a 5))]) u) t) A) (by decide) (Nat.le_of_ble_eq_true rfl) ?_
  intro p e s m below meth c A hx hb hml hown htg hK hN hr hlk hnm hsz hP hD hS hA ls hl
  have hown : s.vm.findClass RX3 = some m.cls := hown
  have hl : lv_has ls 2 [(0, .ref h0), (1, .int x)] := hl
  have t9_0 : (0 : Int32).toInt = 0 := by decide
  have t9_1 : (1 : Int32).toInt = 1 := by decide
  refine lv_iload_n hx hb dX3_areStrips_0 rfl (lv_at hl 1 rfl) ?_
  refine lv_aload_n hx hb dX3_areStrips_1 rfl (lv_at hl 0 rfl) ?_
  refine xk_i (wr := []) (xr_V (n := 0) (As := []) (rest := [.int x]) ⟨hx, hb, hml, hown, htg⟩ hK hN hP hD hS hA [0] rfl (by decide) (g_allStripsX l D cT _ (h0) (a) (p0) (p1) (p2) (p3) (p4) (p5) (p6) (p7) (p8) (p9)) wi_737 wi_739 wi_28 wi_123 wi_740 rfl rfl rfl ⟨rfl, by decide +kernel⟩ ⟨Nat.le_of_ble_eq_true rfl, Nat.le_of_ble_eq_true rfl⟩ rfl hl.1 rfl (Nat.le_of_ble_eq_true rfl) dX3_areStrips_2 ⟨Nat.le_of_ble_eq_true rfl, Nat.le_of_ble_eq_true rfl⟩) hP hD hS hA [0] [] rfl rfl (by decide) (by decide) (fun r_2 u_1 H locs hwr_2 hP hD hS => ?_)
  obtain ⟨hP, hD⟩ : PD D A [(sw_3 h0 p0 p1 p2 p3 p4 p5 p6 p7 p8 p9 (a 0) (a 1) (a 2) (a 3) (a 4) (a 5))] _ := ⟨hP, hD⟩
  have qr_2_0 : r_2 = (1 <<< (p0 &&& 31)) - 1 := hwr_2.1
  refine lv_iconst (v := (-1)) hx hb dX3_areStrips_5 (by decide) ?_
  refine lv_ixor hx hb dX3_areStrips_6 ?_
  refine lv_topi (fun z_3 ez_3 => ?_)
  refine lv_iand hx hb dX3_areStrips_7 ?_
  refine lv_topi (fun z_4 ez_4 => ?_)
  refine lv_if_ne (tgt := 15) hx hb dX3_areStrips_8 (by decide) (fun c_5 => ?_) (fun c_5 => ?_)
  · have ic_5 : ¬ z_4.toInt = 0 := ine c_5 (rfl) (by decide)
    refine lv_iconst (v := 0) hx hb dX3_areStrips_15 (by decide) ?_
    exact x_zret hx hb hr hlk hP hD hS [0] (()) rfl (by decide) rfl ⟨(fun h9 => by exfalso; omega), (fun _ => by have hz : x &&& ((((1 : Int32) <<< (p0 &&& 31)) - 1) ^^^ (-1)) = z_4 := (by rw [ez_4, ez_3, qr_2_0]); rw [hz]; exact fun h8 => absurd (congrArg Int32.toInt h8) (by rw [ti_0]; omega)), trivial⟩ (by decide) (by decide) dX3_areStrips_16
  · have ic_5 : z_4.toInt = 0 := ieq c_5 (rfl) (by decide)
    refine lv_iconst (v := 1) hx hb dX3_areStrips_11 (by decide) ?_
    refine lv_goto (tgt := 16) hx hb dX3_areStrips_12 (by decide) ?_
    exact x_zret hx hb hr hlk hP hD hS [0] (()) rfl (by decide) rfl ⟨(fun _ => by have hz : x &&& ((((1 : Int32) <<< (p0 &&& 31)) - 1) ^^^ (-1)) = z_4 := (by rw [ez_4, ez_3, qr_2_0]); rw [hz]; exact i32_is (by rw [ti_0]; omega)), (fun h9 => by exfalso; omega), trivial⟩ (by decide) (by decide) dX3_areStrips_16
