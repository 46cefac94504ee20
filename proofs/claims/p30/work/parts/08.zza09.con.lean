set_option maxHeartbeats 4000000 in
set_option maxRecDepth 100000 in
theorem g_canLightX_0 (l : Launch) (D : va_G) (cT : Nat → ClassId) (sz : Nat) (b0 : Nat) (b1 : Nat) (f0 : Nat → Int32) (f1 : Nat → Int32) (x : Int32) (y : Int32) (z : Int32) (hz : z.toInt ≤ 0) (n : Nat) (a : Nat) (hn16 : n ≤ 16) (han : a ≤ n) (hltr : LTR f0 f1 n) (hopn : opn x n) (halw : alw y a) : Met l yX0_canLight (wsc yX0_canLight cX0_canLight 8 (some .boolean)) { frames := 3, cells := 0, slots := 0, locals := 121 } (va_Pc [.ref b0, .ref b1, .int x, .int y, .int z] (PX D cT sz [(sw_in cT b0 16 f0), (sw_in cT b1 16 f1)])) (va_Qi (fun (r : Int32) (u : Unit) => (¬ r.toInt = 0 → can f0 n a z.toInt.toNat x) ∧ (r.toInt = 0 → ¬ can f0 n a z.toInt.toNat x) ∧ (True)) (fun u t => RW D (va_A [(sw_in cT b0 16 f0), (sw_in cT b1 16 f1)] sz) ((fun _ : Unit => [(sw_in cT b0 16 f0), (sw_in cT b1 16 f1)]) u) t) (va_A [(sw_in cT b0 16 f0), (sw_in cT b1 16 f1)] sz)) 0 0 (va_A [(sw_in cT b0 16 f0), (sw_in cT b1 16 f1)] sz) := by
  refine m_of (y := yX0_canLight) (cc := cX0_canLight) (nL := 8) (ret := (some .boolean)) (D := D) (cT := cT) (av := [.ref b0, .ref b1, .int x, .int y, .int z]) (wi := [(sw_in cT b0 16 f0), (sw_in cT b1 16 f1)]) (fun A => va_Qi (fun (r : Int32) (u : Unit) => (¬ r.toInt = 0 → can f0 n a z.toInt.toNat x) ∧ (r.toInt = 0 → ¬ can f0 n a z.toInt.toNat x) ∧ (True)) (fun u t => RW D A ((fun _ : Unit => [(sw_in cT b0 16 f0), (sw_in cT b1 16 f1)]) u) t) A) (by decide) (Nat.le_of_ble_eq_true rfl) ?_
  intro p e s m below meth c A hx hb hml hown htg hK hN hr hlk hnm hsz hP hD hS hA ls hl
  have hown : s.vm.findClass RX0 = some m.cls := hown
  have hl : lv_has ls 8 [(0, .ref b0), (1, .ref b1), (2, .int x), (3, .int y), (4, .int z)] := hl
  have t9_0 : (0 : Int32).toInt = 0 := by decide
  have t9_1 : (1 : Int32).toInt = 1 := by decide
  refine lv_iload_n hx hb dX0_canLight_0 rfl (lv_at hl 2 rfl) ?_
  refine lv_if_ne (tgt := 6) hx hb dX0_canLight_1 (by decide) (fun c_1 => ?_) (fun c_1 => ?_)
  · have ic_1 : ¬ x.toInt = 0 := ine c_1 (rfl) (by decide)
    refine lv_iload_n hx hb dX0_canLight_6 rfl (lv_at hl 2 rfl) ?_
    refine xk_i (wr := [(sw_in cT b0 16 f0), (sw_in cT b1 16 f1)]) (xr_S (n := 1) (As := [.int x]) (rest := []) ⟨hx, hb, hml, hown, htg⟩ hK hN hP hD hS hA [] rfl (by decide) (g_ntzX l D cT _ (x) (by first | assumption | decide | omega | (simp only [ti_0, ti_1, ti_2, ti_3, ti_4, ti_5, ti_6, ti_7, ti_8, ti_9, ti_10, ti_11, ti_12, ti_m1]; omega))) wi_1026 wi_1027 wi_138 wi_1028 ⟨rfl, by decide +kernel⟩ ⟨Nat.le_of_ble_eq_true rfl, Nat.le_of_ble_eq_true rfl⟩ rfl hl.1 rfl (Nat.le_of_ble_eq_true rfl) dX0_canLight_7 ⟨Nat.le_of_ble_eq_true rfl, Nat.le_of_ble_eq_true rfl⟩) hP hD hS hA [] [0, 1] rfl rfl (by decide) (by decide) (fun r_3 u_2 H locs hwr_3 hP hD hS => ?_)
    obtain ⟨hP, hD⟩ : PD D A [(sw_in cT b0 16 f0), (sw_in cT b1 16 f1)] _ := ⟨hP, hD⟩
    have qr_3_0 : 0 ≤ r_3.toInt ∧ r_3.toInt ≤ 31 := hwr_3.1
    have qr_3_1 : bt x r_3.toInt.toNat = true := hwr_3.2.1
    have hsn : r_3.toInt.toNat < n := hopn _ (by omega) qr_3_1
    refine lv_istore (lv' := [(5, .int r_3), (0, .ref b0), (1, .ref b1), (2, .int x), (3, .int y), (4, .int z)]) hx hb dX0_canLight_10 hl (by decide) rfl (fun ls hl => ?_)
    refine lv_iload hx hb dX0_canLight_12 (lv_at hl 5 rfl) ?_
    refine lv_if_le (tgt := 24) hx hb dX0_canLight_14 (by decide) (fun _ => ?_) (fun h => absurd (Int32.le_iff_toInt_le.mpr (by rw [show (0 : Int32).toInt = 0 from by decide]; omega)) h)
    refine lv_iconst (v := 0) hx hb dX0_canLight_24 (by decide) ?_
    exact x_zret hx hb hr hlk hP hD hS [0, 1] (()) rfl (by decide) rfl ⟨(fun h9 => absurd (by decide) h9), (fun _ => by first | (exfalso; omega) | (rw [show z.toInt.toNat = 0 from by omega]; exact can_0 (s := r_3.toInt.toNat) (by omega) qr_3_1)), trivial⟩ (by decide) (by decide) dX0_canLight_25
  · have ic_1 : x.toInt = 0 := ieq c_1 (rfl) (by decide)
    refine lv_iconst (v := 1) hx hb dX0_canLight_4 (by decide) ?_
    exact x_zret hx hb hr hlk hP hD hS [0, 1] (()) rfl (by decide) rfl ⟨(fun _ => by rw [show x = 0 from i32_is (by rw [ti_0]; omega)]; exact can_e _ _ _ _), (fun h9 => absurd h9 (by decide)), trivial⟩ (by decide) (by decide) dX0_canLight_5
