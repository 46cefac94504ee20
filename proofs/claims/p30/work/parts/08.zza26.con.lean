set_option maxHeartbeats 4000000 in
set_option maxRecDepth 100000 in
theorem g_leastBitsX (l : Launch) (D : va_G) (cT : Nat → ClassId) (sz : Nat) (h0 : Nat) (b0 : Nat) (b1 : Nat) (c0 : Nat → Int32) (c1 : Nat → Int32) (x : Int32) (y : Int32) (z : Int32) (hxs : 0 ≤ x.toInt ∧ x.toInt ≤ 16) (hzs : 0 ≤ z.toInt ∧ z.toInt ≤ 16) (n : Nat) (hn16 : n ≤ 16) (hnx : x.toInt = (n : Int)) (hltr : LTR c0 c1 n) (hopn : opn y n) (hcan : can c0 n n z.toInt.toNat y) (hmin : ∀ l : Nat, l < z.toInt.toNat → ¬ can c0 n n l y) : Met l yX0_leastBits (wsc yX0_leastBits cX0_leastBits 8 (some .int)) { frames := 20, cells := 0, slots := 0, locals := 580 } (va_Pc [.ref h0, .int x, .int y, .int z] (PX D cT sz [(sw_0 h0 b0 b1), (sw_in cT b0 16 c0), (sw_in cT b1 16 c1)])) (va_Qi (fun (r : Int32) (u : Unit) => (BS c0 n y (2 ^ n) r.toInt) ∧ (True)) (fun u t => RW D (va_A [(sw_0 h0 b0 b1), (sw_in cT b0 16 c0), (sw_in cT b1 16 c1)] sz) ((fun _ : Unit => [(sw_0 h0 b0 b1), (sw_in cT b0 16 c0), (sw_in cT b1 16 c1)]) u) t) (va_A [(sw_0 h0 b0 b1), (sw_in cT b0 16 c0), (sw_in cT b1 16 c1)] sz)) 0 0 (va_A [(sw_0 h0 b0 b1), (sw_in cT b0 16 c0), (sw_in cT b1 16 c1)] sz) := by
  refine m_of (y := yX0_leastBits) (cc := cX0_leastBits) (nL := 8) (ret := (some .int)) (D := D) (cT := cT) (av := [.ref h0, .int x, .int y, .int z]) (wi := [(sw_0 h0 b0 b1), (sw_in cT b0 16 c0), (sw_in cT b1 16 c1)]) (fun A => va_Qi (fun (r : Int32) (u : Unit) => (BS c0 n y (2 ^ n) r.toInt) ∧ (True)) (fun u t => RW D A ((fun _ : Unit => [(sw_0 h0 b0 b1), (sw_in cT b0 16 c0), (sw_in cT b1 16 c1)]) u) t) A) (by decide) (Nat.le_of_ble_eq_true rfl) ?_
  intro p e s m below meth c A hx hb hml hown htg hK hN hr hlk hnm hsz hP hD hS hA ls hl
  have hown : s.vm.findClass RX0 = some m.cls := hown
  have hl : lv_has ls 8 [(0, .ref h0), (1, .int x), (2, .int y), (3, .int z)] := hl
  have t9_0 : (0 : Int32).toInt = 0 := by decide
  have t9_1 : (1 : Int32).toInt = 1 := by decide
  have t9_m1 : ((-1) : Int32).toInt = (-1) := by decide
  refine lv_iconst (v := 0) hx hb dX0_leastBits_0 (by decide) ?_
  refine lv_istore (lv' := [(4, .int 0), (0, .ref h0), (1, .int x), (2, .int y), (3, .int z)]) hx hb dX0_leastBits_1 hl (by decide) rfl (fun ls hl => ?_)
  refine lv_iload_n hx hb dX0_leastBits_3 rfl (lv_at hl 3 rfl) ?_
  refine lv_istore (lv' := [(5, .int y), (4, .int 0), (0, .ref h0), (1, .int x), (2, .int y), (3, .int z)]) hx hb dX0_leastBits_4 hl (by decide) rfl (fun ls hl => ?_)
  refine lv_iload_n hx hb dX0_leastBits_6 rfl (lv_at hl 5 rfl) ?_
  refine lv_istore (lv' := [(6, .int z), (5, .int y), (4, .int 0), (0, .ref h0), (1, .int x), (2, .int y), (3, .int z)]) hx hb dX0_leastBits_7 hl (by decide) rfl (fun ls hl => ?_)
  refine lv_iload_n hx hb dX0_leastBits_9 rfl (lv_at hl 4 rfl) ?_
  refine lv_iconst (v := 1) hx hb dX0_leastBits_10 (by decide) ?_
  refine lv_isub hx hb dX0_leastBits_11 ?_
  refine lv_topi (fun z_1 ez_1 => ?_)
  have iz_1 : z_1.toInt = x.toInt - 1 := toInt_subI ez_1 (rfl) (by decide) (by omega)
  refine lv_istore (lv' := [(7, .int z_1), (6, .int z), (5, .int y), (4, .int 0), (0, .ref h0), (1, .int x), (2, .int y), (3, .int z)]) hx hb dX0_leastBits_12 hl (by decide) rfl (fun ls hl => ?_)
  have hg0 : ∃ g : Nat, (0 : Int32) = nI g ∧ GR c0 n y z.toInt.toNat (z_1.toInt + 1).toNat g y z.toInt.toNat := ⟨0, rfl, by rw [show (z_1.toInt + 1).toNat = n from by omega]; exact GR_in hcan⟩
  refine (fun (key : ∀ (n9_14 : Nat) (k9_14 : Int32) (x9_14_6 : Int32) (x9_14_5 : Int32) (x9_14_4 : Int32) (H : Heap) (locs : List Loc) (ls : Array Slot), (-1 ≤ k9_14.toInt ∧ k9_14.toInt ≤ 15) → k9_14.toInt < -1 + n9_14 → (∃ g : Nat, x9_14_4 = nI g ∧ GR c0 n y z.toInt.toNat (k9_14.toInt + 1).toNat g x9_14_5 x9_14_6.toInt.toNat) → (opn x9_14_5 n) → (k9_14.toInt < (n : Int)) → (0 ≤ x9_14_6.toInt ∧ x9_14_6.toInt ≤ 16) → PD D A [(sw_0 h0 b0 b1), (sw_in cT b0 16 c0), (sw_in cT b1 16 c1)] H → va_S A s.heap H locs → lv_has ls 8 [(7, .int k9_14), (6, .int x9_14_6), (5, .int x9_14_5), (4, .int x9_14_4), (0, .ref h0), (1, .int x), (2, .int y), (3, .int z)] → W p l e _ s m _ below meth c H locs _ _ _ (F0 m 14 ls [])) => key (Int.toNat (z_1.toInt - (-1)) + 1) (z_1) _ _ _ _ _ _ (by omega) (by omega) (by first | assumption | omega | decide | (simp only [ti_0, ti_1, ti_2, ti_3, ti_4, ti_5, ti_6, ti_7, ti_8, ti_9, ti_10, ti_11, ti_12, ti_m1]; omega)) (by first | assumption | omega | decide | (simp only [ti_0, ti_1, ti_2, ti_3, ti_4, ti_5, ti_6, ti_7, ti_8, ti_9, ti_10, ti_11, ti_12, ti_m1]; omega)) (by first | assumption | omega | decide | (simp only [ti_0, ti_1, ti_2, ti_3, ti_4, ti_5, ti_6, ti_7, ti_8, ti_9, ti_10, ti_11, ti_12, ti_m1]; omega)) (by first | assumption | omega | decide | (simp only [ti_0, ti_1, ti_2, ti_3, ti_4, ti_5, ti_6, ti_7, ti_8, ti_9, ti_10, ti_11, ti_12, ti_m1]; omega)) ⟨hP, hD⟩ hS (lv_sub hl [0, 1, 2, 3, 4, 5, 6, 7] rfl)) ?_
  intro n9_14
  induction n9_14 with
  | zero => intro k9_14 x9_14_6 x9_14_5 x9_14_4 H locs ls hq1 hq2; exact absurd hq2 (by omega)
  | succ n9_14 ih_14 =>
    intro k9_14 x9_14_6 x9_14_5 x9_14_4 H locs ls hq1_14 hq2_14 h9_14_0 h9_14_1 h9_14_2 h9_14_3 hPD hS hl
    obtain ⟨hP, hD⟩ := hPD
    refine lv_iload hx hb dX0_leastBits_14 (lv_at hl 0 rfl) ?_
    refine lv_if_lt (tgt := 75) hx hb dX0_leastBits_16 (by decide) (fun c_2 => ?_) (fun c_2 => ?_)
    · have ic_2 : k9_14.toInt < 0 := ilt c_2 (rfl) (by decide)
      obtain ⟨g, hge, hgr⟩ := h9_14_0
      rw [show (k9_14.toInt + 1).toNat = 0 from by omega] at hgr
      have hpn : (2 : Nat) ^ n ≤ 2 ^ 16 := Nat.pow_le_pow_right (by decide) hn16
      have hgl := hgr.1
      have hbs : BS c0 n y (2 ^ n) x9_14_4.toInt := by rw [hge, nI_toInt (by omega)]; exact GR_out hgr hmin
      refine lv_iload hx hb dX0_leastBits_75 (lv_at hl 3 rfl) ?_
      exact x_iret hx hb hr hlk hP hD hS [0, 1, 2] (()) rfl (by decide) ⟨(by (try dsimp only); exact hbs), trivial⟩ (by decide) (by decide) dX0_leastBits_77
    · have ic_2 : 0 ≤ k9_14.toInt := inlt c_2 (rfl) (by decide)
      obtain ⟨g, hge, hgr⟩ := h9_14_0
      rw [show (k9_14.toInt + 1).toNat = k9_14.toInt.toNat + 1 from by omega] at hgr
      refine lv_aload_n hx hb dX0_leastBits_19 rfl (lv_at hl 4 rfl) ?_
      refine va_get (D := D) (ci := 0) (v := .ref b0) (C := RX0) (T := TX0) (N := 2) hx hb htg gRX0 hown hK hP 0 rfl rfl 0 (by decide) (htg _ wi_439) (fun _ h9 => h9) rfl dX0_leastBits_20 ?_
      refine lv_aload_n hx hb dX0_leastBits_23 rfl (lv_at hl 4 rfl) ?_
      refine va_get (D := D) (ci := 0) (v := .ref b1) (C := RX0) (T := TX0) (N := 2) hx hb htg gRX0 hown hK hP 0 rfl rfl 1 (by decide) (htg _ wi_440) (fun _ h9 => h9) rfl dX0_leastBits_24 ?_
      refine lv_iload hx hb dX0_leastBits_27 (lv_at hl 2 rfl) ?_
      refine lv_iconst (v := 1) hx hb dX0_leastBits_29 (by decide) ?_
      refine lv_iload hx hb dX0_leastBits_30 (lv_at hl 0 rfl) ?_
      refine lv_ishl hx hb dX0_leastBits_32 ?_
      refine lv_topi (fun z_3 ez_3 => ?_)
      refine lv_iconst (v := 1) hx hb dX0_leastBits_33 (by decide) ?_
      refine lv_isub hx hb dX0_leastBits_34 ?_
      refine lv_topi (fun z_4 ez_4 => ?_)
      refine lv_iload hx hb dX0_leastBits_35 (lv_at hl 1 rfl) ?_
      have halm : alw z_4 k9_14.toInt.toNat := alw_of (by omega) ez_3 ez_4
      refine xk_i (wr := [(sw_0 h0 b0 b1)]) (xr_S (n := 5) (As := [.ref b0, .ref b1, .int x9_14_5, .int z_4, .int x9_14_6]) (rest := []) ⟨hx, hb, hml, hown, htg⟩ hK hN hP hD hS hA [1, 2] rfl (by decide) (g_canLightX_16 l D cT _ (b0) (b1) (c0) (c1) (x9_14_5) (z_4) (x9_14_6) (by first | assumption | decide | omega | (simp only [ti_0, ti_1, ti_2, ti_3, ti_4, ti_5, ti_6, ti_7, ti_8, ti_9, ti_10, ti_11, ti_12, ti_m1]; omega)) (n) (k9_14.toInt.toNat) (by first | assumption | decide | omega | (simp only [ti_0, ti_1, ti_2, ti_3, ti_4, ti_5, ti_6, ti_7, ti_8, ti_9, ti_10, ti_11, ti_12, ti_m1]; omega)) (by first | assumption | decide | omega | (simp only [ti_0, ti_1, ti_2, ti_3, ti_4, ti_5, ti_6, ti_7, ti_8, ti_9, ti_10, ti_11, ti_12, ti_m1]; omega)) (by first | assumption | decide | omega | (simp only [ti_0, ti_1, ti_2, ti_3, ti_4, ti_5, ti_6, ti_7, ti_8, ti_9, ti_10, ti_11, ti_12, ti_m1]; omega)) (by first | assumption | decide | omega | (simp only [ti_0, ti_1, ti_2, ti_3, ti_4, ti_5, ti_6, ti_7, ti_8, ti_9, ti_10, ti_11, ti_12, ti_m1]; omega)) (by first | assumption | decide | omega | (simp only [ti_0, ti_1, ti_2, ti_3, ti_4, ti_5, ti_6, ti_7, ti_8, ti_9, ti_10, ti_11, ti_12, ti_m1]; omega))) wi_1023 wi_1024 wi_129 wi_1025 ⟨rfl, by decide +kernel⟩ ⟨Nat.le_of_ble_eq_true rfl, Nat.le_of_ble_eq_true rfl⟩ rfl hl.1 rfl (Nat.le_of_ble_eq_true rfl) dX0_leastBits_37 ⟨Nat.le_of_ble_eq_true rfl, Nat.le_of_ble_eq_true rfl⟩) hP hD hS hA [1, 2] [0] rfl rfl (by decide) (by decide) (fun r_6 u_5 H locs hwr_6 hP hD hS => ?_)
      obtain ⟨hP, hD⟩ : PD D A [(sw_0 h0 b0 b1), (sw_in cT b0 16 c0), (sw_in cT b1 16 c1)] _ := ⟨hP, hD⟩
      have qr_6_0 : ¬ r_6.toInt = 0 → can c0 n k9_14.toInt.toNat x9_14_6.toInt.toNat x9_14_5 := hwr_6.1
      have qr_6_1 : r_6.toInt = 0 → ¬ can c0 n k9_14.toInt.toNat x9_14_6.toInt.toNat x9_14_5 := hwr_6.2.1
      refine lv_if_ne (tgt := 69) hx hb dX0_leastBits_40 (by decide) (fun c_7 => ?_) (fun c_7 => ?_)
      · have ic_7 : ¬ r_6.toInt = 0 := ine c_7 (rfl) (by decide)
        obtain ⟨z_8, ez_8⟩ : ∃ w : Int32, w = k9_14 + (-1) := ⟨_, rfl⟩
        have iz_8 : z_8.toInt = k9_14.toInt + (-1) := toInt_addI ez_8 (rfl) (by decide) (by omega)
        refine lv_iinc (v := z_8) (lv' := [(7, .int z_8), (6, .int x9_14_6), (5, .int x9_14_5), (4, .int x9_14_4), (0, .ref h0), (1, .int x), (2, .int y), (3, .int z)]) hx hb dX0_leastBits_69 hl (k := 0) rfl (by rw [ez_8]; rfl) (by decide) rfl (fun ls hl => ?_)
        refine lv_goto (tgt := 14) hx hb dX0_leastBits_72 (by decide) ?_
        have hg1 : ∃ g : Nat, x9_14_4 = nI g ∧ GR c0 n y z.toInt.toNat (z_8.toInt + 1).toNat g x9_14_5 x9_14_6.toInt.toNat := ⟨_, hge, by rw [show (z_8.toInt + 1).toNat = k9_14.toInt.toNat from by omega]; exact GR_skip hgr (qr_6_0 (by omega))⟩
        have hop1 : opn x9_14_5 n := h9_14_1
        exact ih_14 (z_8) _ _ _ _ _ _ (by omega) (by omega) (by first | assumption | omega | decide | (simp only [ti_0, ti_1, ti_2, ti_3, ti_4, ti_5, ti_6, ti_7, ti_8, ti_9, ti_10, ti_11, ti_12, ti_m1]; omega)) (by first | assumption | omega | decide | (simp only [ti_0, ti_1, ti_2, ti_3, ti_4, ti_5, ti_6, ti_7, ti_8, ti_9, ti_10, ti_11, ti_12, ti_m1]; omega)) (by first | assumption | omega | decide | (simp only [ti_0, ti_1, ti_2, ti_3, ti_4, ti_5, ti_6, ti_7, ti_8, ti_9, ti_10, ti_11, ti_12, ti_m1]; omega)) (by first | assumption | omega | decide | (simp only [ti_0, ti_1, ti_2, ti_3, ti_4, ti_5, ti_6, ti_7, ti_8, ti_9, ti_10, ti_11, ti_12, ti_m1]; omega)) ⟨hP.sub [0, 1, 2] rfl, hD.sub [0, 1, 2] (by decide) rfl⟩ hS (lv_sub hl [0, 1, 2, 3, 4, 5, 6, 7] rfl)
      · have ic_7 : r_6.toInt = 0 := ieq c_7 (rfl) (by decide)
        have htk := GR_take (o := k9_14.toInt.toNat) (by omega) hgr (qr_6_1 (by omega))
        have hlb1 := htk.1
        refine lv_iload hx hb dX0_leastBits_43 (lv_at hl 3 rfl) ?_
        refine lv_iconst (v := 1) hx hb dX0_leastBits_45 (by decide) ?_
        refine lv_iload hx hb dX0_leastBits_46 (lv_at hl 0 rfl) ?_
        refine lv_ishl hx hb dX0_leastBits_48 ?_
        refine lv_topi (fun z_9 ez_9 => ?_)
        refine lv_ior hx hb dX0_leastBits_49 ?_
        refine lv_topi (fun z_10 ez_10 => ?_)
        refine lv_istore (lv' := [(4, .int z_10), (7, .int k9_14), (6, .int x9_14_6), (5, .int x9_14_5), (0, .ref h0), (1, .int x), (2, .int y), (3, .int z)]) hx hb dX0_leastBits_50 hl (by decide) rfl (fun ls hl => ?_)
        refine lv_iload hx hb dX0_leastBits_52 (lv_at hl 3 rfl) ?_
        refine lv_aload_n hx hb dX0_leastBits_54 rfl (lv_at hl 4 rfl) ?_
        refine va_get (D := D) (ci := 0) (v := .ref b0) (C := RX0) (T := TX0) (N := 2) hx hb htg gRX0 hown hK hP 0 rfl rfl 0 (by decide) (htg _ wi_439) (fun _ h9 => h9) rfl dX0_leastBits_55 ?_
        refine lv_iload hx hb dX0_leastBits_58 (lv_at hl 1 rfl) ?_
        refine va_iald hx hb hK hP 1 0 rfl rfl (vp_in_iff.mpr (by omega)) dX0_leastBits_60 ?_
        refine lv_topi (fun z_11 ez_11 => ?_)
        refine lv_iconst (v := (-1)) hx hb dX0_leastBits_61 (by decide) ?_
        refine lv_ixor hx hb dX0_leastBits_62 ?_
        refine lv_topi (fun z_12 ez_12 => ?_)
        refine lv_iand hx hb dX0_leastBits_63 ?_
        refine lv_topi (fun z_13 ez_13 => ?_)
        refine lv_istore (lv' := [(5, .int z_13), (4, .int z_10), (7, .int k9_14), (6, .int x9_14_6), (0, .ref h0), (1, .int x), (2, .int y), (3, .int z)]) hx hb dX0_leastBits_64 hl (by decide) rfl (fun ls hl => ?_)
        obtain ⟨z_14, ez_14⟩ : ∃ w : Int32, w = x9_14_6 + (-1) := ⟨_, rfl⟩
        have iz_14 : z_14.toInt = x9_14_6.toInt + (-1) := toInt_addI ez_14 (rfl) (by decide) (by omega)
        refine lv_iinc (v := z_14) (lv' := [(6, .int z_14), (5, .int z_13), (4, .int z_10), (7, .int k9_14), (0, .ref h0), (1, .int x), (2, .int y), (3, .int z)]) hx hb dX0_leastBits_66 hl (k := 3) rfl (by rw [ez_14]; rfl) (by decide) rfl (fun ls hl => ?_)
        have hop : z_13 = x9_14_5 &&& (c0 k9_14.toInt.toNat ^^^ (-1)) := by rw [ez_13, ez_12, ez_11]; rfl
        obtain ⟨qq, hqq⟩ := Nat.dvd_of_mod_eq_zero hgr.2.1
        have hpn : (2 : Nat) ^ n ≤ 2 ^ 16 := Nat.pow_le_pow_right (by decide) hn16
        have hgl := htk.2.1
        have hch : z_10 = nI (g + 2 ^ k9_14.toInt.toNat) := by rw [ez_10, ez_9, hge, show k9_14 &&& 31 = nI k9_14.toInt.toNat &&& 31 from by rw [← k_nI (k := k9_14) (by omega)]]; exact or_nI hqq (by omega) (by omega)
        obtain ⟨z_15, ez_15⟩ : ∃ w : Int32, w = k9_14 + (-1) := ⟨_, rfl⟩
        have iz_15 : z_15.toInt = k9_14.toInt + (-1) := toInt_addI ez_15 (rfl) (by decide) (by omega)
        refine lv_iinc (v := z_15) (lv' := [(7, .int z_15), (6, .int z_14), (5, .int z_13), (4, .int z_10), (0, .ref h0), (1, .int x), (2, .int y), (3, .int z)]) hx hb dX0_leastBits_69 hl (k := 3) rfl (by rw [ez_15]; rfl) (by decide) rfl (fun ls hl => ?_)
        refine lv_goto (tgt := 14) hx hb dX0_leastBits_72 (by decide) ?_
        have hg1 : ∃ g : Nat, z_10 = nI g ∧ GR c0 n y z.toInt.toNat (z_15.toInt + 1).toNat g z_13 z_14.toInt.toNat := ⟨_, hch, by rw [show (z_15.toInt + 1).toNat = k9_14.toInt.toNat from by omega, hop, show z_14.toInt.toNat = x9_14_6.toInt.toNat - 1 from by omega]; exact htk.2⟩
        have hop1 : opn z_13 n := (by rw [hop]; exact opn_and h9_14_1)
        exact ih_14 (z_15) _ _ _ _ _ _ (by omega) (by omega) (by first | assumption | omega | decide | (simp only [ti_0, ti_1, ti_2, ti_3, ti_4, ti_5, ti_6, ti_7, ti_8, ti_9, ti_10, ti_11, ti_12, ti_m1]; omega)) (by first | assumption | omega | decide | (simp only [ti_0, ti_1, ti_2, ti_3, ti_4, ti_5, ti_6, ti_7, ti_8, ti_9, ti_10, ti_11, ti_12, ti_m1]; omega)) (by first | assumption | omega | decide | (simp only [ti_0, ti_1, ti_2, ti_3, ti_4, ti_5, ti_6, ti_7, ti_8, ti_9, ti_10, ti_11, ti_12, ti_m1]; omega)) (by first | assumption | omega | decide | (simp only [ti_0, ti_1, ti_2, ti_3, ti_4, ti_5, ti_6, ti_7, ti_8, ti_9, ti_10, ti_11, ti_12, ti_m1]; omega)) ⟨hP.sub [0, 1, 2] rfl, hD.sub [0, 1, 2] (by decide) rfl⟩ hS (lv_sub hl [0, 1, 2, 3, 4, 5, 6, 7] rfl)
