set_option maxHeartbeats 4000000 in
set_option maxRecDepth 100000 in
theorem g_ntz (l : Launch) (D : va_G) (cT : Nat → ClassId) (sz : Nat) (x : Int32) : Met l yJ6_numberOfTrailingZeros_0f7a4 (wsc yJ6_numberOfTrailingZeros_0f7a4 cJ6_numberOfTrailingZeros_0f7a4 2 (some .int)) { frames := 2, cells := 0, slots := 0, locals := 100 } (va_Pc [.int x] (PX D cT sz [])) (va_Qi (fun (r : Int32) (u : Unit) => (0 ≤ r.toInt ∧ r.toInt ≤ 2147483647) ∧ (True)) (fun u t => RW D (va_A [] sz) ((fun _ : Unit => []) u) t) (va_A [] sz)) 0 0 (va_A [] sz) := by
  refine m_of (y := yJ6_numberOfTrailingZeros_0f7a4) (cc := cJ6_numberOfTrailingZeros_0f7a4) (nL := 2) (ret := (some .int)) (D := D) (cT := cT) (av := [.int x]) (wi := []) (fun A => va_Qi (fun (r : Int32) (u : Unit) => (0 ≤ r.toInt ∧ r.toInt ≤ 2147483647) ∧ (True)) (fun u t => RW D A ((fun _ : Unit => []) u) t) A) (by decide) (Nat.le_of_ble_eq_true rfl) ?_
  intro p e s m below meth c A hx hb hml hown htg hK hN hr hlk hnm hsz hP hD hS hA ls hl
  have hown : s.vm.findClass RJ6 = some m.cls := hown
  have hl : lv_has ls 2 [(0, .int x)] := hl
  refine lv_iload_n hx hb dJ6_numberOfTrailingZeros_0f7a4_0 rfl (lv_at hl 0 rfl) ?_
  refine lv_iconst (v := (-1)) hx hb dJ6_numberOfTrailingZeros_0f7a4_1 (by decide) ?_
  refine lv_ixor hx hb dJ6_numberOfTrailingZeros_0f7a4_2 ?_
  refine lv_topi (fun z_1 ez_1 => ?_)
  refine lv_iload_n hx hb dJ6_numberOfTrailingZeros_0f7a4_3 rfl (lv_at hl 0 rfl) ?_
  refine lv_iconst (v := 1) hx hb dJ6_numberOfTrailingZeros_0f7a4_4 (by decide) ?_
  refine lv_isub hx hb dJ6_numberOfTrailingZeros_0f7a4_5 ?_
  refine lv_topi (fun z_2 ez_2 => ?_)
  refine lv_iand hx hb dJ6_numberOfTrailingZeros_0f7a4_6 ?_
  refine lv_topi (fun z_3 ez_3 => ?_)
  refine lv_istore_n (lv' := [(0, .int z_3)]) hx hb dJ6_numberOfTrailingZeros_0f7a4_7 rfl hl (by decide) rfl (fun ls hl => ?_)
  refine lv_iload_n hx hb dJ6_numberOfTrailingZeros_0f7a4_8 rfl (lv_at hl 0 rfl) ?_
  refine lv_if_gt (tgt := 17) hx hb dJ6_numberOfTrailingZeros_0f7a4_9 (by decide) (fun c_4 => ?_) (fun c_4 => ?_)
  · have ic_4 : 0 < z_3.toInt := ilt c_4 (by decide) (rfl)
    refine lv_iconst (v := 1) hx hb dJ6_numberOfTrailingZeros_0f7a4_17 (by decide) ?_
    refine lv_istore_n (lv' := [(1, .int 1), (0, .int z_3)]) hx hb dJ6_numberOfTrailingZeros_0f7a4_18 rfl hl (by decide) rfl (fun ls hl => ?_)
    refine lv_iload_n hx hb dJ6_numberOfTrailingZeros_0f7a4_19 rfl (lv_at hl 1 rfl) ?_
    refine lv_ldcw (v := 65536) hx hb hown (htg _ wi_1029) dJ6_numberOfTrailingZeros_0f7a4_20 ?_
    refine lv_icmp_le (tgt := 34) hx hb dJ6_numberOfTrailingZeros_0f7a4_23 (by decide) (fun c_5 => ?_) (fun c_5 => ?_)
    · have ic_5 : z_3.toInt ≤ 65536 := ile c_5 (rfl) (by decide)
      refine lv_iload_n hx hb dJ6_numberOfTrailingZeros_0f7a4_34 rfl (lv_at hl 1 rfl) ?_
      refine lv_sipush (v := 256) hx hb dJ6_numberOfTrailingZeros_0f7a4_35 (by decide) ?_
      refine lv_icmp_le (tgt := 49) hx hb dJ6_numberOfTrailingZeros_0f7a4_38 (by decide) (fun c_6 => ?_) (fun c_6 => ?_)
      · have ic_6 : z_3.toInt ≤ 256 := ile c_6 (rfl) (by decide)
        refine lv_iload_n hx hb dJ6_numberOfTrailingZeros_0f7a4_49 rfl (lv_at hl 1 rfl) ?_
        refine lv_bipush (v := 16) hx hb dJ6_numberOfTrailingZeros_0f7a4_50 (by decide) ?_
        refine lv_icmp_le (tgt := 62) hx hb dJ6_numberOfTrailingZeros_0f7a4_52 (by decide) (fun c_7 => ?_) (fun c_7 => ?_)
        · have ic_7 : z_3.toInt ≤ 16 := ile c_7 (rfl) (by decide)
          refine lv_iload_n hx hb dJ6_numberOfTrailingZeros_0f7a4_62 rfl (lv_at hl 1 rfl) ?_
          refine lv_iconst (v := 4) hx hb dJ6_numberOfTrailingZeros_0f7a4_63 (by decide) ?_
          refine lv_icmp_le (tgt := 74) hx hb dJ6_numberOfTrailingZeros_0f7a4_64 (by decide) (fun c_8 => ?_) (fun c_8 => ?_)
          · have ic_8 : z_3.toInt ≤ 4 := ile c_8 (rfl) (by decide)
            refine lv_iload_n hx hb dJ6_numberOfTrailingZeros_0f7a4_74 rfl (lv_at hl 0 rfl) ?_
            refine lv_iload_n hx hb dJ6_numberOfTrailingZeros_0f7a4_75 rfl (lv_at hl 1 rfl) ?_
            refine lv_iconst (v := 1) hx hb dJ6_numberOfTrailingZeros_0f7a4_76 (by decide) ?_
            obtain ⟨z_9, ez_9⟩ : ∃ w : Int32, w = (z_3.toUInt32 >>> ((1 : Int32).toUInt32 &&& Int32.toUInt32 31)).toInt32 := ⟨_, rfl⟩
            refine lv_iushr (v := z_9) hx hb dJ6_numberOfTrailingZeros_0f7a4_77 ez_9.symm ?_
            have iz_9 : 0 ≤ z_9.toInt ∧ z_9.toInt ≤ 2147483647 := ushrI (k := 1) ez_9 (by decide) (by decide) (by decide)
            have jz_9 : 0 ≤ z_3.toInt → z_9.toInt = z_3.toInt / 2 := ushrQ (k := 1) ez_9 (rfl) (by decide) (by decide)
            refine lv_iadd hx hb dJ6_numberOfTrailingZeros_0f7a4_78 ?_
            refine lv_topi (fun z_10 ez_10 => ?_)
            have iz_10 : z_10.toInt = 1 + z_9.toInt := toInt_addI ez_10 (by decide) (rfl) (by omega)
            exact x_iret hx hb hr hlk hP hD hS [] (()) rfl (by decide) ⟨by (try dsimp only); first | assumption | omega | decide | exact Or.inl (by decide) | (intro h9; exact absurd h9 (by decide)) | (intro _; decide) | (simp only [ti_0, ti_1, ti_2, ti_3, ti_4, ti_5, ti_6, ti_7, ti_8, ti_9, ti_10, ti_11, ti_12, ti_m1]; omega) | (simp only [ti_0, ti_1, ti_2, ti_3, ti_4, ti_5, ti_6, ti_7, ti_8, ti_9, ti_10, ti_11, ti_12, ti_m1]; done), trivial⟩ (by decide) (by decide) dJ6_numberOfTrailingZeros_0f7a4_79
          · have ic_8 : 4 < z_3.toInt := inle c_8 (rfl) (by decide)
            refine lv_iinc (v := 3) (lv' := [(1, .int 3), (0, .int z_3)]) hx hb dJ6_numberOfTrailingZeros_0f7a4_67 hl (k := 0) rfl (by decide) (by decide) rfl (fun ls hl => ?_)
            refine lv_iload_n hx hb dJ6_numberOfTrailingZeros_0f7a4_70 rfl (lv_at hl 1 rfl) ?_
            refine lv_iconst (v := 2) hx hb dJ6_numberOfTrailingZeros_0f7a4_71 (by decide) ?_
            obtain ⟨z_11, ez_11⟩ : ∃ w : Int32, w = (z_3.toUInt32 >>> ((2 : Int32).toUInt32 &&& Int32.toUInt32 31)).toInt32 := ⟨_, rfl⟩
            refine lv_iushr (v := z_11) hx hb dJ6_numberOfTrailingZeros_0f7a4_72 ez_11.symm ?_
            have iz_11 : 0 ≤ z_11.toInt ∧ z_11.toInt ≤ 1073741823 := ushrI (k := 2) ez_11 (by decide) (by decide) (by decide)
            have jz_11 : 0 ≤ z_3.toInt → z_11.toInt = z_3.toInt / 4 := ushrQ (k := 2) ez_11 (rfl) (by decide) (by decide)
            refine lv_istore_n (lv' := [(0, .int z_11), (1, .int 3)]) hx hb dJ6_numberOfTrailingZeros_0f7a4_73 rfl hl (by decide) rfl (fun ls hl => ?_)
            refine lv_iload_n hx hb dJ6_numberOfTrailingZeros_0f7a4_74 rfl (lv_at hl 1 rfl) ?_
            refine lv_iload_n hx hb dJ6_numberOfTrailingZeros_0f7a4_75 rfl (lv_at hl 0 rfl) ?_
            refine lv_iconst (v := 1) hx hb dJ6_numberOfTrailingZeros_0f7a4_76 (by decide) ?_
            obtain ⟨z_12, ez_12⟩ : ∃ w : Int32, w = (z_11.toUInt32 >>> ((1 : Int32).toUInt32 &&& Int32.toUInt32 31)).toInt32 := ⟨_, rfl⟩
            refine lv_iushr (v := z_12) hx hb dJ6_numberOfTrailingZeros_0f7a4_77 ez_12.symm ?_
            have iz_12 : 0 ≤ z_12.toInt ∧ z_12.toInt ≤ 2147483647 := ushrI (k := 1) ez_12 (by decide) (by decide) (by decide)
            have jz_12 : 0 ≤ z_11.toInt → z_12.toInt = z_11.toInt / 2 := ushrQ (k := 1) ez_12 (rfl) (by decide) (by decide)
            refine lv_iadd hx hb dJ6_numberOfTrailingZeros_0f7a4_78 ?_
            refine lv_topi (fun z_13 ez_13 => ?_)
            have iz_13 : z_13.toInt = 3 + z_12.toInt := toInt_addI ez_13 (by decide) (rfl) (by omega)
            exact x_iret hx hb hr hlk hP hD hS [] (()) rfl (by decide) ⟨by (try dsimp only); first | assumption | omega | decide | exact Or.inl (by decide) | (intro h9; exact absurd h9 (by decide)) | (intro _; decide) | (simp only [ti_0, ti_1, ti_2, ti_3, ti_4, ti_5, ti_6, ti_7, ti_8, ti_9, ti_10, ti_11, ti_12, ti_m1]; omega) | (simp only [ti_0, ti_1, ti_2, ti_3, ti_4, ti_5, ti_6, ti_7, ti_8, ti_9, ti_10, ti_11, ti_12, ti_m1]; done), trivial⟩ (by decide) (by decide) dJ6_numberOfTrailingZeros_0f7a4_79
        · have ic_7 : 16 < z_3.toInt := inle c_7 (rfl) (by decide)
          refine lv_iinc (v := 5) (lv' := [(1, .int 5), (0, .int z_3)]) hx hb dJ6_numberOfTrailingZeros_0f7a4_55 hl (k := 0) rfl (by decide) (by decide) rfl (fun ls hl => ?_)
          refine lv_iload_n hx hb dJ6_numberOfTrailingZeros_0f7a4_58 rfl (lv_at hl 1 rfl) ?_
          refine lv_iconst (v := 4) hx hb dJ6_numberOfTrailingZeros_0f7a4_59 (by decide) ?_
          obtain ⟨z_14, ez_14⟩ : ∃ w : Int32, w = (z_3.toUInt32 >>> ((4 : Int32).toUInt32 &&& Int32.toUInt32 31)).toInt32 := ⟨_, rfl⟩
          refine lv_iushr (v := z_14) hx hb dJ6_numberOfTrailingZeros_0f7a4_60 ez_14.symm ?_
          have iz_14 : 0 ≤ z_14.toInt ∧ z_14.toInt ≤ 268435455 := ushrI (k := 4) ez_14 (by decide) (by decide) (by decide)
          have jz_14 : 0 ≤ z_3.toInt → z_14.toInt = z_3.toInt / 16 := ushrQ (k := 4) ez_14 (rfl) (by decide) (by decide)
          refine lv_istore_n (lv' := [(0, .int z_14), (1, .int 5)]) hx hb dJ6_numberOfTrailingZeros_0f7a4_61 rfl hl (by decide) rfl (fun ls hl => ?_)
          refine lv_iload_n hx hb dJ6_numberOfTrailingZeros_0f7a4_62 rfl (lv_at hl 0 rfl) ?_
          refine lv_iconst (v := 4) hx hb dJ6_numberOfTrailingZeros_0f7a4_63 (by decide) ?_
          refine lv_icmp_le (tgt := 74) hx hb dJ6_numberOfTrailingZeros_0f7a4_64 (by decide) (fun c_15 => ?_) (fun c_15 => ?_)
          · have ic_15 : z_14.toInt ≤ 4 := ile c_15 (rfl) (by decide)
            refine lv_iload_n hx hb dJ6_numberOfTrailingZeros_0f7a4_74 rfl (lv_at hl 1 rfl) ?_
            refine lv_iload_n hx hb dJ6_numberOfTrailingZeros_0f7a4_75 rfl (lv_at hl 0 rfl) ?_
            refine lv_iconst (v := 1) hx hb dJ6_numberOfTrailingZeros_0f7a4_76 (by decide) ?_
            obtain ⟨z_16, ez_16⟩ : ∃ w : Int32, w = (z_14.toUInt32 >>> ((1 : Int32).toUInt32 &&& Int32.toUInt32 31)).toInt32 := ⟨_, rfl⟩
            refine lv_iushr (v := z_16) hx hb dJ6_numberOfTrailingZeros_0f7a4_77 ez_16.symm ?_
            have iz_16 : 0 ≤ z_16.toInt ∧ z_16.toInt ≤ 2147483647 := ushrI (k := 1) ez_16 (by decide) (by decide) (by decide)
            have jz_16 : 0 ≤ z_14.toInt → z_16.toInt = z_14.toInt / 2 := ushrQ (k := 1) ez_16 (rfl) (by decide) (by decide)
            refine lv_iadd hx hb dJ6_numberOfTrailingZeros_0f7a4_78 ?_
            refine lv_topi (fun z_17 ez_17 => ?_)
            have iz_17 : z_17.toInt = 5 + z_16.toInt := toInt_addI ez_17 (by decide) (rfl) (by omega)
            exact x_iret hx hb hr hlk hP hD hS [] (()) rfl (by decide) ⟨by (try dsimp only); first | assumption | omega | decide | exact Or.inl (by decide) | (intro h9; exact absurd h9 (by decide)) | (intro _; decide) | (simp only [ti_0, ti_1, ti_2, ti_3, ti_4, ti_5, ti_6, ti_7, ti_8, ti_9, ti_10, ti_11, ti_12, ti_m1]; omega) | (simp only [ti_0, ti_1, ti_2, ti_3, ti_4, ti_5, ti_6, ti_7, ti_8, ti_9, ti_10, ti_11, ti_12, ti_m1]; done), trivial⟩ (by decide) (by decide) dJ6_numberOfTrailingZeros_0f7a4_79
          · have ic_15 : 4 < z_14.toInt := inle c_15 (rfl) (by decide)
            refine lv_iinc (v := 7) (lv' := [(1, .int 7), (0, .int z_14)]) hx hb dJ6_numberOfTrailingZeros_0f7a4_67 hl (k := 1) rfl (by decide) (by decide) rfl (fun ls hl => ?_)
            refine lv_iload_n hx hb dJ6_numberOfTrailingZeros_0f7a4_70 rfl (lv_at hl 1 rfl) ?_
            refine lv_iconst (v := 2) hx hb dJ6_numberOfTrailingZeros_0f7a4_71 (by decide) ?_
            obtain ⟨z_18, ez_18⟩ : ∃ w : Int32, w = (z_14.toUInt32 >>> ((2 : Int32).toUInt32 &&& Int32.toUInt32 31)).toInt32 := ⟨_, rfl⟩
            refine lv_iushr (v := z_18) hx hb dJ6_numberOfTrailingZeros_0f7a4_72 ez_18.symm ?_
            have iz_18 : 0 ≤ z_18.toInt ∧ z_18.toInt ≤ 1073741823 := ushrI (k := 2) ez_18 (by decide) (by decide) (by decide)
            have jz_18 : 0 ≤ z_14.toInt → z_18.toInt = z_14.toInt / 4 := ushrQ (k := 2) ez_18 (rfl) (by decide) (by decide)
            refine lv_istore_n (lv' := [(0, .int z_18), (1, .int 7)]) hx hb dJ6_numberOfTrailingZeros_0f7a4_73 rfl hl (by decide) rfl (fun ls hl => ?_)
            refine lv_iload_n hx hb dJ6_numberOfTrailingZeros_0f7a4_74 rfl (lv_at hl 1 rfl) ?_
            refine lv_iload_n hx hb dJ6_numberOfTrailingZeros_0f7a4_75 rfl (lv_at hl 0 rfl) ?_
            refine lv_iconst (v := 1) hx hb dJ6_numberOfTrailingZeros_0f7a4_76 (by decide) ?_
            obtain ⟨z_19, ez_19⟩ : ∃ w : Int32, w = (z_18.toUInt32 >>> ((1 : Int32).toUInt32 &&& Int32.toUInt32 31)).toInt32 := ⟨_, rfl⟩
            refine lv_iushr (v := z_19) hx hb dJ6_numberOfTrailingZeros_0f7a4_77 ez_19.symm ?_
            have iz_19 : 0 ≤ z_19.toInt ∧ z_19.toInt ≤ 2147483647 := ushrI (k := 1) ez_19 (by decide) (by decide) (by decide)
            have jz_19 : 0 ≤ z_18.toInt → z_19.toInt = z_18.toInt / 2 := ushrQ (k := 1) ez_19 (rfl) (by decide) (by decide)
            refine lv_iadd hx hb dJ6_numberOfTrailingZeros_0f7a4_78 ?_
            refine lv_topi (fun z_20 ez_20 => ?_)
            have iz_20 : z_20.toInt = 7 + z_19.toInt := toInt_addI ez_20 (by decide) (rfl) (by omega)
            exact x_iret hx hb hr hlk hP hD hS [] (()) rfl (by decide) ⟨by (try dsimp only); first | assumption | omega | decide | exact Or.inl (by decide) | (intro h9; exact absurd h9 (by decide)) | (intro _; decide) | (simp only [ti_0, ti_1, ti_2, ti_3, ti_4, ti_5, ti_6, ti_7, ti_8, ti_9, ti_10, ti_11, ti_12, ti_m1]; omega) | (simp only [ti_0, ti_1, ti_2, ti_3, ti_4, ti_5, ti_6, ti_7, ti_8, ti_9, ti_10, ti_11, ti_12, ti_m1]; done), trivial⟩ (by decide) (by decide) dJ6_numberOfTrailingZeros_0f7a4_79
      · have ic_6 : 256 < z_3.toInt := inle c_6 (rfl) (by decide)
        refine lv_iinc (v := 9) (lv' := [(1, .int 9), (0, .int z_3)]) hx hb dJ6_numberOfTrailingZeros_0f7a4_41 hl (k := 0) rfl (by decide) (by decide) rfl (fun ls hl => ?_)
        refine lv_iload_n hx hb dJ6_numberOfTrailingZeros_0f7a4_44 rfl (lv_at hl 1 rfl) ?_
        refine lv_bipush (v := 8) hx hb dJ6_numberOfTrailingZeros_0f7a4_45 (by decide) ?_
        obtain ⟨z_21, ez_21⟩ : ∃ w : Int32, w = (z_3.toUInt32 >>> ((8 : Int32).toUInt32 &&& Int32.toUInt32 31)).toInt32 := ⟨_, rfl⟩
        refine lv_iushr (v := z_21) hx hb dJ6_numberOfTrailingZeros_0f7a4_47 ez_21.symm ?_
        have iz_21 : 0 ≤ z_21.toInt ∧ z_21.toInt ≤ 16777215 := ushrI (k := 8) ez_21 (by decide) (by decide) (by decide)
        have jz_21 : 0 ≤ z_3.toInt → z_21.toInt = z_3.toInt / 256 := ushrQ (k := 8) ez_21 (rfl) (by decide) (by decide)
        refine lv_istore_n (lv' := [(0, .int z_21), (1, .int 9)]) hx hb dJ6_numberOfTrailingZeros_0f7a4_48 rfl hl (by decide) rfl (fun ls hl => ?_)
        refine lv_iload_n hx hb dJ6_numberOfTrailingZeros_0f7a4_49 rfl (lv_at hl 0 rfl) ?_
        refine lv_bipush (v := 16) hx hb dJ6_numberOfTrailingZeros_0f7a4_50 (by decide) ?_
        refine lv_icmp_le (tgt := 62) hx hb dJ6_numberOfTrailingZeros_0f7a4_52 (by decide) (fun c_22 => ?_) (fun c_22 => ?_)
        · have ic_22 : z_21.toInt ≤ 16 := ile c_22 (rfl) (by decide)
          refine lv_iload_n hx hb dJ6_numberOfTrailingZeros_0f7a4_62 rfl (lv_at hl 0 rfl) ?_
          refine lv_iconst (v := 4) hx hb dJ6_numberOfTrailingZeros_0f7a4_63 (by decide) ?_
          refine lv_icmp_le (tgt := 74) hx hb dJ6_numberOfTrailingZeros_0f7a4_64 (by decide) (fun c_23 => ?_) (fun c_23 => ?_)
          · have ic_23 : z_21.toInt ≤ 4 := ile c_23 (rfl) (by decide)
            refine lv_iload_n hx hb dJ6_numberOfTrailingZeros_0f7a4_74 rfl (lv_at hl 1 rfl) ?_
            refine lv_iload_n hx hb dJ6_numberOfTrailingZeros_0f7a4_75 rfl (lv_at hl 0 rfl) ?_
            refine lv_iconst (v := 1) hx hb dJ6_numberOfTrailingZeros_0f7a4_76 (by decide) ?_
            obtain ⟨z_24, ez_24⟩ : ∃ w : Int32, w = (z_21.toUInt32 >>> ((1 : Int32).toUInt32 &&& Int32.toUInt32 31)).toInt32 := ⟨_, rfl⟩
            refine lv_iushr (v := z_24) hx hb dJ6_numberOfTrailingZeros_0f7a4_77 ez_24.symm ?_
            have iz_24 : 0 ≤ z_24.toInt ∧ z_24.toInt ≤ 2147483647 := ushrI (k := 1) ez_24 (by decide) (by decide) (by decide)
            have jz_24 : 0 ≤ z_21.toInt → z_24.toInt = z_21.toInt / 2 := ushrQ (k := 1) ez_24 (rfl) (by decide) (by decide)
            refine lv_iadd hx hb dJ6_numberOfTrailingZeros_0f7a4_78 ?_
            refine lv_topi (fun z_25 ez_25 => ?_)
            have iz_25 : z_25.toInt = 9 + z_24.toInt := toInt_addI ez_25 (by decide) (rfl) (by omega)
            exact x_iret hx hb hr hlk hP hD hS [] (()) rfl (by decide) ⟨by (try dsimp only); first | assumption | omega | decide | exact Or.inl (by decide) | (intro h9; exact absurd h9 (by decide)) | (intro _; decide) | (simp only [ti_0, ti_1, ti_2, ti_3, ti_4, ti_5, ti_6, ti_7, ti_8, ti_9, ti_10, ti_11, ti_12, ti_m1]; omega) | (simp only [ti_0, ti_1, ti_2, ti_3, ti_4, ti_5, ti_6, ti_7, ti_8, ti_9, ti_10, ti_11, ti_12, ti_m1]; done), trivial⟩ (by decide) (by decide) dJ6_numberOfTrailingZeros_0f7a4_79
          · have ic_23 : 4 < z_21.toInt := inle c_23 (rfl) (by decide)
            refine lv_iinc (v := 11) (lv' := [(1, .int 11), (0, .int z_21)]) hx hb dJ6_numberOfTrailingZeros_0f7a4_67 hl (k := 1) rfl (by decide) (by decide) rfl (fun ls hl => ?_)
            refine lv_iload_n hx hb dJ6_numberOfTrailingZeros_0f7a4_70 rfl (lv_at hl 1 rfl) ?_
            refine lv_iconst (v := 2) hx hb dJ6_numberOfTrailingZeros_0f7a4_71 (by decide) ?_
            obtain ⟨z_26, ez_26⟩ : ∃ w : Int32, w = (z_21.toUInt32 >>> ((2 : Int32).toUInt32 &&& Int32.toUInt32 31)).toInt32 := ⟨_, rfl⟩
            refine lv_iushr (v := z_26) hx hb dJ6_numberOfTrailingZeros_0f7a4_72 ez_26.symm ?_
            have iz_26 : 0 ≤ z_26.toInt ∧ z_26.toInt ≤ 1073741823 := ushrI (k := 2) ez_26 (by decide) (by decide) (by decide)
            have jz_26 : 0 ≤ z_21.toInt → z_26.toInt = z_21.toInt / 4 := ushrQ (k := 2) ez_26 (rfl) (by decide) (by decide)
            refine lv_istore_n (lv' := [(0, .int z_26), (1, .int 11)]) hx hb dJ6_numberOfTrailingZeros_0f7a4_73 rfl hl (by decide) rfl (fun ls hl => ?_)
            refine lv_iload_n hx hb dJ6_numberOfTrailingZeros_0f7a4_74 rfl (lv_at hl 1 rfl) ?_
            refine lv_iload_n hx hb dJ6_numberOfTrailingZeros_0f7a4_75 rfl (lv_at hl 0 rfl) ?_
            refine lv_iconst (v := 1) hx hb dJ6_numberOfTrailingZeros_0f7a4_76 (by decide) ?_
            obtain ⟨z_27, ez_27⟩ : ∃ w : Int32, w = (z_26.toUInt32 >>> ((1 : Int32).toUInt32 &&& Int32.toUInt32 31)).toInt32 := ⟨_, rfl⟩
            refine lv_iushr (v := z_27) hx hb dJ6_numberOfTrailingZeros_0f7a4_77 ez_27.symm ?_
            have iz_27 : 0 ≤ z_27.toInt ∧ z_27.toInt ≤ 2147483647 := ushrI (k := 1) ez_27 (by decide) (by decide) (by decide)
            have jz_27 : 0 ≤ z_26.toInt → z_27.toInt = z_26.toInt / 2 := ushrQ (k := 1) ez_27 (rfl) (by decide) (by decide)
            refine lv_iadd hx hb dJ6_numberOfTrailingZeros_0f7a4_78 ?_
            refine lv_topi (fun z_28 ez_28 => ?_)
            have iz_28 : z_28.toInt = 11 + z_27.toInt := toInt_addI ez_28 (by decide) (rfl) (by omega)
            exact x_iret hx hb hr hlk hP hD hS [] (()) rfl (by decide) ⟨by (try dsimp only); first | assumption | omega | decide | exact Or.inl (by decide) | (intro h9; exact absurd h9 (by decide)) | (intro _; decide) | (simp only [ti_0, ti_1, ti_2, ti_3, ti_4, ti_5, ti_6, ti_7, ti_8, ti_9, ti_10, ti_11, ti_12, ti_m1]; omega) | (simp only [ti_0, ti_1, ti_2, ti_3, ti_4, ti_5, ti_6, ti_7, ti_8, ti_9, ti_10, ti_11, ti_12, ti_m1]; done), trivial⟩ (by decide) (by decide) dJ6_numberOfTrailingZeros_0f7a4_79
        · have ic_22 : 16 < z_21.toInt := inle c_22 (rfl) (by decide)
          refine lv_iinc (v := 13) (lv' := [(1, .int 13), (0, .int z_21)]) hx hb dJ6_numberOfTrailingZeros_0f7a4_55 hl (k := 1) rfl (by decide) (by decide) rfl (fun ls hl => ?_)
          refine lv_iload_n hx hb dJ6_numberOfTrailingZeros_0f7a4_58 rfl (lv_at hl 1 rfl) ?_
          refine lv_iconst (v := 4) hx hb dJ6_numberOfTrailingZeros_0f7a4_59 (by decide) ?_
          obtain ⟨z_29, ez_29⟩ : ∃ w : Int32, w = (z_21.toUInt32 >>> ((4 : Int32).toUInt32 &&& Int32.toUInt32 31)).toInt32 := ⟨_, rfl⟩
          refine lv_iushr (v := z_29) hx hb dJ6_numberOfTrailingZeros_0f7a4_60 ez_29.symm ?_
          have iz_29 : 0 ≤ z_29.toInt ∧ z_29.toInt ≤ 268435455 := ushrI (k := 4) ez_29 (by decide) (by decide) (by decide)
          have jz_29 : 0 ≤ z_21.toInt → z_29.toInt = z_21.toInt / 16 := ushrQ (k := 4) ez_29 (rfl) (by decide) (by decide)
          refine lv_istore_n (lv' := [(0, .int z_29), (1, .int 13)]) hx hb dJ6_numberOfTrailingZeros_0f7a4_61 rfl hl (by decide) rfl (fun ls hl => ?_)
          refine lv_iload_n hx hb dJ6_numberOfTrailingZeros_0f7a4_62 rfl (lv_at hl 0 rfl) ?_
          refine lv_iconst (v := 4) hx hb dJ6_numberOfTrailingZeros_0f7a4_63 (by decide) ?_
          refine lv_icmp_le (tgt := 74) hx hb dJ6_numberOfTrailingZeros_0f7a4_64 (by decide) (fun c_30 => ?_) (fun c_30 => ?_)
          · have ic_30 : z_29.toInt ≤ 4 := ile c_30 (rfl) (by decide)
            refine lv_iload_n hx hb dJ6_numberOfTrailingZeros_0f7a4_74 rfl (lv_at hl 1 rfl) ?_
            refine lv_iload_n hx hb dJ6_numberOfTrailingZeros_0f7a4_75 rfl (lv_at hl 0 rfl) ?_
            refine lv_iconst (v := 1) hx hb dJ6_numberOfTrailingZeros_0f7a4_76 (by decide) ?_
            obtain ⟨z_31, ez_31⟩ : ∃ w : Int32, w = (z_29.toUInt32 >>> ((1 : Int32).toUInt32 &&& Int32.toUInt32 31)).toInt32 := ⟨_, rfl⟩
            refine lv_iushr (v := z_31) hx hb dJ6_numberOfTrailingZeros_0f7a4_77 ez_31.symm ?_
            have iz_31 : 0 ≤ z_31.toInt ∧ z_31.toInt ≤ 2147483647 := ushrI (k := 1) ez_31 (by decide) (by decide) (by decide)
            have jz_31 : 0 ≤ z_29.toInt → z_31.toInt = z_29.toInt / 2 := ushrQ (k := 1) ez_31 (rfl) (by decide) (by decide)
            refine lv_iadd hx hb dJ6_numberOfTrailingZeros_0f7a4_78 ?_
            refine lv_topi (fun z_32 ez_32 => ?_)
            have iz_32 : z_32.toInt = 13 + z_31.toInt := toInt_addI ez_32 (by decide) (rfl) (by omega)
            exact x_iret hx hb hr hlk hP hD hS [] (()) rfl (by decide) ⟨by (try dsimp only); first | assumption | omega | decide | exact Or.inl (by decide) | (intro h9; exact absurd h9 (by decide)) | (intro _; decide) | (simp only [ti_0, ti_1, ti_2, ti_3, ti_4, ti_5, ti_6, ti_7, ti_8, ti_9, ti_10, ti_11, ti_12, ti_m1]; omega) | (simp only [ti_0, ti_1, ti_2, ti_3, ti_4, ti_5, ti_6, ti_7, ti_8, ti_9, ti_10, ti_11, ti_12, ti_m1]; done), trivial⟩ (by decide) (by decide) dJ6_numberOfTrailingZeros_0f7a4_79
          · have ic_30 : 4 < z_29.toInt := inle c_30 (rfl) (by decide)
            refine lv_iinc (v := 15) (lv' := [(1, .int 15), (0, .int z_29)]) hx hb dJ6_numberOfTrailingZeros_0f7a4_67 hl (k := 1) rfl (by decide) (by decide) rfl (fun ls hl => ?_)
            refine lv_iload_n hx hb dJ6_numberOfTrailingZeros_0f7a4_70 rfl (lv_at hl 1 rfl) ?_
            refine lv_iconst (v := 2) hx hb dJ6_numberOfTrailingZeros_0f7a4_71 (by decide) ?_
            obtain ⟨z_33, ez_33⟩ : ∃ w : Int32, w = (z_29.toUInt32 >>> ((2 : Int32).toUInt32 &&& Int32.toUInt32 31)).toInt32 := ⟨_, rfl⟩
            refine lv_iushr (v := z_33) hx hb dJ6_numberOfTrailingZeros_0f7a4_72 ez_33.symm ?_
            have iz_33 : 0 ≤ z_33.toInt ∧ z_33.toInt ≤ 1073741823 := ushrI (k := 2) ez_33 (by decide) (by decide) (by decide)
            have jz_33 : 0 ≤ z_29.toInt → z_33.toInt = z_29.toInt / 4 := ushrQ (k := 2) ez_33 (rfl) (by decide) (by decide)
            refine lv_istore_n (lv' := [(0, .int z_33), (1, .int 15)]) hx hb dJ6_numberOfTrailingZeros_0f7a4_73 rfl hl (by decide) rfl (fun ls hl => ?_)
            refine lv_iload_n hx hb dJ6_numberOfTrailingZeros_0f7a4_74 rfl (lv_at hl 1 rfl) ?_
            refine lv_iload_n hx hb dJ6_numberOfTrailingZeros_0f7a4_75 rfl (lv_at hl 0 rfl) ?_
            refine lv_iconst (v := 1) hx hb dJ6_numberOfTrailingZeros_0f7a4_76 (by decide) ?_
            obtain ⟨z_34, ez_34⟩ : ∃ w : Int32, w = (z_33.toUInt32 >>> ((1 : Int32).toUInt32 &&& Int32.toUInt32 31)).toInt32 := ⟨_, rfl⟩
            refine lv_iushr (v := z_34) hx hb dJ6_numberOfTrailingZeros_0f7a4_77 ez_34.symm ?_
            have iz_34 : 0 ≤ z_34.toInt ∧ z_34.toInt ≤ 2147483647 := ushrI (k := 1) ez_34 (by decide) (by decide) (by decide)
            have jz_34 : 0 ≤ z_33.toInt → z_34.toInt = z_33.toInt / 2 := ushrQ (k := 1) ez_34 (rfl) (by decide) (by decide)
            refine lv_iadd hx hb dJ6_numberOfTrailingZeros_0f7a4_78 ?_
            refine lv_topi (fun z_35 ez_35 => ?_)
            have iz_35 : z_35.toInt = 15 + z_34.toInt := toInt_addI ez_35 (by decide) (rfl) (by omega)
            exact x_iret hx hb hr hlk hP hD hS [] (()) rfl (by decide) ⟨by (try dsimp only); first | assumption | omega | decide | exact Or.inl (by decide) | (intro h9; exact absurd h9 (by decide)) | (intro _; decide) | (simp only [ti_0, ti_1, ti_2, ti_3, ti_4, ti_5, ti_6, ti_7, ti_8, ti_9, ti_10, ti_11, ti_12, ti_m1]; omega) | (simp only [ti_0, ti_1, ti_2, ti_3, ti_4, ti_5, ti_6, ti_7, ti_8, ti_9, ti_10, ti_11, ti_12, ti_m1]; done), trivial⟩ (by decide) (by decide) dJ6_numberOfTrailingZeros_0f7a4_79
    · have ic_5 : 65536 < z_3.toInt := inle c_5 (rfl) (by decide)
      refine lv_iinc (v := 17) (lv' := [(1, .int 17), (0, .int z_3)]) hx hb dJ6_numberOfTrailingZeros_0f7a4_26 hl (k := 0) rfl (by decide) (by decide) rfl (fun ls hl => ?_)
      refine lv_iload_n hx hb dJ6_numberOfTrailingZeros_0f7a4_29 rfl (lv_at hl 1 rfl) ?_
      refine lv_bipush (v := 16) hx hb dJ6_numberOfTrailingZeros_0f7a4_30 (by decide) ?_
      obtain ⟨z_36, ez_36⟩ : ∃ w : Int32, w = (z_3.toUInt32 >>> ((16 : Int32).toUInt32 &&& Int32.toUInt32 31)).toInt32 := ⟨_, rfl⟩
      refine lv_iushr (v := z_36) hx hb dJ6_numberOfTrailingZeros_0f7a4_32 ez_36.symm ?_
      have iz_36 : 0 ≤ z_36.toInt ∧ z_36.toInt ≤ 65535 := ushrI (k := 16) ez_36 (by decide) (by decide) (by decide)
      have jz_36 : 0 ≤ z_3.toInt → z_36.toInt = z_3.toInt / 65536 := ushrQ (k := 16) ez_36 (rfl) (by decide) (by decide)
      refine lv_istore_n (lv' := [(0, .int z_36), (1, .int 17)]) hx hb dJ6_numberOfTrailingZeros_0f7a4_33 rfl hl (by decide) rfl (fun ls hl => ?_)
      refine lv_iload_n hx hb dJ6_numberOfTrailingZeros_0f7a4_34 rfl (lv_at hl 0 rfl) ?_
      refine lv_sipush (v := 256) hx hb dJ6_numberOfTrailingZeros_0f7a4_35 (by decide) ?_
      refine lv_icmp_le (tgt := 49) hx hb dJ6_numberOfTrailingZeros_0f7a4_38 (by decide) (fun c_37 => ?_) (fun c_37 => ?_)
      · have ic_37 : z_36.toInt ≤ 256 := ile c_37 (rfl) (by decide)
        refine lv_iload_n hx hb dJ6_numberOfTrailingZeros_0f7a4_49 rfl (lv_at hl 0 rfl) ?_
        refine lv_bipush (v := 16) hx hb dJ6_numberOfTrailingZeros_0f7a4_50 (by decide) ?_
        refine lv_icmp_le (tgt := 62) hx hb dJ6_numberOfTrailingZeros_0f7a4_52 (by decide) (fun c_38 => ?_) (fun c_38 => ?_)
        · have ic_38 : z_36.toInt ≤ 16 := ile c_38 (rfl) (by decide)
          refine lv_iload_n hx hb dJ6_numberOfTrailingZeros_0f7a4_62 rfl (lv_at hl 0 rfl) ?_
          refine lv_iconst (v := 4) hx hb dJ6_numberOfTrailingZeros_0f7a4_63 (by decide) ?_
          refine lv_icmp_le (tgt := 74) hx hb dJ6_numberOfTrailingZeros_0f7a4_64 (by decide) (fun c_39 => ?_) (fun c_39 => ?_)
          · have ic_39 : z_36.toInt ≤ 4 := ile c_39 (rfl) (by decide)
            refine lv_iload_n hx hb dJ6_numberOfTrailingZeros_0f7a4_74 rfl (lv_at hl 1 rfl) ?_
            refine lv_iload_n hx hb dJ6_numberOfTrailingZeros_0f7a4_75 rfl (lv_at hl 0 rfl) ?_
            refine lv_iconst (v := 1) hx hb dJ6_numberOfTrailingZeros_0f7a4_76 (by decide) ?_
            obtain ⟨z_40, ez_40⟩ : ∃ w : Int32, w = (z_36.toUInt32 >>> ((1 : Int32).toUInt32 &&& Int32.toUInt32 31)).toInt32 := ⟨_, rfl⟩
            refine lv_iushr (v := z_40) hx hb dJ6_numberOfTrailingZeros_0f7a4_77 ez_40.symm ?_
            have iz_40 : 0 ≤ z_40.toInt ∧ z_40.toInt ≤ 2147483647 := ushrI (k := 1) ez_40 (by decide) (by decide) (by decide)
            have jz_40 : 0 ≤ z_36.toInt → z_40.toInt = z_36.toInt / 2 := ushrQ (k := 1) ez_40 (rfl) (by decide) (by decide)
            refine lv_iadd hx hb dJ6_numberOfTrailingZeros_0f7a4_78 ?_
            refine lv_topi (fun z_41 ez_41 => ?_)
            have iz_41 : z_41.toInt = 17 + z_40.toInt := toInt_addI ez_41 (by decide) (rfl) (by omega)
            exact x_iret hx hb hr hlk hP hD hS [] (()) rfl (by decide) ⟨by (try dsimp only); first | assumption | omega | decide | exact Or.inl (by decide) | (intro h9; exact absurd h9 (by decide)) | (intro _; decide) | (simp only [ti_0, ti_1, ti_2, ti_3, ti_4, ti_5, ti_6, ti_7, ti_8, ti_9, ti_10, ti_11, ti_12, ti_m1]; omega) | (simp only [ti_0, ti_1, ti_2, ti_3, ti_4, ti_5, ti_6, ti_7, ti_8, ti_9, ti_10, ti_11, ti_12, ti_m1]; done), trivial⟩ (by decide) (by decide) dJ6_numberOfTrailingZeros_0f7a4_79
          · have ic_39 : 4 < z_36.toInt := inle c_39 (rfl) (by decide)
            refine lv_iinc (v := 19) (lv' := [(1, .int 19), (0, .int z_36)]) hx hb dJ6_numberOfTrailingZeros_0f7a4_67 hl (k := 1) rfl (by decide) (by decide) rfl (fun ls hl => ?_)
            refine lv_iload_n hx hb dJ6_numberOfTrailingZeros_0f7a4_70 rfl (lv_at hl 1 rfl) ?_
            refine lv_iconst (v := 2) hx hb dJ6_numberOfTrailingZeros_0f7a4_71 (by decide) ?_
            obtain ⟨z_42, ez_42⟩ : ∃ w : Int32, w = (z_36.toUInt32 >>> ((2 : Int32).toUInt32 &&& Int32.toUInt32 31)).toInt32 := ⟨_, rfl⟩
            refine lv_iushr (v := z_42) hx hb dJ6_numberOfTrailingZeros_0f7a4_72 ez_42.symm ?_
            have iz_42 : 0 ≤ z_42.toInt ∧ z_42.toInt ≤ 1073741823 := ushrI (k := 2) ez_42 (by decide) (by decide) (by decide)
            have jz_42 : 0 ≤ z_36.toInt → z_42.toInt = z_36.toInt / 4 := ushrQ (k := 2) ez_42 (rfl) (by decide) (by decide)
            refine lv_istore_n (lv' := [(0, .int z_42), (1, .int 19)]) hx hb dJ6_numberOfTrailingZeros_0f7a4_73 rfl hl (by decide) rfl (fun ls hl => ?_)
            refine lv_iload_n hx hb dJ6_numberOfTrailingZeros_0f7a4_74 rfl (lv_at hl 1 rfl) ?_
            refine lv_iload_n hx hb dJ6_numberOfTrailingZeros_0f7a4_75 rfl (lv_at hl 0 rfl) ?_
            refine lv_iconst (v := 1) hx hb dJ6_numberOfTrailingZeros_0f7a4_76 (by decide) ?_
            obtain ⟨z_43, ez_43⟩ : ∃ w : Int32, w = (z_42.toUInt32 >>> ((1 : Int32).toUInt32 &&& Int32.toUInt32 31)).toInt32 := ⟨_, rfl⟩
            refine lv_iushr (v := z_43) hx hb dJ6_numberOfTrailingZeros_0f7a4_77 ez_43.symm ?_
            have iz_43 : 0 ≤ z_43.toInt ∧ z_43.toInt ≤ 2147483647 := ushrI (k := 1) ez_43 (by decide) (by decide) (by decide)
            have jz_43 : 0 ≤ z_42.toInt → z_43.toInt = z_42.toInt / 2 := ushrQ (k := 1) ez_43 (rfl) (by decide) (by decide)
            refine lv_iadd hx hb dJ6_numberOfTrailingZeros_0f7a4_78 ?_
            refine lv_topi (fun z_44 ez_44 => ?_)
            have iz_44 : z_44.toInt = 19 + z_43.toInt := toInt_addI ez_44 (by decide) (rfl) (by omega)
            exact x_iret hx hb hr hlk hP hD hS [] (()) rfl (by decide) ⟨by (try dsimp only); first | assumption | omega | decide | exact Or.inl (by decide) | (intro h9; exact absurd h9 (by decide)) | (intro _; decide) | (simp only [ti_0, ti_1, ti_2, ti_3, ti_4, ti_5, ti_6, ti_7, ti_8, ti_9, ti_10, ti_11, ti_12, ti_m1]; omega) | (simp only [ti_0, ti_1, ti_2, ti_3, ti_4, ti_5, ti_6, ti_7, ti_8, ti_9, ti_10, ti_11, ti_12, ti_m1]; done), trivial⟩ (by decide) (by decide) dJ6_numberOfTrailingZeros_0f7a4_79
        · have ic_38 : 16 < z_36.toInt := inle c_38 (rfl) (by decide)
          refine lv_iinc (v := 21) (lv' := [(1, .int 21), (0, .int z_36)]) hx hb dJ6_numberOfTrailingZeros_0f7a4_55 hl (k := 1) rfl (by decide) (by decide) rfl (fun ls hl => ?_)
          refine lv_iload_n hx hb dJ6_numberOfTrailingZeros_0f7a4_58 rfl (lv_at hl 1 rfl) ?_
          refine lv_iconst (v := 4) hx hb dJ6_numberOfTrailingZeros_0f7a4_59 (by decide) ?_
          obtain ⟨z_45, ez_45⟩ : ∃ w : Int32, w = (z_36.toUInt32 >>> ((4 : Int32).toUInt32 &&& Int32.toUInt32 31)).toInt32 := ⟨_, rfl⟩
          refine lv_iushr (v := z_45) hx hb dJ6_numberOfTrailingZeros_0f7a4_60 ez_45.symm ?_
          have iz_45 : 0 ≤ z_45.toInt ∧ z_45.toInt ≤ 268435455 := ushrI (k := 4) ez_45 (by decide) (by decide) (by decide)
          have jz_45 : 0 ≤ z_36.toInt → z_45.toInt = z_36.toInt / 16 := ushrQ (k := 4) ez_45 (rfl) (by decide) (by decide)
          refine lv_istore_n (lv' := [(0, .int z_45), (1, .int 21)]) hx hb dJ6_numberOfTrailingZeros_0f7a4_61 rfl hl (by decide) rfl (fun ls hl => ?_)
          refine lv_iload_n hx hb dJ6_numberOfTrailingZeros_0f7a4_62 rfl (lv_at hl 0 rfl) ?_
          refine lv_iconst (v := 4) hx hb dJ6_numberOfTrailingZeros_0f7a4_63 (by decide) ?_
          refine lv_icmp_le (tgt := 74) hx hb dJ6_numberOfTrailingZeros_0f7a4_64 (by decide) (fun c_46 => ?_) (fun c_46 => ?_)
          · have ic_46 : z_45.toInt ≤ 4 := ile c_46 (rfl) (by decide)
            refine lv_iload_n hx hb dJ6_numberOfTrailingZeros_0f7a4_74 rfl (lv_at hl 1 rfl) ?_
            refine lv_iload_n hx hb dJ6_numberOfTrailingZeros_0f7a4_75 rfl (lv_at hl 0 rfl) ?_
            refine lv_iconst (v := 1) hx hb dJ6_numberOfTrailingZeros_0f7a4_76 (by decide) ?_
            obtain ⟨z_47, ez_47⟩ : ∃ w : Int32, w = (z_45.toUInt32 >>> ((1 : Int32).toUInt32 &&& Int32.toUInt32 31)).toInt32 := ⟨_, rfl⟩
            refine lv_iushr (v := z_47) hx hb dJ6_numberOfTrailingZeros_0f7a4_77 ez_47.symm ?_
            have iz_47 : 0 ≤ z_47.toInt ∧ z_47.toInt ≤ 2147483647 := ushrI (k := 1) ez_47 (by decide) (by decide) (by decide)
            have jz_47 : 0 ≤ z_45.toInt → z_47.toInt = z_45.toInt / 2 := ushrQ (k := 1) ez_47 (rfl) (by decide) (by decide)
            refine lv_iadd hx hb dJ6_numberOfTrailingZeros_0f7a4_78 ?_
            refine lv_topi (fun z_48 ez_48 => ?_)
            have iz_48 : z_48.toInt = 21 + z_47.toInt := toInt_addI ez_48 (by decide) (rfl) (by omega)
            exact x_iret hx hb hr hlk hP hD hS [] (()) rfl (by decide) ⟨by (try dsimp only); first | assumption | omega | decide | exact Or.inl (by decide) | (intro h9; exact absurd h9 (by decide)) | (intro _; decide) | (simp only [ti_0, ti_1, ti_2, ti_3, ti_4, ti_5, ti_6, ti_7, ti_8, ti_9, ti_10, ti_11, ti_12, ti_m1]; omega) | (simp only [ti_0, ti_1, ti_2, ti_3, ti_4, ti_5, ti_6, ti_7, ti_8, ti_9, ti_10, ti_11, ti_12, ti_m1]; done), trivial⟩ (by decide) (by decide) dJ6_numberOfTrailingZeros_0f7a4_79
          · have ic_46 : 4 < z_45.toInt := inle c_46 (rfl) (by decide)
            refine lv_iinc (v := 23) (lv' := [(1, .int 23), (0, .int z_45)]) hx hb dJ6_numberOfTrailingZeros_0f7a4_67 hl (k := 1) rfl (by decide) (by decide) rfl (fun ls hl => ?_)
            refine lv_iload_n hx hb dJ6_numberOfTrailingZeros_0f7a4_70 rfl (lv_at hl 1 rfl) ?_
            refine lv_iconst (v := 2) hx hb dJ6_numberOfTrailingZeros_0f7a4_71 (by decide) ?_
            obtain ⟨z_49, ez_49⟩ : ∃ w : Int32, w = (z_45.toUInt32 >>> ((2 : Int32).toUInt32 &&& Int32.toUInt32 31)).toInt32 := ⟨_, rfl⟩
            refine lv_iushr (v := z_49) hx hb dJ6_numberOfTrailingZeros_0f7a4_72 ez_49.symm ?_
            have iz_49 : 0 ≤ z_49.toInt ∧ z_49.toInt ≤ 1073741823 := ushrI (k := 2) ez_49 (by decide) (by decide) (by decide)
            have jz_49 : 0 ≤ z_45.toInt → z_49.toInt = z_45.toInt / 4 := ushrQ (k := 2) ez_49 (rfl) (by decide) (by decide)
            refine lv_istore_n (lv' := [(0, .int z_49), (1, .int 23)]) hx hb dJ6_numberOfTrailingZeros_0f7a4_73 rfl hl (by decide) rfl (fun ls hl => ?_)
            refine lv_iload_n hx hb dJ6_numberOfTrailingZeros_0f7a4_74 rfl (lv_at hl 1 rfl) ?_
            refine lv_iload_n hx hb dJ6_numberOfTrailingZeros_0f7a4_75 rfl (lv_at hl 0 rfl) ?_
            refine lv_iconst (v := 1) hx hb dJ6_numberOfTrailingZeros_0f7a4_76 (by decide) ?_
            obtain ⟨z_50, ez_50⟩ : ∃ w : Int32, w = (z_49.toUInt32 >>> ((1 : Int32).toUInt32 &&& Int32.toUInt32 31)).toInt32 := ⟨_, rfl⟩
            refine lv_iushr (v := z_50) hx hb dJ6_numberOfTrailingZeros_0f7a4_77 ez_50.symm ?_
            have iz_50 : 0 ≤ z_50.toInt ∧ z_50.toInt ≤ 2147483647 := ushrI (k := 1) ez_50 (by decide) (by decide) (by decide)
            have jz_50 : 0 ≤ z_49.toInt → z_50.toInt = z_49.toInt / 2 := ushrQ (k := 1) ez_50 (rfl) (by decide) (by decide)
            refine lv_iadd hx hb dJ6_numberOfTrailingZeros_0f7a4_78 ?_
            refine lv_topi (fun z_51 ez_51 => ?_)
            have iz_51 : z_51.toInt = 23 + z_50.toInt := toInt_addI ez_51 (by decide) (rfl) (by omega)
            exact x_iret hx hb hr hlk hP hD hS [] (()) rfl (by decide) ⟨by (try dsimp only); first | assumption | omega | decide | exact Or.inl (by decide) | (intro h9; exact absurd h9 (by decide)) | (intro _; decide) | (simp only [ti_0, ti_1, ti_2, ti_3, ti_4, ti_5, ti_6, ti_7, ti_8, ti_9, ti_10, ti_11, ti_12, ti_m1]; omega) | (simp only [ti_0, ti_1, ti_2, ti_3, ti_4, ti_5, ti_6, ti_7, ti_8, ti_9, ti_10, ti_11, ti_12, ti_m1]; done), trivial⟩ (by decide) (by decide) dJ6_numberOfTrailingZeros_0f7a4_79
      · have ic_37 : 256 < z_36.toInt := inle c_37 (rfl) (by decide)
        refine lv_iinc (v := 25) (lv' := [(1, .int 25), (0, .int z_36)]) hx hb dJ6_numberOfTrailingZeros_0f7a4_41 hl (k := 1) rfl (by decide) (by decide) rfl (fun ls hl => ?_)
        refine lv_iload_n hx hb dJ6_numberOfTrailingZeros_0f7a4_44 rfl (lv_at hl 1 rfl) ?_
        refine lv_bipush (v := 8) hx hb dJ6_numberOfTrailingZeros_0f7a4_45 (by decide) ?_
        obtain ⟨z_52, ez_52⟩ : ∃ w : Int32, w = (z_36.toUInt32 >>> ((8 : Int32).toUInt32 &&& Int32.toUInt32 31)).toInt32 := ⟨_, rfl⟩
        refine lv_iushr (v := z_52) hx hb dJ6_numberOfTrailingZeros_0f7a4_47 ez_52.symm ?_
        have iz_52 : 0 ≤ z_52.toInt ∧ z_52.toInt ≤ 16777215 := ushrI (k := 8) ez_52 (by decide) (by decide) (by decide)
        have jz_52 : 0 ≤ z_36.toInt → z_52.toInt = z_36.toInt / 256 := ushrQ (k := 8) ez_52 (rfl) (by decide) (by decide)
        refine lv_istore_n (lv' := [(0, .int z_52), (1, .int 25)]) hx hb dJ6_numberOfTrailingZeros_0f7a4_48 rfl hl (by decide) rfl (fun ls hl => ?_)
        refine lv_iload_n hx hb dJ6_numberOfTrailingZeros_0f7a4_49 rfl (lv_at hl 0 rfl) ?_
        refine lv_bipush (v := 16) hx hb dJ6_numberOfTrailingZeros_0f7a4_50 (by decide) ?_
        refine lv_icmp_le (tgt := 62) hx hb dJ6_numberOfTrailingZeros_0f7a4_52 (by decide) (fun c_53 => ?_) (fun c_53 => ?_)
        · have ic_53 : z_52.toInt ≤ 16 := ile c_53 (rfl) (by decide)
          refine lv_iload_n hx hb dJ6_numberOfTrailingZeros_0f7a4_62 rfl (lv_at hl 0 rfl) ?_
          refine lv_iconst (v := 4) hx hb dJ6_numberOfTrailingZeros_0f7a4_63 (by decide) ?_
          refine lv_icmp_le (tgt := 74) hx hb dJ6_numberOfTrailingZeros_0f7a4_64 (by decide) (fun c_54 => ?_) (fun c_54 => ?_)
          · have ic_54 : z_52.toInt ≤ 4 := ile c_54 (rfl) (by decide)
            refine lv_iload_n hx hb dJ6_numberOfTrailingZeros_0f7a4_74 rfl (lv_at hl 1 rfl) ?_
            refine lv_iload_n hx hb dJ6_numberOfTrailingZeros_0f7a4_75 rfl (lv_at hl 0 rfl) ?_
            refine lv_iconst (v := 1) hx hb dJ6_numberOfTrailingZeros_0f7a4_76 (by decide) ?_
            obtain ⟨z_55, ez_55⟩ : ∃ w : Int32, w = (z_52.toUInt32 >>> ((1 : Int32).toUInt32 &&& Int32.toUInt32 31)).toInt32 := ⟨_, rfl⟩
            refine lv_iushr (v := z_55) hx hb dJ6_numberOfTrailingZeros_0f7a4_77 ez_55.symm ?_
            have iz_55 : 0 ≤ z_55.toInt ∧ z_55.toInt ≤ 2147483647 := ushrI (k := 1) ez_55 (by decide) (by decide) (by decide)
            have jz_55 : 0 ≤ z_52.toInt → z_55.toInt = z_52.toInt / 2 := ushrQ (k := 1) ez_55 (rfl) (by decide) (by decide)
            refine lv_iadd hx hb dJ6_numberOfTrailingZeros_0f7a4_78 ?_
            refine lv_topi (fun z_56 ez_56 => ?_)
            have iz_56 : z_56.toInt = 25 + z_55.toInt := toInt_addI ez_56 (by decide) (rfl) (by omega)
            exact x_iret hx hb hr hlk hP hD hS [] (()) rfl (by decide) ⟨by (try dsimp only); first | assumption | omega | decide | exact Or.inl (by decide) | (intro h9; exact absurd h9 (by decide)) | (intro _; decide) | (simp only [ti_0, ti_1, ti_2, ti_3, ti_4, ti_5, ti_6, ti_7, ti_8, ti_9, ti_10, ti_11, ti_12, ti_m1]; omega) | (simp only [ti_0, ti_1, ti_2, ti_3, ti_4, ti_5, ti_6, ti_7, ti_8, ti_9, ti_10, ti_11, ti_12, ti_m1]; done), trivial⟩ (by decide) (by decide) dJ6_numberOfTrailingZeros_0f7a4_79
          · have ic_54 : 4 < z_52.toInt := inle c_54 (rfl) (by decide)
            refine lv_iinc (v := 27) (lv' := [(1, .int 27), (0, .int z_52)]) hx hb dJ6_numberOfTrailingZeros_0f7a4_67 hl (k := 1) rfl (by decide) (by decide) rfl (fun ls hl => ?_)
            refine lv_iload_n hx hb dJ6_numberOfTrailingZeros_0f7a4_70 rfl (lv_at hl 1 rfl) ?_
            refine lv_iconst (v := 2) hx hb dJ6_numberOfTrailingZeros_0f7a4_71 (by decide) ?_
            obtain ⟨z_57, ez_57⟩ : ∃ w : Int32, w = (z_52.toUInt32 >>> ((2 : Int32).toUInt32 &&& Int32.toUInt32 31)).toInt32 := ⟨_, rfl⟩
            refine lv_iushr (v := z_57) hx hb dJ6_numberOfTrailingZeros_0f7a4_72 ez_57.symm ?_
            have iz_57 : 0 ≤ z_57.toInt ∧ z_57.toInt ≤ 1073741823 := ushrI (k := 2) ez_57 (by decide) (by decide) (by decide)
            have jz_57 : 0 ≤ z_52.toInt → z_57.toInt = z_52.toInt / 4 := ushrQ (k := 2) ez_57 (rfl) (by decide) (by decide)
            refine lv_istore_n (lv' := [(0, .int z_57), (1, .int 27)]) hx hb dJ6_numberOfTrailingZeros_0f7a4_73 rfl hl (by decide) rfl (fun ls hl => ?_)
            refine lv_iload_n hx hb dJ6_numberOfTrailingZeros_0f7a4_74 rfl (lv_at hl 1 rfl) ?_
            refine lv_iload_n hx hb dJ6_numberOfTrailingZeros_0f7a4_75 rfl (lv_at hl 0 rfl) ?_
            refine lv_iconst (v := 1) hx hb dJ6_numberOfTrailingZeros_0f7a4_76 (by decide) ?_
            obtain ⟨z_58, ez_58⟩ : ∃ w : Int32, w = (z_57.toUInt32 >>> ((1 : Int32).toUInt32 &&& Int32.toUInt32 31)).toInt32 := ⟨_, rfl⟩
            refine lv_iushr (v := z_58) hx hb dJ6_numberOfTrailingZeros_0f7a4_77 ez_58.symm ?_
            have iz_58 : 0 ≤ z_58.toInt ∧ z_58.toInt ≤ 2147483647 := ushrI (k := 1) ez_58 (by decide) (by decide) (by decide)
            have jz_58 : 0 ≤ z_57.toInt → z_58.toInt = z_57.toInt / 2 := ushrQ (k := 1) ez_58 (rfl) (by decide) (by decide)
            refine lv_iadd hx hb dJ6_numberOfTrailingZeros_0f7a4_78 ?_
            refine lv_topi (fun z_59 ez_59 => ?_)
            have iz_59 : z_59.toInt = 27 + z_58.toInt := toInt_addI ez_59 (by decide) (rfl) (by omega)
            exact x_iret hx hb hr hlk hP hD hS [] (()) rfl (by decide) ⟨by (try dsimp only); first | assumption | omega | decide | exact Or.inl (by decide) | (intro h9; exact absurd h9 (by decide)) | (intro _; decide) | (simp only [ti_0, ti_1, ti_2, ti_3, ti_4, ti_5, ti_6, ti_7, ti_8, ti_9, ti_10, ti_11, ti_12, ti_m1]; omega) | (simp only [ti_0, ti_1, ti_2, ti_3, ti_4, ti_5, ti_6, ti_7, ti_8, ti_9, ti_10, ti_11, ti_12, ti_m1]; done), trivial⟩ (by decide) (by decide) dJ6_numberOfTrailingZeros_0f7a4_79
        · have ic_53 : 16 < z_52.toInt := inle c_53 (rfl) (by decide)
          refine lv_iinc (v := 29) (lv' := [(1, .int 29), (0, .int z_52)]) hx hb dJ6_numberOfTrailingZeros_0f7a4_55 hl (k := 1) rfl (by decide) (by decide) rfl (fun ls hl => ?_)
          refine lv_iload_n hx hb dJ6_numberOfTrailingZeros_0f7a4_58 rfl (lv_at hl 1 rfl) ?_
          refine lv_iconst (v := 4) hx hb dJ6_numberOfTrailingZeros_0f7a4_59 (by decide) ?_
          obtain ⟨z_60, ez_60⟩ : ∃ w : Int32, w = (z_52.toUInt32 >>> ((4 : Int32).toUInt32 &&& Int32.toUInt32 31)).toInt32 := ⟨_, rfl⟩
          refine lv_iushr (v := z_60) hx hb dJ6_numberOfTrailingZeros_0f7a4_60 ez_60.symm ?_
          have iz_60 : 0 ≤ z_60.toInt ∧ z_60.toInt ≤ 268435455 := ushrI (k := 4) ez_60 (by decide) (by decide) (by decide)
          have jz_60 : 0 ≤ z_52.toInt → z_60.toInt = z_52.toInt / 16 := ushrQ (k := 4) ez_60 (rfl) (by decide) (by decide)
          refine lv_istore_n (lv' := [(0, .int z_60), (1, .int 29)]) hx hb dJ6_numberOfTrailingZeros_0f7a4_61 rfl hl (by decide) rfl (fun ls hl => ?_)
          refine lv_iload_n hx hb dJ6_numberOfTrailingZeros_0f7a4_62 rfl (lv_at hl 0 rfl) ?_
          refine lv_iconst (v := 4) hx hb dJ6_numberOfTrailingZeros_0f7a4_63 (by decide) ?_
          refine lv_icmp_le (tgt := 74) hx hb dJ6_numberOfTrailingZeros_0f7a4_64 (by decide) (fun c_61 => ?_) (fun c_61 => ?_)
          · have ic_61 : z_60.toInt ≤ 4 := ile c_61 (rfl) (by decide)
            refine lv_iload_n hx hb dJ6_numberOfTrailingZeros_0f7a4_74 rfl (lv_at hl 1 rfl) ?_
            refine lv_iload_n hx hb dJ6_numberOfTrailingZeros_0f7a4_75 rfl (lv_at hl 0 rfl) ?_
            refine lv_iconst (v := 1) hx hb dJ6_numberOfTrailingZeros_0f7a4_76 (by decide) ?_
            obtain ⟨z_62, ez_62⟩ : ∃ w : Int32, w = (z_60.toUInt32 >>> ((1 : Int32).toUInt32 &&& Int32.toUInt32 31)).toInt32 := ⟨_, rfl⟩
            refine lv_iushr (v := z_62) hx hb dJ6_numberOfTrailingZeros_0f7a4_77 ez_62.symm ?_
            have iz_62 : 0 ≤ z_62.toInt ∧ z_62.toInt ≤ 2147483647 := ushrI (k := 1) ez_62 (by decide) (by decide) (by decide)
            have jz_62 : 0 ≤ z_60.toInt → z_62.toInt = z_60.toInt / 2 := ushrQ (k := 1) ez_62 (rfl) (by decide) (by decide)
            refine lv_iadd hx hb dJ6_numberOfTrailingZeros_0f7a4_78 ?_
            refine lv_topi (fun z_63 ez_63 => ?_)
            have iz_63 : z_63.toInt = 29 + z_62.toInt := toInt_addI ez_63 (by decide) (rfl) (by omega)
            exact x_iret hx hb hr hlk hP hD hS [] (()) rfl (by decide) ⟨by (try dsimp only); first | assumption | omega | decide | exact Or.inl (by decide) | (intro h9; exact absurd h9 (by decide)) | (intro _; decide) | (simp only [ti_0, ti_1, ti_2, ti_3, ti_4, ti_5, ti_6, ti_7, ti_8, ti_9, ti_10, ti_11, ti_12, ti_m1]; omega) | (simp only [ti_0, ti_1, ti_2, ti_3, ti_4, ti_5, ti_6, ti_7, ti_8, ti_9, ti_10, ti_11, ti_12, ti_m1]; done), trivial⟩ (by decide) (by decide) dJ6_numberOfTrailingZeros_0f7a4_79
          · have ic_61 : 4 < z_60.toInt := inle c_61 (rfl) (by decide)
            refine lv_iinc (v := 31) (lv' := [(1, .int 31), (0, .int z_60)]) hx hb dJ6_numberOfTrailingZeros_0f7a4_67 hl (k := 1) rfl (by decide) (by decide) rfl (fun ls hl => ?_)
            refine lv_iload_n hx hb dJ6_numberOfTrailingZeros_0f7a4_70 rfl (lv_at hl 1 rfl) ?_
            refine lv_iconst (v := 2) hx hb dJ6_numberOfTrailingZeros_0f7a4_71 (by decide) ?_
            obtain ⟨z_64, ez_64⟩ : ∃ w : Int32, w = (z_60.toUInt32 >>> ((2 : Int32).toUInt32 &&& Int32.toUInt32 31)).toInt32 := ⟨_, rfl⟩
            refine lv_iushr (v := z_64) hx hb dJ6_numberOfTrailingZeros_0f7a4_72 ez_64.symm ?_
            have iz_64 : 0 ≤ z_64.toInt ∧ z_64.toInt ≤ 1073741823 := ushrI (k := 2) ez_64 (by decide) (by decide) (by decide)
            have jz_64 : 0 ≤ z_60.toInt → z_64.toInt = z_60.toInt / 4 := ushrQ (k := 2) ez_64 (rfl) (by decide) (by decide)
            refine lv_istore_n (lv' := [(0, .int z_64), (1, .int 31)]) hx hb dJ6_numberOfTrailingZeros_0f7a4_73 rfl hl (by decide) rfl (fun ls hl => ?_)
            refine lv_iload_n hx hb dJ6_numberOfTrailingZeros_0f7a4_74 rfl (lv_at hl 1 rfl) ?_
            refine lv_iload_n hx hb dJ6_numberOfTrailingZeros_0f7a4_75 rfl (lv_at hl 0 rfl) ?_
            refine lv_iconst (v := 1) hx hb dJ6_numberOfTrailingZeros_0f7a4_76 (by decide) ?_
            obtain ⟨z_65, ez_65⟩ : ∃ w : Int32, w = (z_64.toUInt32 >>> ((1 : Int32).toUInt32 &&& Int32.toUInt32 31)).toInt32 := ⟨_, rfl⟩
            refine lv_iushr (v := z_65) hx hb dJ6_numberOfTrailingZeros_0f7a4_77 ez_65.symm ?_
            have iz_65 : 0 ≤ z_65.toInt ∧ z_65.toInt ≤ 2147483647 := ushrI (k := 1) ez_65 (by decide) (by decide) (by decide)
            have jz_65 : 0 ≤ z_64.toInt → z_65.toInt = z_64.toInt / 2 := ushrQ (k := 1) ez_65 (rfl) (by decide) (by decide)
            refine lv_iadd hx hb dJ6_numberOfTrailingZeros_0f7a4_78 ?_
            refine lv_topi (fun z_66 ez_66 => ?_)
            have iz_66 : z_66.toInt = 31 + z_65.toInt := toInt_addI ez_66 (by decide) (rfl) (by omega)
            exact x_iret hx hb hr hlk hP hD hS [] (()) rfl (by decide) ⟨by (try dsimp only); first | assumption | omega | decide | exact Or.inl (by decide) | (intro h9; exact absurd h9 (by decide)) | (intro _; decide) | (simp only [ti_0, ti_1, ti_2, ti_3, ti_4, ti_5, ti_6, ti_7, ti_8, ti_9, ti_10, ti_11, ti_12, ti_m1]; omega) | (simp only [ti_0, ti_1, ti_2, ti_3, ti_4, ti_5, ti_6, ti_7, ti_8, ti_9, ti_10, ti_11, ti_12, ti_m1]; done), trivial⟩ (by decide) (by decide) dJ6_numberOfTrailingZeros_0f7a4_79
  · have ic_4 : z_3.toInt ≤ 0 := inlt c_4 (by decide) (rfl)
    refine lv_iload_n hx hb dJ6_numberOfTrailingZeros_0f7a4_12 rfl (lv_at hl 0 rfl) ?_
    refine lv_bipush (v := 32) hx hb dJ6_numberOfTrailingZeros_0f7a4_13 (by decide) ?_
    refine lv_iand hx hb dJ6_numberOfTrailingZeros_0f7a4_15 ?_
    refine lv_topi (fun z_67 ez_67 => ?_)
    have iz_67 : 0 ≤ z_67.toInt ∧ z_67.toInt ≤ 32 := andI ez_67 (by decide) (by decide)
    exact x_iret hx hb hr hlk hP hD hS [] (()) rfl (by decide) ⟨by (try dsimp only); first | assumption | omega | decide | exact Or.inl (by decide) | (intro h9; exact absurd h9 (by decide)) | (intro _; decide) | (simp only [ti_0, ti_1, ti_2, ti_3, ti_4, ti_5, ti_6, ti_7, ti_8, ti_9, ti_10, ti_11, ti_12, ti_m1]; omega) | (simp only [ti_0, ti_1, ti_2, ti_3, ti_4, ti_5, ti_6, ti_7, ti_8, ti_9, ti_10, ti_11, ti_12, ti_m1]; done), trivial⟩ (by decide) (by decide) dJ6_numberOfTrailingZeros_0f7a4_16
set_option maxHeartbeats 4000000 in
set_option maxRecDepth 100000 in
theorem g_nlz (l : Launch) (D : va_G) (cT : Nat → ClassId) (sz : Nat) (x : Int32) : Met l yJ6_numberOfLeadingZeros_0f7a4 (wsc yJ6_numberOfLeadingZeros_0f7a4 cJ6_numberOfLeadingZeros_0f7a4 2 (some .int)) { frames := 2, cells := 0, slots := 0, locals := 100 } (va_Pc [.int x] (PX D cT sz [])) (va_Qi (fun (r : Int32) (u : Unit) => True) (fun u t => RW D (va_A [] sz) ((fun _ : Unit => []) u) t) (va_A [] sz)) 0 0 (va_A [] sz) := by
  refine m_of (y := yJ6_numberOfLeadingZeros_0f7a4) (cc := cJ6_numberOfLeadingZeros_0f7a4) (nL := 2) (ret := (some .int)) (D := D) (cT := cT) (av := [.int x]) (wi := []) (fun A => va_Qi (fun (r : Int32) (u : Unit) => True) (fun u t => RW D A ((fun _ : Unit => []) u) t) A) (by decide) (Nat.le_of_ble_eq_true rfl) ?_
  intro p e s m below meth c A hx hb hml hown htg hK hN hr hlk hnm hsz hP hD hS hA ls hl
  have hown : s.vm.findClass RJ6 = some m.cls := hown
  have hl : lv_has ls 2 [(0, .int x)] := hl
  refine lv_iload_n hx hb dJ6_numberOfLeadingZeros_0f7a4_0 rfl (lv_at hl 0 rfl) ?_
  refine lv_if_gt (tgt := 15) hx hb dJ6_numberOfLeadingZeros_0f7a4_1 (by decide) (fun c_1 => ?_) (fun c_1 => ?_)
  · have ic_1 : 0 < x.toInt := ilt c_1 (by decide) (rfl)
    refine lv_bipush (v := 31) hx hb dJ6_numberOfLeadingZeros_0f7a4_15 (by decide) ?_
    refine lv_istore_n (lv' := [(1, .int 31), (0, .int x)]) hx hb dJ6_numberOfLeadingZeros_0f7a4_17 rfl hl (by decide) rfl (fun ls hl => ?_)
    refine lv_iload_n hx hb dJ6_numberOfLeadingZeros_0f7a4_18 rfl (lv_at hl 1 rfl) ?_
    refine lv_ldcw (v := 65536) hx hb hown (htg _ wi_1029) dJ6_numberOfLeadingZeros_0f7a4_19 ?_
    refine lv_icmp_lt (tgt := 33) hx hb dJ6_numberOfLeadingZeros_0f7a4_22 (by decide) (fun c_2 => ?_) (fun c_2 => ?_)
    · have ic_2 : x.toInt < 65536 := ilt c_2 (rfl) (by decide)
      refine lv_iload_n hx hb dJ6_numberOfLeadingZeros_0f7a4_33 rfl (lv_at hl 1 rfl) ?_
      refine lv_sipush (v := 256) hx hb dJ6_numberOfLeadingZeros_0f7a4_34 (by decide) ?_
      refine lv_icmp_lt (tgt := 48) hx hb dJ6_numberOfLeadingZeros_0f7a4_37 (by decide) (fun c_3 => ?_) (fun c_3 => ?_)
      · have ic_3 : x.toInt < 256 := ilt c_3 (rfl) (by decide)
        refine lv_iload_n hx hb dJ6_numberOfLeadingZeros_0f7a4_48 rfl (lv_at hl 1 rfl) ?_
        refine lv_bipush (v := 16) hx hb dJ6_numberOfLeadingZeros_0f7a4_49 (by decide) ?_
        refine lv_icmp_lt (tgt := 61) hx hb dJ6_numberOfLeadingZeros_0f7a4_51 (by decide) (fun c_4 => ?_) (fun c_4 => ?_)
        · have ic_4 : x.toInt < 16 := ilt c_4 (rfl) (by decide)
          refine lv_iload_n hx hb dJ6_numberOfLeadingZeros_0f7a4_61 rfl (lv_at hl 1 rfl) ?_
          refine lv_iconst (v := 4) hx hb dJ6_numberOfLeadingZeros_0f7a4_62 (by decide) ?_
          refine lv_icmp_lt (tgt := 73) hx hb dJ6_numberOfLeadingZeros_0f7a4_63 (by decide) (fun c_5 => ?_) (fun c_5 => ?_)
          · have ic_5 : x.toInt < 4 := ilt c_5 (rfl) (by decide)
            refine lv_iload_n hx hb dJ6_numberOfLeadingZeros_0f7a4_73 rfl (lv_at hl 0 rfl) ?_
            refine lv_iload_n hx hb dJ6_numberOfLeadingZeros_0f7a4_74 rfl (lv_at hl 1 rfl) ?_
            refine lv_iconst (v := 1) hx hb dJ6_numberOfLeadingZeros_0f7a4_75 (by decide) ?_
            obtain ⟨z_6, ez_6⟩ : ∃ w : Int32, w = (x.toUInt32 >>> ((1 : Int32).toUInt32 &&& Int32.toUInt32 31)).toInt32 := ⟨_, rfl⟩
            refine lv_iushr (v := z_6) hx hb dJ6_numberOfLeadingZeros_0f7a4_76 ez_6.symm ?_
            have iz_6 : 0 ≤ z_6.toInt ∧ z_6.toInt ≤ 2147483647 := ushrI (k := 1) ez_6 (by decide) (by decide) (by decide)
            have jz_6 : 0 ≤ x.toInt → z_6.toInt = x.toInt / 2 := ushrQ (k := 1) ez_6 (rfl) (by decide) (by decide)
            refine lv_isub hx hb dJ6_numberOfLeadingZeros_0f7a4_77 ?_
            refine lv_topi (fun z_7 ez_7 => ?_)
            exact x_iret hx hb hr hlk hP hD hS [] (()) rfl (by decide) trivial (by decide) (by decide) dJ6_numberOfLeadingZeros_0f7a4_78
          · have ic_5 : 4 ≤ x.toInt := inlt c_5 (rfl) (by decide)
            refine lv_iinc (v := 29) (lv' := [(1, .int 29), (0, .int x)]) hx hb dJ6_numberOfLeadingZeros_0f7a4_66 hl (k := 0) rfl (by decide) (by decide) rfl (fun ls hl => ?_)
            refine lv_iload_n hx hb dJ6_numberOfLeadingZeros_0f7a4_69 rfl (lv_at hl 1 rfl) ?_
            refine lv_iconst (v := 2) hx hb dJ6_numberOfLeadingZeros_0f7a4_70 (by decide) ?_
            obtain ⟨z_8, ez_8⟩ : ∃ w : Int32, w = (x.toUInt32 >>> ((2 : Int32).toUInt32 &&& Int32.toUInt32 31)).toInt32 := ⟨_, rfl⟩
            refine lv_iushr (v := z_8) hx hb dJ6_numberOfLeadingZeros_0f7a4_71 ez_8.symm ?_
            have iz_8 : 0 ≤ z_8.toInt ∧ z_8.toInt ≤ 1073741823 := ushrI (k := 2) ez_8 (by decide) (by decide) (by decide)
            have jz_8 : 0 ≤ x.toInt → z_8.toInt = x.toInt / 4 := ushrQ (k := 2) ez_8 (rfl) (by decide) (by decide)
            refine lv_istore_n (lv' := [(0, .int z_8), (1, .int 29)]) hx hb dJ6_numberOfLeadingZeros_0f7a4_72 rfl hl (by decide) rfl (fun ls hl => ?_)
            refine lv_iload_n hx hb dJ6_numberOfLeadingZeros_0f7a4_73 rfl (lv_at hl 1 rfl) ?_
            refine lv_iload_n hx hb dJ6_numberOfLeadingZeros_0f7a4_74 rfl (lv_at hl 0 rfl) ?_
            refine lv_iconst (v := 1) hx hb dJ6_numberOfLeadingZeros_0f7a4_75 (by decide) ?_
            obtain ⟨z_9, ez_9⟩ : ∃ w : Int32, w = (z_8.toUInt32 >>> ((1 : Int32).toUInt32 &&& Int32.toUInt32 31)).toInt32 := ⟨_, rfl⟩
            refine lv_iushr (v := z_9) hx hb dJ6_numberOfLeadingZeros_0f7a4_76 ez_9.symm ?_
            have iz_9 : 0 ≤ z_9.toInt ∧ z_9.toInt ≤ 2147483647 := ushrI (k := 1) ez_9 (by decide) (by decide) (by decide)
            have jz_9 : 0 ≤ z_8.toInt → z_9.toInt = z_8.toInt / 2 := ushrQ (k := 1) ez_9 (rfl) (by decide) (by decide)
            refine lv_isub hx hb dJ6_numberOfLeadingZeros_0f7a4_77 ?_
            refine lv_topi (fun z_10 ez_10 => ?_)
            exact x_iret hx hb hr hlk hP hD hS [] (()) rfl (by decide) trivial (by decide) (by decide) dJ6_numberOfLeadingZeros_0f7a4_78
        · have ic_4 : 16 ≤ x.toInt := inlt c_4 (rfl) (by decide)
          refine lv_iinc (v := 27) (lv' := [(1, .int 27), (0, .int x)]) hx hb dJ6_numberOfLeadingZeros_0f7a4_54 hl (k := 0) rfl (by decide) (by decide) rfl (fun ls hl => ?_)
          refine lv_iload_n hx hb dJ6_numberOfLeadingZeros_0f7a4_57 rfl (lv_at hl 1 rfl) ?_
          refine lv_iconst (v := 4) hx hb dJ6_numberOfLeadingZeros_0f7a4_58 (by decide) ?_
          obtain ⟨z_11, ez_11⟩ : ∃ w : Int32, w = (x.toUInt32 >>> ((4 : Int32).toUInt32 &&& Int32.toUInt32 31)).toInt32 := ⟨_, rfl⟩
          refine lv_iushr (v := z_11) hx hb dJ6_numberOfLeadingZeros_0f7a4_59 ez_11.symm ?_
          have iz_11 : 0 ≤ z_11.toInt ∧ z_11.toInt ≤ 268435455 := ushrI (k := 4) ez_11 (by decide) (by decide) (by decide)
          have jz_11 : 0 ≤ x.toInt → z_11.toInt = x.toInt / 16 := ushrQ (k := 4) ez_11 (rfl) (by decide) (by decide)
          refine lv_istore_n (lv' := [(0, .int z_11), (1, .int 27)]) hx hb dJ6_numberOfLeadingZeros_0f7a4_60 rfl hl (by decide) rfl (fun ls hl => ?_)
          refine lv_iload_n hx hb dJ6_numberOfLeadingZeros_0f7a4_61 rfl (lv_at hl 0 rfl) ?_
          refine lv_iconst (v := 4) hx hb dJ6_numberOfLeadingZeros_0f7a4_62 (by decide) ?_
          refine lv_icmp_lt (tgt := 73) hx hb dJ6_numberOfLeadingZeros_0f7a4_63 (by decide) (fun c_12 => ?_) (fun c_12 => ?_)
          · have ic_12 : z_11.toInt < 4 := ilt c_12 (rfl) (by decide)
            refine lv_iload_n hx hb dJ6_numberOfLeadingZeros_0f7a4_73 rfl (lv_at hl 1 rfl) ?_
            refine lv_iload_n hx hb dJ6_numberOfLeadingZeros_0f7a4_74 rfl (lv_at hl 0 rfl) ?_
            refine lv_iconst (v := 1) hx hb dJ6_numberOfLeadingZeros_0f7a4_75 (by decide) ?_
            obtain ⟨z_13, ez_13⟩ : ∃ w : Int32, w = (z_11.toUInt32 >>> ((1 : Int32).toUInt32 &&& Int32.toUInt32 31)).toInt32 := ⟨_, rfl⟩
            refine lv_iushr (v := z_13) hx hb dJ6_numberOfLeadingZeros_0f7a4_76 ez_13.symm ?_
            have iz_13 : 0 ≤ z_13.toInt ∧ z_13.toInt ≤ 2147483647 := ushrI (k := 1) ez_13 (by decide) (by decide) (by decide)
            have jz_13 : 0 ≤ z_11.toInt → z_13.toInt = z_11.toInt / 2 := ushrQ (k := 1) ez_13 (rfl) (by decide) (by decide)
            refine lv_isub hx hb dJ6_numberOfLeadingZeros_0f7a4_77 ?_
            refine lv_topi (fun z_14 ez_14 => ?_)
            exact x_iret hx hb hr hlk hP hD hS [] (()) rfl (by decide) trivial (by decide) (by decide) dJ6_numberOfLeadingZeros_0f7a4_78
          · have ic_12 : 4 ≤ z_11.toInt := inlt c_12 (rfl) (by decide)
            refine lv_iinc (v := 25) (lv' := [(1, .int 25), (0, .int z_11)]) hx hb dJ6_numberOfLeadingZeros_0f7a4_66 hl (k := 1) rfl (by decide) (by decide) rfl (fun ls hl => ?_)
            refine lv_iload_n hx hb dJ6_numberOfLeadingZeros_0f7a4_69 rfl (lv_at hl 1 rfl) ?_
            refine lv_iconst (v := 2) hx hb dJ6_numberOfLeadingZeros_0f7a4_70 (by decide) ?_
            obtain ⟨z_15, ez_15⟩ : ∃ w : Int32, w = (z_11.toUInt32 >>> ((2 : Int32).toUInt32 &&& Int32.toUInt32 31)).toInt32 := ⟨_, rfl⟩
            refine lv_iushr (v := z_15) hx hb dJ6_numberOfLeadingZeros_0f7a4_71 ez_15.symm ?_
            have iz_15 : 0 ≤ z_15.toInt ∧ z_15.toInt ≤ 1073741823 := ushrI (k := 2) ez_15 (by decide) (by decide) (by decide)
            have jz_15 : 0 ≤ z_11.toInt → z_15.toInt = z_11.toInt / 4 := ushrQ (k := 2) ez_15 (rfl) (by decide) (by decide)
            refine lv_istore_n (lv' := [(0, .int z_15), (1, .int 25)]) hx hb dJ6_numberOfLeadingZeros_0f7a4_72 rfl hl (by decide) rfl (fun ls hl => ?_)
            refine lv_iload_n hx hb dJ6_numberOfLeadingZeros_0f7a4_73 rfl (lv_at hl 1 rfl) ?_
            refine lv_iload_n hx hb dJ6_numberOfLeadingZeros_0f7a4_74 rfl (lv_at hl 0 rfl) ?_
            refine lv_iconst (v := 1) hx hb dJ6_numberOfLeadingZeros_0f7a4_75 (by decide) ?_
            obtain ⟨z_16, ez_16⟩ : ∃ w : Int32, w = (z_15.toUInt32 >>> ((1 : Int32).toUInt32 &&& Int32.toUInt32 31)).toInt32 := ⟨_, rfl⟩
            refine lv_iushr (v := z_16) hx hb dJ6_numberOfLeadingZeros_0f7a4_76 ez_16.symm ?_
            have iz_16 : 0 ≤ z_16.toInt ∧ z_16.toInt ≤ 2147483647 := ushrI (k := 1) ez_16 (by decide) (by decide) (by decide)
            have jz_16 : 0 ≤ z_15.toInt → z_16.toInt = z_15.toInt / 2 := ushrQ (k := 1) ez_16 (rfl) (by decide) (by decide)
            refine lv_isub hx hb dJ6_numberOfLeadingZeros_0f7a4_77 ?_
            refine lv_topi (fun z_17 ez_17 => ?_)
            exact x_iret hx hb hr hlk hP hD hS [] (()) rfl (by decide) trivial (by decide) (by decide) dJ6_numberOfLeadingZeros_0f7a4_78
      · have ic_3 : 256 ≤ x.toInt := inlt c_3 (rfl) (by decide)
        refine lv_iinc (v := 23) (lv' := [(1, .int 23), (0, .int x)]) hx hb dJ6_numberOfLeadingZeros_0f7a4_40 hl (k := 0) rfl (by decide) (by decide) rfl (fun ls hl => ?_)
        refine lv_iload_n hx hb dJ6_numberOfLeadingZeros_0f7a4_43 rfl (lv_at hl 1 rfl) ?_
        refine lv_bipush (v := 8) hx hb dJ6_numberOfLeadingZeros_0f7a4_44 (by decide) ?_
        obtain ⟨z_18, ez_18⟩ : ∃ w : Int32, w = (x.toUInt32 >>> ((8 : Int32).toUInt32 &&& Int32.toUInt32 31)).toInt32 := ⟨_, rfl⟩
        refine lv_iushr (v := z_18) hx hb dJ6_numberOfLeadingZeros_0f7a4_46 ez_18.symm ?_
        have iz_18 : 0 ≤ z_18.toInt ∧ z_18.toInt ≤ 16777215 := ushrI (k := 8) ez_18 (by decide) (by decide) (by decide)
        have jz_18 : 0 ≤ x.toInt → z_18.toInt = x.toInt / 256 := ushrQ (k := 8) ez_18 (rfl) (by decide) (by decide)
        refine lv_istore_n (lv' := [(0, .int z_18), (1, .int 23)]) hx hb dJ6_numberOfLeadingZeros_0f7a4_47 rfl hl (by decide) rfl (fun ls hl => ?_)
        refine lv_iload_n hx hb dJ6_numberOfLeadingZeros_0f7a4_48 rfl (lv_at hl 0 rfl) ?_
        refine lv_bipush (v := 16) hx hb dJ6_numberOfLeadingZeros_0f7a4_49 (by decide) ?_
        refine lv_icmp_lt (tgt := 61) hx hb dJ6_numberOfLeadingZeros_0f7a4_51 (by decide) (fun c_19 => ?_) (fun c_19 => ?_)
        · have ic_19 : z_18.toInt < 16 := ilt c_19 (rfl) (by decide)
          refine lv_iload_n hx hb dJ6_numberOfLeadingZeros_0f7a4_61 rfl (lv_at hl 0 rfl) ?_
          refine lv_iconst (v := 4) hx hb dJ6_numberOfLeadingZeros_0f7a4_62 (by decide) ?_
          refine lv_icmp_lt (tgt := 73) hx hb dJ6_numberOfLeadingZeros_0f7a4_63 (by decide) (fun c_20 => ?_) (fun c_20 => ?_)
          · have ic_20 : z_18.toInt < 4 := ilt c_20 (rfl) (by decide)
            refine lv_iload_n hx hb dJ6_numberOfLeadingZeros_0f7a4_73 rfl (lv_at hl 1 rfl) ?_
            refine lv_iload_n hx hb dJ6_numberOfLeadingZeros_0f7a4_74 rfl (lv_at hl 0 rfl) ?_
            refine lv_iconst (v := 1) hx hb dJ6_numberOfLeadingZeros_0f7a4_75 (by decide) ?_
            obtain ⟨z_21, ez_21⟩ : ∃ w : Int32, w = (z_18.toUInt32 >>> ((1 : Int32).toUInt32 &&& Int32.toUInt32 31)).toInt32 := ⟨_, rfl⟩
            refine lv_iushr (v := z_21) hx hb dJ6_numberOfLeadingZeros_0f7a4_76 ez_21.symm ?_
            have iz_21 : 0 ≤ z_21.toInt ∧ z_21.toInt ≤ 2147483647 := ushrI (k := 1) ez_21 (by decide) (by decide) (by decide)
            have jz_21 : 0 ≤ z_18.toInt → z_21.toInt = z_18.toInt / 2 := ushrQ (k := 1) ez_21 (rfl) (by decide) (by decide)
            refine lv_isub hx hb dJ6_numberOfLeadingZeros_0f7a4_77 ?_
            refine lv_topi (fun z_22 ez_22 => ?_)
            exact x_iret hx hb hr hlk hP hD hS [] (()) rfl (by decide) trivial (by decide) (by decide) dJ6_numberOfLeadingZeros_0f7a4_78
          · have ic_20 : 4 ≤ z_18.toInt := inlt c_20 (rfl) (by decide)
            refine lv_iinc (v := 21) (lv' := [(1, .int 21), (0, .int z_18)]) hx hb dJ6_numberOfLeadingZeros_0f7a4_66 hl (k := 1) rfl (by decide) (by decide) rfl (fun ls hl => ?_)
            refine lv_iload_n hx hb dJ6_numberOfLeadingZeros_0f7a4_69 rfl (lv_at hl 1 rfl) ?_
            refine lv_iconst (v := 2) hx hb dJ6_numberOfLeadingZeros_0f7a4_70 (by decide) ?_
            obtain ⟨z_23, ez_23⟩ : ∃ w : Int32, w = (z_18.toUInt32 >>> ((2 : Int32).toUInt32 &&& Int32.toUInt32 31)).toInt32 := ⟨_, rfl⟩
            refine lv_iushr (v := z_23) hx hb dJ6_numberOfLeadingZeros_0f7a4_71 ez_23.symm ?_
            have iz_23 : 0 ≤ z_23.toInt ∧ z_23.toInt ≤ 1073741823 := ushrI (k := 2) ez_23 (by decide) (by decide) (by decide)
            have jz_23 : 0 ≤ z_18.toInt → z_23.toInt = z_18.toInt / 4 := ushrQ (k := 2) ez_23 (rfl) (by decide) (by decide)
            refine lv_istore_n (lv' := [(0, .int z_23), (1, .int 21)]) hx hb dJ6_numberOfLeadingZeros_0f7a4_72 rfl hl (by decide) rfl (fun ls hl => ?_)
            refine lv_iload_n hx hb dJ6_numberOfLeadingZeros_0f7a4_73 rfl (lv_at hl 1 rfl) ?_
            refine lv_iload_n hx hb dJ6_numberOfLeadingZeros_0f7a4_74 rfl (lv_at hl 0 rfl) ?_
            refine lv_iconst (v := 1) hx hb dJ6_numberOfLeadingZeros_0f7a4_75 (by decide) ?_
            obtain ⟨z_24, ez_24⟩ : ∃ w : Int32, w = (z_23.toUInt32 >>> ((1 : Int32).toUInt32 &&& Int32.toUInt32 31)).toInt32 := ⟨_, rfl⟩
            refine lv_iushr (v := z_24) hx hb dJ6_numberOfLeadingZeros_0f7a4_76 ez_24.symm ?_
            have iz_24 : 0 ≤ z_24.toInt ∧ z_24.toInt ≤ 2147483647 := ushrI (k := 1) ez_24 (by decide) (by decide) (by decide)
            have jz_24 : 0 ≤ z_23.toInt → z_24.toInt = z_23.toInt / 2 := ushrQ (k := 1) ez_24 (rfl) (by decide) (by decide)
            refine lv_isub hx hb dJ6_numberOfLeadingZeros_0f7a4_77 ?_
            refine lv_topi (fun z_25 ez_25 => ?_)
            exact x_iret hx hb hr hlk hP hD hS [] (()) rfl (by decide) trivial (by decide) (by decide) dJ6_numberOfLeadingZeros_0f7a4_78
        · have ic_19 : 16 ≤ z_18.toInt := inlt c_19 (rfl) (by decide)
          refine lv_iinc (v := 19) (lv' := [(1, .int 19), (0, .int z_18)]) hx hb dJ6_numberOfLeadingZeros_0f7a4_54 hl (k := 1) rfl (by decide) (by decide) rfl (fun ls hl => ?_)
          refine lv_iload_n hx hb dJ6_numberOfLeadingZeros_0f7a4_57 rfl (lv_at hl 1 rfl) ?_
          refine lv_iconst (v := 4) hx hb dJ6_numberOfLeadingZeros_0f7a4_58 (by decide) ?_
          obtain ⟨z_26, ez_26⟩ : ∃ w : Int32, w = (z_18.toUInt32 >>> ((4 : Int32).toUInt32 &&& Int32.toUInt32 31)).toInt32 := ⟨_, rfl⟩
          refine lv_iushr (v := z_26) hx hb dJ6_numberOfLeadingZeros_0f7a4_59 ez_26.symm ?_
          have iz_26 : 0 ≤ z_26.toInt ∧ z_26.toInt ≤ 268435455 := ushrI (k := 4) ez_26 (by decide) (by decide) (by decide)
          have jz_26 : 0 ≤ z_18.toInt → z_26.toInt = z_18.toInt / 16 := ushrQ (k := 4) ez_26 (rfl) (by decide) (by decide)
          refine lv_istore_n (lv' := [(0, .int z_26), (1, .int 19)]) hx hb dJ6_numberOfLeadingZeros_0f7a4_60 rfl hl (by decide) rfl (fun ls hl => ?_)
          refine lv_iload_n hx hb dJ6_numberOfLeadingZeros_0f7a4_61 rfl (lv_at hl 0 rfl) ?_
          refine lv_iconst (v := 4) hx hb dJ6_numberOfLeadingZeros_0f7a4_62 (by decide) ?_
          refine lv_icmp_lt (tgt := 73) hx hb dJ6_numberOfLeadingZeros_0f7a4_63 (by decide) (fun c_27 => ?_) (fun c_27 => ?_)
          · have ic_27 : z_26.toInt < 4 := ilt c_27 (rfl) (by decide)
            refine lv_iload_n hx hb dJ6_numberOfLeadingZeros_0f7a4_73 rfl (lv_at hl 1 rfl) ?_
            refine lv_iload_n hx hb dJ6_numberOfLeadingZeros_0f7a4_74 rfl (lv_at hl 0 rfl) ?_
            refine lv_iconst (v := 1) hx hb dJ6_numberOfLeadingZeros_0f7a4_75 (by decide) ?_
            obtain ⟨z_28, ez_28⟩ : ∃ w : Int32, w = (z_26.toUInt32 >>> ((1 : Int32).toUInt32 &&& Int32.toUInt32 31)).toInt32 := ⟨_, rfl⟩
            refine lv_iushr (v := z_28) hx hb dJ6_numberOfLeadingZeros_0f7a4_76 ez_28.symm ?_
            have iz_28 : 0 ≤ z_28.toInt ∧ z_28.toInt ≤ 2147483647 := ushrI (k := 1) ez_28 (by decide) (by decide) (by decide)
            have jz_28 : 0 ≤ z_26.toInt → z_28.toInt = z_26.toInt / 2 := ushrQ (k := 1) ez_28 (rfl) (by decide) (by decide)
            refine lv_isub hx hb dJ6_numberOfLeadingZeros_0f7a4_77 ?_
            refine lv_topi (fun z_29 ez_29 => ?_)
            exact x_iret hx hb hr hlk hP hD hS [] (()) rfl (by decide) trivial (by decide) (by decide) dJ6_numberOfLeadingZeros_0f7a4_78
          · have ic_27 : 4 ≤ z_26.toInt := inlt c_27 (rfl) (by decide)
            refine lv_iinc (v := 17) (lv' := [(1, .int 17), (0, .int z_26)]) hx hb dJ6_numberOfLeadingZeros_0f7a4_66 hl (k := 1) rfl (by decide) (by decide) rfl (fun ls hl => ?_)
            refine lv_iload_n hx hb dJ6_numberOfLeadingZeros_0f7a4_69 rfl (lv_at hl 1 rfl) ?_
            refine lv_iconst (v := 2) hx hb dJ6_numberOfLeadingZeros_0f7a4_70 (by decide) ?_
            obtain ⟨z_30, ez_30⟩ : ∃ w : Int32, w = (z_26.toUInt32 >>> ((2 : Int32).toUInt32 &&& Int32.toUInt32 31)).toInt32 := ⟨_, rfl⟩
            refine lv_iushr (v := z_30) hx hb dJ6_numberOfLeadingZeros_0f7a4_71 ez_30.symm ?_
            have iz_30 : 0 ≤ z_30.toInt ∧ z_30.toInt ≤ 1073741823 := ushrI (k := 2) ez_30 (by decide) (by decide) (by decide)
            have jz_30 : 0 ≤ z_26.toInt → z_30.toInt = z_26.toInt / 4 := ushrQ (k := 2) ez_30 (rfl) (by decide) (by decide)
            refine lv_istore_n (lv' := [(0, .int z_30), (1, .int 17)]) hx hb dJ6_numberOfLeadingZeros_0f7a4_72 rfl hl (by decide) rfl (fun ls hl => ?_)
            refine lv_iload_n hx hb dJ6_numberOfLeadingZeros_0f7a4_73 rfl (lv_at hl 1 rfl) ?_
            refine lv_iload_n hx hb dJ6_numberOfLeadingZeros_0f7a4_74 rfl (lv_at hl 0 rfl) ?_
            refine lv_iconst (v := 1) hx hb dJ6_numberOfLeadingZeros_0f7a4_75 (by decide) ?_
            obtain ⟨z_31, ez_31⟩ : ∃ w : Int32, w = (z_30.toUInt32 >>> ((1 : Int32).toUInt32 &&& Int32.toUInt32 31)).toInt32 := ⟨_, rfl⟩
            refine lv_iushr (v := z_31) hx hb dJ6_numberOfLeadingZeros_0f7a4_76 ez_31.symm ?_
            have iz_31 : 0 ≤ z_31.toInt ∧ z_31.toInt ≤ 2147483647 := ushrI (k := 1) ez_31 (by decide) (by decide) (by decide)
            have jz_31 : 0 ≤ z_30.toInt → z_31.toInt = z_30.toInt / 2 := ushrQ (k := 1) ez_31 (rfl) (by decide) (by decide)
            refine lv_isub hx hb dJ6_numberOfLeadingZeros_0f7a4_77 ?_
            refine lv_topi (fun z_32 ez_32 => ?_)
            exact x_iret hx hb hr hlk hP hD hS [] (()) rfl (by decide) trivial (by decide) (by decide) dJ6_numberOfLeadingZeros_0f7a4_78
    · have ic_2 : 65536 ≤ x.toInt := inlt c_2 (rfl) (by decide)
      refine lv_iinc (v := 15) (lv' := [(1, .int 15), (0, .int x)]) hx hb dJ6_numberOfLeadingZeros_0f7a4_25 hl (k := 0) rfl (by decide) (by decide) rfl (fun ls hl => ?_)
      refine lv_iload_n hx hb dJ6_numberOfLeadingZeros_0f7a4_28 rfl (lv_at hl 1 rfl) ?_
      refine lv_bipush (v := 16) hx hb dJ6_numberOfLeadingZeros_0f7a4_29 (by decide) ?_
      obtain ⟨z_33, ez_33⟩ : ∃ w : Int32, w = (x.toUInt32 >>> ((16 : Int32).toUInt32 &&& Int32.toUInt32 31)).toInt32 := ⟨_, rfl⟩
      refine lv_iushr (v := z_33) hx hb dJ6_numberOfLeadingZeros_0f7a4_31 ez_33.symm ?_
      have iz_33 : 0 ≤ z_33.toInt ∧ z_33.toInt ≤ 65535 := ushrI (k := 16) ez_33 (by decide) (by decide) (by decide)
      have jz_33 : 0 ≤ x.toInt → z_33.toInt = x.toInt / 65536 := ushrQ (k := 16) ez_33 (rfl) (by decide) (by decide)
      refine lv_istore_n (lv' := [(0, .int z_33), (1, .int 15)]) hx hb dJ6_numberOfLeadingZeros_0f7a4_32 rfl hl (by decide) rfl (fun ls hl => ?_)
      refine lv_iload_n hx hb dJ6_numberOfLeadingZeros_0f7a4_33 rfl (lv_at hl 0 rfl) ?_
      refine lv_sipush (v := 256) hx hb dJ6_numberOfLeadingZeros_0f7a4_34 (by decide) ?_
      refine lv_icmp_lt (tgt := 48) hx hb dJ6_numberOfLeadingZeros_0f7a4_37 (by decide) (fun c_34 => ?_) (fun c_34 => ?_)
      · have ic_34 : z_33.toInt < 256 := ilt c_34 (rfl) (by decide)
        refine lv_iload_n hx hb dJ6_numberOfLeadingZeros_0f7a4_48 rfl (lv_at hl 0 rfl) ?_
        refine lv_bipush (v := 16) hx hb dJ6_numberOfLeadingZeros_0f7a4_49 (by decide) ?_
        refine lv_icmp_lt (tgt := 61) hx hb dJ6_numberOfLeadingZeros_0f7a4_51 (by decide) (fun c_35 => ?_) (fun c_35 => ?_)
        · have ic_35 : z_33.toInt < 16 := ilt c_35 (rfl) (by decide)
          refine lv_iload_n hx hb dJ6_numberOfLeadingZeros_0f7a4_61 rfl (lv_at hl 0 rfl) ?_
          refine lv_iconst (v := 4) hx hb dJ6_numberOfLeadingZeros_0f7a4_62 (by decide) ?_
          refine lv_icmp_lt (tgt := 73) hx hb dJ6_numberOfLeadingZeros_0f7a4_63 (by decide) (fun c_36 => ?_) (fun c_36 => ?_)
          · have ic_36 : z_33.toInt < 4 := ilt c_36 (rfl) (by decide)
            refine lv_iload_n hx hb dJ6_numberOfLeadingZeros_0f7a4_73 rfl (lv_at hl 1 rfl) ?_
            refine lv_iload_n hx hb dJ6_numberOfLeadingZeros_0f7a4_74 rfl (lv_at hl 0 rfl) ?_
            refine lv_iconst (v := 1) hx hb dJ6_numberOfLeadingZeros_0f7a4_75 (by decide) ?_
            obtain ⟨z_37, ez_37⟩ : ∃ w : Int32, w = (z_33.toUInt32 >>> ((1 : Int32).toUInt32 &&& Int32.toUInt32 31)).toInt32 := ⟨_, rfl⟩
            refine lv_iushr (v := z_37) hx hb dJ6_numberOfLeadingZeros_0f7a4_76 ez_37.symm ?_
            have iz_37 : 0 ≤ z_37.toInt ∧ z_37.toInt ≤ 2147483647 := ushrI (k := 1) ez_37 (by decide) (by decide) (by decide)
            have jz_37 : 0 ≤ z_33.toInt → z_37.toInt = z_33.toInt / 2 := ushrQ (k := 1) ez_37 (rfl) (by decide) (by decide)
            refine lv_isub hx hb dJ6_numberOfLeadingZeros_0f7a4_77 ?_
            refine lv_topi (fun z_38 ez_38 => ?_)
            exact x_iret hx hb hr hlk hP hD hS [] (()) rfl (by decide) trivial (by decide) (by decide) dJ6_numberOfLeadingZeros_0f7a4_78
          · have ic_36 : 4 ≤ z_33.toInt := inlt c_36 (rfl) (by decide)
            refine lv_iinc (v := 13) (lv' := [(1, .int 13), (0, .int z_33)]) hx hb dJ6_numberOfLeadingZeros_0f7a4_66 hl (k := 1) rfl (by decide) (by decide) rfl (fun ls hl => ?_)
            refine lv_iload_n hx hb dJ6_numberOfLeadingZeros_0f7a4_69 rfl (lv_at hl 1 rfl) ?_
            refine lv_iconst (v := 2) hx hb dJ6_numberOfLeadingZeros_0f7a4_70 (by decide) ?_
            obtain ⟨z_39, ez_39⟩ : ∃ w : Int32, w = (z_33.toUInt32 >>> ((2 : Int32).toUInt32 &&& Int32.toUInt32 31)).toInt32 := ⟨_, rfl⟩
            refine lv_iushr (v := z_39) hx hb dJ6_numberOfLeadingZeros_0f7a4_71 ez_39.symm ?_
            have iz_39 : 0 ≤ z_39.toInt ∧ z_39.toInt ≤ 1073741823 := ushrI (k := 2) ez_39 (by decide) (by decide) (by decide)
            have jz_39 : 0 ≤ z_33.toInt → z_39.toInt = z_33.toInt / 4 := ushrQ (k := 2) ez_39 (rfl) (by decide) (by decide)
            refine lv_istore_n (lv' := [(0, .int z_39), (1, .int 13)]) hx hb dJ6_numberOfLeadingZeros_0f7a4_72 rfl hl (by decide) rfl (fun ls hl => ?_)
            refine lv_iload_n hx hb dJ6_numberOfLeadingZeros_0f7a4_73 rfl (lv_at hl 1 rfl) ?_
            refine lv_iload_n hx hb dJ6_numberOfLeadingZeros_0f7a4_74 rfl (lv_at hl 0 rfl) ?_
            refine lv_iconst (v := 1) hx hb dJ6_numberOfLeadingZeros_0f7a4_75 (by decide) ?_
            obtain ⟨z_40, ez_40⟩ : ∃ w : Int32, w = (z_39.toUInt32 >>> ((1 : Int32).toUInt32 &&& Int32.toUInt32 31)).toInt32 := ⟨_, rfl⟩
            refine lv_iushr (v := z_40) hx hb dJ6_numberOfLeadingZeros_0f7a4_76 ez_40.symm ?_
            have iz_40 : 0 ≤ z_40.toInt ∧ z_40.toInt ≤ 2147483647 := ushrI (k := 1) ez_40 (by decide) (by decide) (by decide)
            have jz_40 : 0 ≤ z_39.toInt → z_40.toInt = z_39.toInt / 2 := ushrQ (k := 1) ez_40 (rfl) (by decide) (by decide)
            refine lv_isub hx hb dJ6_numberOfLeadingZeros_0f7a4_77 ?_
            refine lv_topi (fun z_41 ez_41 => ?_)
            exact x_iret hx hb hr hlk hP hD hS [] (()) rfl (by decide) trivial (by decide) (by decide) dJ6_numberOfLeadingZeros_0f7a4_78
        · have ic_35 : 16 ≤ z_33.toInt := inlt c_35 (rfl) (by decide)
          refine lv_iinc (v := 11) (lv' := [(1, .int 11), (0, .int z_33)]) hx hb dJ6_numberOfLeadingZeros_0f7a4_54 hl (k := 1) rfl (by decide) (by decide) rfl (fun ls hl => ?_)
          refine lv_iload_n hx hb dJ6_numberOfLeadingZeros_0f7a4_57 rfl (lv_at hl 1 rfl) ?_
          refine lv_iconst (v := 4) hx hb dJ6_numberOfLeadingZeros_0f7a4_58 (by decide) ?_
          obtain ⟨z_42, ez_42⟩ : ∃ w : Int32, w = (z_33.toUInt32 >>> ((4 : Int32).toUInt32 &&& Int32.toUInt32 31)).toInt32 := ⟨_, rfl⟩
          refine lv_iushr (v := z_42) hx hb dJ6_numberOfLeadingZeros_0f7a4_59 ez_42.symm ?_
          have iz_42 : 0 ≤ z_42.toInt ∧ z_42.toInt ≤ 268435455 := ushrI (k := 4) ez_42 (by decide) (by decide) (by decide)
          have jz_42 : 0 ≤ z_33.toInt → z_42.toInt = z_33.toInt / 16 := ushrQ (k := 4) ez_42 (rfl) (by decide) (by decide)
          refine lv_istore_n (lv' := [(0, .int z_42), (1, .int 11)]) hx hb dJ6_numberOfLeadingZeros_0f7a4_60 rfl hl (by decide) rfl (fun ls hl => ?_)
          refine lv_iload_n hx hb dJ6_numberOfLeadingZeros_0f7a4_61 rfl (lv_at hl 0 rfl) ?_
          refine lv_iconst (v := 4) hx hb dJ6_numberOfLeadingZeros_0f7a4_62 (by decide) ?_
          refine lv_icmp_lt (tgt := 73) hx hb dJ6_numberOfLeadingZeros_0f7a4_63 (by decide) (fun c_43 => ?_) (fun c_43 => ?_)
          · have ic_43 : z_42.toInt < 4 := ilt c_43 (rfl) (by decide)
            refine lv_iload_n hx hb dJ6_numberOfLeadingZeros_0f7a4_73 rfl (lv_at hl 1 rfl) ?_
            refine lv_iload_n hx hb dJ6_numberOfLeadingZeros_0f7a4_74 rfl (lv_at hl 0 rfl) ?_
            refine lv_iconst (v := 1) hx hb dJ6_numberOfLeadingZeros_0f7a4_75 (by decide) ?_
            obtain ⟨z_44, ez_44⟩ : ∃ w : Int32, w = (z_42.toUInt32 >>> ((1 : Int32).toUInt32 &&& Int32.toUInt32 31)).toInt32 := ⟨_, rfl⟩
            refine lv_iushr (v := z_44) hx hb dJ6_numberOfLeadingZeros_0f7a4_76 ez_44.symm ?_
            have iz_44 : 0 ≤ z_44.toInt ∧ z_44.toInt ≤ 2147483647 := ushrI (k := 1) ez_44 (by decide) (by decide) (by decide)
            have jz_44 : 0 ≤ z_42.toInt → z_44.toInt = z_42.toInt / 2 := ushrQ (k := 1) ez_44 (rfl) (by decide) (by decide)
            refine lv_isub hx hb dJ6_numberOfLeadingZeros_0f7a4_77 ?_
            refine lv_topi (fun z_45 ez_45 => ?_)
            exact x_iret hx hb hr hlk hP hD hS [] (()) rfl (by decide) trivial (by decide) (by decide) dJ6_numberOfLeadingZeros_0f7a4_78
          · have ic_43 : 4 ≤ z_42.toInt := inlt c_43 (rfl) (by decide)
            refine lv_iinc (v := 9) (lv' := [(1, .int 9), (0, .int z_42)]) hx hb dJ6_numberOfLeadingZeros_0f7a4_66 hl (k := 1) rfl (by decide) (by decide) rfl (fun ls hl => ?_)
            refine lv_iload_n hx hb dJ6_numberOfLeadingZeros_0f7a4_69 rfl (lv_at hl 1 rfl) ?_
            refine lv_iconst (v := 2) hx hb dJ6_numberOfLeadingZeros_0f7a4_70 (by decide) ?_
            obtain ⟨z_46, ez_46⟩ : ∃ w : Int32, w = (z_42.toUInt32 >>> ((2 : Int32).toUInt32 &&& Int32.toUInt32 31)).toInt32 := ⟨_, rfl⟩
            refine lv_iushr (v := z_46) hx hb dJ6_numberOfLeadingZeros_0f7a4_71 ez_46.symm ?_
            have iz_46 : 0 ≤ z_46.toInt ∧ z_46.toInt ≤ 1073741823 := ushrI (k := 2) ez_46 (by decide) (by decide) (by decide)
            have jz_46 : 0 ≤ z_42.toInt → z_46.toInt = z_42.toInt / 4 := ushrQ (k := 2) ez_46 (rfl) (by decide) (by decide)
            refine lv_istore_n (lv' := [(0, .int z_46), (1, .int 9)]) hx hb dJ6_numberOfLeadingZeros_0f7a4_72 rfl hl (by decide) rfl (fun ls hl => ?_)
            refine lv_iload_n hx hb dJ6_numberOfLeadingZeros_0f7a4_73 rfl (lv_at hl 1 rfl) ?_
            refine lv_iload_n hx hb dJ6_numberOfLeadingZeros_0f7a4_74 rfl (lv_at hl 0 rfl) ?_
            refine lv_iconst (v := 1) hx hb dJ6_numberOfLeadingZeros_0f7a4_75 (by decide) ?_
            obtain ⟨z_47, ez_47⟩ : ∃ w : Int32, w = (z_46.toUInt32 >>> ((1 : Int32).toUInt32 &&& Int32.toUInt32 31)).toInt32 := ⟨_, rfl⟩
            refine lv_iushr (v := z_47) hx hb dJ6_numberOfLeadingZeros_0f7a4_76 ez_47.symm ?_
            have iz_47 : 0 ≤ z_47.toInt ∧ z_47.toInt ≤ 2147483647 := ushrI (k := 1) ez_47 (by decide) (by decide) (by decide)
            have jz_47 : 0 ≤ z_46.toInt → z_47.toInt = z_46.toInt / 2 := ushrQ (k := 1) ez_47 (rfl) (by decide) (by decide)
            refine lv_isub hx hb dJ6_numberOfLeadingZeros_0f7a4_77 ?_
            refine lv_topi (fun z_48 ez_48 => ?_)
            exact x_iret hx hb hr hlk hP hD hS [] (()) rfl (by decide) trivial (by decide) (by decide) dJ6_numberOfLeadingZeros_0f7a4_78
      · have ic_34 : 256 ≤ z_33.toInt := inlt c_34 (rfl) (by decide)
        refine lv_iinc (v := 7) (lv' := [(1, .int 7), (0, .int z_33)]) hx hb dJ6_numberOfLeadingZeros_0f7a4_40 hl (k := 1) rfl (by decide) (by decide) rfl (fun ls hl => ?_)
        refine lv_iload_n hx hb dJ6_numberOfLeadingZeros_0f7a4_43 rfl (lv_at hl 1 rfl) ?_
        refine lv_bipush (v := 8) hx hb dJ6_numberOfLeadingZeros_0f7a4_44 (by decide) ?_
        obtain ⟨z_49, ez_49⟩ : ∃ w : Int32, w = (z_33.toUInt32 >>> ((8 : Int32).toUInt32 &&& Int32.toUInt32 31)).toInt32 := ⟨_, rfl⟩
        refine lv_iushr (v := z_49) hx hb dJ6_numberOfLeadingZeros_0f7a4_46 ez_49.symm ?_
        have iz_49 : 0 ≤ z_49.toInt ∧ z_49.toInt ≤ 16777215 := ushrI (k := 8) ez_49 (by decide) (by decide) (by decide)
        have jz_49 : 0 ≤ z_33.toInt → z_49.toInt = z_33.toInt / 256 := ushrQ (k := 8) ez_49 (rfl) (by decide) (by decide)
        refine lv_istore_n (lv' := [(0, .int z_49), (1, .int 7)]) hx hb dJ6_numberOfLeadingZeros_0f7a4_47 rfl hl (by decide) rfl (fun ls hl => ?_)
        refine lv_iload_n hx hb dJ6_numberOfLeadingZeros_0f7a4_48 rfl (lv_at hl 0 rfl) ?_
        refine lv_bipush (v := 16) hx hb dJ6_numberOfLeadingZeros_0f7a4_49 (by decide) ?_
        refine lv_icmp_lt (tgt := 61) hx hb dJ6_numberOfLeadingZeros_0f7a4_51 (by decide) (fun c_50 => ?_) (fun c_50 => ?_)
        · have ic_50 : z_49.toInt < 16 := ilt c_50 (rfl) (by decide)
          refine lv_iload_n hx hb dJ6_numberOfLeadingZeros_0f7a4_61 rfl (lv_at hl 0 rfl) ?_
          refine lv_iconst (v := 4) hx hb dJ6_numberOfLeadingZeros_0f7a4_62 (by decide) ?_
          refine lv_icmp_lt (tgt := 73) hx hb dJ6_numberOfLeadingZeros_0f7a4_63 (by decide) (fun c_51 => ?_) (fun c_51 => ?_)
          · have ic_51 : z_49.toInt < 4 := ilt c_51 (rfl) (by decide)
            refine lv_iload_n hx hb dJ6_numberOfLeadingZeros_0f7a4_73 rfl (lv_at hl 1 rfl) ?_
            refine lv_iload_n hx hb dJ6_numberOfLeadingZeros_0f7a4_74 rfl (lv_at hl 0 rfl) ?_
            refine lv_iconst (v := 1) hx hb dJ6_numberOfLeadingZeros_0f7a4_75 (by decide) ?_
            obtain ⟨z_52, ez_52⟩ : ∃ w : Int32, w = (z_49.toUInt32 >>> ((1 : Int32).toUInt32 &&& Int32.toUInt32 31)).toInt32 := ⟨_, rfl⟩
            refine lv_iushr (v := z_52) hx hb dJ6_numberOfLeadingZeros_0f7a4_76 ez_52.symm ?_
            have iz_52 : 0 ≤ z_52.toInt ∧ z_52.toInt ≤ 2147483647 := ushrI (k := 1) ez_52 (by decide) (by decide) (by decide)
            have jz_52 : 0 ≤ z_49.toInt → z_52.toInt = z_49.toInt / 2 := ushrQ (k := 1) ez_52 (rfl) (by decide) (by decide)
            refine lv_isub hx hb dJ6_numberOfLeadingZeros_0f7a4_77 ?_
            refine lv_topi (fun z_53 ez_53 => ?_)
            exact x_iret hx hb hr hlk hP hD hS [] (()) rfl (by decide) trivial (by decide) (by decide) dJ6_numberOfLeadingZeros_0f7a4_78
          · have ic_51 : 4 ≤ z_49.toInt := inlt c_51 (rfl) (by decide)
            refine lv_iinc (v := 5) (lv' := [(1, .int 5), (0, .int z_49)]) hx hb dJ6_numberOfLeadingZeros_0f7a4_66 hl (k := 1) rfl (by decide) (by decide) rfl (fun ls hl => ?_)
            refine lv_iload_n hx hb dJ6_numberOfLeadingZeros_0f7a4_69 rfl (lv_at hl 1 rfl) ?_
            refine lv_iconst (v := 2) hx hb dJ6_numberOfLeadingZeros_0f7a4_70 (by decide) ?_
            obtain ⟨z_54, ez_54⟩ : ∃ w : Int32, w = (z_49.toUInt32 >>> ((2 : Int32).toUInt32 &&& Int32.toUInt32 31)).toInt32 := ⟨_, rfl⟩
            refine lv_iushr (v := z_54) hx hb dJ6_numberOfLeadingZeros_0f7a4_71 ez_54.symm ?_
            have iz_54 : 0 ≤ z_54.toInt ∧ z_54.toInt ≤ 1073741823 := ushrI (k := 2) ez_54 (by decide) (by decide) (by decide)
            have jz_54 : 0 ≤ z_49.toInt → z_54.toInt = z_49.toInt / 4 := ushrQ (k := 2) ez_54 (rfl) (by decide) (by decide)
            refine lv_istore_n (lv' := [(0, .int z_54), (1, .int 5)]) hx hb dJ6_numberOfLeadingZeros_0f7a4_72 rfl hl (by decide) rfl (fun ls hl => ?_)
            refine lv_iload_n hx hb dJ6_numberOfLeadingZeros_0f7a4_73 rfl (lv_at hl 1 rfl) ?_
            refine lv_iload_n hx hb dJ6_numberOfLeadingZeros_0f7a4_74 rfl (lv_at hl 0 rfl) ?_
            refine lv_iconst (v := 1) hx hb dJ6_numberOfLeadingZeros_0f7a4_75 (by decide) ?_
            obtain ⟨z_55, ez_55⟩ : ∃ w : Int32, w = (z_54.toUInt32 >>> ((1 : Int32).toUInt32 &&& Int32.toUInt32 31)).toInt32 := ⟨_, rfl⟩
            refine lv_iushr (v := z_55) hx hb dJ6_numberOfLeadingZeros_0f7a4_76 ez_55.symm ?_
            have iz_55 : 0 ≤ z_55.toInt ∧ z_55.toInt ≤ 2147483647 := ushrI (k := 1) ez_55 (by decide) (by decide) (by decide)
            have jz_55 : 0 ≤ z_54.toInt → z_55.toInt = z_54.toInt / 2 := ushrQ (k := 1) ez_55 (rfl) (by decide) (by decide)
            refine lv_isub hx hb dJ6_numberOfLeadingZeros_0f7a4_77 ?_
            refine lv_topi (fun z_56 ez_56 => ?_)
            exact x_iret hx hb hr hlk hP hD hS [] (()) rfl (by decide) trivial (by decide) (by decide) dJ6_numberOfLeadingZeros_0f7a4_78
        · have ic_50 : 16 ≤ z_49.toInt := inlt c_50 (rfl) (by decide)
          refine lv_iinc (v := 3) (lv' := [(1, .int 3), (0, .int z_49)]) hx hb dJ6_numberOfLeadingZeros_0f7a4_54 hl (k := 1) rfl (by decide) (by decide) rfl (fun ls hl => ?_)
          refine lv_iload_n hx hb dJ6_numberOfLeadingZeros_0f7a4_57 rfl (lv_at hl 1 rfl) ?_
          refine lv_iconst (v := 4) hx hb dJ6_numberOfLeadingZeros_0f7a4_58 (by decide) ?_
          obtain ⟨z_57, ez_57⟩ : ∃ w : Int32, w = (z_49.toUInt32 >>> ((4 : Int32).toUInt32 &&& Int32.toUInt32 31)).toInt32 := ⟨_, rfl⟩
          refine lv_iushr (v := z_57) hx hb dJ6_numberOfLeadingZeros_0f7a4_59 ez_57.symm ?_
          have iz_57 : 0 ≤ z_57.toInt ∧ z_57.toInt ≤ 268435455 := ushrI (k := 4) ez_57 (by decide) (by decide) (by decide)
          have jz_57 : 0 ≤ z_49.toInt → z_57.toInt = z_49.toInt / 16 := ushrQ (k := 4) ez_57 (rfl) (by decide) (by decide)
          refine lv_istore_n (lv' := [(0, .int z_57), (1, .int 3)]) hx hb dJ6_numberOfLeadingZeros_0f7a4_60 rfl hl (by decide) rfl (fun ls hl => ?_)
          refine lv_iload_n hx hb dJ6_numberOfLeadingZeros_0f7a4_61 rfl (lv_at hl 0 rfl) ?_
          refine lv_iconst (v := 4) hx hb dJ6_numberOfLeadingZeros_0f7a4_62 (by decide) ?_
          refine lv_icmp_lt (tgt := 73) hx hb dJ6_numberOfLeadingZeros_0f7a4_63 (by decide) (fun c_58 => ?_) (fun c_58 => ?_)
          · have ic_58 : z_57.toInt < 4 := ilt c_58 (rfl) (by decide)
            refine lv_iload_n hx hb dJ6_numberOfLeadingZeros_0f7a4_73 rfl (lv_at hl 1 rfl) ?_
            refine lv_iload_n hx hb dJ6_numberOfLeadingZeros_0f7a4_74 rfl (lv_at hl 0 rfl) ?_
            refine lv_iconst (v := 1) hx hb dJ6_numberOfLeadingZeros_0f7a4_75 (by decide) ?_
            obtain ⟨z_59, ez_59⟩ : ∃ w : Int32, w = (z_57.toUInt32 >>> ((1 : Int32).toUInt32 &&& Int32.toUInt32 31)).toInt32 := ⟨_, rfl⟩
            refine lv_iushr (v := z_59) hx hb dJ6_numberOfLeadingZeros_0f7a4_76 ez_59.symm ?_
            have iz_59 : 0 ≤ z_59.toInt ∧ z_59.toInt ≤ 2147483647 := ushrI (k := 1) ez_59 (by decide) (by decide) (by decide)
            have jz_59 : 0 ≤ z_57.toInt → z_59.toInt = z_57.toInt / 2 := ushrQ (k := 1) ez_59 (rfl) (by decide) (by decide)
            refine lv_isub hx hb dJ6_numberOfLeadingZeros_0f7a4_77 ?_
            refine lv_topi (fun z_60 ez_60 => ?_)
            exact x_iret hx hb hr hlk hP hD hS [] (()) rfl (by decide) trivial (by decide) (by decide) dJ6_numberOfLeadingZeros_0f7a4_78
          · have ic_58 : 4 ≤ z_57.toInt := inlt c_58 (rfl) (by decide)
            refine lv_iinc (v := 1) (lv' := [(1, .int 1), (0, .int z_57)]) hx hb dJ6_numberOfLeadingZeros_0f7a4_66 hl (k := 1) rfl (by decide) (by decide) rfl (fun ls hl => ?_)
            refine lv_iload_n hx hb dJ6_numberOfLeadingZeros_0f7a4_69 rfl (lv_at hl 1 rfl) ?_
            refine lv_iconst (v := 2) hx hb dJ6_numberOfLeadingZeros_0f7a4_70 (by decide) ?_
            obtain ⟨z_61, ez_61⟩ : ∃ w : Int32, w = (z_57.toUInt32 >>> ((2 : Int32).toUInt32 &&& Int32.toUInt32 31)).toInt32 := ⟨_, rfl⟩
            refine lv_iushr (v := z_61) hx hb dJ6_numberOfLeadingZeros_0f7a4_71 ez_61.symm ?_
            have iz_61 : 0 ≤ z_61.toInt ∧ z_61.toInt ≤ 1073741823 := ushrI (k := 2) ez_61 (by decide) (by decide) (by decide)
            have jz_61 : 0 ≤ z_57.toInt → z_61.toInt = z_57.toInt / 4 := ushrQ (k := 2) ez_61 (rfl) (by decide) (by decide)
            refine lv_istore_n (lv' := [(0, .int z_61), (1, .int 1)]) hx hb dJ6_numberOfLeadingZeros_0f7a4_72 rfl hl (by decide) rfl (fun ls hl => ?_)
            refine lv_iload_n hx hb dJ6_numberOfLeadingZeros_0f7a4_73 rfl (lv_at hl 1 rfl) ?_
            refine lv_iload_n hx hb dJ6_numberOfLeadingZeros_0f7a4_74 rfl (lv_at hl 0 rfl) ?_
            refine lv_iconst (v := 1) hx hb dJ6_numberOfLeadingZeros_0f7a4_75 (by decide) ?_
            obtain ⟨z_62, ez_62⟩ : ∃ w : Int32, w = (z_61.toUInt32 >>> ((1 : Int32).toUInt32 &&& Int32.toUInt32 31)).toInt32 := ⟨_, rfl⟩
            refine lv_iushr (v := z_62) hx hb dJ6_numberOfLeadingZeros_0f7a4_76 ez_62.symm ?_
            have iz_62 : 0 ≤ z_62.toInt ∧ z_62.toInt ≤ 2147483647 := ushrI (k := 1) ez_62 (by decide) (by decide) (by decide)
            have jz_62 : 0 ≤ z_61.toInt → z_62.toInt = z_61.toInt / 2 := ushrQ (k := 1) ez_62 (rfl) (by decide) (by decide)
            refine lv_isub hx hb dJ6_numberOfLeadingZeros_0f7a4_77 ?_
            refine lv_topi (fun z_63 ez_63 => ?_)
            exact x_iret hx hb hr hlk hP hD hS [] (()) rfl (by decide) trivial (by decide) (by decide) dJ6_numberOfLeadingZeros_0f7a4_78
  · have ic_1 : x.toInt ≤ 0 := inlt c_1 (by decide) (rfl)
    refine lv_iload_n hx hb dJ6_numberOfLeadingZeros_0f7a4_4 rfl (lv_at hl 0 rfl) ?_
    refine lv_if_ne (tgt := 13) hx hb dJ6_numberOfLeadingZeros_0f7a4_5 (by decide) (fun c_64 => ?_) (fun c_64 => ?_)
    · have ic_64 : ¬ x.toInt = 0 := ine c_64 (rfl) (by decide)
      refine lv_iconst (v := 0) hx hb dJ6_numberOfLeadingZeros_0f7a4_13 (by decide) ?_
      exact x_iret hx hb hr hlk hP hD hS [] (()) rfl (by decide) trivial (by decide) (by decide) dJ6_numberOfLeadingZeros_0f7a4_14
    · have ic_64 : x.toInt = 0 := ieq c_64 (rfl) (by decide)
      refine lv_bipush (v := 32) hx hb dJ6_numberOfLeadingZeros_0f7a4_8 (by decide) ?_
      refine lv_goto (tgt := 14) hx hb dJ6_numberOfLeadingZeros_0f7a4_10 (by decide) ?_
      exact x_iret hx hb hr hlk hP hD hS [] (()) rfl (by decide) trivial (by decide) (by decide) dJ6_numberOfLeadingZeros_0f7a4_14
set_option maxHeartbeats 4000000 in
set_option maxRecDepth 100000 in
theorem g_canLight_0 (l : Launch) (D : va_G) (cT : Nat → ClassId) (sz : Nat) (b0 : Nat) (b1 : Nat) (f0 : Nat → Int32) (f1 : Nat → Int32) (x : Int32) (y : Int32) (z : Int32) (hz : z.toInt ≤ 0) : Met l yX0_canLight (wsc yX0_canLight cX0_canLight 8 (some .boolean)) { frames := 3, cells := 0, slots := 0, locals := 121 } (va_Pc [.ref b0, .ref b1, .int x, .int y, .int z] (PX D cT sz [(sw_in cT b0 16 f0), (sw_in cT b1 16 f1)])) (va_Qi (fun (r : Int32) (u : Unit) => True) (fun u t => RW D (va_A [(sw_in cT b0 16 f0), (sw_in cT b1 16 f1)] sz) ((fun _ : Unit => [(sw_in cT b0 16 f0), (sw_in cT b1 16 f1)]) u) t) (va_A [(sw_in cT b0 16 f0), (sw_in cT b1 16 f1)] sz)) 0 0 (va_A [(sw_in cT b0 16 f0), (sw_in cT b1 16 f1)] sz) := by
  refine m_of (y := yX0_canLight) (cc := cX0_canLight) (nL := 8) (ret := (some .boolean)) (D := D) (cT := cT) (av := [.ref b0, .ref b1, .int x, .int y, .int z]) (wi := [(sw_in cT b0 16 f0), (sw_in cT b1 16 f1)]) (fun A => va_Qi (fun (r : Int32) (u : Unit) => True) (fun u t => RW D A ((fun _ : Unit => [(sw_in cT b0 16 f0), (sw_in cT b1 16 f1)]) u) t) A) (by decide) (Nat.le_of_ble_eq_true rfl) ?_
  intro p e s m below meth c A hx hb hml hown htg hK hN hr hlk hnm hsz hP hD hS hA ls hl
  have hown : s.vm.findClass RX0 = some m.cls := hown
  have hl : lv_has ls 8 [(0, .ref b0), (1, .ref b1), (2, .int x), (3, .int y), (4, .int z)] := hl
  refine lv_iload_n hx hb dX0_canLight_0 rfl (lv_at hl 2 rfl) ?_
  refine lv_if_ne (tgt := 6) hx hb dX0_canLight_1 (by decide) (fun c_1 => ?_) (fun c_1 => ?_)
  · have ic_1 : ¬ x.toInt = 0 := ine c_1 (rfl) (by decide)
    refine lv_iload_n hx hb dX0_canLight_6 rfl (lv_at hl 2 rfl) ?_
    refine xk_i (wr := [(sw_in cT b0 16 f0), (sw_in cT b1 16 f1)]) (xr_S (n := 1) (As := [.int x]) (rest := []) ⟨hx, hb, hml, hown, htg⟩ hK hN hP hD hS hA [] rfl (by decide) (g_ntz l D cT _ (x)) wi_1026 wi_1027 wi_138 wi_1028 ⟨rfl, by decide +kernel⟩ ⟨Nat.le_of_ble_eq_true rfl, Nat.le_of_ble_eq_true rfl⟩ rfl hl.1 rfl (Nat.le_of_ble_eq_true rfl) dX0_canLight_7 ⟨Nat.le_of_ble_eq_true rfl, Nat.le_of_ble_eq_true rfl⟩) hP hD hS hA [] [0, 1] rfl rfl (by decide) (by decide) (fun r_3 u_2 H locs hwr_3 hP hD hS => ?_)
    obtain ⟨hP, hD⟩ : PD D A [(sw_in cT b0 16 f0), (sw_in cT b1 16 f1)] _ := ⟨hP, hD⟩
    have qr_3_0 : 0 ≤ r_3.toInt ∧ r_3.toInt ≤ 2147483647 := hwr_3.1
    refine lv_istore (lv' := [(5, .int r_3), (0, .ref b0), (1, .ref b1), (2, .int x), (3, .int y), (4, .int z)]) hx hb dX0_canLight_10 hl (by decide) rfl (fun ls hl => ?_)
    refine lv_iload hx hb dX0_canLight_12 (lv_at hl 5 rfl) ?_
    refine lv_if_le (tgt := 24) hx hb dX0_canLight_14 (by decide) (fun _ => ?_) (fun h => absurd (Int32.le_iff_toInt_le.mpr (by rw [show (0 : Int32).toInt = 0 from by decide]; omega)) h)
    refine lv_iconst (v := 0) hx hb dX0_canLight_24 (by decide) ?_
    exact x_zret hx hb hr hlk hP hD hS [0, 1] (()) rfl (by decide) rfl trivial (by decide) (by decide) dX0_canLight_25
  · have ic_1 : x.toInt = 0 := ieq c_1 (rfl) (by decide)
    refine lv_iconst (v := 1) hx hb dX0_canLight_4 (by decide) ?_
    exact x_zret hx hb hr hlk hP hD hS [0, 1] (()) rfl (by decide) rfl trivial (by decide) (by decide) dX0_canLight_5
