/-! my own wrappers: one word list for all methods, one list of nest words, worlds, calls, ends -/
theorem gw_good : ∀ w ∈ gw_T, goodWord w = true := List.all_eq_true.mp (by decide +kernel)
theorem gG {ws : List Cond} (h : ∀ w ∈ ws, w ∈ gw_T) : GoodIn gw_T ws := fun w hw => ⟨h w hw, good_of_word (gw_good w (h w hw))⟩
def wsc (y : MethodName) (cc : ByteArray) (n : Nat) (r : Option FieldType) : List Cond := .code y cc n r :: gw_T
theorem gN_on : ∀ w ∈ gn_T, w.onTables = true := by decide +kernel
def gN_is : Cond → Bool
  | .fieldLinkNest _ _ _ _ _ _ => true
  | .methodLinkNest _ _ _ _ => true
  | _ => false
theorem gN_all : ∀ w ∈ gn_T, gN_is w = true := by decide +kernel
theorem gN_w1 {w : Cond} (hw : gN_is w = true) {s U : State} (hW : s.WarmedH U.vm) (h : va_Nw w s) : va_Nw w U := by
  cases w <;> first | exact va_Nw.warmF hW h | exact va_Nw.warmM hW h | exact absurd hw (by simp [gN_is])
/-- the String constants: owner, place, text; their bytes; cT (10 + i) is the String's cell, cT (40 + i) its row's -/
def strT : List (String × Nat × String) := [(RX6, 68, "strip"), (RX6, 116, "reapers"), (RX6, 118, "tree"), (RX6, 120, "farm"), (RX6, 77, "lamp"), (RX6, 126, "at"), (RX6, 130, "height"), (RX6, 135, "power"), (RX6, 139, "fade"), (RX6, 85, "oil"), (RX6, 92, "bid"), (RX6, 97, "moths"), (RX6, 101, "cross"), (RX9, 74, " strip reapers tree farm lamp at height power fade oil bid moths cross ")]
def strB : List (List Int32) := [[115, 116, 114, 105, 112], [114, 101, 97, 112, 101, 114, 115], [116, 114, 101, 101], [102, 97, 114, 109], [108, 97, 109, 112], [97, 116], [104, 101, 105, 103, 104, 116], [112, 111, 119, 101, 114], [102, 97, 100, 101], [111, 105, 108], [98, 105, 100], [109, 111, 116, 104, 115], [99, 114, 111, 115, 115], [32, 115, 116, 114, 105, 112, 32, 114, 101, 97, 112, 101, 114, 115, 32, 116, 114, 101, 101, 32, 102, 97, 114, 109, 32, 108, 97, 109, 112, 32, 97, 116, 32, 104, 101, 105, 103, 104, 116, 32, 112, 111, 119, 101, 114, 32, 102, 97, 100, 101, 32, 111, 105, 108, 32, 98, 105, 100, 32, 109, 111, 116, 104, 115, 32, 99, 114, 111, 115, 115, 32]]
def strL : List Nat := [5, 7, 4, 4, 4, 2, 6, 5, 4, 3, 3, 5, 5, 71]
theorem strL_le : ∀ i, i < 14 → strL.getD i 0 ≤ 100 := by decide
def NXs (cT : Nat → ClassId) (A : Nat → Prop) (U : State) (H : Heap) : Prop := vk_S 14 strL strB (fun i => cT (10 + i)) (fun i => cT (40 + i)) A U H ∧ va_Z "java/lang/String" "COMPACT_STRINGS" "Z" (.int 1) A U H ∧ va_Zq "jdk/internal/util/Preconditions" "SIOOBE_FORMATTER" "Ljava/util/function/BiFunction;" A U H
def NXr (cT : Nat → ClassId) (U : State) : Prop := ∀ i, i < 14 → vk_R (strT.getD i ("", 0, "")).1 (strT.getD i ("", 0, "")).2.1 (strT.getD i ("", 0, "")).2.2 (cT (10 + i)) U
def NX (cT : Nat → ClassId) (A : Nat → Prop) (U : State) : Prop := (∀ w ∈ gn_T, va_Nw w U) ∧ va_AO RX3 U ∧ va_AO RX4 U ∧ NXr cT U ∧ NXs cT A U U.heap
theorem NX.warm {cT : Nat → ClassId} {A B : Nat → Prop} {s U : State} {H : Heap} {locs : List Loc} (hW : s.WarmedH U.vm) (hU : U.heap = H) (hS : va_S A s.heap H locs) (hAB : ∀ q, B q → A q) (h : NX cT A s) : NX cT B U :=
  ⟨fun w hw => gN_w1 (gN_all w hw) hW (h.1 w hw), h.2.1.moved hW.alike, h.2.2.1.moved hW.alike, fun i hi => (h.2.2.2.1 i hi).warm hW,
   by rw [hU]; exact ⟨((h.2.2.2.2.1.kept hS.2.1).narrow hAB).moved hW.alike, ((h.2.2.2.2.2.1.kept hS.2.1).narrow hAB).moved hW.alike, ((h.2.2.2.2.2.2.kept hS.2.1).narrow hAB).moved hW.alike⟩⟩
abbrev classes : List vw_C := [(RX0, TX0, 2), (RX1, TX1, 5), (RX2, TX2, 11), (RX3, TX3, 16), (RX4, TX4, 4), (RX5, TX5, 5), (RX6, TX6, 9), (RX7, TX7, 11), (RX8, TX8, 13), (RX9, TX9, 37)]
abbrev tysX (cT : Nat → ClassId) : List (ClassId × FieldType) := [(cT 0, .int), (cT 1, .long), (cT 2, .byte), (cT 3, .boolean), (cT 4, .object RX3), (cT 5, .object RX4)]
def PX (D : va_G) (cT : Nat → ClassId) (sz : Nat) (ws : va_W) (U : State) : Prop := U.heap.size = sz ∧ va_P D classes ws U.heap ∧ va_K D classes (tysX cT) U ∧ va_D (fun _ => True) ws ∧ NX cT (va_A ws sz) U
def RW (D : va_G) (A : Nat → Prop) (ws : va_W) (t : State) : Prop := va_P D classes ws t.heap ∧ va_D A ws
theorem PX_blind {D : va_G} {cT : Nat → ClassId} {sz : Nat} {wi : va_W} {av : List Value} : FrameBlind (va_Pc av (PX D cT sz wi)) := fun a U g mk q => by
  obtain ⟨q0, q1, qP, qK, qD, qN⟩ := q
  have hal : U.vm.Alike (U.calling g mk a).vm := Vm.Alike.refl U.vm
  exact ⟨q0, q1, qP, va_K.moved (u := U) (U := U.calling g mk a) hal qK, qD, fun w h => va_Nw.same (u := U) (U := U.calling g mk a) (gN_on w h) rfl (qN.1 w h), va_AO.moved (u := U) (U := U.calling g mk a) hal qN.2.1, va_AO.moved (u := U) (U := U.calling g mk a) hal qN.2.2.1, fun i hi => vk_R.same (u := U) (U := U.calling g mk a) rfl (qN.2.2.2.1 i hi), vk_S.moved (u := U) (U := U.calling g mk a) hal qN.2.2.2.2.1, va_Z.moved (u := U) (U := U.calling g mk a) hal qN.2.2.2.2.2.1, va_Zq.moved (u := U) (U := U.calling g mk a) hal qN.2.2.2.2.2.2⟩
theorem fm_of {ws wc : va_W} {is : List Nat} (h : is.map (fun i => ws[i]?) = wc.map some) : is.filterMap (fun i => ws[i]?) = wc := by
  have h1 : is.filterMap (fun i => ws[i]?) = (is.map (fun i => ws[i]?)).filterMap id := by simp [List.filterMap_map]
  rw [h1, h]
  simp [List.filterMap_map]
theorem PX_of {D : va_G} {cT : Nat → ClassId} {s : State} {H : Heap} {locs : List Loc} {A : Nat → Prop} {ws wc : va_W} {av : List Value} (hK : va_K D classes (tysX cT) s) (hN : NX cT A s) (hP : va_P D classes ws H) (hD : va_D A ws) (hS : va_S A s.heap H locs) (hA : ∀ q, s.heap.size ≤ q → A q) (isC : List Nat) (hC : isC.map (fun i => ws[i]?) = wc.map some) (hnd : va_nd isC = true) : ∀ U : State, U.heap = H → s.WarmedH U.vm → va_Pc av (PX D cT H.size wc) av.toArray U :=
  fun U hU hW => ⟨rfl, by rw [hU], by rw [hU]; exact hP.sub isC (fm_of hC), va_K.moved hW.alike hK, (hD.sub isC hnd hC).weaken (fun _ _ _ _ => trivial), hN.warm hW hU hS (va_free (wc := wc) hD hS hA isC hC)⟩
theorem va_RA_uniq {U : State} {c1 c2 : ClassId} {ty : FieldType} (h1 : va_RA U c1 ty) (h2 : va_RA U c2 ty) : c1 = c2 := by
  cases ty with
  | object C =>
    obtain ⟨_, _, _, _, _, e1⟩ := h1
    obtain ⟨_, _, _, _, _, e2⟩ := h2
    exact Option.some.inj (e1.symm.trans e2)
  | _ => exact Option.some.inj (h1.symm.trans h2)
theorem ilt {x y : Int32} {a b : Int} (h : x < y) (ex : x.toInt = a) (ey : y.toInt = b) : a < b := by rw [← ex, ← ey]; exact Int32.lt_iff_toInt_lt.mp h
theorem ile {x y : Int32} {a b : Int} (h : x ≤ y) (ex : x.toInt = a) (ey : y.toInt = b) : a ≤ b := by rw [← ex, ← ey]; exact Int32.le_iff_toInt_le.mp h
theorem inlt {x y : Int32} {a b : Int} (h : ¬ x < y) (ex : x.toInt = a) (ey : y.toInt = b) : b ≤ a := by rw [← ex, ← ey]; exact Int.not_lt.mp (fun h2 => h (Int32.lt_iff_toInt_lt.mpr h2))
theorem inle {x y : Int32} {a b : Int} (h : ¬ x ≤ y) (ex : x.toInt = a) (ey : y.toInt = b) : b < a := by rw [← ex, ← ey]; exact Int.not_le.mp (fun h2 => h (Int32.le_iff_toInt_le.mpr h2))
theorem ieq {x y : Int32} {a b : Int} (h : x = y) (ex : x.toInt = a) (ey : y.toInt = b) : a = b := by rw [← ex, ← ey, h]
theorem ine {x y : Int32} {a b : Int} (h : ¬ x = y) (ex : x.toInt = a) (ey : y.toInt = b) : ¬ a = b := by rw [← ex, ← ey]; exact fun h2 => h (Int32.toInt_inj.mp h2)
theorem i32_is {x y : Int32} (h : x.toInt = y.toInt) : x = y := Int32.toInt_inj.mp h
theorem if1 {r : Int32} {P : Prop} [Decidable P] (h : r = if P then 1 else 0) (c : ¬ r = 0) : P := by
  by_cases hp : P
  · exact hp
  · rw [if_neg hp] at h; exact absurd h c
theorem if0 {r : Int32} {P : Prop} [Decidable P] (h : r = if P then 1 else 0) (c : r = 0) : ¬ P := by
  intro hp
  rw [if_pos hp, c] at h
  exact absurd h (by decide)
theorem lgc_lt {x y : Int64} {a b : Int} (h : lg_cmp x y < 0) (ex : x.toInt = a) (ey : y.toInt = b) : a < b := by
  rw [← ex, ← ey]
  unfold lg_cmp at h
  by_cases h1 : x > y
  · rw [if_pos h1] at h; exact absurd h (by decide)
  · rw [if_neg h1] at h
    by_cases h2 : x = y
    · rw [if_pos h2] at h; exact absurd h (by decide)
    · have h3 : ¬ y.toInt < x.toInt := fun q => h1 (Int64.lt_iff_toInt_lt.mpr q)
      have h4 : ¬ x.toInt = y.toInt := fun q => h2 (Int64.toInt_inj.mp q)
      omega
theorem lgc_nlt {x y : Int64} {a b : Int} (h : ¬ lg_cmp x y < 0) (ex : x.toInt = a) (ey : y.toInt = b) : b ≤ a := by
  rw [← ex, ← ey]
  unfold lg_cmp at h
  by_cases h1 : x > y
  · exact Int.le_of_lt (Int64.lt_iff_toInt_lt.mp h1)
  · rw [if_neg h1] at h
    by_cases h2 : x = y
    · rw [h2]; exact Int.le_refl _
    · rw [if_neg h2] at h; exact absurd (by decide) h
theorem lgc_gt {x y : Int64} {a b : Int} (h : 0 < lg_cmp x y) (ex : x.toInt = a) (ey : y.toInt = b) : b < a := by
  rw [← ex, ← ey]
  unfold lg_cmp at h
  by_cases h1 : x > y
  · exact Int64.lt_iff_toInt_lt.mp h1
  · rw [if_neg h1] at h
    by_cases h2 : x = y
    · rw [if_pos h2] at h; exact absurd h (by decide)
    · rw [if_neg h2] at h; exact absurd h (by decide)
theorem lgc_ngt {x y : Int64} {a b : Int} (h : ¬ 0 < lg_cmp x y) (ex : x.toInt = a) (ey : y.toInt = b) : a ≤ b := by
  rw [← ex, ← ey]
  unfold lg_cmp at h
  by_cases h1 : x > y
  · rw [if_pos h1] at h; exact absurd (by decide) h
  · exact Int.not_lt.mp (fun q => h1 (Int64.lt_iff_toInt_lt.mpr q))
theorem lgc_eq {x y : Int64} {a b : Int} (h : lg_cmp x y = 0) (ex : x.toInt = a) (ey : y.toInt = b) : a = b := by
  have h1 := lgc_nlt (x := x) (y := y) (by rw [h]; decide) ex ey
  have h2 := lgc_ngt (x := x) (y := y) (by rw [h]; decide) ex ey
  omega
theorem lgc_ne {x y : Int64} {a b : Int} (h : ¬ lg_cmp x y = 0) (ex : x.toInt = a) (ey : y.toInt = b) : ¬ a = b := by
  rw [← ex, ← ey]
  intro q
  have q2 : x = y := Int64.toInt_inj.mp q
  refine h ?_
  rw [q2]
  unfold lg_cmp
  rw [if_neg (fun z => absurd (Int64.lt_iff_toInt_lt.mp z) (Int.lt_irrefl _)), if_pos rfl]
theorem i2l_i (x : Int32) : x.toInt64.toInt = x.toInt := by simp
def fillF {α : Type} (f : Nat → α) (n : Nat) (v : α) : Nat → α := fun j => if j < n then v else f j
theorem fillF_0 {α : Type} (f : Nat → α) (v : α) : fillF f 0 v = f := rfl
theorem fillF_s (f : Nat → Int32) (n : Nat) (v : Int32) : upd (fillF f n v) n v = fillF f (n + 1) v := by
  funext j
  unfold upd fillF
  by_cases h : j = n
  · rw [if_pos h, if_pos (by omega)]
  · rw [if_neg h]
    by_cases h2 : j < n
    · rw [if_pos h2, if_pos (by omega)]
    · rw [if_neg h2, if_neg (by omega)]
theorem fillF_sL (f : Nat → Int64) (n : Nat) (v : Int64) : vp_updL (fillF f n v) n v = fillF f (n + 1) v := by
  funext j
  unfold vp_updL fillF
  by_cases h : j = n
  · rw [if_pos h, if_pos (by omega)]
  · rw [if_neg h]
    by_cases h2 : j < n
    · rw [if_pos h2, if_pos (by omega)]
    · rw [if_neg h2, if_neg (by omega)]
theorem upd_0 (k : Nat) : upd (fun _ => 0) k 0 = fun _ => 0 := by
  funext j
  unfold upd
  by_cases h : j = k
  · rw [if_pos h]
  · rw [if_neg h]
/-- the reference's 96 numbers of a plain as they begin -/
def allK : Nat → Int32 := fun j => if j = 3 then 6 else if j = 4 then 6 else if j = 5 then 1 else if j = 6 then 60 else if 10 ≤ j ∧ j < 16 then 1 else 0
theorem allK_eq : upd (upd (upd (upd (upd (upd (upd (upd (upd (upd (upd (fun _ => 0) 2 0) 3 6) 4 6) 5 1) 6 60) 10 1) 11 1) 12 1) 13 1) 14 1) 15 1 = allK := by
  have h1 : ∀ j, j < 16 → upd (upd (upd (upd (upd (upd (upd (upd (upd (upd (upd (fun _ => 0) 2 0) 3 6) 4 6) 5 1) 6 60) 10 1) 11 1) 12 1) 13 1) 14 1) 15 1 j = allK j := by decide
  funext j
  by_cases h : j < 16
  · exact h1 j h
  · unfold upd allK
    repeat rw [if_neg (by omega)]
def rsK : Nat → Int32 := fun j => if j < 4 then -1 else 0
theorem rsK_eq : upd (upd (upd (upd (fun _ => 0) 0 (-1)) 1 (-1)) 2 (-1)) 3 (-1) = rsK := by
  have h1 : ∀ j, j < 4 → upd (upd (upd (upd (fun _ => 0) 0 (-1)) 1 (-1)) 2 (-1)) 3 (-1) j = rsK j := by decide
  funext j
  by_cases h : j < 4
  · exact h1 j h
  · unfold upd rsK
    repeat rw [if_neg (by omega)]
theorem upd_at {f : Nat → Int32} {k : Nat} {v : Int32} (h : f k = v) : upd f k v = f := by
  funext j
  unfold upd
  by_cases hj : j = k
  · rw [if_pos hj, hj, h]
  · rw [if_neg hj]
theorem and_m1 (x : Int32) : x &&& (-1) = x := by
  apply Int32.toBitVec_inj.mp
  rw [Int32.toBitVec_and, show ((-1 : Int32).toBitVec) = BitVec.allOnes 32 from by decide, BitVec.and_allOnes]
theorem fillF_in {f : Nat → Int32} {n : Nat} {v x : Int32} (h : 0 ≤ x.toInt ∧ x.toInt < n) : fillF f n v x.toNatClampNeg = v := by
  unfold fillF
  have h1 : x.toNatClampNeg = x.toInt.toNat := rfl
  rw [h1, if_pos (by omega)]
theorem add60 {x : Int32} (h0 : 0 ≤ x.toInt) (h1 : x.toInt ≤ 99) : (60 + x).toInt = 60 + x.toInt := by
  have e1 : ¬ x < 0 := fun h => by have := Int32.lt_iff_toInt_lt.mp h; rw [show (0 : Int32).toInt = 0 from by decide] at this; omega
  have e2 : x ≤ 99 := Int32.le_iff_toInt_le.mpr (by rw [show (99 : Int32).toInt = 99 from by decide]; exact h1)
  obtain ⟨j, hj, rfl⟩ := nI_of2 (M := 99) (n := 99) (by decide) e1 e2
  rw [show (60 : Int32) = nI 60 from rfl, nI_add, nI_toInt (by omega), nI_toInt (by omega)]
  omega
theorem lt60 {x : Int32} (h0 : 0 ≤ x.toInt) (h1 : x.toInt ≤ 99) : 60 + x < 999 := Int32.lt_iff_toInt_lt.mpr (by rw [add60 h0 h1, show (999 : Int32).toInt = 999 from by decide]; omega)
theorem le60 {x : Int32} (h0 : 0 ≤ x.toInt) (h1 : x.toInt ≤ 99) : 60 + x ≤ 999 := Int32.le_iff_toInt_le.mpr (by rw [add60 h0 h1, show (999 : Int32).toInt = 999 from by decide]; omega)
theorem ti_m1 : (-1 : Int32).toInt = -1 := by decide
theorem ti_0 : (0 : Int32).toInt = 0 := by decide
theorem ti_1 : (1 : Int32).toInt = 1 := by decide
theorem ti_2 : (2 : Int32).toInt = 2 := by decide
theorem ti_3 : (3 : Int32).toInt = 3 := by decide
theorem ti_4 : (4 : Int32).toInt = 4 := by decide
theorem ti_5 : (5 : Int32).toInt = 5 := by decide
theorem ti_6 : (6 : Int32).toInt = 6 := by decide
theorem ti_7 : (7 : Int32).toInt = 7 := by decide
theorem ti_8 : (8 : Int32).toInt = 8 := by decide
theorem ti_9 : (9 : Int32).toInt = 9 := by decide
theorem ti_10 : (10 : Int32).toInt = 10 := by decide
theorem ti_11 : (11 : Int32).toInt = 11 := by decide
theorem ti_12 : (12 : Int32).toInt = 12 := by decide
theorem toInt_bm (a : Int) (h0 : -2147483648 ≤ a) (h1 : a < 2147483648) : a.bmod 4294967296 = a := by
  unfold Int.bmod
  show (if a % 4294967296 < (4294967296 + 1) / 2 then a % 4294967296 else a % 4294967296 - 4294967296) = a
  by_cases h : 0 ≤ a
  · rw [if_pos (by omega)]
    omega
  · rw [if_neg (by omega)]
    omega
theorem toInt_addI {x y z : Int32} {a b : Int} (e : z = x + y) (ex : x.toInt = a) (ey : y.toInt = b) (h : -2147483648 ≤ a + b ∧ a + b < 2147483648) : z.toInt = a + b := by
  rw [e, Int32.toInt_add, ex, ey]
  exact toInt_bm _ h.1 h.2
theorem toInt_subI {x y z : Int32} {a b : Int} (e : z = x - y) (ex : x.toInt = a) (ey : y.toInt = b) (h : -2147483648 ≤ a - b ∧ a - b < 2147483648) : z.toInt = a - b := by
  rw [e, Int32.toInt_sub, ex, ey]
  exact toInt_bm _ h.1 h.2
theorem toInt_mulI {x y z : Int32} {a b : Int} (e : z = x * y) (ex : x.toInt = a) (ey : y.toInt = b) (h : -2147483648 ≤ a * b ∧ a * b < 2147483648) : z.toInt = a * b := by
  rw [e, Int32.toInt_mul, ex, ey]
  exact toInt_bm _ h.1 h.2
theorem in_lt {x : Int32} {n : Nat} (h : vp_in x n) : x.toNatClampNeg < n := by
  have h1 := vp_in_iff.mp h
  have h2 : x.toNatClampNeg = x.toInt.toNat := rfl
  omega
theorem absI {x z : Int32} {a : Int} (e : z = if 0 ≤ x then x else 0 - x) (ex : x.toInt = a) (h : -2147483647 ≤ a) : (0 ≤ a ∧ z.toInt = a) ∨ (a < 0 ∧ z.toInt = -a) := by
  by_cases h0 : (0 : Int32) ≤ x
  · rw [if_pos h0] at e
    have h1 := Int32.le_iff_toInt_le.mp h0
    rw [show (0 : Int32).toInt = 0 from by decide, ex] at h1
    exact Or.inl ⟨h1, by rw [e, ex]⟩
  · rw [if_neg h0] at e
    have h1 : ¬ 0 ≤ a := fun q => h0 (Int32.le_iff_toInt_le.mpr (by rw [show (0 : Int32).toInt = 0 from by decide, ex]; exact q))
    have h2 : x.toInt < 2147483648 := by have := Int32.toInt_lt x; simpa using this
    refine Or.inr ⟨by omega, ?_⟩
    have h3 := toInt_subI e (show (0 : Int32).toInt = 0 from by decide) ex (by omega)
    omega
theorem minI {x y z : Int32} {a b : Int} (e : z = if y < x then y else x) (ex : x.toInt = a) (ey : y.toInt = b) : (b < a ∧ z.toInt = b) ∨ (a ≤ b ∧ z.toInt = a) := by
  by_cases h : y < x
  · rw [if_pos h] at e
    have h1 := Int32.lt_iff_toInt_lt.mp h
    rw [ex, ey] at h1
    exact Or.inl ⟨h1, by rw [e, ey]⟩
  · rw [if_neg h] at e
    have h1 : ¬ b < a := fun q => h (Int32.lt_iff_toInt_lt.mpr (by rw [ex, ey]; exact q))
    exact Or.inr ⟨by omega, by rw [e, ex]⟩
theorem maxI {x y z : Int32} {a b : Int} (e : z = if x < y then y else x) (ex : x.toInt = a) (ey : y.toInt = b) : (a < b ∧ z.toInt = b) ∨ (b ≤ a ∧ z.toInt = a) := by
  by_cases h : x < y
  · rw [if_pos h] at e
    have h1 := Int32.lt_iff_toInt_lt.mp h
    rw [ex, ey] at h1
    exact Or.inl ⟨h1, by rw [e, ey]⟩
  · rw [if_neg h] at e
    have h1 : ¬ a < b := fun q => h (Int32.lt_iff_toInt_lt.mpr (by rw [ex, ey]; exact q))
    exact Or.inr ⟨by omega, by rw [e, ex]⟩
def tgtI (fr mv n : Int) : Int := if mv = 1 then (if 0 ≤ fr - 1 ∧ fr - 1 < n then fr - 1 else -1) else if mv = 2 then (if 0 ≤ fr + 1 ∧ fr + 1 < n then fr + 1 else -1) else if mv = 0 then (if 0 ≤ fr ∧ fr < n then fr else -1) else -1
theorem tgtI_in (fr mv n : Int) : tgtI fr mv n = -1 ∨ (0 ≤ tgtI fr mv n ∧ tgtI fr mv n < n) := by
  unfold tgtI
  by_cases h1 : mv = 1
  · rw [if_pos h1]
    by_cases h : 0 ≤ fr - 1 ∧ fr - 1 < n
    · rw [if_pos h]; exact Or.inr h
    · rw [if_neg h]; exact Or.inl rfl
  · rw [if_neg h1]
    by_cases h2 : mv = 2
    · rw [if_pos h2]
      by_cases h : 0 ≤ fr + 1 ∧ fr + 1 < n
      · rw [if_pos h]; exact Or.inr h
      · rw [if_neg h]; exact Or.inl rfl
    · rw [if_neg h2]
      by_cases h0 : mv = 0
      · rw [if_pos h0]
        by_cases h : 0 ≤ fr ∧ fr < n
        · rw [if_pos h]; exact Or.inr h
        · rw [if_neg h]; exact Or.inl rfl
      · rw [if_neg h0]; exact Or.inl rfl
def EL (f : Nat → Int32) (n : Nat) (lo hi : Int) : Prop := ∀ j, j < n → lo ≤ (f j).toInt ∧ (f j).toInt ≤ hi
theorem el_upd {f : Nat → Int32} {n k : Nat} {lo hi a : Int} {v : Int32} (h : EL f n lo hi) (e : v.toInt = a) (ha : lo ≤ a ∧ a ≤ hi) : EL (upd f k v) n lo hi := by
  intro j hj
  unfold upd
  by_cases hk : j = k
  · rw [if_pos hk, e]; exact ha
  · rw [if_neg hk]; exact h j hj
theorem el_cpy {f g : Nat → Int32} {n : Nat} {lo hi : Int} (h : EL f n lo hi) : EL (va_cpy f g 0 0 n) n lo hi := by
  intro j hj
  rw [pk_cpy_in (Nat.zero_le j) (by omega)]
  have e : 0 + (j - 0) = j := by omega
  rw [e]
  exact h j hj
theorem el_0 {n : Nat} {lo hi : Int} (h : lo ≤ 0 ∧ 0 ≤ hi) : EL (fun _ => 0) n lo hi := fun j _ => by
  rw [show ((0 : Int32)).toInt = 0 from by decide]; exact h
theorem el_fill {f : Nat → Int32} {n : Nat} {lo hi a : Int} {v : Int32} (e : v.toInt = a) (ha : lo ≤ a ∧ a ≤ hi) : EL (fillF f n v) n lo hi := fun j hj => by
  unfold fillF
  rw [if_pos hj, e]; exact ha
theorem toInt_nat {z : Int32} (h : z.toBitVec.toNat < 2147483648) : z.toInt = (z.toBitVec.toNat : Int) := by
  show z.toBitVec.toInt = _
  rw [BitVec.toInt_eq_toNat_cond]
  rw [if_pos (by omega)]
theorem toNat_toInt {z : Int32} {c : Int} (hc : z.toInt = c) (h0 : 0 ≤ c) : (z.toBitVec.toNat : Int) = c ∧ z.toBitVec.toNat < 2147483648 := by
  have h1 : z.toBitVec.toInt = c := hc
  rw [BitVec.toInt_eq_toNat_cond] at h1
  have h2 := z.toBitVec.isLt
  by_cases h : 2 * z.toBitVec.toNat < 2 ^ 32
  · rw [if_pos h] at h1; exact ⟨h1, by omega⟩
  · rw [if_neg h] at h1
    exfalso
    omega
theorem andI {x z m : Int32} {c : Int} (e : z = x &&& m) (hm : m.toInt = c) (h0 : 0 ≤ c) : 0 ≤ z.toInt ∧ z.toInt ≤ c := by
  obtain ⟨h1, h2⟩ := toNat_toInt hm h0
  have h3 : z.toBitVec.toNat ≤ m.toBitVec.toNat := by
    rw [e, Int32.toBitVec_and, BitVec.toNat_and]
    exact Nat.and_le_right
  rw [toInt_nat (by omega)]
  omega
theorem ushrI {x s z : Int32} {k : Nat} {b : Int} (e : z = (x.toUInt32 >>> (s.toUInt32 &&& Int32.toUInt32 31)).toInt32) (hs : ((s.toUInt32 &&& Int32.toUInt32 31).toBitVec % 32).toNat = k) (hk : 1 ≤ k) (hb : (2 : Int) ^ 32 = (b + 1) * 2 ^ k) : 0 ≤ z.toInt ∧ z.toInt ≤ b := by
  have h1 := pk_ushr x s k hs
  rw [← e] at h1
  have h2 := x.toBitVec.isLt
  have h3 : 2 ^ 1 ≤ 2 ^ k := Nat.pow_le_pow_right (by decide) hk
  have h4 : z.toBitVec.toNat * 2 ^ k ≤ x.toBitVec.toNat := by rw [h1]; exact Nat.div_mul_le_self _ _
  have h5 : z.toBitVec.toNat * 2 ≤ x.toBitVec.toNat := Nat.le_trans (Nat.mul_le_mul_left _ h3) h4
  rw [toInt_nat (by omega)]
  refine ⟨by omega, ?_⟩
  have h6 : ((z.toBitVec.toNat * 2 ^ k : Nat) : Int) < (b + 1) * 2 ^ k := by
    rw [← hb]
    have : ((z.toBitVec.toNat * 2 ^ k : Nat) : Int) ≤ (x.toBitVec.toNat : Int) := by exact_mod_cast h4
    have h7 : (x.toBitVec.toNat : Int) < 2 ^ 32 := by exact_mod_cast h2
    omega
  rw [Int.natCast_mul] at h6
  have h8 : (((2 ^ k : Nat)) : Int) = (2 : Int) ^ k := by simp
  rw [h8] at h6
  have h9 : (0 : Int) < 2 ^ k := by rw [← h8]; exact_mod_cast Nat.lt_of_lt_of_le (by decide) h3
  have h10 := Int.lt_of_mul_lt_mul_right h6 (Int.le_of_lt h9)
  omega
theorem ushrQ {x s z : Int32} {k : Nat} {a d : Int} (e : z = (x.toUInt32 >>> (s.toUInt32 &&& Int32.toUInt32 31)).toInt32) (ex : x.toInt = a) (hs : ((s.toUInt32 &&& Int32.toUInt32 31).toBitVec % 32).toNat = k) (hd : d = ((2 ^ k : Nat) : Int)) : 0 ≤ a → z.toInt = a / d := by
  intro h0
  obtain ⟨h1, h2⟩ := toNat_toInt ex h0
  have h3 := pk_ushr x s k hs
  rw [← e] at h3
  have h4 : z.toBitVec.toNat ≤ x.toBitVec.toNat := by rw [h3]; exact Nat.div_le_self _ _
  rw [toInt_nat (by omega), h3, hd, ← h1]
  exact Int.natCast_ediv _ _
section XS
variable {p : Program} {l : Launch} {e : Env} {R : Room} {s : State} {m : MethodId} {args : Array Value} {below : List Frame} {meth : Method} {c : Code} {H H0 : Heap} {locs : List Loc} {cells slots : Nat} {Q : State → Prop}
variable {cc : ByteArray} {pc nL : Nat} {ls : Array Slot} {rest st0 : List Value} {D : va_G} {cT : Nat → ClassId} {A : Nat → Prop} {ws wc wr : va_W}
theorem lv_is {x y : Int32} (h : x = y) (k : W p l e R s m args below meth c H locs cells slots Q (F0 m pc ls (.int y :: rest))) : W p l e R s m args below meth c H locs cells slots Q (F0 m pc ls (.int x :: rest)) := h ▸ k
theorem lv_isv {x y : Value} (h : x = y) (k : W p l e R s m args below meth c H locs cells slots Q (F0 m pc ls (y :: rest))) : W p l e R s m args below meth c H locs cells slots Q (F0 m pc ls (x :: rest)) := h ▸ k
theorem lv_isl {x y : Int64} (h : x = y) (k : W p l e R s m args below meth c H locs cells slots Q (F0 m pc ls (.long y :: rest))) : W p l e R s m args below meth c H locs cells slots Q (F0 m pc ls (.long x :: rest)) := h ▸ k
theorem x_newa (hx : p.tables.exec = Jvm.exec) (hb : c.code = cc) {atype : ArrayType} {ty : FieldType} (hty : newarray.typeOf atype = ty) (harr : (Cond.arrayClass ty).before args s = true) (hK : va_K D classes (tysX cT) s) (hP : va_P D classes ws H) (hD : va_D A ws) (hS : va_S A H0 H locs) (hA : ∀ q, H0.size ≤ q → A q)
    {n : Int32} (N' : Nat) (t0 : Nat) {cA : ClassId} (ht : (tysX cT)[t0]? = some (cA, ty)) (a0 : vp_A) (ha : ∀ cA : ClassId, vp_cell cA a0 = arrV cA N' (fun _ => defaultValue ty)) (hn : ¬ n < 0) (hN : n.toNatClampNeg = N') (hbytes : N' * componentBytes ty ≤ 536870912) (hcells : cells + 1 ≤ R.cells) (hslots : slots + N' ≤ R.slots) (hdg : decode cc pc = .ok (.newarray atype, 2))
    (kk : ∀ (q : Nat) (H1 : Heap), va_P D classes (ws ++ [(q, .inl (cA, a0))]) H1 → va_D A (ws ++ [(q, .inl (cA, a0))]) → va_S A H0 H1 locs →
      W p l e R s m args below meth c H1 locs (cells + 1) (slots + N') Q (F0 m (pc + 2) ls (.ref q :: rest))) : W p l e R s m args below meth c H locs cells slots Q (F0 m pc ls (.int n :: rest)) := by
  subst hty
  refine va_newa hx hb harr rfl hK hP hD hS hA ha hn hN hbytes hcells hslots hdg (fun q cB H1 hK1 hP1 hD1 hS1 => ?_)
  have e1 := (hK1.2 (tysX cT).length (cB, newarray.typeOf atype) (by simp)).2
  have e2 := (hK.2 t0 _ ht).2
  have e3 := va_RA_uniq e1 e2
  subst e3
  exact kk q H1 hP1 hD1 hS1
theorem x_newq (hx : p.tables.exec = Jvm.exec) (hb : c.code = cc) {own C : String} {index : Nat} (hown : s.vm.findClass own = some m.cls) (hclink : (Cond.classLink own index C).before args s = true) (hover : va_AO C s) (hK : va_K D classes (tysX cT) s) (hP : va_P D classes ws H) (hD : va_D A ws) (hS : va_S A H0 H locs) (hA : ∀ q, H0.size ≤ q → A q)
    {n : Int32} (N' : Nat) (t0 : Nat) {cA : ClassId} (ht : (tysX cT)[t0]? = some (cA, .object C)) (hn : ¬ n < 0) (hN : n.toNatClampNeg = N') (hbytes : N' * 4 ≤ 536870912) (hcells : cells + 1 ≤ R.cells) (hslots : slots + N' ≤ R.slots) (hdg : decode cc pc = .ok (.anewarray index, 3))
    (kk : ∀ (q : Nat) (H1 : Heap), va_P D classes (ws ++ [(q, .inl (cA, N', .inr (.inr (.inr (.inr (fun _ => none))))))]) H1 → va_D A (ws ++ [(q, .inl (cA, N', .inr (.inr (.inr (.inr (fun _ => none))))))]) → va_S A H0 H1 locs →
      W p l e R s m args below meth c H1 locs (cells + 1) (slots + N') Q (F0 m (pc + 3) ls (.ref q :: rest))) : W p l e R s m args below meth c H locs cells slots Q (F0 m pc ls (.int n :: rest)) := by
  refine va_newq hx hb hown hclink hover hK hP hD hS hA hn hN hbytes hcells hslots hdg (fun q cB H1 hK1 hP1 hD1 hS1 => ?_)
  have e1 := (hK1.2 (tysX cT).length (cB, .object C) (by simp)).2
  have e2 := (hK.2 t0 _ ht).2
  have e3 := va_RA_uniq e1 e2
  subst e3
  exact kk q H1 hP1 hD1 hS1
theorem x_iret {S : Type} {post : Int32 → S → Prop} {wo : S → va_W} {mc ms : Nat} (hx : p.tables.exec = Jvm.exec) (hb : c.code = cc) (hr : meth.sig.returnType = some .int) (hlk : meth.locks = false) (hP : va_P D classes ws H) (hD : va_D A ws) (hS : va_S A s.heap H locs) (is : List Nat) (u : S) (hs : is.map (fun i => ws[i]?) = (wo u).map some) (hn : va_nd is = true) {v : Int32} (hp : post v u) (h1 : cells ≤ mc) (h2 : slots ≤ ms) (hdg : decode cc pc = .ok (.ireturn, 1)) : W p l e R s m args below meth c H locs cells slots (MQ below (va_Qi post (fun u t => RW D A (wo u) t) A) args s mc ms A) (F0 m pc ls [.int v]) :=
  W.widen h1 h2 (W.iret hx hb hr (fun t ht _ => ⟨⟨v, u, rfl, hp, by rw [ht]; exact hP.sub is (fm_of hs), hD.sub is hn hs⟩, hS.F ht⟩) hS.2.2 hdg hlk)
theorem x_zret {S : Type} {post : Int32 → S → Prop} {wo : S → va_W} {mc ms : Nat} (hx : p.tables.exec = Jvm.exec) (hb : c.code = cc) (hr : meth.sig.returnType = some .boolean) (hlk : meth.locks = false) (hP : va_P D classes ws H) (hD : va_D A ws) (hS : va_S A s.heap H locs) (is : List Nat) (u : S) (hs : is.map (fun i => ws[i]?) = (wo u).map some) (hn : va_nd is = true) {v : Int32} (hnar : narrow .boolean (.int v) = .int v) (hp : post v u) (h1 : cells ≤ mc) (h2 : slots ≤ ms) (hdg : decode cc pc = .ok (.ireturn, 1)) : W p l e R s m args below meth c H locs cells slots (MQ below (va_Qi post (fun u t => RW D A (wo u) t) A) args s mc ms A) (F0 m pc ls [.int v]) :=
  W.widen h1 h2 (W.zret hx hb hr hnar (fun t ht _ => ⟨⟨v, u, rfl, hp, by rw [ht]; exact hP.sub is (fm_of hs), hD.sub is hn hs⟩, hS.F ht⟩) hS.2.2 hdg hlk)
theorem x_tret {S : Type} {post : Int32 → S → Prop} {wo : S → va_W} {mc ms : Nat} {ty : FieldType} (hx : p.tables.exec = Jvm.exec) (hb : c.code = cc) (hr : meth.sig.returnType = some ty) (hlk : meth.locks = false) (hP : va_P D classes ws H) (hD : va_D A ws) (hS : va_S A s.heap H locs) (is : List Nat) (u : S) (hs : is.map (fun i => ws[i]?) = (wo u).map some) (hn : va_nd is = true) {v : Int32} (hnar : narrow ty (.int v) = .int v) (hp : post v u) (h1 : cells ≤ mc) (h2 : slots ≤ ms) (hdg : decode cc pc = .ok (.ireturn, 1)) : W p l e R s m args below meth c H locs cells slots (MQ below (va_Qi post (fun u t => RW D A (wo u) t) A) args s mc ms A) (F0 m pc ls [.int v]) :=
  W.widen h1 h2 (W.zret hx hb hr hnar (fun t ht _ => ⟨⟨v, u, rfl, hp, by rw [ht]; exact hP.sub is (fm_of hs), hD.sub is hn hs⟩, hS.F ht⟩) hS.2.2 hdg hlk)
theorem x_lret {S : Type} {post : Int64 → S → Prop} {wo : S → va_W} {mc ms : Nat} (hx : p.tables.exec = Jvm.exec) (hb : c.code = cc) (hr : meth.sig.returnType = some .long) (hlk : meth.locks = false) (hP : va_P D classes ws H) (hD : va_D A ws) (hS : va_S A s.heap H locs) (is : List Nat) (u : S) (hs : is.map (fun i => ws[i]?) = (wo u).map some) (hn : va_nd is = true) {v : Int64} (hp : post v u) (h1 : cells ≤ mc) (h2 : slots ≤ ms) (hdg : decode cc pc = .ok (.lreturn, 1)) : W p l e R s m args below meth c H locs cells slots (MQ below (va_Ql post (fun u t => RW D A (wo u) t) A) args s mc ms A) (F0 m pc ls [.long v]) :=
  W.widen h1 h2 (W.lret hx hb hr (fun t ht _ => ⟨⟨v, u, rfl, hp, by rw [ht]; exact hP.sub is (fm_of hs), hD.sub is hn hs⟩, hS.F ht⟩) hS.2.2 hdg hlk)
theorem x_vret {S : Type} {post : S → Prop} {wo : S → va_W} {mc ms : Nat} (hx : p.tables.exec = Jvm.exec) (hb : c.code = cc) (hr : meth.sig.returnType = none) (hlk : meth.locks = false) (hP : va_P D classes ws H) (hD : va_D A ws) (hS : va_S A s.heap H locs) (is : List Nat) (u : S) (hs : is.map (fun i => ws[i]?) = (wo u).map some) (hn : va_nd is = true) (hp : post u) (h1 : cells ≤ mc) (h2 : slots ≤ ms) (hdg : decode cc pc = .ok (.return_, 1)) : W p l e R s m args below meth c H locs cells slots (MQ below (va_Qv post (fun u t => RW D A (wo u) t) A) args s mc ms A) (F0 m pc ls []) :=
  W.widen h1 h2 (W.vret hx hb hr (fun t ht _ => ⟨⟨u, rfl, hp, by rw [ht]; exact hP.sub is (fm_of hs), hD.sub is hn hs⟩, hS.F ht⟩) hS.2.2 hdg hlk)
theorem xk_i {S : Type} {post : Int32 → S → Prop} {wo : S → va_W} {mc ms : Nat} {a : Array Value} (hr : va_Run p l e R s m args below meth c H locs cells slots mc ms (F0 m pc ls st0) rest (va_Qi post (fun u t => RW D (va_A wc H.size) (wo u) t) (va_A wc H.size) a) (va_A wc H.size)) (hP : va_P D classes ws H) (hD : va_D A ws) (hS : va_S A H0 H locs) (hA : ∀ q, H0.size ≤ q → A q) (isC isR : List Nat) (hC : isC.map (fun i => ws[i]?) = wc.map some) (hR : isR.map (fun i => ws[i]?) = wr.map some) (hn : va_nd isR = true) (hdis : ∀ i ∈ isR, i ∉ isC)
    (kk : ∀ (r : Int32) (u : S) (H1 : Heap) (locs1 : List Loc), post r u → va_P D classes (wr ++ wo u) H1 → va_D A (wr ++ wo u) → va_S A H0 H1 locs1 → W p l e R s m args below meth c H1 locs1 (cells + mc) (slots + ms) Q (F0 m (pc + 3) ls (.int r :: rest))) : W p l e R s m args below meth c H locs cells slots Q (F0 m pc ls st0) := by
  have hFc := va_free (wc := wc) hD hS hA isC hC
  refine va_calli hr hS (fun q _ h => hFc q h) hFc (fun r u t H1 locs1 ht _ hw hB _ hk1 hS1 => ?_)
  obtain ⟨hP1, hD1⟩ := hB
  rw [ht] at hP1
  obtain ⟨hP2, hD2⟩ := va_join hP hD isC isR hC hR hn hdis hk1 hFc hP1 hD1
  exact kk r u H1 locs1 hw hP2 hD2 hS1
theorem xk_l {S : Type} {post : Int64 → S → Prop} {wo : S → va_W} {mc ms : Nat} {a : Array Value} (hr : va_Run p l e R s m args below meth c H locs cells slots mc ms (F0 m pc ls st0) rest (va_Ql post (fun u t => RW D (va_A wc H.size) (wo u) t) (va_A wc H.size) a) (va_A wc H.size)) (hP : va_P D classes ws H) (hD : va_D A ws) (hS : va_S A H0 H locs) (hA : ∀ q, H0.size ≤ q → A q) (isC isR : List Nat) (hC : isC.map (fun i => ws[i]?) = wc.map some) (hR : isR.map (fun i => ws[i]?) = wr.map some) (hn : va_nd isR = true) (hdis : ∀ i ∈ isR, i ∉ isC)
    (kk : ∀ (r : Int64) (u : S) (H1 : Heap) (locs1 : List Loc), post r u → va_P D classes (wr ++ wo u) H1 → va_D A (wr ++ wo u) → va_S A H0 H1 locs1 → W p l e R s m args below meth c H1 locs1 (cells + mc) (slots + ms) Q (F0 m (pc + 3) ls (.long r :: rest))) : W p l e R s m args below meth c H locs cells slots Q (F0 m pc ls st0) := by
  have hFc := va_free (wc := wc) hD hS hA isC hC
  refine va_calll hr hS (fun q _ h => hFc q h) hFc (fun r u t H1 locs1 ht _ hw hB _ hk1 hS1 => ?_)
  obtain ⟨hP1, hD1⟩ := hB
  rw [ht] at hP1
  obtain ⟨hP2, hD2⟩ := va_join hP hD isC isR hC hR hn hdis hk1 hFc hP1 hD1
  exact kk r u H1 locs1 hw hP2 hD2 hS1
theorem xk_v {S : Type} {post : S → Prop} {wo : S → va_W} {mc ms : Nat} {a : Array Value} (hr : va_Run p l e R s m args below meth c H locs cells slots mc ms (F0 m pc ls st0) rest (va_Qv post (fun u t => RW D (va_A wc H.size) (wo u) t) (va_A wc H.size) a) (va_A wc H.size)) (hP : va_P D classes ws H) (hD : va_D A ws) (hS : va_S A H0 H locs) (hA : ∀ q, H0.size ≤ q → A q) (isC isR : List Nat) (hC : isC.map (fun i => ws[i]?) = wc.map some) (hR : isR.map (fun i => ws[i]?) = wr.map some) (hn : va_nd isR = true) (hdis : ∀ i ∈ isR, i ∉ isC)
    (kk : ∀ (u : S) (H1 : Heap) (locs1 : List Loc), post u → va_P D classes (wr ++ wo u) H1 → va_D A (wr ++ wo u) → va_S A H0 H1 locs1 → W p l e R s m args below meth c H1 locs1 (cells + mc) (slots + ms) Q (F0 m (pc + 3) ls rest)) : W p l e R s m args below meth c H locs cells slots Q (F0 m pc ls st0) := by
  have hFc := va_free (wc := wc) hD hS hA isC hC
  refine va_callv hr hS (fun q _ h => hFc q h) hFc (fun u t H1 locs1 ht _ hw hB _ hk1 hS1 => ?_)
  obtain ⟨hP1, hD1⟩ := hB
  rw [ht] at hP1
  obtain ⟨hP2, hD2⟩ := va_join hP hD isC isR hC hR hn hdis hk1 hFc hP1 hD1
  exact kk u H1 locs1 hw hP2 hD2 hS1
variable {y : MethodName} {bytes : ByteArray} {maxL fr lo mc ms n index : Nat} {ret : Option FieldType} {own C host : String} {As : List Value} {Qc : Array Value → State → Outcome → State → Prop} {free : Addr → Prop} {b ci q0 : Nat} {q : vw_C} {fs : List Value}
theorem xr_V (hc : CallFix p m c cc nL s args gw_T own) (hK : va_K D classes (tysX cT) s) (hN : NX cT A s) (hP : va_P D classes ws H) (hD : va_D A ws) (hS : va_S A s.heap H locs) (hA : ∀ q, s.heap.size ≤ q → A q) (isC : List Nat) (hC : isC.map (fun i => ws[i]?) = wc.map some) (hnd : va_nd isC = true)
    (hM : Met l y (wsc y bytes maxL ret) { frames := fr, cells := mc, slots := ms, locals := lo } (va_Pc (.ref b :: As) (PX D cT H.size wc)) Qc mc ms free)
    (w1 : Cond.methodLink own index y ∈ gw_T) (w2 : Cond.instanceMethod y ∈ gw_T) (w3 : Cond.selects y.cls y y ∈ gw_T) (w4 : Cond.initialized y.cls ∈ gw_T) (w5 : Cond.code y bytes maxL ret ∈ gw_T)
    (he : wc[0]? = some (b, .inr (ci, fs))) (hcl : classes[ci]? = some q) (hq : q.1 = y.cls) (hd : y.cls = y.cls ∧ y.cls ≠ "java/lang/invoke/MethodHandle" ∧ y.cls ≠ "java/lang/invoke/VarHandle" ∧ (parseMethodDescriptor y.desc).map (fun d => d.parameters.length) = some n) (hR : fr + 1 ≤ R.frames ∧ 8 + (maxL + 11) + lo ≤ R.locals)
    (hn : As.length = n) (hsize : ls.size = nL) (hst : st0 = As.reverse ++ .ref b :: rest) (hW : (rest.map fun v => v.category).sum ≤ 8) (hdg : decode cc pc = .ok (.invokevirtual index, 3)) (hf : cells + mc ≤ R.cells ∧ slots + ms ≤ R.slots) :
    va_Run p l e R s m args below meth c H locs cells slots mc ms (F0 m pc ls st0) rest (Qc (Value.ref b :: As).toArray) free := by
  refine va_runV hc hM (cwV (C := y.cls) n hc.2.2.2.2 (gG (List.forall_mem_append.mpr ⟨List.forall_mem_cons.mpr ⟨w1, List.forall_mem_cons.mpr ⟨w2, List.forall_mem_cons.mpr ⟨w3, List.forall_mem_cons.mpr ⟨w4, fun _ h => absurd h List.not_mem_nil⟩⟩⟩⟩, List.forall_mem_cons.mpr ⟨w5, fun _ h => h⟩⟩)) rfl rfl rfl hd hR) ⟨PX_blind, ?_, PX_of hK hN hP hD hS hA isC hC hnd⟩ rfl hn hsize hst (lv_room hW) hdg hf
  have h1 := va_recv hK (hP.sub isC (fm_of hC)) hcl he
  rw [hq] at h1
  exact h1
theorem xr_VN (hc : CallFix p m c cc nL s args gw_T own) (hK : va_K D classes (tysX cT) s) (hN : NX cT A s) (hP : va_P D classes ws H) (hD : va_D A ws) (hS : va_S A s.heap H locs) (hA : ∀ q, s.heap.size ≤ q → A q) (isC : List Nat) (hC : isC.map (fun i => ws[i]?) = wc.map some) (hnd : va_nd isC = true)
    (hM : Met l y (wsc y bytes maxL ret) { frames := fr, cells := mc, slots := ms, locals := lo } (va_Pc (.ref b :: As) (PX D cT H.size wc)) Qc mc ms free)
    (w1 : Cond.methodLinkNest own index y host ∈ gn_T) (w2 : Cond.instanceMethod y ∈ gw_T) (w3 : Cond.selects y.cls y y ∈ gw_T) (w4 : Cond.initialized y.cls ∈ gw_T) (w5 : Cond.code y bytes maxL ret ∈ gw_T)
    (he : wc[0]? = some (b, .inr (ci, fs))) (hcl : classes[ci]? = some q) (hq : q.1 = y.cls) (hd : y.cls = y.cls ∧ y.cls ≠ "java/lang/invoke/MethodHandle" ∧ y.cls ≠ "java/lang/invoke/VarHandle" ∧ (parseMethodDescriptor y.desc).map (fun d => d.parameters.length) = some n) (hR : fr + 1 ≤ R.frames ∧ 8 + (maxL + 11) + lo ≤ R.locals)
    (hn : As.length = n) (hsize : ls.size = nL) (hst : st0 = As.reverse ++ .ref b :: rest) (hW : (rest.map fun v => v.category).sum ≤ 8) (hdg : decode cc pc = .ok (.invokevirtual index, 3)) (hf : cells + mc ≤ R.cells ∧ slots + ms ≤ R.slots) :
    va_Run p l e R s m args below meth c H locs cells slots mc ms (F0 m pc ls st0) rest (Qc (Value.ref b :: As).toArray) free := by
  refine va_runVN (C := y.cls) hc hM ⟨va_cnB n hc.2.2.2.2 (gG (List.forall_mem_cons.mpr ⟨w5, fun _ h => h⟩)) rfl rfl rfl (hN.1 _ w1) (hc.2.2.2.2 _ w4) hd.2 hR, hc.2.2.2.2 _ w2, hc.2.2.2.2 _ w3⟩ ⟨PX_blind, ?_, PX_of hK hN hP hD hS hA isC hC hnd⟩ rfl hn hsize hst (lv_room hW) hdg hf
  have h1 := va_recv hK (hP.sub isC (fm_of hC)) hcl he
  rw [hq] at h1
  exact h1
theorem xr_VS (hc : CallFix p m c cc nL s args gw_T own) (hK : va_K D classes (tysX cT) s) (hN : NX cT A s) (hP : va_P D classes ws H) (hD : va_D A ws) (hS : va_S A s.heap H locs) (hA : ∀ q, s.heap.size ≤ q → A q) (isC : List Nat) (hC : isC.map (fun i => ws[i]?) = wc.map some) (hnd : va_nd isC = true)
    (hM : Met l y (wsc y bytes maxL ret) { frames := fr, cells := mc, slots := ms, locals := lo } (va_Pc (.ref b :: As) (PX D cT H.size wc)) Qc mc ms free)
    (w1 : Cond.methodLink own index y ∈ gw_T) (w2 : Cond.instanceMethod y ∈ gw_T) (w3 : Cond.selects y.cls y y ∈ gw_T) (w4 : Cond.initialized y.cls ∈ gw_T) (w5 : Cond.code y bytes maxL ret ∈ gw_T)
    (hrv : ∃ cell : Cell, H[b]? = some cell ∧ cell.vm.isStatics = false ∧ s.vm.findClass y.cls = some cell.cls) (hd : y.cls = y.cls ∧ y.cls ≠ "java/lang/invoke/MethodHandle" ∧ y.cls ≠ "java/lang/invoke/VarHandle" ∧ (parseMethodDescriptor y.desc).map (fun d => d.parameters.length) = some n) (hR : fr + 1 ≤ R.frames ∧ 8 + (maxL + 11) + lo ≤ R.locals)
    (hn : As.length = n) (hsize : ls.size = nL) (hst : st0 = As.reverse ++ .ref b :: rest) (hW : (rest.map fun v => v.category).sum ≤ 8) (hdg : decode cc pc = .ok (.invokevirtual index, 3)) (hf : cells + mc ≤ R.cells ∧ slots + ms ≤ R.slots) :
    va_Run p l e R s m args below meth c H locs cells slots mc ms (F0 m pc ls st0) rest (Qc (Value.ref b :: As).toArray) free :=
  va_runV hc hM (cwV (C := y.cls) n hc.2.2.2.2 (gG (List.forall_mem_append.mpr ⟨List.forall_mem_cons.mpr ⟨w1, List.forall_mem_cons.mpr ⟨w2, List.forall_mem_cons.mpr ⟨w3, List.forall_mem_cons.mpr ⟨w4, fun _ h => absurd h List.not_mem_nil⟩⟩⟩⟩, List.forall_mem_cons.mpr ⟨w5, fun _ h => h⟩⟩)) rfl rfl rfl hd hR) ⟨PX_blind, hrv, PX_of hK hN hP hD hS hA isC hC hnd⟩ rfl hn hsize hst (lv_room hW) hdg hf
theorem xr_S (hc : CallFix p m c cc nL s args gw_T own) (hK : va_K D classes (tysX cT) s) (hN : NX cT A s) (hP : va_P D classes ws H) (hD : va_D A ws) (hS : va_S A s.heap H locs) (hA : ∀ q, s.heap.size ≤ q → A q) (isC : List Nat) (hC : isC.map (fun i => ws[i]?) = wc.map some) (hnd : va_nd isC = true)
    (hM : Met l y (wsc y bytes maxL ret) { frames := fr, cells := mc, slots := ms, locals := lo } (va_Pc As (PX D cT H.size wc)) Qc mc ms free)
    (w1 : Cond.methodLink own index y ∈ gw_T) (w2 : Cond.static y ∈ gw_T) (w4 : Cond.initialized y.cls ∈ gw_T) (w5 : Cond.code y bytes maxL ret ∈ gw_T)
    (hd : y.cls = y.cls ∧ y.cls ≠ "java/lang/invoke/MethodHandle" ∧ y.cls ≠ "java/lang/invoke/VarHandle" ∧ (parseMethodDescriptor y.desc).map (fun d => d.parameters.length) = some n) (hR : fr + 1 ≤ R.frames ∧ 8 + (maxL + 11) + lo ≤ R.locals)
    (hn : As.length = n) (hsize : ls.size = nL) (hst : st0 = As.reverse ++ rest) (hW : (rest.map fun v => v.category).sum ≤ 8) (hdg : decode cc pc = .ok (.invokestatic index, 3)) (hf : cells + mc ≤ R.cells ∧ slots + ms ≤ R.slots) :
    va_Run p l e R s m args below meth c H locs cells slots mc ms (F0 m pc ls st0) rest (Qc As.toArray) free :=
  va_runS hc hM (va_cwS n hc.2.2.2.2 (gG (List.forall_mem_append.mpr ⟨List.forall_mem_cons.mpr ⟨w1, List.forall_mem_cons.mpr ⟨w2, List.forall_mem_cons.mpr ⟨w4, fun _ h => absurd h List.not_mem_nil⟩⟩⟩, List.forall_mem_cons.mpr ⟨w5, fun _ h => h⟩⟩)) rfl rfl rfl hd.2 hR) ⟨PX_blind, PX_of hK hN hP hD hS hA isC hC hnd⟩ rfl hn hsize hst (lv_room hW) hdg hf
theorem xr_SN (hc : CallFix p m c cc nL s args gw_T own) (hK : va_K D classes (tysX cT) s) (hN : NX cT A s) (hP : va_P D classes ws H) (hD : va_D A ws) (hS : va_S A s.heap H locs) (hA : ∀ q, s.heap.size ≤ q → A q) (isC : List Nat) (hC : isC.map (fun i => ws[i]?) = wc.map some) (hnd : va_nd isC = true)
    (hM : Met l y (wsc y bytes maxL ret) { frames := fr, cells := mc, slots := ms, locals := lo } (va_Pc As (PX D cT H.size wc)) Qc mc ms free)
    (w1 : Cond.methodLinkNest own index y host ∈ gn_T) (w2 : Cond.static y ∈ gw_T) (w4 : Cond.initialized y.cls ∈ gw_T) (w5 : Cond.code y bytes maxL ret ∈ gw_T)
    (hd : y.cls = y.cls ∧ y.cls ≠ "java/lang/invoke/MethodHandle" ∧ y.cls ≠ "java/lang/invoke/VarHandle" ∧ (parseMethodDescriptor y.desc).map (fun d => d.parameters.length) = some n) (hR : fr + 1 ≤ R.frames ∧ 8 + (maxL + 11) + lo ≤ R.locals)
    (hn : As.length = n) (hsize : ls.size = nL) (hst : st0 = As.reverse ++ rest) (hW : (rest.map fun v => v.category).sum ≤ 8) (hdg : decode cc pc = .ok (.invokestatic index, 3)) (hf : cells + mc ≤ R.cells ∧ slots + ms ≤ R.slots) :
    va_Run p l e R s m args below meth c H locs cells slots mc ms (F0 m pc ls st0) rest (Qc As.toArray) free :=
  va_runSN hc hM ⟨va_cnB n hc.2.2.2.2 (gG (List.forall_mem_cons.mpr ⟨w5, fun _ h => h⟩)) rfl rfl rfl (hN.1 _ w1) (hc.2.2.2.2 _ w4) hd.2 hR, hc.2.2.2.2 _ w2, trivial⟩ ⟨PX_blind, PX_of hK hN hP hD hS hA isC hC hnd⟩ rfl hn hsize hst (lv_room hW) hdg hf
theorem xr_I (hc : CallFix p m c cc nL s args gw_T own) (hK : va_K D classes (tysX cT) s) (hN : NX cT A s) (hP : va_P D classes ws H) (hD : va_D A ws) (hS : va_S A s.heap H locs) (hA : ∀ q, s.heap.size ≤ q → A q) (isC : List Nat) (hC : isC.map (fun i => ws[i]?) = wc.map some) (hnd : va_nd isC = true)
    (hM : Met l y (wsc y bytes maxL none) { frames := fr, cells := mc, slots := ms, locals := lo } (va_Pc (.ref b :: As) (PX D cT H.size wc)) Qc mc ms free)
    (w1 : Cond.methodLink own index y ∈ gw_T) (w2 : Cond.instanceMethod y ∈ gw_T) (w4 : Cond.initialized y.cls ∈ gw_T) (w5 : Cond.code y bytes maxL none ∈ gw_T) (hi : y.name = "<init>")
    (hd : y.cls = y.cls ∧ y.cls ≠ "java/lang/invoke/MethodHandle" ∧ y.cls ≠ "java/lang/invoke/VarHandle" ∧ (parseMethodDescriptor y.desc).map (fun d => d.parameters.length) = some n) (hR : fr + 1 ≤ R.frames ∧ 8 + (maxL + 11) + lo ≤ R.locals)
    (hn : As.length = n) (hsize : ls.size = nL) (hst : st0 = As.reverse ++ .ref b :: rest) (hW : (rest.map fun v => v.category).sum ≤ 8) (hdg : decode cc pc = .ok (.invokespecial index, 3)) (hf : cells + mc ≤ R.cells ∧ slots + ms ≤ R.slots) :
    va_Run p l e R s m args below meth c H locs cells slots mc ms (F0 m pc ls st0) rest (Qc (Value.ref b :: As).toArray) free :=
  va_runI hc hM (cwI n hc.2.2.2.2 (gG (List.forall_mem_cons.mpr ⟨w5, fun _ h => h⟩)) rfl rfl rfl (hc.2.2.2.2 _ w4) (hc.2.2.2.2 _ w1) (hc.2.2.2.2 _ w2) hi hd.2 hR) ⟨PX_blind, PX_of hK hN hP hD hS hA isC hC hnd⟩ rfl hn hsize hst (lv_room hW) hdg hf
theorem xr_IN (hc : CallFix p m c cc nL s args gw_T own) (hK : va_K D classes (tysX cT) s) (hN : NX cT A s) (hP : va_P D classes ws H) (hD : va_D A ws) (hS : va_S A s.heap H locs) (hA : ∀ q, s.heap.size ≤ q → A q) (isC : List Nat) (hC : isC.map (fun i => ws[i]?) = wc.map some) (hnd : va_nd isC = true)
    (hM : Met l y (wsc y bytes maxL none) { frames := fr, cells := mc, slots := ms, locals := lo } (va_Pc (.ref b :: As) (PX D cT H.size wc)) Qc mc ms free)
    (w1 : Cond.methodLinkNest own index y host ∈ gn_T) (w2 : Cond.instanceMethod y ∈ gw_T) (w4 : Cond.initialized y.cls ∈ gw_T) (w5 : Cond.code y bytes maxL none ∈ gw_T) (hi : y.name = "<init>")
    (hd : y.cls = y.cls ∧ y.cls ≠ "java/lang/invoke/MethodHandle" ∧ y.cls ≠ "java/lang/invoke/VarHandle" ∧ (parseMethodDescriptor y.desc).map (fun d => d.parameters.length) = some n) (hR : fr + 1 ≤ R.frames ∧ 8 + (maxL + 11) + lo ≤ R.locals)
    (hn : As.length = n) (hsize : ls.size = nL) (hst : st0 = As.reverse ++ .ref b :: rest) (hW : (rest.map fun v => v.category).sum ≤ 8) (hdg : decode cc pc = .ok (.invokespecial index, 3)) (hf : cells + mc ≤ R.cells ∧ slots + ms ≤ R.slots) :
    va_Run p l e R s m args below meth c H locs cells slots mc ms (F0 m pc ls st0) rest (Qc (Value.ref b :: As).toArray) free :=
  va_runIN hc hM ⟨va_cnB n hc.2.2.2.2 (gG (List.forall_mem_cons.mpr ⟨w5, fun _ h => h⟩)) rfl rfl rfl (hN.1 _ w1) (hc.2.2.2.2 _ w4) hd.2 hR, hi, hc.2.2.2.2 _ w2⟩ ⟨PX_blind, PX_of hK hN hP hD hS hA isC hC hnd⟩ rfl hn hsize hst (lv_room hW) hdg hf
end XS
theorem m_of {l : Launch} {y : MethodName} {cc : ByteArray} {nL fr lo mc ms sz : Nat} {ret : Option FieldType} {D : va_G} {cT : Nat → ClassId} {av : List Value} {wi : va_W} (Qf : (Nat → Prop) → Array Value → State → Outcome → State → Prop) (hy : plainName y.cls = true) (hlen : (lg_sl av).length ≤ nL)
    (body : ∀ (p : Program) (e : Env) (s : State) (m : MethodId) (below : List Frame) (meth : Method) (c : Code) (A : Nat → Prop), p.tables.exec = Jvm.exec → c.code = cc → c.maxLocals = nL → s.vm.findClass y.cls = some m.cls → (∀ w ∈ gw_T, w.before av.toArray s = true) → va_K D classes (tysX cT) s → NX cT A s → meth.sig.returnType = ret → meth.locks = false → meth.name = y.name → s.heap.size = sz → va_P D classes wi s.heap → va_D A wi → va_S A s.heap s.heap [] → (∀ q, s.heap.size ≤ q → A q) → ∀ ls : Array Slot, lv_has ls nL (lv_args 0 av) →
      W p l e { frames := fr, cells := mc, slots := ms, locals := lo } s m av.toArray below meth c s.heap [] 0 0 (MQ below (Qf A) av.toArray s mc ms A) (F0 m 0 ls [])) :
    Met l y (wsc y cc nL ret) { frames := fr, cells := mc, slots := ms, locals := lo } (va_Pc av (PX D cT sz wi)) (Qf (va_A wi sz)) mc ms (va_A wi sz) := by
  refine Met.ofW (cc := cc) (maxL := nL) (ret := ret) hy rfl ?_
  intro p e s m args below meth c s₁ B hml hv
  obtain ⟨rfl, hsz, hP, hK, hD0, hN⟩ := hv
  subst hsz
  have hts := atoms_spec (ws := wsc y cc nL ret) B.pre
  rw [lg_entry_eq]
  exact body p e s m below meth c _ B.exec B.bytes hml (findClass_of_methodNamed B.named) (fun w h => hts w (List.mem_cons_of_mem _ h)) hK hN B.returns B.notSynchronized (name_of_methodNamed B.named B.method).1 rfl hP (hD0.self (sz := s.heap.size)) va_S.rf (fun q h => Or.inr h) _ (lv_entry av hlen)
abbrev PD (D : va_G) (A : Nat → Prop) (w : va_W) (H : Heap) : Prop := va_P D classes w H ∧ va_D A w
abbrev sw_0 (h : Nat) (x0 : Nat) (x1 : Nat) : Nat × va_E := (h, .inr (0, [.ref x0, .ref x1]))
abbrev sw_1 (h : Nat) (x0 : Nat) (x1 : Nat) (x2 : Int32) (x3 : Int32) (x4 : Int32) : Nat × va_E := (h, .inr (1, [.ref x0, .ref x1, .int x2, .int x3, .int x4]))
abbrev sw_2 (h : Nat) (x0 : Nat) (x1 : Int32) (x2 : Nat) (x3 : Nat) (x4 : Nat) (x5 : Nat) (x6 : Nat) (x7 : Nat) (x8 : Int32) (x9 : Int32) (x10 : Int32) : Nat × va_E := (h, .inr (2, [.ref x0, .int x1, .ref x2, .ref x3, .ref x4, .ref x5, .ref x6, .ref x7, .int x8, .int x9, .int x10]))
abbrev sw_3 (h : Nat) (x0 : Int32) (x1 : Int32) (x2 : Int32) (x3 : Int32) (x4 : Int32) (x5 : Int32) (x6 : Int32) (x7 : Int32) (x8 : Int32) (x9 : Int32) (x10 : Nat) (x11 : Nat) (x12 : Nat) (x13 : Nat) (x14 : Nat) (x15 : Nat) : Nat × va_E := (h, .inr (3, [.int x0, .int x1, .int x2, .int x3, .int x4, .int x5, .int x6, .int x7, .int x8, .int x9, .ref x10, .ref x11, .ref x12, .ref x13, .ref x14, .ref x15]))
abbrev sw_4 (h : Nat) (x0 : Int32) (x1 : Int32) (x2 : Int32) (x3 : Nat) : Nat × va_E := (h, .inr (4, [.int x0, .int x1, .int x2, .ref x3]))
abbrev sw_5 (h : Nat) (x0 : Nat) (x1 : Nat) (x2 : Nat) (x3 : Nat) (x4 : Nat) : Nat × va_E := (h, .inr (5, [.ref x0, .ref x1, .ref x2, .ref x3, .ref x4]))
abbrev sw_6 (h : Nat) (x0 : Nat) (x1 : Int32) (x2 : Int32) (x3 : Nat) (x4 : Int32) (x5 : Int32) (x6 : Int32) (x7 : Int32) (x8 : Int32) : Nat × va_E := (h, .inr (6, [.ref x0, .int x1, .int x2, .ref x3, .int x4, .int x5, .int x6, .int x7, .int x8]))
abbrev sw_7 (h : Nat) (x0 : Nat) (x1 : Nat) (x2 : Nat) (x3 : Nat) (x4 : Nat) (x5 : Nat) (x6 : Nat) (x7 : Int32) (x8 : Int32) (x9 : Int32) (x10 : Int32) : Nat × va_E := (h, .inr (7, [.ref x0, .ref x1, .ref x2, .ref x3, .ref x4, .ref x5, .ref x6, .int x7, .int x8, .int x9, .int x10]))
abbrev sw_8 (h : Nat) (g : Nat → Nat) (x1 : Int32) : Nat × va_E := (h, .inr (8, [.ref (g 0), .int x1, .ref (g 1), .ref (g 2), .ref (g 3), .ref (g 4), .ref (g 5), .ref (g 6), .ref (g 7), .ref (g 8), .ref (g 9), .ref (g 10), .ref (g 11)]))
abbrev sw_9 (h : Nat) (g : Nat → Nat) (x0 : Int32) (x5 : Int32) (x6 : Int32) (x7 : Int32) (x8 : Int32) (x9 : Int32) (x10 : Int32) (x11 : Int32) (x12 : Int32) (x13 : Int32) (x14 : Int32) (x17 : Int32) (x18 : Int32) (x19 : Int32) (x23 : Int32) (x24 : Int32) (x25 : Int32) (x26 : Int32) (x27 : Int32) (x29 : Int32) (x31 : Int32) (x32 : Int32) (x33 : Int32) : Nat × va_E := (h, .inr (9, (.int x0 :: .ref (g 0) :: .ref (g 1) :: .ref (g 2) :: .ref (g 3) :: .int x5 :: .int x6 :: .int x7 :: .int x8 :: .int x9 :: .int x10 :: .int x11 :: .int x12 :: .int x13 :: .int x14 :: .ref (g 4) :: .ref (g 5) :: .int x17 :: .int x18 :: .int x19 :: .ref (g 6) :: .ref (g 7) :: .ref (g 8) :: .int x23 :: .int x24 :: .int x25 :: .int x26 :: .int x27 :: .ref (g 9) :: .int x29 :: .ref (g 10) :: .int x31 :: .int x32 :: .int x33 :: .ref (g 11) :: .ref (g 12) :: .ref (g 13) :: [])))
abbrev sw_in (cT : Nat → ClassId) (a n : Nat) (f : Nat → Int32) : Nat × va_E := (a, .inl (cT 0, n, .inl f))
abbrev sw_by (cT : Nat → ClassId) (a n : Nat) (f : Nat → Int32) : Nat × va_E := (a, .inl (cT 2, n, .inl f))
abbrev sw_bo (cT : Nat → ClassId) (a n : Nat) (f : Nat → Int32) : Nat × va_E := (a, .inl (cT 3, n, .inl f))
abbrev sw_lo (cT : Nat → ClassId) (a n : Nat) (f : Nat → Int64) : Nat × va_E := (a, .inl (cT 1, n, .inr (.inl f)))
