/-- bits of sets of strips -/
theorem bt_eq {x y : Int32} (h : ∀ i, i < 32 → bt x i = bt y i) : x = y := by
  apply Int32.toBitVec_inj.mp
  apply BitVec.eq_of_getLsbD_eq
  intro i hi
  exact h i hi
theorem bt_0s (i : Nat) : bt 0 i = false := by
  unfold bt
  rw [show ((0 : Int32).toBitVec) = 0#32 from by decide]
  exact BitVec.getLsbD_zero
theorem bt_or (x y : Int32) (i : Nat) : bt (x ||| y) i = (bt x i || bt y i) := by
  unfold bt
  rw [Int32.toBitVec_or, BitVec.getLsbD_or]
theorem bt_and (x y : Int32) (i : Nat) : bt (x &&& y) i = (bt x i && bt y i) := by
  unfold bt
  rw [Int32.toBitVec_and, BitVec.getLsbD_and]
theorem bt_not (x : Int32) {i : Nat} (hi : i < 32) : bt (x ^^^ (-1)) i = !bt x i := by
  unfold bt
  rw [Int32.toBitVec_xor, show ((-1 : Int32).toBitVec) = BitVec.allOnes 32 from by decide, BitVec.getLsbD_xor, BitVec.getLsbD_allOnes, decide_eq_true hi]
  cases x.toBitVec.getLsbD i <;> rfl
theorem bt_shl : ∀ (k : Fin 32) (i : Fin 32), bt ((1 : Int32) <<< (nI k.val &&& 31)) i.val = decide (i.val = k.val) := by decide +kernel
theorem bt_mask : ∀ (n : Fin 17) (i : Fin 32), bt (((1 : Int32) <<< (nI n.val &&& 31)) - 1) i.val = decide (i.val < n.val) := by decide +kernel
theorem sm_k : ∀ k : Fin 32, ((nI k.val &&& 31).toBitVec.smod 32).toNat = k.val := by decide +kernel
theorem bt_shr {x : Int32} {k : Nat} (hk : k < 32) : bt (x >>> (nI k &&& 31)) 0 = bt x k := by
  unfold bt
  show (x.toBitVec.sshiftRight' ((nI k &&& 31).toBitVec.smod 32)).getLsbD 0 = _
  rw [BitVec.sshiftRight', sm_k ⟨k, hk⟩, BitVec.getLsbD_sshiftRight]
  simp [hk]
theorem bt_1 : ∀ i : Fin 32, bt 1 i.val = decide (i.val = 0) := by decide +kernel
/-- (x >> k) & 1 -/
theorem bt_get {x z1 z2 : Int32} {k : Nat} (hk : k < 32) (e1 : z1 = x >>> (nI k &&& 31)) (e2 : z2 = z1 &&& 1) : ¬ z2.toInt = 0 ↔ bt x k = true := by
  have h0 : bt z2 0 = bt x k := by rw [e2, bt_and, e1, bt_shr hk, show bt 1 0 = true from by decide, Bool.and_true]
  constructor
  · intro h
    rw [← h0]
    cases c : bt z2 0 with
    | true => rfl
    | false =>
      refine absurd ?_ h
      have : z2 = 0 := bt_eq (fun i hi => by
        rw [bt_0s]
        rcases Nat.eq_zero_or_pos i with q | q
        · rw [q, c]
        · have hb1 : bt 1 i = false := (bt_1 ⟨i, hi⟩).trans (decide_eq_false (show ¬ i = 0 from by omega))
          rw [e2, bt_and, hb1, Bool.and_false])
      rw [this]; decide
  · intro h q
    have : z2 = 0 := Int32.toInt_inj.mp (q.trans (by decide))
    rw [this, bt_0s] at h0
    rw [h] at h0
    exact absurd h0 (by decide)
theorem an_0 {s l : Int32} : s &&& (l ^^^ (-1)) = 0 ↔ ∀ i, i < 32 → bt s i = true → bt l i = true := by
  constructor
  · intro h i hi hb
    have h1 : bt (s &&& (l ^^^ (-1))) i = false := by rw [h, bt_0s]
    rw [bt_and, bt_not l hi, hb] at h1
    cases c : bt l i with
    | true => rfl
    | false => rw [c] at h1; exact absurd h1 (by decide)
  · intro h
    refine bt_eq (fun i hi => ?_)
    rw [bt_and, bt_not l hi, bt_0s]
    cases c : bt s i with
    | false => rfl
    | true => rw [h i hi c]; rfl
theorem lit_bt {T : Nat → Int32} {h p5 p6 : Int32} {o : Int} : ∀ (n : Nat), n ≤ 32 → ∀ i, i < 32 → bt (litR T h p5 p6 o n) i = decide (i < n ∧ 0 < lgF T h p5 p6 o (i : Int)) := by
  intro n
  induction n with
  | zero => intro _ i _; rw [show litR T h p5 p6 o 0 = 0 from rfl, bt_0s, decide_eq_false (by omega)]
  | succ n ih =>
    intro hn i hi
    rw [litR_s]
    by_cases c : 0 < lgF T h p5 p6 o (n : Int)
    · rw [if_pos c, bt_or, ih (by omega) i hi, bt_shl ⟨n, by omega⟩ ⟨i, hi⟩]
      by_cases q : i = n
      · rw [decide_eq_true (show i = n from q), Bool.or_true, decide_eq_true (by rw [q]; exact ⟨by omega, c⟩)]
      · rw [decide_eq_false (show ¬ i = n from q), Bool.or_false]
        exact decide_eq_decide.mpr ⟨fun z => ⟨by omega, z.2⟩, fun z => ⟨by omega, z.2⟩⟩
    · rw [if_neg c, ih (by omega) i hi]
      exact decide_eq_decide.mpr ⟨fun z => ⟨by omega, z.2⟩, fun z => ⟨by
        rcases (show i < n ∨ i = n from by omega) with q | q
        · exact q
        · rw [q] at z; exact absurd z.2 c, z.2⟩⟩
/-- which sets are of strips -/
theorem areS {set n : Int32} (hn : 0 ≤ n.toInt ∧ n.toInt ≤ 16) : set &&& ((((1 : Int32) <<< (n &&& 31)) - 1) ^^^ (-1)) = 0 ↔ ∀ i, i < 32 → bt set i = true → (i : Int) < n.toInt := by
  have e : n = nI n.toInt.toNat := i32_is (by rw [nI_toInt (by omega)]; omega)
  rw [an_0]
  constructor
  · intro h i hi hb
    have h1 := h i hi hb
    rw [e, bt_mask ⟨n.toInt.toNat, by omega⟩ ⟨i, hi⟩] at h1
    have h2 := of_decide_eq_true h1
    have h3 : i < n.toInt.toNat := h2
    omega
  · intro h i hi hb
    rw [e, bt_mask ⟨n.toInt.toNat, by omega⟩ ⟨i, hi⟩]
    have := h i hi hb
    exact decide_eq_true (show i < n.toInt.toNat from by omega)
theorem mask_i : ∀ n : Fin 17, (((1 : Int32) <<< (nI n.val &&& 31)) - 1).toInt = 2 ^ n.val - 1 := by decide +kernel
theorem tN_bt (x : Int32) (i : Nat) : x.toBitVec.toNat.testBit i = bt x i := rfl
theorem nn_iff {x : Int32} : 0 ≤ x.toInt ↔ x.toInt = ((x.toBitVec.toNat : Nat) : Int) := by
  have h : x.toInt = x.toBitVec.toInt := rfl
  rw [h, BitVec.toInt_eq_toNat_cond]
  have := x.toBitVec.isLt
  split <;> omega
theorem isS {set n : Int32} (hn : 0 ≤ n.toInt ∧ n.toInt ≤ 16) : (0 ≤ set.toInt ∧ set.toInt ≤ (((1 : Int32) <<< (n &&& 31)) - 1).toInt) ↔ ∀ i, i < 32 → bt set i = true → (i : Int) < n.toInt := by
  have e : n = nI n.toInt.toNat := i32_is (by rw [nI_toInt (by omega)]; omega)
  have em : (((1 : Int32) <<< (n &&& 31)) - 1).toInt = 2 ^ n.toInt.toNat - 1 := by
    have := mask_i ⟨n.toInt.toNat, by omega⟩
    rw [show n &&& 31 = nI n.toInt.toNat &&& 31 from by rw [← e]]
    exact this
  have pw : ((2 ^ n.toInt.toNat : Nat) : Int) = 2 ^ n.toInt.toNat := Int.natCast_pow 2 _
  rw [em]
  constructor
  · intro ⟨h0, h1⟩ i hi hb
    rw [nn_iff] at h0
    have h2 : set.toBitVec.toNat < 2 ^ n.toInt.toNat := by omega
    refine Int.not_le.mp (fun hq => ?_)
    have h3 : set.toBitVec.toNat < 2 ^ i := Nat.lt_of_lt_of_le h2 (Nat.pow_le_pow_right (by decide) (by omega))
    have h4 := Nat.testBit_lt_two_pow h3
    rw [tN_bt, hb] at h4
    exact absurd h4 (by decide)
  · intro h
    have h2 : set.toBitVec.toNat < 2 ^ n.toInt.toNat := Nat.lt_pow_two_of_testBit _ (fun i hi => by
      rw [tN_bt]
      cases c : bt set i with
      | false => rfl
      | true =>
        by_cases q : i < 32
        · have := h i q c; omega
        · unfold bt at c; rw [BitVec.getLsbD_of_ge _ _ (by omega)] at c; exact absurd c (by decide))
    have h5 : (2 : Nat) ^ n.toInt.toNat ≤ 2 ^ 16 := Nat.pow_le_pow_right (by decide) (by omega)
    have h6 : set.toInt = ((set.toBitVec.toNat : Nat) : Int) := by
      have h : set.toInt = set.toBitVec.toInt := rfl
      rw [h, BitVec.toInt_eq_toNat_cond]
      split <;> omega
    omega
/-- how high for a set, and over which strip -/
def laR (T : Nat → Int32) (p5 p6 : Int32) (o : Int) (set : Int32) : Nat → Int
  | 0 => 1
  | k + 1 => if laR T p5 p6 o set k = -1 then -1 else if bt set k = true then (if lhF T p5 p6 o (k : Int) = -1 then -1 else mxI (laR T p5 p6 o set k) (lhF T p5 p6 o (k : Int))) else laR T p5 p6 o set k
theorem laR_s (T : Nat → Int32) (p5 p6 : Int32) (o : Int) (set : Int32) (k : Nat) : laR T p5 p6 o set (k + 1) = if laR T p5 p6 o set k = -1 then -1 else if bt set k = true then (if lhF T p5 p6 o (k : Int) = -1 then -1 else mxI (laR T p5 p6 o set k) (lhF T p5 p6 o (k : Int))) else laR T p5 p6 o set k := rfl
theorem lmF_1 (T : Nat → Int32) (o s : Int) : 1 ≤ lmF T o s := lmR_ge _ _ _ _ _ _ _
theorem lhF_b (T : Nat → Int32) (p5 p6 : Int32) (o s : Int) : lhF T p5 p6 o s = -1 ∨ (1 ≤ lhF T p5 p6 o s ∧ lhF T p5 p6 o s ≤ 99) := by
  have h := lmF_1 T o s
  unfold lhF
  by_cases c : unl p5 p6 o s = 0
  · rw [if_pos c]; exact Or.inl rfl
  · rw [if_neg c]
    by_cases c2 : 99 < lmF T o s
    · rw [if_pos c2]; exact Or.inl rfl
    · rw [if_neg c2]; exact Or.inr ⟨h, by omega⟩
theorem laR_b (T : Nat → Int32) (p5 p6 : Int32) (o : Int) (set : Int32) : ∀ k, laR T p5 p6 o set k = -1 ∨ (1 ≤ laR T p5 p6 o set k ∧ laR T p5 p6 o set k ≤ 99) := by
  intro k
  induction k with
  | zero => exact Or.inr ⟨show (1 : Int) ≤ 1 from by decide, show (1 : Int) ≤ 99 from by decide⟩
  | succ k ih =>
    have hl := lhF_b T p5 p6 o (k : Int)
    rw [laR_s]
    unfold mxI
    repeat' split
    all_goals omega
theorem laR_m {T : Nat → Int32} {p5 p6 : Int32} {o : Int} {set : Int32} {k : Nat} (h : laR T p5 p6 o set k = -1) : ∀ n, k ≤ n → laR T p5 p6 o set n = -1 := by
  intro n
  induction n with
  | zero => intro hk; rw [show k = 0 from by omega] at h; exact h
  | succ n ih =>
    intro hk
    rcases (show k = n + 1 ∨ k ≤ n from by omega) with q | q
    · rw [← q]; exact h
    · rw [laR_s, if_pos (ih q)]
theorem lg_lh {T : Nat → Int32} {p5 p6 : Int32} {o s n0 h : Int} (hb : BT T n0) (hn : n0 ≤ 16) (hh : 1 ≤ h ∧ h ≤ 99) (ho : 0 ≤ o ∧ o < n0) (hs : 0 ≤ s ∧ s < n0) : 0 < lgF T (Int32.ofInt h) p5 p6 o s ↔ (¬ lhF T p5 p6 o s = -1 ∧ lhF T p5 p6 o s ≤ h) := by
  have k := sh_iff hb hn hh ho hs
  have h1 := lmF_1 T o s
  have h2 := unl_nn p5 p6 o s
  unfold lgF lhF
  by_cases c : lmF T o s ≤ h
  · rw [if_pos (k.mpr c)]
    by_cases c2 : unl p5 p6 o s = 0
    · rw [if_pos c2]; omega
    · rw [if_neg c2, if_neg (by omega)]; omega
  · rw [if_neg (fun q => c (k.mp q))]
    by_cases c2 : unl p5 p6 o s = 0
    · rw [if_pos c2]; omega
    · rw [if_neg c2]
      by_cases c3 : 99 < lmF T o s
      · rw [if_pos c3]; omega
      · rw [if_neg c3]; omega
theorem la_cov {T : Nat → Int32} {p5 p6 : Int32} {o n0 h : Int} {set : Int32} (hb : BT T n0) (hn : n0 ≤ 16) (hh : 1 ≤ h ∧ h ≤ 99) (ho : 0 ≤ o ∧ o < n0) : ∀ n : Nat, (n : Int) ≤ n0 → ((¬ laR T p5 p6 o set n = -1 ∧ laR T p5 p6 o set n ≤ h) ↔ ∀ k : Nat, k < n → bt set k = true → 0 < lgF T (Int32.ofInt h) p5 p6 o (k : Int)) := by
  intro n
  induction n with
  | zero => intro _; exact ⟨fun _ k hk => absurd hk (by omega), fun _ => ⟨show ¬ (1 : Int) = -1 from by decide, hh.1⟩⟩
  | succ n ih =>
    intro hn1
    have ihn := ih (by omega)
    have hl := lg_lh (p5 := p5) (p6 := p6) (s := (n : Int)) hb hn hh ho (by omega)
    have hbl := laR_b T p5 p6 o set n
    have hbh := lhF_b T p5 p6 o (n : Int)
    have split_ : (∀ k : Nat, k < n + 1 → bt set k = true → 0 < lgF T (Int32.ofInt h) p5 p6 o (k : Int)) ↔ ((∀ k : Nat, k < n → bt set k = true → 0 < lgF T (Int32.ofInt h) p5 p6 o (k : Int)) ∧ (bt set n = true → 0 < lgF T (Int32.ofInt h) p5 p6 o (n : Int))) := by
      constructor
      · intro q; exact ⟨fun k hk => q k (by omega), q n (by omega)⟩
      · intro ⟨q1, q2⟩ k hk hb2
        rcases (show k < n ∨ k = n from by omega) with z | z
        · exact q1 k z hb2
        · rw [z] at hb2 ⊢; exact q2 hb2
    rw [split_, ← ihn, laR_s]
    by_cases c1 : laR T p5 p6 o set n = -1
    · rw [if_pos c1]; constructor
      · intro q; exact absurd rfl q.1
      · intro q; exact absurd c1 q.1.1
    · rw [if_neg c1]
      by_cases c2 : bt set n = true
      · rw [if_pos c2]
        by_cases c3 : lhF T p5 p6 o (n : Int) = -1
        · rw [if_pos c3]; constructor
          · intro q; exact absurd rfl q.1
          · intro q; exact absurd c3 (hl.mp (q.2 c2)).1
        · rw [if_neg c3]
          have m1 := mxI_l (laR T p5 p6 o set n) (lhF T p5 p6 o (n : Int))
          have m2 := mxI_r (laR T p5 p6 o set n) (lhF T p5 p6 o (n : Int))
          constructor
          · intro q; exact ⟨⟨c1, by omega⟩, fun _ => hl.mpr ⟨c3, by omega⟩⟩
          · intro q
            have q2 := hl.mp (q.2 c2)
            exact ⟨by omega, mxI_le q.1.2 q2.2⟩
      · rw [if_neg c2]; constructor
        · intro q; exact ⟨⟨c1, q.2⟩, fun z => absurd z c2⟩
        · intro q; exact q.1
/-- one strip over which the set is lit -/
theorem cov_la {T : Nat → Int32} {p5 p6 : Int32} {o n0 h : Int} {set : Int32} (hb : BT T n0) (hn : 0 ≤ n0 ∧ n0 ≤ 16) (hs : ∀ i, i < 32 → bt set i = true → (i : Int) < n0) (hh : 1 ≤ h ∧ h ≤ 99) (ho : 0 ≤ o ∧ o < n0) : set &&& (litR T (Int32.ofInt h) p5 p6 o n0.toNat ^^^ (-1)) = 0 ↔ (¬ laR T p5 p6 o set n0.toNat = -1 ∧ laR T p5 p6 o set n0.toNat ≤ h) := by
  rw [la_cov hb hn.2 hh ho n0.toNat (by omega), an_0]
  constructor
  · intro q k hk hb2
    have h1 := q k (by omega) hb2
    rw [lit_bt n0.toNat (by omega) k (by omega)] at h1
    exact (of_decide_eq_true h1).2
  · intro q i hi hb2
    have h1 := hs i hi hb2
    rw [lit_bt n0.toNat (by omega) i hi]
    exact decide_eq_true ⟨by omega, q i (by omega) hb2⟩
/-- the class: over 0, 1 .., the least height and where -/
def hfL (T : Nat → Int32) (p5 p6 set : Int32) (n : Nat) : Nat → Int × Int
  | 0 => (-1, -1)
  | k + 1 => if ¬ laR T p5 p6 (k : Int) set n = -1 ∧ ((hfL T p5 p6 set n k).1 = -1 ∨ laR T p5 p6 (k : Int) set n < (hfL T p5 p6 set n k).1) then (laR T p5 p6 (k : Int) set n, (k : Int)) else hfL T p5 p6 set n k
theorem hfL_s (T : Nat → Int32) (p5 p6 set : Int32) (n k : Nat) : hfL T p5 p6 set n (k + 1) = if ¬ laR T p5 p6 (k : Int) set n = -1 ∧ ((hfL T p5 p6 set n k).1 = -1 ∨ laR T p5 p6 (k : Int) set n < (hfL T p5 p6 set n k).1) then (laR T p5 p6 (k : Int) set n, (k : Int)) else hfL T p5 p6 set n k := rfl
def HF (L : Int → Int) (m : Int) (l w : Int) : Prop := (l = -1 ∧ w = -1 ∧ ∀ o : Int, 0 ≤ o → o < m → L o = -1) ∨ (1 ≤ l ∧ l ≤ 99 ∧ 0 ≤ w ∧ w < m ∧ L w = l ∧ (∀ o : Int, 0 ≤ o → o < m → L o = -1 ∨ l ≤ L o) ∧ ∀ o : Int, 0 ≤ o → o < w → L o = -1 ∨ l < L o)
theorem HF_uniq {L : Int → Int} {m l w l' w' : Int} (h : HF L m l w) (g : HF L m l' w') : l = l' ∧ w = w' := by
  rcases h with ⟨h1, h2, h3⟩ | ⟨h1, h1', h2, h3, h4, h5, h6⟩ <;> rcases g with ⟨g1, g2, g3⟩ | ⟨g1, g1', g2, g3, g4, g5, g6⟩
  · omega
  · have := h3 w' g2 g3; omega
  · have := g3 w h2 h3; omega
  · have a1 := h5 w' g2 g3
    have a2 := g5 w h2 h3
    have e : l = l' := by omega
    refine ⟨e, ?_⟩
    rcases Int.lt_trichotomy w w' with q | q | q
    · have := g6 w h2 q; omega
    · exact q
    · have := h6 w' g2 q; omega
theorem hfL_HF (T : Nat → Int32) (p5 p6 set : Int32) (n : Nat) : ∀ k : Nat, HF (fun o => laR T p5 p6 o set n) (k : Int) (hfL T p5 p6 set n k).1 (hfL T p5 p6 set n k).2 := by
  intro k
  induction k with
  | zero => exact Or.inl ⟨rfl, rfl, fun o h1 h2 => by omega⟩
  | succ k ih =>
    have hb := laR_b T p5 p6 (k : Int) set n
    rw [hfL_s]
    by_cases c : ¬ laR T p5 p6 (k : Int) set n = -1 ∧ ((hfL T p5 p6 set n k).1 = -1 ∨ laR T p5 p6 (k : Int) set n < (hfL T p5 p6 set n k).1)
    · rw [if_pos c]
      refine Or.inr ⟨by omega, by omega, by omega, by omega, rfl, fun o h1 h2 => ?_, fun o h1 h2 => ?_⟩
      · rcases (show o = (k : Int) ∨ o < (k : Int) from by omega) with q | q
        · rw [q]; exact Or.inr (Int.le_refl _)
        · rcases ih with ⟨i1, i2, i3⟩ | ⟨i1, i1', i2, i3, i4, i5, i6⟩
          · exact Or.inl (i3 o h1 q)
          · rcases i5 o h1 q with z | z
            · exact Or.inl z
            · exact Or.inr (show laR T p5 p6 (k : Int) set n ≤ laR T p5 p6 o set n from by have z2 : (hfL T p5 p6 set n k).1 ≤ laR T p5 p6 o set n := z; omega)
      · have h2' : o < (k : Int) := h2
        rcases ih with ⟨i1, i2, i3⟩ | ⟨i1, i1', i2, i3, i4, i5, i6⟩
        · exact Or.inl (i3 o h1 h2')
        · rcases i5 o h1 h2' with z | z
          · exact Or.inl z
          · exact Or.inr (show laR T p5 p6 (k : Int) set n < laR T p5 p6 o set n from by have z2 : (hfL T p5 p6 set n k).1 ≤ laR T p5 p6 o set n := z; omega)
    · rw [if_neg c]
      rcases ih with ⟨i1, i2, i3⟩ | ⟨i1, i1', i2, i3, i4, i5, i6⟩
      · refine Or.inl ⟨i1, i2, fun o h1 h2 => ?_⟩
        rcases (show o = (k : Int) ∨ o < (k : Int) from by omega) with q | q
        · show laR T p5 p6 o set n = -1
          rw [q]; omega
        · exact i3 o h1 q
      · refine Or.inr ⟨i1, i1', i2, by omega, i4, fun o h1 h2 => ?_, i6⟩
        rcases (show o = (k : Int) ∨ o < (k : Int) from by omega) with q | q
        · show laR T p5 p6 o set n = -1 ∨ (hfL T p5 p6 set n k).1 ≤ laR T p5 p6 o set n
          rw [q]; omega
        · exact i5 o h1 q
/-- the reference: at a height, the first strip; then the next height -/
def coR (T : Nat → Int32) (h p5 p6 set : Int32) (m : Nat) (n : Int) : Nat → Int → Int
  | 0, _ => -1
  | f + 1, s => if s < n then (if set &&& (litR T h p5 p6 s m ^^^ (-1)) = 0 then s else coR T h p5 p6 set m n f (s + 1)) else -1
def hzR (T : Nat → Int32) (p5 p6 set : Int32) (m : Nat) (n : Int) : Nat → Int → Int × Int
  | 0, _ => (-1, -1)
  | f + 1, h => if coR T (Int32.ofInt h) p5 p6 set m n 17 0 = -1 then hzR T p5 p6 set m n f (h + 1) else (h, coR T (Int32.ofInt h) p5 p6 set m n 17 0)
theorem co_sp {T : Nat → Int32} {h p5 p6 set : Int32} {m : Nat} {n : Int} : ∀ (f : Nat) (s : Int), n - s ≤ (f : Int) → (coR T h p5 p6 set m n f s = -1 ∧ ∀ u : Int, s ≤ u → u < n → ¬ set &&& (litR T h p5 p6 u m ^^^ (-1)) = 0) ∨ (s ≤ coR T h p5 p6 set m n f s ∧ coR T h p5 p6 set m n f s < n ∧ set &&& (litR T h p5 p6 (coR T h p5 p6 set m n f s) m ^^^ (-1)) = 0 ∧ ∀ u : Int, s ≤ u → u < coR T h p5 p6 set m n f s → ¬ set &&& (litR T h p5 p6 u m ^^^ (-1)) = 0) := by
  intro f
  induction f with
  | zero => intro s hs; exact Or.inl ⟨rfl, fun u h1 h2 => by omega⟩
  | succ f ih =>
    intro s hs
    have e : coR T h p5 p6 set m n (f + 1) s = if s < n then (if set &&& (litR T h p5 p6 s m ^^^ (-1)) = 0 then s else coR T h p5 p6 set m n f (s + 1)) else -1 := rfl
    by_cases c : s < n
    · rw [if_pos c] at e
      by_cases c2 : set &&& (litR T h p5 p6 s m ^^^ (-1)) = 0
      · rw [if_pos c2] at e
        rw [e]
        exact Or.inr ⟨Int.le_refl _, c, c2, fun u h1 h2 => by omega⟩
      · rw [if_neg c2] at e
        rw [e]
        rcases ih (s + 1) (by omega) with ⟨i1, i2⟩ | ⟨i1, i2, i3, i4⟩
        · refine Or.inl ⟨i1, fun u h1 h2 => ?_⟩
          rcases (show u = s ∨ s + 1 ≤ u from by omega) with q | q
          · rw [q]; exact c2
          · exact i2 u q h2
        · refine Or.inr ⟨by omega, i2, i3, fun u h1 h2 => ?_⟩
          rcases (show u = s ∨ s + 1 ≤ u from by omega) with q | q
          · rw [q]; exact c2
          · exact i4 u q h2
    · rw [if_neg c] at e
      rw [e]
      exact Or.inl ⟨rfl, fun u h1 h2 => by omega⟩
theorem hz_HF {T : Nat → Int32} {p5 p6 set : Int32} {n : Int} (hb : BT T n) (hn : 0 ≤ n ∧ n ≤ 16) (hs : ∀ i, i < 32 → bt set i = true → (i : Int) < n) : ∀ (f : Nat) (h : Int), 1 ≤ h → h + (f : Int) = 100 → (∀ o : Int, 0 ≤ o → o < n → laR T p5 p6 o set n.toNat = -1 ∨ h ≤ laR T p5 p6 o set n.toNat) → HF (fun o => laR T p5 p6 o set n.toNat) n (hzR T p5 p6 set n.toNat n f h).1 (hzR T p5 p6 set n.toNat n f h).2 := by
  intro f
  induction f with
  | zero =>
    intro h h1 h2 h3
    refine Or.inl ⟨rfl, rfl, fun o g1 g2 => ?_⟩
    have q := laR_b T p5 p6 o set n.toNat
    have q2 := h3 o g1 g2
    show laR T p5 p6 o set n.toNat = -1
    omega
  | succ f ih =>
    intro h h1 h2 h3
    have cv : ∀ u : Int, 0 ≤ u → u < n → (set &&& (litR T (Int32.ofInt h) p5 p6 u n.toNat ^^^ (-1)) = 0 ↔ (¬ laR T p5 p6 u set n.toNat = -1 ∧ laR T p5 p6 u set n.toNat ≤ h)) := fun u g1 g2 => cov_la hb hn hs (by omega) ⟨g1, g2⟩
    have e : hzR T p5 p6 set n.toNat n (f + 1) h = if coR T (Int32.ofInt h) p5 p6 set n.toNat n 17 0 = -1 then hzR T p5 p6 set n.toNat n f (h + 1) else (h, coR T (Int32.ofInt h) p5 p6 set n.toNat n 17 0) := rfl
    rw [e]
    rcases co_sp (T := T) (h := Int32.ofInt h) (p5 := p5) (p6 := p6) (set := set) (m := n.toNat) (n := n) 17 0 (by omega) with ⟨i1, i2⟩ | ⟨i1, i2, i3, i4⟩
    · rw [if_pos i1]
      refine ih (h + 1) (by omega) (by omega) (fun o g1 g2 => ?_)
      have q := mt (cv o g1 g2).mpr (i2 o g1 g2)
      have q2 := laR_b T p5 p6 o set n.toNat
      omega
    · rw [if_neg (by omega)]
      have q := (cv _ i1 i2).mp i3
      have q3 := h3 _ i1 i2
      refine Or.inr ⟨h1, by omega, i1, i2, ?_, fun o g1 g2 => h3 o g1 g2, fun o g1 g2 => ?_⟩
      · show laR T p5 p6 (coR T (Int32.ofInt h) p5 p6 set n.toNat n 17 0) set n.toNat = h
        omega
      · have g2' : o < coR T (Int32.ofInt h) p5 p6 set n.toNat n 17 0 := g2
        have z := mt (cv o g1 (by omega)).mpr (i4 o g1 g2')
        show laR T p5 p6 o set n.toNat = -1 ∨ h < laR T p5 p6 o set n.toNat
        omega
theorem hf_eq {T : Nat → Int32} {p5 p6 set : Int32} {n : Int} (hb : BT T n) (hn : 0 ≤ n ∧ n ≤ 16) (hs : ∀ i, i < 32 → bt set i = true → (i : Int) < n) : (hfL T p5 p6 set n.toNat n.toNat).1 = (hzR T p5 p6 set n.toNat n 99 1).1 ∧ (hfL T p5 p6 set n.toNat n.toNat).2 = (hzR T p5 p6 set n.toNat n 99 1).2 := by
  have h1 := hfL_HF T p5 p6 set n.toNat n.toNat
  rw [show ((n.toNat : Nat) : Int) = n from by omega] at h1
  exact HF_uniq h1 (hz_HF hb hn hs 99 1 (by omega) (by omega) (fun o g1 g2 => by
    have q := laR_b T p5 p6 o set n.toNat
    omega))
theorem coR_ex {T T' : Nat → Int32} {h p5 p6 set : Int32} {m : Nat} {n : Int} (hm : (m : Int) ≤ n) (e : ∀ j : Nat, (j : Int) < n → T j = T' j) : ∀ (f : Nat) (s : Int), 0 ≤ s → coR T h p5 p6 set m n f s = coR T' h p5 p6 set m n f s := by
  intro f
  induction f with
  | zero => intro s _; rfl
  | succ f ih =>
    intro s h0
    show (if s < n then (if set &&& (litR T h p5 p6 s m ^^^ (-1)) = 0 then s else coR T h p5 p6 set m n f (s + 1)) else -1) = (if s < n then (if set &&& (litR T' h p5 p6 s m ^^^ (-1)) = 0 then s else coR T' h p5 p6 set m n f (s + 1)) else -1)
    by_cases c : s < n
    · rw [if_pos c, if_pos c, litR_ex ⟨h0, c⟩ e m hm, ih (s + 1) (by omega)]
    · rw [if_neg c, if_neg c]
theorem hzR_ex {T T' : Nat → Int32} {p5 p6 set : Int32} {m : Nat} {n : Int} (hm : (m : Int) ≤ n) (e : ∀ j : Nat, (j : Int) < n → T j = T' j) : ∀ (f : Nat) (h : Int), hzR T p5 p6 set m n f h = hzR T' p5 p6 set m n f h := by
  intro f
  induction f with
  | zero => intro h; rfl
  | succ f ih =>
    intro h
    show (if coR T (Int32.ofInt h) p5 p6 set m n 17 0 = -1 then hzR T p5 p6 set m n f (h + 1) else (h, coR T (Int32.ofInt h) p5 p6 set m n 17 0)) = (if coR T' (Int32.ofInt h) p5 p6 set m n 17 0 = -1 then hzR T' p5 p6 set m n f (h + 1) else (h, coR T' (Int32.ofInt h) p5 p6 set m n 17 0))
    rw [coR_ex hm e 17 0 (by omega), ih (h + 1)]
def selI (y : Int32) (p : Int × Int) : Int := if y.toInt = 0 then p.1 else p.2
theorem selI_ex {y : Int32} {p q : Int × Int} (h : p.1 = q.1 ∧ p.2 = q.2) : selI y p = selI y q := by unfold selI; rw [h.1, h.2]
theorem coR_s {T : Nat → Int32} {h p5 p6 set : Int32} {m : Nat} {n s : Int} {f : Nat} (hs : s < n) : coR T h p5 p6 set m n (f + 1) s = if set &&& (litR T h p5 p6 s m ^^^ (-1)) = 0 then s else coR T h p5 p6 set m n f (s + 1) := by
  show (if s < n then (if set &&& (litR T h p5 p6 s m ^^^ (-1)) = 0 then s else coR T h p5 p6 set m n f (s + 1)) else -1) = _
  rw [if_pos hs]
theorem coR_e {T : Nat → Int32} {h p5 p6 set : Int32} {m : Nat} {n s : Int} (f : Nat) (hs : n ≤ s) : coR T h p5 p6 set m n f s = -1 := by
  cases f with
  | zero => rfl
  | succ f => show (if s < n then (if set &&& (litR T h p5 p6 s m ^^^ (-1)) = 0 then s else coR T h p5 p6 set m n f (s + 1)) else -1) = -1; rw [if_neg (by omega)]
theorem hz_s {T : Nat → Int32} {p5 p6 set h : Int32} {m : Nat} {n : Int} {f : Nat} : hzR T p5 p6 set m n (f + 1) h.toInt = if coR T h p5 p6 set m n 17 0 = -1 then hzR T p5 p6 set m n f (h.toInt + 1) else (h.toInt, coR T h p5 p6 set m n 17 0) := by
  show (if coR T (Int32.ofInt h.toInt) p5 p6 set m n 17 0 = -1 then hzR T p5 p6 set m n f (h.toInt + 1) else (h.toInt, coR T (Int32.ofInt h.toInt) p5 p6 set m n 17 0)) = _
  rw [Int32.ofInt_toInt]
