/-- light, purely: how far, unshaded light, whether a tree stands between, light, which strips are lit, shaded, dark -/
def dI (o s : Int) : Int := if s ≤ o then o - s else s - o
def unl (p5 p6 : Int32) (o s : Int) : Int := if (p5 - p6 * Int32.ofInt (dI o s)).toInt < 0 then 0 else (p5 - p6 * Int32.ofInt (dI o s)).toInt
def shR (T : Nat → Int32) (h st : Int32) (s hi : Int) : Nat → Int → Int
  | 0, _ => 0
  | n + 1, t => if t < hi then (if (h * Int32.ofInt (dI t s)).toInt < (T t.toNat * st).toInt then 1 else shR T h st s hi n (t + 1)) else 0
def loI (o s : Int) : Int := if o < s then o else s
def hiI (o s : Int) : Int := if o < s then s else o
def shF (T : Nat → Int32) (h : Int32) (o s : Int) : Int := shR T h (Int32.ofInt (dI o s)) s (hiI o s) (17 - (loI o s + 1)).toNat (loI o s + 1)
def lgF (T : Nat → Int32) (h p5 p6 : Int32) (o s : Int) : Int := if shF T h o s = 0 then unl p5 p6 o s else 0
def litR (T : Nat → Int32) (h p5 p6 : Int32) (o : Int) : Nat → Int32
  | 0 => 0
  | k + 1 => if 0 < lgF T h p5 p6 o (k : Int) then litR T h p5 p6 o k ||| ((1 : Int32) <<< (nI k &&& 31)) else litR T h p5 p6 o k
def shdR (T : Nat → Int32) (h p5 p6 : Int32) (o : Int) : Nat → Int32
  | 0 => 0
  | k + 1 => if 0 < unl p5 p6 o (k : Int) ∧ ¬ shF T h o (k : Int) = 0 then shdR T h p5 p6 o k ||| ((1 : Int32) <<< (nI k &&& 31)) else shdR T h p5 p6 o k
def orR (T : Nat → Int32) (h p5 p6 : Int32) (n : Nat) : Nat → Int32
  | 0 => 0
  | k + 1 => orR T h p5 p6 n k ||| litR T h p5 p6 (k : Int) n
def anR (T : Nat → Int32) (h p5 p6 : Int32) (n : Nat) (A : Int32) : Nat → Int32
  | 0 => A
  | k + 1 => anR T h p5 p6 n A k &&& (litR T h p5 p6 (k : Int) n ^^^ (-1))
theorem litR_s (T : Nat → Int32) (h p5 p6 : Int32) (o : Int) (k : Nat) : litR T h p5 p6 o (k + 1) = if 0 < lgF T h p5 p6 o (k : Int) then litR T h p5 p6 o k ||| ((1 : Int32) <<< (nI k &&& 31)) else litR T h p5 p6 o k := rfl
theorem shdR_s (T : Nat → Int32) (h p5 p6 : Int32) (o : Int) (k : Nat) : shdR T h p5 p6 o (k + 1) = if 0 < unl p5 p6 o (k : Int) ∧ ¬ shF T h o (k : Int) = 0 then shdR T h p5 p6 o k ||| ((1 : Int32) <<< (nI k &&& 31)) else shdR T h p5 p6 o k := rfl
theorem orR_s (T : Nat → Int32) (h p5 p6 : Int32) (n k : Nat) : orR T h p5 p6 n (k + 1) = orR T h p5 p6 n k ||| litR T h p5 p6 (k : Int) n := rfl
theorem anR_s (T : Nat → Int32) (h p5 p6 : Int32) (n : Nat) (A : Int32) (k : Nat) : anR T h p5 p6 n A (k + 1) = anR T h p5 p6 n A k &&& (litR T h p5 p6 (k : Int) n ^^^ (-1)) := rfl
theorem i3_eq {z : Int32} {a : Int} (h : z.toInt = a) : z = Int32.ofInt a := by rw [← h, Int32.ofInt_toInt]
theorem unl_nn (p5 p6 : Int32) (o s : Int) : 0 ≤ unl p5 p6 o s := by unfold unl; split <;> omega
theorem unl_of {p5 p6 d m v : Int32} {o s r : Int} (hd : d = Int32.ofInt (dI o s)) (em : m = p6 * d) (ev : v = p5 - m) (h : (v.toInt < 0 ∧ r = 0) ∨ (0 ≤ v.toInt ∧ r = v.toInt)) : r = unl p5 p6 o s := by
  unfold unl
  rw [← hd, ← em, ← ev]
  split <;> omega
theorem shR_s {T : Nat → Int32} {h st d m w : Int32} {s hi t : Int} {n : Nat} (ht : t < hi) (hd : d = Int32.ofInt (dI t s)) (em : m = h * d) (ew : w = T t.toNat * st) : shR T h st s hi (n + 1) t = if m.toInt < w.toInt then 1 else shR T h st s hi n (t + 1) := by
  show (if t < hi then (if (h * Int32.ofInt (dI t s)).toInt < (T t.toNat * st).toInt then 1 else shR T h st s hi n (t + 1)) else 0) = _
  rw [if_pos ht, ← hd, ← em, ← ew]
theorem shR_e {T : Nat → Int32} {h st : Int32} {s hi t : Int} (n : Nat) (ht : hi ≤ t) : shR T h st s hi n t = 0 := by
  cases n with
  | zero => rfl
  | succ n => show (if t < hi then _ else 0) = 0; rw [if_neg (by omega)]
theorem shR_01 (T : Nat → Int32) (h st : Int32) (s hi : Int) : ∀ (n : Nat) (t : Int), shR T h st s hi n t = 0 ∨ shR T h st s hi n t = 1 := by
  intro n
  induction n with
  | zero => intro t; exact Or.inl rfl
  | succ n ih =>
    intro t
    show (if t < hi then (if (h * Int32.ofInt (dI t s)).toInt < (T t.toNat * st).toInt then 1 else shR T h st s hi n (t + 1)) else 0) = 0 ∨ (if t < hi then (if (h * Int32.ofInt (dI t s)).toInt < (T t.toNat * st).toInt then 1 else shR T h st s hi n (t + 1)) else 0) = 1
    by_cases c : t < hi
    · rw [if_pos c]
      by_cases c2 : (h * Int32.ofInt (dI t s)).toInt < (T t.toNat * st).toInt
      · rw [if_pos c2]; exact Or.inr rfl
      · rw [if_neg c2]; exact ih (t + 1)
    · rw [if_neg c]; exact Or.inl rfl
theorem shR_ex {T T' : Nat → Int32} {h st : Int32} {s hi : Int} : ∀ (n : Nat) (t : Int), 0 ≤ t → (∀ j : Nat, (j : Int) < hi → T j = T' j) → shR T h st s hi n t = shR T' h st s hi n t := by
  intro n
  induction n with
  | zero => intro t _ _; rfl
  | succ n ih =>
    intro t h0 e
    show (if t < hi then (if (h * Int32.ofInt (dI t s)).toInt < (T t.toNat * st).toInt then 1 else shR T h st s hi n (t + 1)) else 0) = (if t < hi then (if (h * Int32.ofInt (dI t s)).toInt < (T' t.toNat * st).toInt then 1 else shR T' h st s hi n (t + 1)) else 0)
    by_cases c : t < hi
    · rw [if_pos c, if_pos c, e t.toNat (by omega), ih (t + 1) (by omega) e]
    · rw [if_neg c, if_neg c]
theorem shF_ex {T T' : Nat → Int32} {h : Int32} {o s n : Int} (ho : 0 ≤ o ∧ o < n) (hs : 0 ≤ s ∧ s < n) (e : ∀ j : Nat, (j : Int) < n → T j = T' j) : shF T h o s = shF T' h o s := by
  unfold shF
  refine shR_ex _ _ ?_ (fun j hj => e j ?_)
  · unfold loI; split <;> omega
  · unfold hiI at hj; split at hj <;> omega
theorem lgF_ex {T T' : Nat → Int32} {h p5 p6 : Int32} {o s n : Int} (ho : 0 ≤ o ∧ o < n) (hs : 0 ≤ s ∧ s < n) (e : ∀ j : Nat, (j : Int) < n → T j = T' j) : lgF T h p5 p6 o s = lgF T' h p5 p6 o s := by
  unfold lgF
  rw [shF_ex ho hs e]
theorem litR_ex {T T' : Nat → Int32} {h p5 p6 : Int32} {o n : Int} (ho : 0 ≤ o ∧ o < n) (e : ∀ j : Nat, (j : Int) < n → T j = T' j) : ∀ k : Nat, (k : Int) ≤ n → litR T h p5 p6 o k = litR T' h p5 p6 o k := by
  intro k
  induction k with
  | zero => intro _; rfl
  | succ k ih =>
    intro hk
    show (if 0 < lgF T h p5 p6 o (k : Int) then litR T h p5 p6 o k ||| ((1 : Int32) <<< (nI k &&& 31)) else litR T h p5 p6 o k) = (if 0 < lgF T' h p5 p6 o (k : Int) then litR T' h p5 p6 o k ||| ((1 : Int32) <<< (nI k &&& 31)) else litR T' h p5 p6 o k)
    rw [ih (by omega), lgF_ex ho (by omega) e]
theorem shdR_ex {T T' : Nat → Int32} {h p5 p6 : Int32} {o n : Int} (ho : 0 ≤ o ∧ o < n) (e : ∀ j : Nat, (j : Int) < n → T j = T' j) : ∀ k : Nat, (k : Int) ≤ n → shdR T h p5 p6 o k = shdR T' h p5 p6 o k := by
  intro k
  induction k with
  | zero => intro _; rfl
  | succ k ih =>
    intro hk
    show (if 0 < unl p5 p6 o (k : Int) ∧ ¬ shF T h o (k : Int) = 0 then shdR T h p5 p6 o k ||| ((1 : Int32) <<< (nI k &&& 31)) else shdR T h p5 p6 o k) = (if 0 < unl p5 p6 o (k : Int) ∧ ¬ shF T' h o (k : Int) = 0 then shdR T' h p5 p6 o k ||| ((1 : Int32) <<< (nI k &&& 31)) else shdR T' h p5 p6 o k)
    rw [ih (by omega), shF_ex ho (by omega) e]
theorem anR_ex {T T' : Nat → Int32} {h p5 p6 A : Int32} {n : Int} {m : Nat} (hm : (m : Int) ≤ n) (e : ∀ j : Nat, (j : Int) < n → T j = T' j) : ∀ k : Nat, (k : Int) ≤ n → anR T h p5 p6 m A k = anR T' h p5 p6 m A k := by
  intro k
  induction k with
  | zero => intro _; rfl
  | succ k ih =>
    intro hk
    show anR T h p5 p6 m A k &&& (litR T h p5 p6 (k : Int) m ^^^ (-1)) = anR T' h p5 p6 m A k &&& (litR T' h p5 p6 (k : Int) m ^^^ (-1))
    rw [ih (by omega), litR_ex (by omega) e m hm]
theorem bit_dm (A o l : Int32) : A &&& ((o ||| l) ^^^ (-1)) = (A &&& (o ^^^ (-1))) &&& (l ^^^ (-1)) := by
  apply Int32.toBitVec_inj.mp
  simp only [Int32.toBitVec_and, Int32.toBitVec_or, Int32.toBitVec_xor]
  rw [show ((-1 : Int32).toBitVec) = BitVec.allOnes 32 from by decide]
  apply BitVec.eq_of_getLsbD_eq
  intro i hi
  simp only [BitVec.getLsbD_and, BitVec.getLsbD_or, BitVec.getLsbD_xor, BitVec.getLsbD_allOnes, hi, decide_true]
  cases A.toBitVec.getLsbD i <;> cases o.toBitVec.getLsbD i <;> cases l.toBitVec.getLsbD i <;> rfl
theorem xor_0m (A : Int32) : A &&& ((0 : Int32) ^^^ (-1)) = A := by
  apply Int32.toBitVec_inj.mp
  simp only [Int32.toBitVec_and, Int32.toBitVec_xor]
  rw [show ((-1 : Int32).toBitVec) = BitVec.allOnes 32 from by decide, show ((0 : Int32).toBitVec) = 0 from by decide]
  apply BitVec.eq_of_getLsbD_eq
  intro i hi
  simp only [BitVec.getLsbD_and, BitVec.getLsbD_xor, BitVec.getLsbD_allOnes, hi, decide_true]
  simp
theorem anR_or (T : Nat → Int32) (h p5 p6 A : Int32) (n : Nat) : ∀ k : Nat, A &&& (orR T h p5 p6 n k ^^^ (-1)) = anR T h p5 p6 n A k := by
  intro k
  induction k with
  | zero => exact xor_0m A
  | succ k ih =>
    show A &&& ((orR T h p5 p6 n k ||| litR T h p5 p6 (k : Int) n) ^^^ (-1)) = anR T h p5 p6 n A k &&& (litR T h p5 p6 (k : Int) n ^^^ (-1))
    rw [bit_dm, ih]
theorem or_z (x : Int32) : x ||| 0 = x := by
  apply Int32.toBitVec_inj.mp
  rw [Int32.toBitVec_or, show ((0 : Int32).toBitVec) = 0 from by decide]
  simp
/-- how high the lamp must hang -/
def clr (T : Nat → Int32) (st s t : Int) : Int := ((T t.toNat).toInt * st + dI t s - 1) / dI t s
def mxI (a b : Int) : Int := if a < b then b else a
def lmR (T : Nat → Int32) (st s hi : Int) : Nat → Int → Int → Int
  | 0, _, a => a
  | n + 1, t, a => if t < hi then lmR T st s hi n (t + 1) (mxI a (clr T st s t)) else a
def lmF (T : Nat → Int32) (o s : Int) : Int := lmR T (dI o s) s (hiI o s) (17 - (loI o s + 1)).toNat (loI o s + 1) 1
def lhF (T : Nat → Int32) (p5 p6 : Int32) (o s : Int) : Int := if unl p5 p6 o s = 0 then -1 else (if 99 < lmF T o s then -1 else lmF T o s)
def hgR (T : Nat → Int32) (p5 p6 : Int32) (o s : Int) : Nat → Int → Int
  | 0, _ => -1
  | n + 1, h => if 0 < lgF T (Int32.ofInt h) p5 p6 o s then h else hgR T p5 p6 o s n (h + 1)
def BT (T : Nat → Int32) (n : Int) : Prop := ∀ j : Nat, (j : Int) < n → 0 ≤ (T j).toInt ∧ (T j).toInt ≤ 30
theorem lmR_s {T : Nat → Int32} {st s hi t a : Int} {n : Nat} (ht : t < hi) : lmR T st s hi (n + 1) t a = lmR T st s hi n (t + 1) (mxI a (clr T st s t)) := by
  show (if t < hi then lmR T st s hi n (t + 1) (mxI a (clr T st s t)) else a) = _
  rw [if_pos ht]
theorem lmR_e {T : Nat → Int32} {st s hi t a : Int} (n : Nat) (ht : hi ≤ t) : lmR T st s hi n t a = a := by
  cases n with
  | zero => rfl
  | succ n => show (if t < hi then lmR T st s hi n (t + 1) (mxI a (clr T st s t)) else a) = a; rw [if_neg (by omega)]
theorem mxI_l (a b : Int) : a ≤ mxI a b := by unfold mxI; split <;> omega
theorem mxI_r (a b : Int) : b ≤ mxI a b := by unfold mxI; split <;> omega
theorem mxI_le {a b h : Int} (h1 : a ≤ h) (h2 : b ≤ h) : mxI a b ≤ h := by unfold mxI; split <;> omega
theorem lmR_ge (T : Nat → Int32) (st s hi : Int) : ∀ (n : Nat) (t a : Int), a ≤ lmR T st s hi n t a := by
  intro n
  induction n with
  | zero => intro t a; exact Int.le_refl a
  | succ n ih =>
    intro t a
    by_cases c : t < hi
    · rw [lmR_s c]; exact Int.le_trans (mxI_l a _) (ih _ _)
    · rw [lmR_e _ (by omega)]; exact Int.le_refl a
theorem of_small {a : Int} (h0 : -2147483648 ≤ a) (h1 : a < 2147483648) : (Int32.ofInt a).toInt = a := Int32.toInt_ofInt_of_le h0 h1
theorem mul_small {x y : Int32} {a b : Int} (ex : x.toInt = a) (ey : y.toInt = b) (h : -2147483648 ≤ a * b ∧ a * b < 2147483648) : (x * y).toInt = a * b := toInt_mulI rfl ex ey h
theorem mulB {a b A B : Int} (h : 0 ≤ a ∧ a ≤ A) (g : 0 ≤ b ∧ b ≤ B) : 0 ≤ a * b ∧ a * b ≤ A * B := ⟨Int.mul_nonneg h.1 g.1, Int.mul_le_mul h.2 g.2 g.1 (Int.le_trans h.1 h.2)⟩
theorem ceil_iff {x g h : Int} (hg : 0 < g) : (x + g - 1) / g ≤ h ↔ x ≤ h * g := by
  rw [← Int.lt_add_one_iff, Int.ediv_lt_iff_lt_mul hg, Int.add_mul]
  omega
theorem shlm {T : Nat → Int32} {s hi n0 h st : Int} (hb : BT T n0) (hh : 1 ≤ h ∧ h ≤ 99) (hs : 0 ≤ s ∧ s ≤ 15) (hst : 0 ≤ st ∧ st ≤ 15) (hhi : hi ≤ n0 ∧ hi ≤ 16) :
    ∀ (n : Nat) (t a : Int), 0 ≤ t → (∀ u : Int, t ≤ u → u < hi → ¬ u = s) → a ≤ h → (hi - t ≤ (n : Int)) → (shR T (Int32.ofInt h) (Int32.ofInt st) s hi n t = 0 ↔ lmR T st s hi n t a ≤ h) := by
  intro n
  induction n with
  | zero => intro t a h0 hn ha hf; exact ⟨fun _ => ha, fun _ => rfl⟩
  | succ n ih =>
    intro t a h0 hn ha hf
    by_cases c : t < hi
    · have hd : 0 < dI t s ∧ dI t s ≤ 16 := by have := hn t (by omega) c; unfold dI; split <;> omega
      have hT := hb t.toNat (by omega)
      have m1 := mulB (a := h) (b := dI t s) (A := 99) (B := 16) (by omega) (by omega)
      have m2 := mulB (a := (T t.toNat).toInt) (b := st) (A := 30) (B := 15) hT hst
      have e1 : (Int32.ofInt h * Int32.ofInt (dI t s)).toInt = h * dI t s := mul_small (of_small (by omega) (by omega)) (of_small (by omega) (by omega)) (by omega)
      have e2 : (T t.toNat * Int32.ofInt st).toInt = (T t.toNat).toInt * st := mul_small rfl (of_small (by omega) (by omega)) (by omega)
      have k : clr T st s t ≤ h ↔ (T t.toNat).toInt * st ≤ h * dI t s := ceil_iff hd.1
      rw [lmR_s c, shR_s c rfl rfl rfl, e1, e2]
      by_cases c2 : h * dI t s < (T t.toNat).toInt * st
      · rw [if_pos c2]
        refine ⟨fun q => absurd q (by decide), fun q => ?_⟩
        have q2 := lmR_ge T st s hi n (t + 1) (mxI a (clr T st s t))
        have q3 := mxI_r a (clr T st s t)
        have q4 := k.mp (by omega)
        omega
      · rw [if_neg c2]
        exact ih (t + 1) _ (by omega) (fun u hu => hn u (by omega)) (mxI_le ha (k.mpr (by omega))) (by omega)
    · rw [lmR_e _ (by omega), shR_e _ (by omega)]
      exact ⟨fun _ => ha, fun _ => rfl⟩
theorem sh_iff {T : Nat → Int32} {o s n0 h : Int} (hb : BT T n0) (hn : n0 ≤ 16) (hh : 1 ≤ h ∧ h ≤ 99) (ho : 0 ≤ o ∧ o < n0) (hs : 0 ≤ s ∧ s < n0) : shF T (Int32.ofInt h) o s = 0 ↔ lmF T o s ≤ h := by
  unfold shF lmF
  refine shlm hb hh (by omega) ?_ ?_ _ _ _ ?_ ?_ hh.1 ?_
  · unfold dI; split <;> omega
  · unfold hiI; split <;> omega
  · unfold loI; split <;> omega
  · unfold loI hiI; intro u hu hv; split at hv <;> split at hu <;> omega
  · unfold loI hiI; split <;> omega
theorem hgR_eq {T : Nat → Int32} {p5 p6 : Int32} {o s n0 : Int} (hb : BT T n0) (hn : n0 ≤ 16) (ho : 0 ≤ o ∧ o < n0) (hs : 0 ≤ s ∧ s < n0) (hu : ¬ unl p5 p6 o s = 0) : ∀ (n : Nat) (h : Int), 1 ≤ h → h + n = 100 → h ≤ mxI h (lmF T o s) → lmF T o s ≥ h ∨ lmF T o s = h → hgR T p5 p6 o s n h = if 99 < lmF T o s then -1 else lmF T o s := by
  have hnn := unl_nn p5 p6 o s
  intro n
  induction n with
  | zero => intro h h1 h2 _ h4; rw [if_pos (by omega)]; rfl
  | succ n ih =>
    intro h h1 h2 _ h4
    have k := sh_iff (h := h) hb hn (by omega) ho hs
    show (if 0 < lgF T (Int32.ofInt h) p5 p6 o s then h else hgR T p5 p6 o s n (h + 1)) = _
    by_cases c : lmF T o s ≤ h
    · have e : lgF T (Int32.ofInt h) p5 p6 o s = unl p5 p6 o s := by unfold lgF; rw [if_pos (k.mpr c)]
      rw [e, if_pos (by omega), if_neg (by omega)]; omega
    · have e : lgF T (Int32.ofInt h) p5 p6 o s = 0 := by unfold lgF; rw [if_neg (fun q => c (k.mp q))]
      rw [e, if_neg (by omega)]
      exact ih (h + 1) (by omega) (by omega) (mxI_l _ _) (by omega)
theorem hg_no {T : Nat → Int32} {p5 p6 : Int32} {o s : Int} (hu : unl p5 p6 o s = 0) : ∀ (n : Nat) (h : Int), hgR T p5 p6 o s n h = -1 := by
  intro n
  induction n with
  | zero => intro h; rfl
  | succ n ih =>
    intro h
    show (if 0 < lgF T (Int32.ofInt h) p5 p6 o s then h else hgR T p5 p6 o s n (h + 1)) = _
    have e : lgF T (Int32.ofInt h) p5 p6 o s = 0 := by unfold lgF; split <;> omega
    rw [e, if_neg (by omega)]
    exact ih (h + 1)
theorem hg_eq {T : Nat → Int32} {p5 p6 : Int32} {o s n0 : Int} (hb : BT T n0) (hn : n0 ≤ 16) (ho : 0 ≤ o ∧ o < n0) (hs : 0 ≤ s ∧ s < n0) : lhF T p5 p6 o s = hgR T p5 p6 o s 99 1 := by
  unfold lhF
  by_cases hu : unl p5 p6 o s = 0
  · rw [if_pos hu, hg_no hu]
  · rw [if_neg hu]
    have h1 : 1 ≤ lmF T o s := lmR_ge _ _ _ _ _ _ _
    exact (hgR_eq hb hn ho hs hu 99 1 (by omega) (by omega) (mxI_l _ _) (by omega)).symm
theorem divP {x y z : Int32} {a b : Int} (e : z = x / y) (ex : x.toInt = a) (ey : y.toInt = b) (h0 : 0 ≤ a ∧ a < 2147483648) (hb : 0 < b) : z.toInt = a / b := by
  have h1 : 0 ≤ a / b := Int.ediv_nonneg h0.1 (by omega)
  have h2 : a / b ≤ a := Int.ediv_le_self b h0.1
  rw [e, Int32.toInt_div, ex, ey, Int.tdiv_eq_ediv_of_nonneg h0.1]
  exact toInt_bm _ (by omega) (by omega)
theorem hgR_s {T : Nat → Int32} {p5 p6 h : Int32} {o s : Int} {n : Nat} : hgR T p5 p6 o s (n + 1) h.toInt = if 0 < lgF T h p5 p6 o s then h.toInt else hgR T p5 p6 o s n (h.toInt + 1) := by
  show (if 0 < lgF T (Int32.ofInt h.toInt) p5 p6 o s then h.toInt else hgR T p5 p6 o s n (h.toInt + 1)) = _
  rw [Int32.ofInt_toInt]
theorem hgR_ex {T T' : Nat → Int32} {p5 p6 : Int32} {o s n0 : Int} (ho : 0 ≤ o ∧ o < n0) (hs : 0 ≤ s ∧ s < n0) (e : ∀ j : Nat, (j : Int) < n0 → T j = T' j) : ∀ (n : Nat) (h : Int), hgR T p5 p6 o s n h = hgR T' p5 p6 o s n h := by
  intro n
  induction n with
  | zero => intro h; rfl
  | succ n ih =>
    intro h
    show (if 0 < lgF T (Int32.ofInt h) p5 p6 o s then h else hgR T p5 p6 o s n (h + 1)) = (if 0 < lgF T' (Int32.ofInt h) p5 p6 o s then h else hgR T' p5 p6 o s n (h + 1))
    rw [lgF_ex ho hs e, ih (h + 1)]
