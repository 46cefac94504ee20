def Imp (a b : Prop) : Prop := a → b
/-- what stands at a place of a told plain (96 numbers): strips, minute, at, oil, farms have bounds -/
def OKP (k v : Int) : Prop := (k % 96 = 0 → 0 ≤ v ∧ v ≤ 16) ∧ (k % 96 = 1 → 0 ≤ v ∧ v ≤ 9999) ∧ (k % 96 = 2 → 0 ≤ v ∧ v ≤ 15) ∧ (k % 96 = 6 → 0 ≤ v ∧ v ≤ 999) ∧ (64 ≤ k % 96 → k % 96 ≤ 79 → 0 ≤ v ∧ v ≤ 5)
def PI (n : Nat) (f : Nat → Int32) : Prop := ∀ k : Nat, k < n → OKP (k : Int) (f k).toInt
theorem pi_rd {n : Nat} {f : Nat → Int32} {i z : Int32} {a : Int} (h : PI n f) (e : z = f i.toNatClampNeg) (ei : i.toInt = a) (h0 : 0 ≤ a ∧ a < (n : Int)) : OKP a z.toInt := by
  have h2 : ((i.toNatClampNeg : Nat) : Int) = a := by show ((i.toInt.toNat : Nat) : Int) = a; omega
  have h1 := h i.toNatClampNeg (by omega)
  rw [← e, h2] at h1
  exact h1
theorem pi_upd {n : Nat} {f : Nat → Int32} {k v : Int32} {a b : Int} (h : PI n f) (ek : k.toInt = a) (ev : v.toInt = b) (h0 : 0 ≤ a) (ho : OKP a b) : PI n (upd f k.toNatClampNeg v) := by
  intro j hj
  unfold upd
  split
  · next e => rw [e, ev, show ((k.toNatClampNeg : Nat) : Int) = a from by show ((k.toInt.toNat : Nat) : Int) = a; omega]; exact ho
  · exact h j hj
theorem pi_updN {n k : Nat} {f : Nat → Int32} {v : Int32} (h : PI n f) (ho : OKP (k : Int) v.toInt) : PI n (upd f k v) := by
  intro j hj
  unfold upd
  split
  · next e => rw [e]; exact ho
  · exact h j hj
theorem okp_0 (k : Int) : OKP k (0 : Int32).toInt := by unfold OKP; rw [show (0 : Int32).toInt = 0 from by decide]; omega
theorem pi_0 (n : Nat) : PI n (fun _ => 0) := fun k _ => okp_0 _
theorem pi_fill {n : Nat} {f : Nat → Int32} : PI n (fillF f n 0) := fun k hk => by unfold fillF; rw [if_pos hk]; exact okp_0 _
theorem pi_fillF {n m : Nat} {f : Nat → Int32} (h : PI n f) : PI n (fillF f m 0) := fun k hk => by
  unfold fillF
  split
  · exact okp_0 _
  · exact h k hk
theorem pi_lamp {n : Nat} {f : Nat → Int32} (h : PI n f) : PI n (upd (upd (upd (upd f 2 0) 3 6) 4 6) 5 1) := pi_updN (pi_updN (pi_updN (pi_updN h (by unfold OKP; decide)) (by unfold OKP; decide)) (by unfold OKP; decide)) (by unfold OKP; decide)
theorem rd0 {n : Nat} {f : Nat → Int32} {k : Int32} (h : PI n f) (hn : 0 < n) (e : k.toNatClampNeg = 0) : 0 ≤ (f k.toNatClampNeg).toInt ∧ (f k.toNatClampNeg).toInt ≤ 16 := by have h1 := h 0 hn; unfold OKP at h1; rw [e]; omega
theorem rd1 {n : Nat} {f : Nat → Int32} {k : Int32} (h : PI n f) (hn : 1 < n) (e : k.toNatClampNeg = 1) : 0 ≤ (f k.toNatClampNeg).toInt ∧ (f k.toNatClampNeg).toInt ≤ 9999 := by have h1 := h 1 hn; unfold OKP at h1; rw [e]; omega
theorem rd2 {n : Nat} {f : Nat → Int32} {k : Int32} (h : PI n f) (hn : 2 < n) (e : k.toNatClampNeg = 2) : 0 ≤ (f k.toNatClampNeg).toInt ∧ (f k.toNatClampNeg).toInt ≤ 15 := by have h1 := h 2 hn; unfold OKP at h1; rw [e]; omega
theorem rd6 {n : Nat} {f : Nat → Int32} {k : Int32} (h : PI n f) (hn : 6 < n) (e : k.toNatClampNeg = 6) : 0 ≤ (f k.toNatClampNeg).toInt ∧ (f k.toNatClampNeg).toInt ≤ 999 := by have h1 := h 6 hn; unfold OKP at h1; rw [e]; omega
theorem rdF {n : Nat} {f : Nat → Int32} {k : Int32} {a : Int} (h : PI n f) (hn : 80 ≤ n) (e : k.toInt = a) (h0 : 64 ≤ a ∧ a ≤ 79) : 0 ≤ (f k.toNatClampNeg).toInt ∧ (f k.toNatClampNeg).toInt ≤ 5 := by
  have h1 := pi_rd h rfl e (by omega)
  unfold OKP at h1
  omega
/-- a told plain while it is read: strips are never above 16; the rest holds while nothing is wrong -/
def PW (w : Int) (f : Nat → Int32) : Prop := (0 ≤ (f 0).toInt ∧ (f 0).toInt ≤ 16) ∧ (w = 0 → PI 96 f)
theorem pw_of {f : Nat → Int32} (w : Int) (h : PI 96 f) : PW w f := ⟨by have h1 := h 0 (by decide); unfold OKP at h1; omega, fun _ => h⟩
theorem pw_upd {f : Nat → Int32} {k v : Int32} {w w' a b : Int} (h : PW w f) (hm : w' = 0 → w = 0) (ek : k.toInt = a) (ev : v.toInt = b) (h0 : 0 ≤ a) (hz : a = 0 → 0 ≤ b ∧ b ≤ 16) (ho : w' = 0 → OKP a b) : PW w' (upd f k.toNatClampNeg v) := by
  refine ⟨?_, fun hw => pi_upd (h.2 (hm hw)) ek ev h0 (ho hw)⟩
  unfold upd
  split
  · next e => rw [ev]; exact hz (by have h2 : (0 : Nat) = k.toInt.toNat := e; omega)
  · exact h.1
theorem pw_lamp {f : Nat → Int32} {w : Int} (h : PW w f) : PW w (upd (upd (upd (upd f 2 0) 3 6) 4 6) 5 1) := ⟨h.1, fun hw => pi_lamp (h.2 hw)⟩
theorem pw_mono {f : Nat → Int32} {w w' : Int} (h : PW w f) (hm : w' = 0 → w = 0) : PW w' f := ⟨h.1, fun hw => h.2 (hm hw)⟩
theorem pw_0 {f : Nat → Int32} {k : Int32} {w : Int} (h : PW w f) (e : k.toNatClampNeg = 0) : 0 ≤ (f k.toNatClampNeg).toInt ∧ (f k.toNatClampNeg).toInt ≤ 16 := by rw [e]; exact h.1
theorem upd_ne {f : Nat → Int32} {k v : Int32} {a : Int} {j : Nat} (ek : k.toInt = a) (h : ¬ a = (j : Int)) (h0 : 0 ≤ a) : (upd f k.toNatClampNeg v) j = f j := if_neg (fun e => h (by have h2 : j = k.toInt.toNat := e; omega))
theorem upd_eqI {f : Nat → Int32} {k v : Int32} {a : Int} {j : Nat} (ek : k.toInt = a) (h : a = (j : Int)) : (upd f k.toNatClampNeg v) j = v := if_pos (by show j = k.toInt.toNat; omega)
theorem l2iS {w : Int64} {z : Int32} {a : Int} (e : z = w.toInt32) (ew : w.toInt = a) (h : 0 ≤ a ∧ a ≤ 2) : z.toInt = a := by
  rw [e, Int64.toInt_toInt32, ew]
  rcases (show a = 0 ∨ a = 1 ∨ a = 2 from by omega) with h | h | h <;> rw [h] <;> decide
theorem bitAt {x : Int32} (hx : ¬ x.toInt = 0) : ∃ n : Nat, n < 32 ∧ ∀ y z q : Int32, (y.toInt = (n : Int) ∨ y.toInt = (n : Int) - 32) → z = x >>> (y &&& 31) → q = z &&& 1 → ¬ q.toInt = 0 := by
  have h1 : x.toBitVec ≠ 0 := fun h => hx (by
    have : x.toInt = x.toBitVec.toInt := rfl
    rw [this, h]; rfl)
  have h2 : ∃ n, n < 32 ∧ x.toBitVec.getLsbD n = true := by
    refine Classical.byContradiction fun hc => h1 ?_
    apply BitVec.eq_of_getLsbD_eq
    intro i hi
    have h3 : ¬ x.toBitVec.getLsbD i = true := fun h => hc ⟨i, hi, h⟩
    simpa using h3
  obtain ⟨n, hn, hb⟩ := h2
  refine ⟨n, hn, fun y z q hy ez eq h0 => ?_⟩
  have key : ∀ k : Fin 32, ∀ y : Int32, y.toInt = (k.val : Int) ∨ y.toInt = (k.val : Int) - 32 → (y &&& 31) = Int32.ofNat k.val := by
    intro k y h
    have h5 : y = Int32.ofNat k.val ∨ y = Int32.ofInt ((k.val : Int) - 32) := by
      rcases h with h | h
      · exact Or.inl (Int32.toInt_inj.mp (by rw [h, Int32.toInt_ofNat_of_lt (by omega)]))
      · exact Or.inr (Int32.toInt_inj.mp (by rw [h, Int32.toInt_ofInt_of_le (by omega) (by omega)]))
    have h6 : ∀ k : Fin 32, (Int32.ofNat k.val &&& 31) = Int32.ofNat k.val ∧ (Int32.ofInt ((k.val : Int) - 32) &&& 31) = Int32.ofNat k.val := by decide +kernel
    rcases h5 with h5 | h5 <;> rw [h5]
    · exact (h6 k).1
    · exact (h6 k).2
  have e1 := key ⟨n, hn⟩ y hy
  have hq : q = 0 := Int32.toInt_inj.mp h0
  rw [hq, ez, e1] at eq
  have h7 : (x >>> Int32.ofNat n &&& 1).toBitVec.getLsbD 0 = false := by rw [← eq]; rfl
  have h8 : ∀ k : Fin 32, ∀ b : BitVec 32, b.getLsbD k.val = true → (((⟨⟨b⟩⟩ : Int32) >>> Int32.ofNat k.val) &&& 1).toBitVec.getLsbD 0 = true := by
    intro k b hb
    rw [Int32.toBitVec_and, BitVec.getLsbD_and]
    rw [show (1 : Int32).toBitVec.getLsbD 0 = true from rfl, Bool.and_true]
    show ((b.sshiftRight' ((Int32.ofNat k.val).toBitVec.smod 32))).getLsbD 0 = true
    have h9 : ∀ k : Fin 32, ((Int32.ofNat k.val).toBitVec.smod 32).toNat = k.val := by decide +kernel
    rw [BitVec.sshiftRight', h9 k, BitVec.getLsbD_sshiftRight]
    simp [hb, k.isLt]
  have h9 := h8 ⟨n, hn⟩ x.toBitVec hb
  exact absurd (h7.symm.trans h9) (by decide)
def seeF (f : Nat → Int32) (n i : Int32) : Int32 := if i.toInt < n.toInt then f i.toNatClampNeg else -1
theorem zn {r : Int32} (h : r = 0 ∨ r = 1) : narrow FieldType.boolean (Value.int r) = Value.int r := by rcases h with h | h <;> rw [h] <;> rfl
