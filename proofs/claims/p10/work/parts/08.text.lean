/-- a byte as both readers see it: what is no ASCII is one thing -/
def cB (v : Int) : Int := if 0 ≤ v ∧ v < 128 then v else 200
theorem cB_is {v d : Int} (h : cB v = d) (hd : d < 128) : v = d := by
  unfold cB at h
  split at h <;> omega
theorem cB_in {v : Int} (h : 0 ≤ v ∧ v < 128) : cB v = v := if_pos h
/-- the kind of a byte: 1 blank, 2 letter, 3 digit, 4 semicolon, 5 another -/
def clsB (v : Int) : Int := if 97 ≤ v ∧ v ≤ 122 then 2 else if 48 ≤ v ∧ v ≤ 57 then 3 else if v = 10 ∨ v = 32 then 1 else if v = 59 then 4 else 5
theorem clsB_cB (v : Int) : clsB (cB v) = clsB v := by
  unfold cB
  split
  · rfl
  · unfold clsB
    rw [if_neg (by omega), if_neg (by omega), if_neg (by omega), if_neg (by omega), if_neg (by omega), if_neg (by omega), if_neg (by omega), if_neg (by omega)]
theorem clsB_3 {v : Int} (h : clsB v = 3) : 48 ≤ v ∧ v ≤ 57 := by
  unfold clsB at h
  repeat (first | (split at h) | omega)
theorem clsB_in (v : Int) : 1 ≤ clsB v ∧ clsB v ≤ 5 := by unfold clsB; repeat (first | (split) | omega)
def kdB (tx : Nat → Int) (n i : Int) : Int := if 0 ≤ i ∧ i < n then clsB (tx i.toNat) else 0
/-- the place behind all bytes of a kind from i on -/
def runB (tx : Nat → Int) (n k : Int) : Nat → Int → Int
  | 0, i => i
  | f + 1, i => if kdB tx n i = k then runB tx n k f (i + 1) else i
theorem runB_is {tx : Nat → Int} {n k : Int} : ∀ (f : Nat) (i e : Int), i ≤ e → (∀ j, i ≤ j → j < e → kdB tx n j = k) → ¬ kdB tx n e = k → e - i < (f : Int) → runB tx n k f i = e
  | 0, i, e, h1, _, _, h4 => absurd h4 (by omega)
  | f + 1, i, e, h1, h2, h3, h4 => by
    unfold runB
    rcases (show i = e ∨ i < e from by omega) with h | h
    · subst h; rw [if_neg h3]
    · rw [if_pos (h2 i (by omega) h)]
      exact runB_is f (i + 1) e (by omega) (fun j a b => h2 j (by omega) b) h3 (by omega)
theorem runB_end {tx : Nat → Int} {n k i e : Int} (hk : 1 ≤ k) (h0 : 0 ≤ i) (h1 : i ≤ e) (h2 : ∀ j, i ≤ j → j < e → kdB tx n j = k) (hn : i ≤ n) : e ≤ n := by
  rcases (show e ≤ n ∨ n < e from by omega) with h | h
  · exact h
  · have h3 := h2 n (by omega) h
    unfold kdB at h3
    rw [if_neg (by omega)] at h3
    omega
/-- the value of the first k digits from st on -/
def valB (tx : Nat → Int) (st : Int) : Nat → Int
  | 0 => 0
  | k + 1 => 10 * valB tx st k + tx (st + (k : Int)).toNat - 48
def chK (i j : Nat) : Int := ((strB.getD i []).getD j 0).toInt
def mtK (tx : Nat → Int) (st en : Int) (i : Nat) : Bool := decide (en - st = ((strL.getD i 0 : Nat) : Int)) && (List.range (strL.getD i 0)).all (fun j => decide (tx (st + (j : Int)).toNat = chK i j))
theorem mtK_iff {tx : Nat → Int} {st en : Int} {i : Nat} : mtK tx st en i = true ↔ en - st = ((strL.getD i 0 : Nat) : Int) ∧ ∀ j, j < strL.getD i 0 → tx (st + (j : Int)).toNat = chK i j := by
  unfold mtK
  rw [Bool.and_eq_true, decide_eq_true_eq, List.all_eq_true]
  constructor
  · intro h; exact ⟨h.1, fun j hj => of_decide_eq_true (h.2 j (List.mem_range.mpr hj))⟩
  · intro h; exact ⟨h.1, fun j hj => decide_eq_true (h.2 j (List.mem_range.mp hj))⟩
theorem strs_apart : ∀ i, i < 13 → ∀ j, j < 13 → strL.getD i 0 = strL.getD j 0 → (∀ k, k < strL.getD i 0 → chK i k = chK j k) → i = j := by decide +kernel
theorem mtK_uniq {tx : Nat → Int} {st en : Int} {i j : Nat} (hi : i < 13) (hj : j < 13) (h1 : mtK tx st en i = true) (h2 : mtK tx st en j = true) : i = j := by
  rw [mtK_iff] at h1 h2
  have e : strL.getD i 0 = strL.getD j 0 := by omega
  exact strs_apart i hi j hj e (fun k hk => by rw [← h1.2 k hk, ← h2.2 k (by omega)])
/-- which of the thirteen words stands there; 13: none -/
def keyF (tx : Nat → Int) (st en : Int) : Int := (((List.range 13).find? (mtK tx st en)).getD 13 : Nat)
theorem keyF_is {tx : Nat → Int} {st en : Int} {i : Nat} (hi : i < 13) (h : mtK tx st en i = true) : keyF tx st en = (i : Int) := by
  unfold keyF
  cases h1 : (List.range 13).find? (mtK tx st en) with
  | none => exact absurd h (by rw [List.find?_eq_none] at h1; exact h1 i (List.mem_range.mpr hi))
  | some j =>
    have h2 := List.find?_some h1
    have h3 := List.mem_range.mp (List.mem_of_find?_eq_some h1)
    have e := mtK_uniq hi h3 h h2
    subst e
    rfl
theorem keyF_no {tx : Nat → Int} {st en : Int} (h : ∀ i, i < 13 → ¬ mtK tx st en i = true) : keyF tx st en = 13 := by
  unfold keyF
  rw [List.find?_eq_none.mpr (fun i hi => h i (List.mem_range.mp hi))] <;> rfl
theorem keyF_mt {tx : Nat → Int} {st en : Int} {i : Nat} (hi : i < 13) (h : keyF tx st en = (i : Int)) : mtK tx st en i = true := by
  unfold keyF at h
  cases h1 : (List.range 13).find? (mtK tx st en) with
  | none => rw [h1] at h; have : ((13 : Nat) : Int) = (i : Int) := h; omega
  | some j =>
    rw [h1] at h
    have h2 : ((j : Nat) : Int) = (i : Int) := h
    have e : j = i := by omega
    rw [← e]
    exact List.find?_some h1
theorem keyF_in (tx : Nat → Int) (st en : Int) : 0 ≤ keyF tx st en ∧ keyF tx st en ≤ 13 := by
  unfold keyF
  cases h1 : (List.range 13).find? (mtK tx st en) with
  | none => exact ⟨by decide, by decide⟩
  | some j =>
    have h3 := List.mem_range.mp (List.mem_of_find?_eq_some h1)
    refine ⟨Int.natCast_nonneg _, ?_⟩
    show ((j : Nat) : Int) ≤ 13
    omega
/-- a reader's state: 0 where its token begins, 1 the place behind it, 2 its kind, 3 its number, 4 what is wrong, 5 where -/
def stB (tx : Nat → Int) (n : Int) (b : Int) : Int := runB tx n 1 1000 b
def nxtF (tx : Nat → Int) (n : Int) (sg : Nat → Int) : Nat → Int
  | 0 => stB tx n (sg 1)
  | 1 => if kdB tx n (stB tx n (sg 1)) = 2 then runB tx n 2 1000 (stB tx n (sg 1)) else if kdB tx n (stB tx n (sg 1)) = 3 then runB tx n 3 1000 (stB tx n (sg 1)) else if kdB tx n (stB tx n (sg 1)) = 0 then stB tx n (sg 1) else stB tx n (sg 1) + 1
  | 2 => if kdB tx n (stB tx n (sg 1)) = 2 then keyF tx (stB tx n (sg 1)) (runB tx n 2 1000 (stB tx n (sg 1))) else if kdB tx n (stB tx n (sg 1)) = 3 then (if runB tx n 3 1000 (stB tx n (sg 1)) - stB tx n (sg 1) ≤ 3 then 14 else 17) else if kdB tx n (stB tx n (sg 1)) = 4 then 15 else if kdB tx n (stB tx n (sg 1)) = 0 then 16 else 17
  | 3 => if kdB tx n (stB tx n (sg 1)) = 3 then valB tx (stB tx n (sg 1)) (min (runB tx n 3 1000 (stB tx n (sg 1)) - stB tx n (sg 1)) 3).toNat else 0
  | k + 4 => sg (k + 4)
theorem nxt_4 (tx : Nat → Int) (n : Int) (sg : Nat → Int) : nxtF tx n sg 4 = sg 4 := rfl
theorem nxt_5 (tx : Nat → Int) (n : Int) (sg : Nat → Int) : nxtF tx n sg 5 = sg 5 := rfl
def failsF (k : Int) (sg : Nat → Int) : Nat → Int := if sg 4 = 0 then (fun j => if j = 4 then (if sg 2 = 17 then 1 else k) else if j = 5 then sg 0 else sg j) else sg
def takesF (tx : Nat → Int) (n lo hi : Int) (sg : Nat → Int) : Nat → Int := if sg 4 = 0 ∧ sg 2 = 14 then (if lo ≤ sg 3 ∧ sg 3 ≤ hi then nxtF tx n sg else failsF 3 sg) else failsF 2 sg
def eatsF (tx : Nat → Int) (n k : Int) (sg : Nat → Int) : Nat → Int := if sg 4 = 0 ∧ sg 2 = k then nxtF tx n sg else sg
def tifF (tx : Nat → Int) (n k lo hi : Int) (sg : Nat → Int) : Nat → Int := if sg 4 = 0 ∧ sg 2 = k then takesF tx n lo hi (eatsF tx n k sg) else eatsF tx n k sg
def tifR (tx : Nat → Int) (n k wo : Int) (sg : Nat → Int) : Int := if sg 4 = 0 ∧ sg 2 = k then (eatsF tx n k sg) 3 else wo
/-- a plain as 96 numbers: 0 strips, 1 minute, 2 at, 3 height, 4 power, 5 fade, 6 oil, 7 moths, 8 cross, 9 lines, 10.. bids, 16.. crops, 32.. reapers, 48.. trees, 64.. farms, 80.. reaped -/
def pu (f : Nat → Int) (k : Nat) (v : Int) : Nat → Int := fun j => if j = k then v else f j
def s1F (tx : Nat → Int) (n : Int) (sg : Nat → Int) := takesF tx n 0 99 (nxtF tx n sg)
def s2F (tx : Nat → Int) (n : Int) (sg : Nat → Int) := tifF tx n 1 0 9 (s1F tx n sg)
def s3F (tx : Nat → Int) (n : Int) (sg : Nat → Int) := tifF tx n 2 0 30 (s2F tx n sg)
def s4F (tx : Nat → Int) (n : Int) (sg : Nat → Int) := tifF tx n 3 0 5 (s3F tx n sg)
def stripF (tx : Nat → Int) (n N : Int) (sg : Nat → Int) : Nat → Int := if N = 16 then failsF 4 sg else s4F tx n sg
def stripP (tx : Nat → Int) (n : Int) (sg pl : Nat → Int) : Nat → Int := pu (pu (pu (pu (pu (pu pl (16 + (pl 0).toNat) ((nxtF tx n sg) 3)) (32 + (pl 0).toNat) (tifR tx n 1 2 (s1F tx n sg))) (48 + (pl 0).toNat) (tifR tx n 2 0 (s2F tx n sg))) (64 + (pl 0).toNat) (tifR tx n 3 0 (s3F tx n sg))) (80 + (pl 0).toNat) 0) 0 (pl 0 + 1)
def l1F (tx : Nat → Int) (n N : Int) (sg : Nat → Int) := tifF tx n 5 0 (N - 1) sg
def l2F (tx : Nat → Int) (n N : Int) (sg : Nat → Int) := tifF tx n 6 1 30 (l1F tx n N sg)
def l3F (tx : Nat → Int) (n N : Int) (sg : Nat → Int) := tifF tx n 7 0 20 (l2F tx n N sg)
def lampF (tx : Nat → Int) (n N : Int) (sg : Nat → Int) : Nat → Int := tifF tx n 8 0 9 (l3F tx n N sg)
def lampP (tx : Nat → Int) (n : Int) (sg pl : Nat → Int) : Nat → Int := pu (pu (pu (pu pl 2 (tifR tx n 5 0 sg)) 3 (tifR tx n 6 6 (l1F tx n (pl 0) sg))) 4 (tifR tx n 7 6 (l2F tx n (pl 0) sg))) 5 (tifR tx n 8 1 (l3F tx n (pl 0) sg))
def b1F (tx : Nat → Int) (n : Int) (sg : Nat → Int) := takesF tx n 0 5 sg
def bidF (tx : Nat → Int) (n : Int) (sg : Nat → Int) : Nat → Int := takesF tx n 0 99 (b1F tx n sg)
def bidP (tx : Nat → Int) (n : Int) (sg pl : Nat → Int) : Nat → Int := pu pl (10 + (sg 3).toNat) ((b1F tx n sg) 3)
/-- a line's words, ahead of its semicolon -/
def e1F (tx : Nat → Int) (n : Int) (sg : Nat → Int) := eatsF tx n 4 sg
def e2F (tx : Nat → Int) (n : Int) (sg : Nat → Int) := eatsF tx n 9 (e1F tx n sg)
def e3F (tx : Nat → Int) (n : Int) (sg : Nat → Int) := eatsF tx n 10 (e2F tx n sg)
def e4F (tx : Nat → Int) (n : Int) (sg : Nat → Int) := eatsF tx n 11 (e3F tx n sg)
def e5F (tx : Nat → Int) (n : Int) (sg : Nat → Int) := eatsF tx n 12 (e4F tx n sg)
def bodyF (tx : Nat → Int) (n N : Int) (sg : Nat → Int) : Nat → Int :=
  if sg 4 = 0 ∧ sg 2 = 0 then stripF tx n N sg else if sg 4 = 0 ∧ sg 2 = 4 then lampF tx n N (e1F tx n sg) else if e1F tx n sg 4 = 0 ∧ e1F tx n sg 2 = 9 then takesF tx n 0 999 (e2F tx n sg) else if e2F tx n sg 4 = 0 ∧ e2F tx n sg 2 = 10 then bidF tx n (e3F tx n sg) else if e3F tx n sg 4 = 0 ∧ e3F tx n sg 2 = 11 then takesF tx n 0 100 (e4F tx n sg) else if e4F tx n sg 4 = 0 ∧ e4F tx n sg 2 = 12 then takesF tx n 0 (N - 1) (e5F tx n sg) else failsF 2 (e5F tx n sg)
def bodyP (tx : Nat → Int) (n : Int) (sg pl : Nat → Int) : Nat → Int :=
  if sg 4 = 0 ∧ sg 2 = 0 then stripP tx n sg pl else if sg 4 = 0 ∧ sg 2 = 4 then lampP tx n (e1F tx n sg) pl else if e1F tx n sg 4 = 0 ∧ e1F tx n sg 2 = 9 then pu pl 6 ((e2F tx n sg) 3) else if e2F tx n sg 4 = 0 ∧ e2F tx n sg 2 = 10 then bidP tx n (e3F tx n sg) pl else if e3F tx n sg 4 = 0 ∧ e3F tx n sg 2 = 11 then pu pl 7 ((e4F tx n sg) 3) else if e4F tx n sg 4 = 0 ∧ e4F tx n sg 2 = 12 then pu pl 8 ((e5F tx n sg) 3) else pl
def semiF (tx : Nat → Int) (n : Int) (sg : Nat → Int) : Nat → Int := if sg 4 = 0 ∧ sg 2 = 15 then nxtF tx n sg else failsF 2 sg
def lineF (tx : Nat → Int) (n N : Int) (sg : Nat → Int) : Nat → Int := semiF tx n (bodyF tx n N sg)
def lineP (tx : Nat → Int) (n : Int) (sg pl : Nat → Int) : Nat → Int := pu (bodyP tx n sg pl) 9 (bodyP tx n sg pl 9 + 1)
/-- lines, one behind another, till an end or a fault -/
def textF (tx : Nat → Int) (n : Int) : Nat → (Nat → Int) × (Nat → Int) → (Nat → Int) × (Nat → Int)
  | 0, q => q
  | f + 1, q => if q.1 4 = 0 ∧ ¬ q.1 2 = 16 then textF tx n f (lineF tx n (q.2 0) q.1, lineP tx n q.1 q.2) else q
def plain0 : Nat → Int := fun j => if j = 3 then 6 else if j = 4 then 6 else if j = 5 then 1 else if j = 6 then 60 else if 10 ≤ j ∧ j ≤ 15 then 1 else 0
def sg0 : Nat → Int := fun _ => 0
/-- what a text of n bytes tells -/
def tellF (tx : Nat → Int) (n : Int) : (Nat → Int) × (Nat → Int) := textF tx n 900 (nxtF tx n sg0, plain0)
theorem fails_4 (k : Int) (sg : Nat → Int) (hk : ¬ k = 0) : ¬ failsF k sg 4 = 0 := by
  unfold failsF
  split
  · show ¬ (if (4 : Nat) = 4 then (if sg 2 = 17 then 1 else k) else _) = 0
    rw [if_pos rfl]
    split <;> omega
  · assumption
def TXc (tx : Nat → Int) (n : Int) (f : Nat → Int32) : Prop := ∀ j : Nat, (j : Int) < n → cB (f j).toInt = tx j
theorem nxt_0 (tx : Nat → Int) (n : Int) (sg : Nat → Int) : nxtF tx n sg 0 = runB tx n 1 1000 (sg 1) := rfl
theorem nxt_w {tx : Nat → Int} {n : Int} {sg : Nat → Int} {st en : Int} (hs : st = runB tx n 1 1000 (sg 1)) (hk : kdB tx n st = 2) (he : en = runB tx n 2 1000 st) : nxtF tx n sg 0 = st ∧ nxtF tx n sg 1 = en ∧ nxtF tx n sg 2 = keyF tx st en ∧ nxtF tx n sg 4 = sg 4 ∧ nxtF tx n sg 5 = sg 5 := by
  subst hs he
  refine ⟨rfl, ?_, ?_, rfl, rfl⟩
  · exact if_pos hk
  · exact if_pos hk
theorem nxt_d {tx : Nat → Int} {n : Int} {sg : Nat → Int} {st en : Int} (hs : st = runB tx n 1 1000 (sg 1)) (hk : kdB tx n st = 3) (he : en = runB tx n 3 1000 st) : nxtF tx n sg 0 = st ∧ nxtF tx n sg 1 = en ∧ (en - st ≤ 3 → nxtF tx n sg 2 = 14) ∧ (3 < en - st → nxtF tx n sg 2 = 17) ∧ nxtF tx n sg 3 = valB tx st (min (en - st) 3).toNat ∧ nxtF tx n sg 4 = sg 4 ∧ nxtF tx n sg 5 = sg 5 := by
  subst hs he
  have h2 : ¬ kdB tx n (stB tx n (sg 1)) = 2 := fun h => by rw [show stB tx n (sg 1) = runB tx n 1 1000 (sg 1) from rfl, hk] at h; exact absurd h (by decide)
  refine ⟨rfl, (if_neg h2).trans (if_pos hk), fun h => (if_neg h2).trans ((if_pos hk).trans (if_pos h)), fun h => (if_neg h2).trans ((if_pos hk).trans (if_neg (Int.not_le.mpr h))), if_pos hk, rfl, rfl⟩
theorem nxt_o {tx : Nat → Int} {n : Int} {sg : Nat → Int} {st : Int} (hs : st = runB tx n 1 1000 (sg 1)) (h2 : ¬ kdB tx n st = 2) (h3 : ¬ kdB tx n st = 3) : nxtF tx n sg 0 = st ∧ (kdB tx n st = 0 → nxtF tx n sg 1 = st ∧ nxtF tx n sg 2 = 16) ∧ (¬ kdB tx n st = 0 → nxtF tx n sg 1 = st + 1) ∧ (kdB tx n st = 4 → nxtF tx n sg 2 = 15) ∧ (¬ kdB tx n st = 0 → ¬ kdB tx n st = 4 → nxtF tx n sg 2 = 17) ∧ nxtF tx n sg 4 = sg 4 ∧ nxtF tx n sg 5 = sg 5 := by
  subst hs
  refine ⟨rfl, fun h => ⟨(if_neg h2).trans ((if_neg h3).trans (if_pos h)), (if_neg h2).trans ((if_neg h3).trans ((if_neg (fun h4 => by rw [show stB tx n (sg 1) = runB tx n 1 1000 (sg 1) from rfl, h] at h4; exact absurd h4 (by decide))).trans (if_pos h)))⟩, fun h => (if_neg h2).trans ((if_neg h3).trans (if_neg h)), fun h => (if_neg h2).trans ((if_neg h3).trans (if_pos h)), fun h h4 => (if_neg h2).trans ((if_neg h3).trans ((if_neg h4).trans (if_neg h))), rfl, rfl⟩
theorem fails_all (k : Int) (sg : Nat → Int) : failsF k sg 0 = sg 0 ∧ failsF k sg 1 = sg 1 ∧ failsF k sg 2 = sg 2 ∧ failsF k sg 3 = sg 3 ∧ (sg 4 = 0 → sg 2 = 17 → failsF k sg 4 = 1) ∧ (sg 4 = 0 → ¬ sg 2 = 17 → failsF k sg 4 = k) ∧ (sg 4 = 0 → failsF k sg 5 = sg 0) ∧ (¬ sg 4 = 0 → failsF k sg 4 = sg 4 ∧ failsF k sg 5 = sg 5) := by
  unfold failsF
  by_cases h : sg 4 = 0
  · rw [if_pos h]
    exact ⟨rfl, rfl, rfl, rfl, fun _ h2 => if_pos h2, fun _ h2 => if_neg h2, fun _ => rfl, fun h3 => absurd h h3⟩
  · rw [if_neg h]
    exact ⟨rfl, rfl, rfl, rfl, fun h3 => absurd h3 h, fun h3 => absurd h3 h, fun h3 => absurd h3 h, fun _ => ⟨rfl, rfl⟩⟩
theorem ch_all : ∀ i, i < 13 → ∀ v ∈ strB.getD i [], 0 ≤ v.toInt ∧ v.toInt < 128 := by decide
theorem ch_in (i : Nat) (hi : i < 13) (j : Nat) : 0 ≤ chK i j ∧ chK i j < 128 := by
  unfold chK
  rw [List.getD_eq_getElem?_getD]
  cases h : (strB.getD i [])[j]? with
  | none => exact ⟨by decide, by decide⟩
  | some v => exact ch_all i hi v (List.mem_of_getElem? h)
theorem ch_ok : ∀ i, i < 14 → ∀ j, j < strL.getD i 0 → ((((strB.getD i []).getD j 0 &&& 255).toUInt32 % 65536).toInt32).toInt = ((strB.getD i []).getD j 0).toInt := by decide +kernel
theorem clsB_val (v : Int) : (97 ≤ v ∧ v ≤ 122 ∧ clsB v = 2) ∨ (48 ≤ v ∧ v ≤ 57 ∧ clsB v = 3) ∨ ((v = 10 ∨ v = 32) ∧ clsB v = 1) ∨ (v = 59 ∧ clsB v = 4) ∨ (¬ (97 ≤ v ∧ v ≤ 122) ∧ ¬ (48 ≤ v ∧ v ≤ 57) ∧ ¬ v = 10 ∧ ¬ v = 32 ∧ ¬ v = 59 ∧ clsB v = 5) := by
  unfold clsB
  by_cases h1 : 97 ≤ v ∧ v ≤ 122
  · rw [if_pos h1]; omega
  · rw [if_neg h1]
    by_cases h2 : 48 ≤ v ∧ v ≤ 57
    · rw [if_pos h2]; omega
    · rw [if_neg h2]
      by_cases h3 : v = 10 ∨ v = 32
      · rw [if_pos h3]; omega
      · rw [if_neg h3]
        by_cases h4 : v = 59
        · rw [if_pos h4]; omega
        · rw [if_neg h4]; omega
def kposL : List Nat := [1, 7, 15, 20, 25, 30, 33, 40, 46, 51, 55, 59, 65, 71]
def kpos (n : Nat) : Nat := kposL.getD n 0
def keyC (k : Nat) : Int := ((strB.getD 13 []).getD k 0).toInt
theorem keys_ch : ∀ n, n < 13 → ∀ j, j < strL.getD n 0 → keyC (kpos n + j) = chK n j ∧ ¬ chK n j = 32 := by decide +kernel
theorem keys_sp : ∀ n, n < 13 → keyC (kpos n + strL.getD n 0) = 32 ∧ kpos (n + 1) = kpos n + strL.getD n 0 + 1 ∧ 1 ≤ kpos n ∧ kpos n + strL.getD n 0 ≤ 70 ∧ kpos n < 71 ∧ 1 ≤ strL.getD n 0 ∧ strL.getD n 0 ≤ 7 := by decide +kernel
theorem kpos_13 : kpos 13 = 71 ∧ kpos 0 = 1 := by decide
theorem TXc_at {tx : Nat → Int} {n a : Int} {f : Nat → Int32} {i z : Int32} (hT : TXc tx n f) (e : z = f i.toNatClampNeg) (ei : i.toInt = a) (h : 0 ≤ a ∧ a < n) : cB z.toInt = tx a.toNat := by
  have h1 : i.toNatClampNeg = a.toNat := by show i.toInt.toNat = a.toNat; rw [ei]
  rw [e, h1]
  exact hT a.toNat (by omega)
/-- a plain of the class tells what pl tells -/
def PLc (pl : Nat → Int) (p0 p1 p2 p3 p4 p5 p6 p7 p8 p9 : Int32) (f0 f1 f2 f3 f4 f5 : Nat → Int32) : Prop :=
  p0.toInt = pl 0 ∧ p2.toInt = pl 1 ∧ p3.toInt = pl 2 ∧ p4.toInt = pl 3 ∧ p5.toInt = pl 4 ∧ p6.toInt = pl 5 ∧ p7.toInt = pl 6 ∧ p8.toInt = pl 7 ∧ p9.toInt = pl 8 ∧ p1.toInt = pl 9 ∧ (∀ j : Nat, j < 6 → (f5 j).toInt = pl (10 + j)) ∧
  (∀ j : Nat, (j : Int) < p0.toInt → (f0 j).toInt = pl (16 + j) ∧ (f1 j).toInt = pl (32 + j) ∧ (f2 j).toInt = pl (48 + j) ∧ (f3 j).toInt = pl (64 + j) ∧ (f4 j).toInt = pl (80 + j))
theorem pu_ne {f : Nat → Int} {k j : Nat} {v : Int} (h : ¬ j = k) : pu f k v j = f j := if_neg h
theorem pu_eq {f : Nat → Int} {k j : Nat} {v : Int} (h : j = k) : pu f k v j = v := if_pos h
theorem upd_at2 {f : Nat → Int32} {k : Int32} {v : Int32} {j : Nat} (h : (j : Int) = k.toInt) : upd f k.toNatClampNeg v j = v := if_pos (by show j = k.toInt.toNat; omega)
theorem upd_no {f : Nat → Int32} {k : Int32} {v : Int32} {j : Nat} (h : ¬ (j : Int) = k.toInt) (h0 : 0 ≤ k.toInt) : upd f k.toNatClampNeg v j = f j := if_neg (fun e => h (by have h2 : j = k.toInt.toNat := e; omega))
theorem PLc_str {pl : Nat → Int} {p0 p1 p2 p3 p4 p5 p6 p7 p8 p9 q0 x y z w : Int32} {f0 f1 f2 f3 f4 f5 : Nat → Int32} {a b c d : Int} (h : PLc pl p0 p1 p2 p3 p4 p5 p6 p7 p8 p9 f0 f1 f2 f3 f4 f5) (h0 : 0 ≤ p0.toInt ∧ p0.toInt ≤ 15) (e0 : q0.toInt = p0.toInt + 1) (ex : x.toInt = a) (ey : y.toInt = b) (ez : z.toInt = c) (ew : w.toInt = d) :
    PLc (pu (pu (pu (pu (pu (pu pl (16 + (pl 0).toNat) a) (32 + (pl 0).toNat) b) (48 + (pl 0).toNat) c) (64 + (pl 0).toNat) d) (80 + (pl 0).toNat) 0) 0 (pl 0 + 1)) q0 p1 p2 p3 p4 p5 p6 p7 p8 p9 (upd f0 p0.toNatClampNeg x) (upd f1 p0.toNatClampNeg y) (upd f2 p0.toNatClampNeg z) (upd f3 p0.toNatClampNeg w) (upd f4 p0.toNatClampNeg 0) f5 := by
  obtain ⟨g0, g1, g2, g3, g4, g5, g6, g7, g8, g9, gb, gr⟩ := h
  have key : ∀ j : Nat, 1 ≤ j → j < 16 → pu (pu (pu (pu (pu (pu pl (16 + (pl 0).toNat) a) (32 + (pl 0).toNat) b) (48 + (pl 0).toNat) c) (64 + (pl 0).toNat) d) (80 + (pl 0).toNat) 0) 0 (pl 0 + 1) j = pl j := fun j h1 h2 => by
    rw [pu_ne (by omega), pu_ne (by omega), pu_ne (by omega), pu_ne (by omega), pu_ne (by omega), pu_ne (by omega)]
  refine ⟨?_, ?_, ?_, ?_, ?_, ?_, ?_, ?_, ?_, ?_, ?_, ?_⟩
  · rw [pu_eq rfl]; omega
  · rw [key 1 (by decide) (by decide)]; exact g1
  · rw [key 2 (by decide) (by decide)]; exact g2
  · rw [key 3 (by decide) (by decide)]; exact g3
  · rw [key 4 (by decide) (by decide)]; exact g4
  · rw [key 5 (by decide) (by decide)]; exact g5
  · rw [key 6 (by decide) (by decide)]; exact g6
  · rw [key 7 (by decide) (by decide)]; exact g7
  · rw [key 8 (by decide) (by decide)]; exact g8
  · rw [key 9 (by decide) (by decide)]; exact g9
  · intro j hj; rw [key (10 + j) (by omega) (by omega)]; exact gb j hj
  · intro j hj
    rcases (show (j : Int) = p0.toInt ∨ (j : Int) < p0.toInt from by omega) with hq | hq
    · rw [upd_at2 hq, upd_at2 hq, upd_at2 hq, upd_at2 hq, upd_at2 hq]
      refine ⟨?_, ?_, ?_, ?_, ?_⟩
      · rw [pu_ne (by omega), pu_ne (by omega), pu_ne (by omega), pu_ne (by omega), pu_ne (by omega), pu_eq (by omega)]; exact ex
      · rw [pu_ne (by omega), pu_ne (by omega), pu_ne (by omega), pu_ne (by omega), pu_eq (by omega)]; exact ey
      · rw [pu_ne (by omega), pu_ne (by omega), pu_ne (by omega), pu_eq (by omega)]; exact ez
      · rw [pu_ne (by omega), pu_ne (by omega), pu_eq (by omega)]; exact ew
      · rw [pu_ne (by omega), pu_eq (by omega)]; decide
    · obtain ⟨r0, r1, r2, r3, r4⟩ := gr j hq
      rw [upd_no (by omega) (by omega), upd_no (by omega) (by omega), upd_no (by omega) (by omega), upd_no (by omega) (by omega), upd_no (by omega) (by omega)]
      refine ⟨?_, ?_, ?_, ?_, ?_⟩ <;> rw [pu_ne (by omega), pu_ne (by omega), pu_ne (by omega), pu_ne (by omega), pu_ne (by omega), pu_ne (by omega)] <;> assumption
theorem PLc_lamp {pl : Nat → Int} {p0 p1 p2 p3 p4 p5 p6 p7 p8 p9 q3 q4 q5 q6 : Int32} {f0 f1 f2 f3 f4 f5 : Nat → Int32} {a b c d : Int} (h : PLc pl p0 p1 p2 p3 p4 p5 p6 p7 p8 p9 f0 f1 f2 f3 f4 f5) (ea : q3.toInt = a) (eb : q4.toInt = b) (ec : q5.toInt = c) (ed : q6.toInt = d) : PLc (pu (pu (pu (pu pl 2 a) 3 b) 4 c) 5 d) p0 p1 p2 q3 q4 q5 q6 p7 p8 p9 f0 f1 f2 f3 f4 f5 := by
  obtain ⟨g0, g1, g2, g3, g4, g5, g6, g7, g8, g9, gb, gr⟩ := h
  refine ⟨g0, g1, ea, eb, ec, ed, g6, g7, g8, g9, fun j hj => ?_, fun j hj => ?_⟩
  · rw [pu_ne (by omega), pu_ne (by omega), pu_ne (by omega), pu_ne (by omega)]; exact gb j hj
  · obtain ⟨r0, r1, r2, r3, r4⟩ := gr j hj
    refine ⟨?_, ?_, ?_, ?_, ?_⟩ <;> rw [pu_ne (by omega), pu_ne (by omega), pu_ne (by omega), pu_ne (by omega)] <;> assumption
theorem PLc_one {pl : Nat → Int} {p0 p1 p2 p3 p4 p5 p6 p7 p8 p9 q1 q7 q8 q9 : Int32} {f0 f1 f2 f3 f4 f5 : Nat → Int32} {k : Nat} {a : Int} (h : PLc pl p0 p1 p2 p3 p4 p5 p6 p7 p8 p9 f0 f1 f2 f3 f4 f5) (hk : 6 ≤ k ∧ k ≤ 9) (e7 : q7.toInt = if k = 6 then a else pl 6) (e8 : q8.toInt = if k = 7 then a else pl 7) (e9 : q9.toInt = if k = 8 then a else pl 8) (e1 : q1.toInt = if k = 9 then a else pl 9) : PLc (pu pl k a) p0 q1 p2 p3 p4 p5 p6 q7 q8 q9 f0 f1 f2 f3 f4 f5 := by
  obtain ⟨g0, g1, g2, g3, g4, g5, g6, g7, g8, g9, gb, gr⟩ := h
  have n : ∀ j : Nat, ¬ j = k → pu pl k a j = pl j := fun j h => pu_ne h
  refine ⟨by rw [n 0 (by omega)]; exact g0, by rw [n 1 (by omega)]; exact g1, by rw [n 2 (by omega)]; exact g2, by rw [n 3 (by omega)]; exact g3, by rw [n 4 (by omega)]; exact g4, by rw [n 5 (by omega)]; exact g5, ?_, ?_, ?_, ?_, fun j hj => by rw [n _ (by omega)]; exact gb j hj, fun j hj => ?_⟩
  · rw [e7]; unfold pu; rcases (show k = 6 ∨ ¬ k = 6 from by omega) with h | h
    · rw [if_pos h, if_pos h.symm]
    · rw [if_neg h, if_neg (fun e => h e.symm)]
  · rw [e8]; unfold pu; rcases (show k = 7 ∨ ¬ k = 7 from by omega) with h | h
    · rw [if_pos h, if_pos h.symm]
    · rw [if_neg h, if_neg (fun e => h e.symm)]
  · rw [e9]; unfold pu; rcases (show k = 8 ∨ ¬ k = 8 from by omega) with h | h
    · rw [if_pos h, if_pos h.symm]
    · rw [if_neg h, if_neg (fun e => h e.symm)]
  · rw [e1]; unfold pu; rcases (show k = 9 ∨ ¬ k = 9 from by omega) with h | h
    · rw [if_pos h, if_pos h.symm]
    · rw [if_neg h, if_neg (fun e => h e.symm)]
  · obtain ⟨r0, r1, r2, r3, r4⟩ := gr j hj
    refine ⟨?_, ?_, ?_, ?_, ?_⟩ <;> rw [n _ (by omega)] <;> assumption
theorem PLc_bid {pl : Nat → Int} {p0 p1 p2 p3 p4 p5 p6 p7 p8 p9 x y : Int32} {f0 f1 f2 f3 f4 f5 : Nat → Int32} {k v : Int} (h : PLc pl p0 p1 p2 p3 p4 p5 p6 p7 p8 p9 f0 f1 f2 f3 f4 f5) (hk : 0 ≤ k ∧ k ≤ 5) (ex : x.toInt = k) (ey : y.toInt = v) : PLc (pu pl (10 + k.toNat) v) p0 p1 p2 p3 p4 p5 p6 p7 p8 p9 f0 f1 f2 f3 f4 (upd f5 x.toNatClampNeg y) := by
  obtain ⟨g0, g1, g2, g3, g4, g5, g6, g7, g8, g9, gb, gr⟩ := h
  have n : ∀ j : Nat, ¬ j = 10 + k.toNat → pu pl (10 + k.toNat) v j = pl j := fun j h => pu_ne h
  refine ⟨by rw [n 0 (by omega)]; exact g0, by rw [n 1 (by omega)]; exact g1, by rw [n 2 (by omega)]; exact g2, by rw [n 3 (by omega)]; exact g3, by rw [n 4 (by omega)]; exact g4, by rw [n 5 (by omega)]; exact g5, by rw [n 6 (by omega)]; exact g6, by rw [n 7 (by omega)]; exact g7, by rw [n 8 (by omega)]; exact g8, by rw [n 9 (by omega)]; exact g9, fun j hj => ?_, fun j hj => ?_⟩
  · rcases (show (j : Int) = x.toInt ∨ ¬ (j : Int) = x.toInt from by omega) with hq | hq
    · rw [upd_at2 hq, pu_eq (by omega)]; exact ey
    · rw [upd_no hq (by omega), n _ (by omega)]; exact gb j hj
  · obtain ⟨r0, r1, r2, r3, r4⟩ := gr j hj
    refine ⟨?_, ?_, ?_, ?_, ?_⟩ <;> rw [n _ (by omega)] <;> assumption
theorem eats_4 (tx : Nat → Int) (n k : Int) (sg : Nat → Int) : eatsF tx n k sg 4 = sg 4 := by unfold eatsF; split <;> rfl
theorem takes_0 {tx : Nat → Int} {n lo hi : Int} {sg : Nat → Int} (h : takesF tx n lo hi sg 4 = 0) : sg 4 = 0 ∧ sg 2 = 14 ∧ lo ≤ sg 3 ∧ sg 3 ≤ hi := by
  unfold takesF at h
  split at h
  · next h1 =>
    split at h
    · next h2 => exact ⟨h1.1, h1.2, h2.1, h2.2⟩
    · exact absurd h (fails_4 _ _ (by decide))
  · exact absurd h (fails_4 _ _ (by decide))
theorem tif_0 {tx : Nat → Int} {n k lo hi : Int} {sg : Nat → Int} (h : tifF tx n k lo hi sg 4 = 0) : sg 4 = 0 := by
  unfold tifF at h
  split at h
  · next h1 => exact h1.1
  · rw [eats_4] at h; exact h
/-- the class's token, as the pure reader's kind; where a fault stands -/
def TK (tx : Nat → Int) (t : Int) (G : Nat → Int) : Prop := (t = 1 ∧ 0 ≤ G 2 ∧ G 2 ≤ 13 ∧ G 2 = keyF tx (G 0) (G 1)) ∨ (t = 2 ∧ G 2 = 14) ∨ (t = 3 ∧ G 2 = 15) ∨ (t = 0 ∧ G 2 = 16) ∨ (t = 4 ∧ G 2 = 17)
def WQ (t : Int) (G : Nat → Int) : Prop := (G 4 = 0 → t = -1) ∧ (¬ G 4 = 0 → t = G 5)
theorem TK_2 {tx : Nat → Int} {t : Int} {G : Nat → Int} (h : TK tx t G) : (t = 2 ∧ G 2 = 14) ∨ (¬ t = 2 ∧ ¬ G 2 = 14) := by unfold TK at h; omega
theorem TK_3 {tx : Nat → Int} {t : Int} {G : Nat → Int} (h : TK tx t G) : (t = 3 ∧ G 2 = 15) ∨ (¬ t = 3 ∧ ¬ G 2 = 15) := by unfold TK at h; omega
theorem TK_0 {tx : Nat → Int} {t : Int} {G : Nat → Int} (h : TK tx t G) : (t = 0 ∧ G 2 = 16) ∨ (¬ t = 0 ∧ ¬ G 2 = 16) := by unfold TK at h; omega
theorem TK_4 {tx : Nat → Int} {t : Int} {G : Nat → Int} (h : TK tx t G) : (t = 4 ∧ G 2 = 17) ∨ (¬ t = 4 ∧ ¬ G 2 = 17) := by unfold TK at h; omega
def NV (t : Int) (G : Nat → Int) : Prop := G 2 = 14 → t = G 3
def TB (x y r : Int) : Prop := r = x ∨ (x ≤ r ∧ r ≤ y)
def Hd (a b : Prop) : Prop := a → b
theorem TB_in {x y r M : Int} (h : TB x y r) (hx : x ≤ M) (hy : y ≤ M) : x ≤ r ∧ r ≤ M := by unfold TB at h; omega
def PLm (pl : Nat → Int) (f : Nat → Int32) : Prop := (∀ k : Nat, k < 96 → (f k).toInt = pl k) ∧ ∀ k : Nat, 80 ≤ k → pl k = 0
theorem PLm_upd {pl : Nat → Int} {f f' : Nat → Int32} {i v : Int32} {k : Nat} {a : Int} (h : PLm pl f) (e : f' = upd f i.toNatClampNeg v) (ei : i.toInt = (k : Int)) (ev : v.toInt = a) (hk : k < 80) : PLm (pu pl k a) f' := by
  refine ⟨fun j hj => ?_, fun j hj => by rw [pu_ne (by omega)]; exact h.2 j hj⟩
  rw [e]
  rcases (show (j : Int) = i.toInt ∨ ¬ (j : Int) = i.toInt from by omega) with hq | hq
  · rw [upd_at2 hq, pu_eq (by omega)]; exact ev
  · rw [upd_no hq (by omega), pu_ne (by omega)]; exact h.1 j hj
theorem PLm_z {pl : Nat → Int} {f : Nat → Int32} {k : Nat} (h : PLm pl f) (hk : 80 ≤ k) : PLm (pu pl k 0) f := by
  refine ⟨fun j hj => ?_, fun j hj => ?_⟩
  · rcases (show j = k ∨ ¬ j = k from by omega) with hq | hq
    · rw [pu_eq hq, h.1 j hj, hq]; exact h.2 k hk
    · rw [pu_ne hq]; exact h.1 j hj
  · rcases (show j = k ∨ ¬ j = k from by omega) with hq | hq
    · rw [pu_eq hq]
    · rw [pu_ne hq]; exact h.2 j hj
theorem PLm_lamp0 {pl : Nat → Int} {f : Nat → Int32} (h : PLm pl f) : PLm (pu (pu (pu (pu pl 2 0) 3 6) 4 6) 5 1) (upd (upd (upd (upd f 2 0) 3 6) 4 6) 5 1) := by
  refine ⟨fun j hj => ?_, fun j hj => by rw [pu_ne (by omega), pu_ne (by omega), pu_ne (by omega), pu_ne (by omega)]; exact h.2 j hj⟩
  unfold pu upd
  rcases (show j = 5 ∨ j = 4 ∨ j = 3 ∨ j = 2 ∨ (¬ j = 5 ∧ ¬ j = 4 ∧ ¬ j = 3 ∧ ¬ j = 2) from by omega) with e | e | e | e | ⟨e5, e4, e3, e2⟩
  · subst e; exact (show (1 : Int32).toInt = 1 from by decide)
  · subst e; exact (show (6 : Int32).toInt = 6 from by decide)
  · subst e; exact (show (6 : Int32).toInt = 6 from by decide)
  · subst e; exact (show (0 : Int32).toInt = 0 from by decide)
  · rw [if_neg e5, if_neg e4, if_neg e3, if_neg e2, if_neg e5, if_neg e4, if_neg e3, if_neg e2]; exact h.1 j hj
theorem eats_y {tx : Nat → Int} {n k : Int} {sg : Nat → Int} (h : sg 4 = 0 ∧ sg 2 = k) : eatsF tx n k sg = nxtF tx n sg := if_pos h
def NA (A : Prop) : Prop := ¬ A
theorem isr_0 {r : Int} {A : Prop} (h : (r = 0 ∧ ¬ A) ∨ (¬ r = 0 ∧ A)) (e : r = 0) : NA A := fun a => h.elim (fun q => q.2 a) (fun q => q.1 e)
theorem isr_1 {r : Int} {A : Prop} (h : (r = 0 ∧ ¬ A) ∨ (¬ r = 0 ∧ A)) (e : ¬ r = 0) : A := h.elim (fun q => absurd q.1 e) (fun q => q.2)
theorem eats_n {tx : Nat → Int} {n k : Int} {sg : Nat → Int} (h : ¬ (sg 4 = 0 ∧ sg 2 = k)) : eatsF tx n k sg = sg := if_neg h
theorem pu_lamp (pl : Nat → Int) (a b c d : Int) : pu (pu (pu (pu (pu (pu (pu (pu pl 2 0) 3 6) 4 6) 5 1) 2 a) 3 b) 4 c) 5 d = pu (pu (pu (pu pl 2 a) 3 b) 4 c) 5 d := by
  funext j
  unfold pu
  rcases (show j = 5 ∨ j = 4 ∨ j = 3 ∨ j = 2 ∨ (¬ j = 5 ∧ ¬ j = 4 ∧ ¬ j = 3 ∧ ¬ j = 2) from by omega) with e | e | e | e | ⟨e5, e4, e3, e2⟩
  · rw [if_pos e, if_pos e]
  · rw [if_neg (by omega), if_pos e, if_neg (by omega), if_pos e]
  · rw [if_neg (by omega), if_neg (by omega), if_pos e, if_neg (by omega), if_neg (by omega), if_pos e]
  · rw [if_neg (by omega), if_neg (by omega), if_neg (by omega), if_pos e, if_neg (by omega), if_neg (by omega), if_neg (by omega), if_pos e]
  · rw [if_neg e5, if_neg e4, if_neg e3, if_neg e2, if_neg e5, if_neg e4, if_neg e3, if_neg e2, if_neg e5, if_neg e4, if_neg e3, if_neg e2]
theorem body_9 (tx : Nat → Int) (n : Int) (sg pl : Nat → Int) : bodyP tx n sg pl 9 = pl 9 := by
  unfold bodyP
  split
  · unfold stripP; rw [pu_ne (by omega), pu_ne (by omega), pu_ne (by omega), pu_ne (by omega), pu_ne (by omega), pu_ne (by omega)]
  · split
    · unfold lampP; rw [pu_ne (by omega), pu_ne (by omega), pu_ne (by omega), pu_ne (by omega)]
    · split
      · rw [pu_ne (by omega)]
      · split
        · unfold bidP; rw [pu_ne (by omega)]
        · split
          · rw [pu_ne (by omega)]
          · split
            · rw [pu_ne (by omega)]
            · rfl
theorem text_s {tx : Nat → Int} {n : Int} {k : Nat} {sg pl : Nat → Int} (hk : k < 900) (h4 : sg 4 = 0) (h2 : ¬ sg 2 = 16) : textF tx n (900 - k) (sg, pl) = textF tx n (900 - (k + 1)) (lineF tx n (pl 0) sg, lineP tx n sg pl) := by
  rw [show 900 - k = (900 - (k + 1)) + 1 from by omega]
  exact if_pos ⟨h4, h2⟩
theorem text_e {tx : Nat → Int} {n : Int} {k : Nat} {sg pl : Nat → Int} (h : ¬ (sg 4 = 0 ∧ ¬ sg 2 = 16)) : textF tx n k (sg, pl) = (sg, pl) := by
  cases k with
  | zero => rfl
  | succ k => exact if_neg h
theorem PLc_0 (f0 f1 f2 f3 f4 f5 : Nat → Int32) (h : ∀ j, j < 6 → f5 j = 1) : PLc plain0 0 0 0 0 6 6 1 60 0 0 f0 f1 f2 f3 f4 f5 := by
  refine ⟨by decide, by decide, by decide, by decide, by decide, by decide, by decide, by decide, by decide, by decide, fun j hj => ?_, fun j hj => absurd hj (by rw [show (0 : Int32).toInt = 0 from by decide]; omega)⟩
  rw [h j hj]
  unfold plain0
  rw [if_neg (by omega), if_neg (by omega), if_neg (by omega), if_neg (by omega), if_pos (by omega)]
  decide
theorem cpy_at {f g : Nat → Int32} {n j : Nat} (h : j < n) : va_cpy f g 0 0 n j = f j := by
  unfold va_cpy
  rw [if_pos ⟨by omega, by omega⟩, show 0 + (j - 0) = j from by omega]
def WB (sg : Nat → Int) : Prop := 0 ≤ sg 4 ∧ sg 4 ≤ 4
theorem WB_f {k : Int} {sg : Nat → Int} (hk : 0 ≤ k ∧ k ≤ 4) (h : WB sg) : WB (failsF k sg) := by
  have hF := fails_all k sg
  unfold WB at *
  rcases (show sg 4 = 0 ∨ ¬ sg 4 = 0 from by omega) with h1 | h1
  · rcases (show sg 2 = 17 ∨ ¬ sg 2 = 17 from by omega) with h2 | h2 <;> omega
  · omega
theorem WB_n {tx : Nat → Int} {n : Int} {sg : Nat → Int} (h : WB sg) : WB (nxtF tx n sg) := h
theorem WB_e {tx : Nat → Int} {n k : Int} {sg : Nat → Int} (h : WB sg) : WB (eatsF tx n k sg) := by unfold eatsF; split; exact h; exact h
theorem WB_t {tx : Nat → Int} {n lo hi : Int} {sg : Nat → Int} (h : WB sg) : WB (takesF tx n lo hi sg) := by
  unfold takesF
  split
  · split
    · exact h
    · exact WB_f (by decide) h
  · exact WB_f (by decide) h
theorem WB_i {tx : Nat → Int} {n k lo hi : Int} {sg : Nat → Int} (h : WB sg) : WB (tifF tx n k lo hi sg) := by
  unfold tifF
  split
  · exact WB_t (WB_e h)
  · exact WB_e h
theorem WB_l {tx : Nat → Int} {n N : Int} {sg : Nat → Int} (h : WB sg) : WB (lineF tx n N sg) := by
  have hb : WB (bodyF tx n N sg) := by
    unfold bodyF
    split
    · unfold stripF
      split
      · exact WB_f (by decide) h
      · exact WB_i (WB_i (WB_i (WB_t (WB_n h))))
    · split
      · exact WB_i (WB_i (WB_i (WB_i (WB_e h))))
      · split
        · exact WB_t (WB_e (WB_e h))
        · split
          · exact WB_t (WB_t (WB_e (WB_e (WB_e h))))
          · split
            · exact WB_t (WB_e (WB_e (WB_e (WB_e h))))
            · split
              · exact WB_t (WB_e (WB_e (WB_e (WB_e (WB_e h)))))
              · exact WB_f (by decide) (WB_e (WB_e (WB_e (WB_e (WB_e h)))))
  unfold lineF semiF
  split
  · exact hb
  · exact WB_f (by decide) hb
theorem WB_x {tx : Nat → Int} {n : Int} : ∀ (f : Nat) (q : (Nat → Int) × (Nat → Int)), WB q.1 → WB (textF tx n f q).1
  | 0, q, h => h
  | f + 1, q, h => by
    unfold textF
    split
    · exact WB_x f _ (WB_l h)
    · exact h
theorem tell_b (tx : Nat → Int) (n : Int) : 0 ≤ (tellF tx n).1 4 ∧ (tellF tx n).1 4 ≤ 4 := WB_x 900 _ (show WB (nxtF tx n sg0) from ⟨Int.le_refl 0, (show (0 : Int) ≤ 4 from by decide)⟩)
def SMc (p0 p1 p2 p3 p4 p5 p6 p7 p8 p9 : Int32) (f0 f1 f2 f3 f4 f5 : Nat → Int32) (q0 q1 q2 q3 q4 q5 q6 q7 q8 q9 : Int32) (g0 g1 g2 g3 g4 g5 : Nat → Int32) : Prop := (q0 = p0 ∧ q1 = p1 ∧ q2 = p2 ∧ q3 = p3 ∧ q4 = p4 ∧ q5 = p5 ∧ q6 = p6 ∧ q7 = p7 ∧ q8 = p8 ∧ q9 = p9) ∧ g0 = f0 ∧ g1 = f1 ∧ g2 = f2 ∧ g3 = f3 ∧ g4 = f4 ∧ g5 = f5
theorem SMc_rfl {p0 p1 p2 p3 p4 p5 p6 p7 p8 p9 : Int32} {f0 f1 f2 f3 f4 f5 : Nat → Int32} : SMc p0 p1 p2 p3 p4 p5 p6 p7 p8 p9 f0 f1 f2 f3 f4 f5 p0 p1 p2 p3 p4 p5 p6 p7 p8 p9 f0 f1 f2 f3 f4 f5 := ⟨⟨rfl, rfl, rfl, rfl, rfl, rfl, rfl, rfl, rfl, rfl⟩, rfl, rfl, rfl, rfl, rfl, rfl⟩
theorem PLc_cp {pl : Nat → Int} {p0 p1 p2 p3 p4 p5 p6 p7 p8 p9 : Int32} {f0 f1 f2 f3 f4 f5 g0 g1 g2 g3 g4 g5 : Nat → Int32} (h : PLc pl p0 p1 p2 p3 p4 p5 p6 p7 p8 p9 f0 f1 f2 f3 f4 f5) (h0 : p0.toInt ≤ 16) (e0 : ∀ j, j < 16 → g0 j = f0 j) (e1 : ∀ j, j < 16 → g1 j = f1 j) (e2 : ∀ j, j < 16 → g2 j = f2 j) (e3 : ∀ j, j < 16 → g3 j = f3 j) (e4 : ∀ j, j < 16 → g4 j = f4 j) (e5 : ∀ j, j < 6 → g5 j = f5 j) : PLc pl p0 p1 p2 p3 p4 p5 p6 p7 p8 p9 g0 g1 g2 g3 g4 g5 := by
  obtain ⟨a0, a1, a2, a3, a4, a5, a6, a7, a8, a9, ab, ar⟩ := h
  refine ⟨a0, a1, a2, a3, a4, a5, a6, a7, a8, a9, fun j hj => by rw [e5 j hj]; exact ab j hj, fun j hj => ?_⟩
  rw [e0 j (by omega), e1 j (by omega), e2 j (by omega), e3 j (by omega), e4 j (by omega)]
  exact ar j hj
theorem runB_ge (tx : Nat → Int) (n k : Int) : ∀ (f : Nat) (i : Int), i ≤ runB tx n k f i
  | 0, i => Int.le_refl i
  | f + 1, i => by
    unfold runB
    split
    · have := runB_ge tx n k f (i + 1); omega
    · exact Int.le_refl i
theorem runB_gt {tx : Nat → Int} {n k i : Int} {f : Nat} (h : kdB tx n i = k) : i < runB tx n k (f + 1) i := by
  unfold runB
  rw [if_pos h]
  have := runB_ge tx n k f (i + 1)
  omega
theorem nxt_ge (tx : Nat → Int) (n : Int) (sg : Nat → Int) : sg 1 ≤ nxtF tx n sg 0 ∧ nxtF tx n sg 0 ≤ nxtF tx n sg 1 ∧ (nxtF tx n sg 2 = 16 ∨ nxtF tx n sg 0 < nxtF tx n sg 1) := by
  have h0 : sg 1 ≤ runB tx n 1 1000 (sg 1) := runB_ge tx n 1 1000 (sg 1)
  rcases (show kdB tx n (runB tx n 1 1000 (sg 1)) = 2 ∨ kdB tx n (runB tx n 1 1000 (sg 1)) = 3 ∨ (¬ kdB tx n (runB tx n 1 1000 (sg 1)) = 2 ∧ ¬ kdB tx n (runB tx n 1 1000 (sg 1)) = 3) from by omega) with h | h | ⟨h2, h3⟩
  · have hx := nxt_w (tx := tx) (n := n) (sg := sg) rfl h rfl
    have h1 : runB tx n 1 1000 (sg 1) < runB tx n 2 1000 (runB tx n 1 1000 (sg 1)) := runB_gt h
    omega
  · have hx := nxt_d (tx := tx) (n := n) (sg := sg) rfl h rfl
    have h1 : runB tx n 1 1000 (sg 1) < runB tx n 3 1000 (runB tx n 1 1000 (sg 1)) := runB_gt h
    omega
  · have hx := nxt_o (tx := tx) (n := n) (sg := sg) rfl h2 h3
    omega
theorem mo_e (tx : Nat → Int) (n k : Int) (sg : Nat → Int) : sg 1 ≤ eatsF tx n k sg 1 := by
  unfold eatsF
  split
  · have := nxt_ge tx n sg; omega
  · exact Int.le_refl _
theorem mo_f (k : Int) (sg : Nat → Int) : failsF k sg 1 = sg 1 := (fails_all k sg).2.1
theorem mo_t (tx : Nat → Int) (n lo hi : Int) (sg : Nat → Int) : sg 1 ≤ takesF tx n lo hi sg 1 := by
  unfold takesF
  split
  · split
    · have := nxt_ge tx n sg; omega
    · rw [mo_f]; exact Int.le_refl _
  · rw [mo_f]; exact Int.le_refl _
theorem mo_i (tx : Nat → Int) (n k lo hi : Int) (sg : Nat → Int) : sg 1 ≤ tifF tx n k lo hi sg 1 := by
  unfold tifF
  have h1 := mo_e tx n k sg
  split
  · have := mo_t tx n lo hi (eatsF tx n k sg); omega
  · exact h1
theorem mo_b (tx : Nat → Int) (n N : Int) (sg : Nat → Int) : sg 1 ≤ bodyF tx n N sg 1 := by
  have a1 := mo_e tx n 4 sg
  have a2 := mo_e tx n 9 (e1F tx n sg)
  have a3 := mo_e tx n 10 (e2F tx n sg)
  have a4 := mo_e tx n 11 (e3F tx n sg)
  have a5 := mo_e tx n 12 (e4F tx n sg)
  have d1 : sg 1 ≤ e1F tx n sg 1 := a1
  have d2 : e1F tx n sg 1 ≤ e2F tx n sg 1 := a2
  have d3 : e2F tx n sg 1 ≤ e3F tx n sg 1 := a3
  have d4 : e3F tx n sg 1 ≤ e4F tx n sg 1 := a4
  have d5 : e4F tx n sg 1 ≤ e5F tx n sg 1 := a5
  unfold bodyF
  split
  · unfold stripF
    split
    · rw [mo_f]; exact Int.le_refl _
    · have b0 := nxt_ge tx n sg
      have b1 : nxtF tx n sg 1 ≤ s1F tx n sg 1 := mo_t tx n 0 99 _
      have b2 : s1F tx n sg 1 ≤ s2F tx n sg 1 := mo_i tx n 1 0 9 _
      have b3 : s2F tx n sg 1 ≤ s3F tx n sg 1 := mo_i tx n 2 0 30 _
      have b4 : s3F tx n sg 1 ≤ s4F tx n sg 1 := mo_i tx n 3 0 5 _
      omega
  · split
    · have b1 : e1F tx n sg 1 ≤ l1F tx n N (e1F tx n sg) 1 := mo_i tx n 5 0 (N - 1) _
      have b2 : l1F tx n N (e1F tx n sg) 1 ≤ l2F tx n N (e1F tx n sg) 1 := mo_i tx n 6 1 30 _
      have b3 : l2F tx n N (e1F tx n sg) 1 ≤ l3F tx n N (e1F tx n sg) 1 := mo_i tx n 7 0 20 _
      have b4 : l3F tx n N (e1F tx n sg) 1 ≤ lampF tx n N (e1F tx n sg) 1 := mo_i tx n 8 0 9 _
      omega
    · split
      · have := mo_t tx n 0 999 (e2F tx n sg); omega
      · split
        · have b1 : e3F tx n sg 1 ≤ b1F tx n (e3F tx n sg) 1 := mo_t tx n 0 5 _
          have b2 : b1F tx n (e3F tx n sg) 1 ≤ bidF tx n (e3F tx n sg) 1 := mo_t tx n 0 99 _
          omega
        · split
          · have := mo_t tx n 0 100 (e4F tx n sg); omega
          · split
            · have := mo_t tx n 0 (N - 1) (e5F tx n sg); omega
            · rw [mo_f]; omega
theorem line_at {tx : Nat → Int} {n N : Int} {sg : Nat → Int} (h : lineF tx n N sg 4 = 0) : sg 1 ≤ lineF tx n N sg 0 ∧ (lineF tx n N sg 2 = 16 ∨ lineF tx n N sg 0 < lineF tx n N sg 1) := by
  have hb := mo_b tx n N sg
  unfold lineF semiF at *
  split at h
  · next h1 =>
    rw [if_pos h1]
    have := nxt_ge tx n (bodyF tx n N sg)
    omega
  · exact absurd h (fails_4 _ _ (by decide))
theorem PLm_ex {pl pl' : Nat → Int} {f : Nat → Int32} (h : PLm pl f) (e : ∀ k, pl k = pl' k) : PLm pl' f := ⟨fun k hk => by rw [← e k]; exact h.1 k hk, fun k hk => by rw [← e k]; exact h.2 k hk⟩
def plainK (k : Nat) : Nat → Int := fun j => if 10 ≤ j ∧ j < 10 + k then 1 else if j = 6 then 60 else if j = 5 then 1 else if j = 4 then 6 else if j = 3 then 6 else 0
theorem PLm_f {f : Nat → Int32} : PLm (fun _ => 0) (fillF f 96 0) := ⟨fun k hk => by unfold fillF; rw [if_pos hk]; exact (show (0 : Int32).toInt = 0 from by decide), fun _ _ => rfl⟩
theorem plK_0 (k : Nat) : pu (pu (pu (pu (pu (fun _ => 0) 2 0) 3 6) 4 6) 5 1) 6 60 k = plainK 0 k := by
  unfold pu plainK
  rw [if_neg (show ¬ (10 ≤ k ∧ k < 10 + 0) from by omega)]
  split
  · rfl
  · split
    · rfl
    · split
      · rfl
      · split
        · rfl
        · split <;> rfl
theorem plK_s (n k : Nat) : pu (plainK n) (10 + n) 1 k = plainK (n + 1) k := by
  unfold pu plainK
  rcases (show k = 10 + n ∨ (¬ k = 10 + n ∧ (10 ≤ k ∧ k < 10 + n)) ∨ (¬ k = 10 + n ∧ ¬ (10 ≤ k ∧ k < 10 + n)) from by omega) with h | ⟨h, g⟩ | ⟨h, g⟩
  · rw [if_pos h, if_pos (by omega)]
  · rw [if_neg h, if_pos g, if_pos (by omega)]
  · rw [if_neg h, if_neg g, if_neg (show ¬ (10 ≤ k ∧ k < 10 + (n + 1)) from by omega)]
theorem plK_6 (k : Nat) : plainK 6 k = plain0 k := by
  unfold plainK plain0
  rcases (show k = 3 ∨ k = 4 ∨ k = 5 ∨ k = 6 ∨ (10 ≤ k ∧ k ≤ 15) ∨ (¬ k = 3 ∧ ¬ k = 4 ∧ ¬ k = 5 ∧ ¬ k = 6 ∧ ¬ (10 ≤ k ∧ k ≤ 15)) from by omega) with h | h | h | h | h | ⟨h3, h4, h5, h6, hb⟩
  · subst h; decide
  · subst h; decide
  · subst h; decide
  · subst h; decide
  · rw [if_pos (by omega), if_neg (by omega), if_neg (by omega), if_neg (by omega), if_neg (by omega), if_pos h]
  · rw [if_neg (by omega), if_neg h6, if_neg h5, if_neg h4, if_neg h3, if_neg h3, if_neg h4, if_neg h5, if_neg h6, if_neg hb]
def bt (x : Int32) (i : Nat) : Bool := x.toBitVec.getLsbD i
theorem b_ext {x y : Int32} (h : ∀ i, i < 32 → bt x i = bt y i) : x = y := Int32.toBitVec_inj.mp (BitVec.eq_of_getLsbD_eq (fun i hi => h i hi))
theorem b_and (x y : Int32) (i : Nat) : bt (x &&& y) i = (bt x i && bt y i) := by unfold bt; rw [Int32.toBitVec_and, BitVec.getLsbD_and]
theorem b_big {x : Int32} {i : Nat} (h : 32 ≤ i) : bt x i = false := BitVec.getLsbD_of_ge _ _ h
theorem b_255 (i : Nat) : bt 255 i = decide (i < 8) := by
  rcases Nat.lt_or_ge i 32 with h | h
  · exact (by decide +kernel : ∀ i, i < 32 → bt 255 i = decide (i < 8)) i h
  · rw [b_big h, decide_eq_false (by omega)]
theorem s_l : ∀ n, n < 32 → ((nI n &&& 31).toBitVec.smod 32).toNat = n := by decide +kernel
theorem s_u : ∀ n, n < 32 → (((nI n).toUInt32 &&& Int32.toUInt32 31).toBitVec % 32).toNat = n := by decide +kernel
theorem b_ushr (n : Nat) (hn : n < 32) (x : Int32) (i : Nat) : bt ((x.toUInt32 >>> ((nI n).toUInt32 &&& Int32.toUInt32 31)).toInt32) i = bt x (n + i) := by
  show (x.toUInt32 >>> ((nI n).toUInt32 &&& Int32.toUInt32 31)).toBitVec.getLsbD i = x.toUInt32.toBitVec.getLsbD (n + i)
  rw [UInt32.toBitVec_shiftRight]
  show (x.toUInt32.toBitVec >>> (((nI n).toUInt32 &&& Int32.toUInt32 31).toBitVec % 32).toNat).getLsbD i = _
  rw [s_u n hn, BitVec.getLsbD_ushiftRight]
theorem b_sshr (n : Nat) (hn : n < 32) (x : Int32) {i : Nat} (hi : i < 32) : bt (x >>> (nI n &&& 31)) i = if n + i < 32 then bt x (n + i) else bt x 31 := by
  unfold bt
  rw [Int32.toBitVec_shiftRight]
  show (x.toBitVec.sshiftRight ((nI n &&& 31).toBitVec.smod 32).toNat).getLsbD i = _
  rw [s_l n hn, BitVec.getLsbD_sshiftRight, BitVec.msb_eq_getLsbD_last]
  simp [hi]
theorem bp_b (x : Int32) : x.toInt8.toInt32 &&& 255 = x &&& 255 := by
  apply Int32.toBitVec_inj.mp
  rw [Int32.toBitVec_and, Int32.toBitVec_and, Int8.toBitVec_toInt32, Int32.toBitVec_toInt8]
  apply BitVec.eq_of_getLsbD_eq
  intro i hi
  rw [BitVec.getLsbD_and, BitVec.getLsbD_and]
  have hm : ∀ i < 32, 8 ≤ i → (255 : Int32).toBitVec.getLsbD i = false := by decide
  rcases Nat.lt_or_ge i 8 with z | z
  · rw [BitVec.getLsbD_signExtend, BitVec.getLsbD_signExtend, if_pos z, if_pos hi]
    simp only [z, hi, decide_true, Bool.true_and]
  · rw [hm i hi z]; simp
def byI (x : Int32) (s : Nat) : Int32 := (x >>> (nI s &&& 31)) &&& 255
theorem by_eq (x : Int32) (s : Nat) (hs : s ≤ 24) : (x.toUInt32 >>> ((nI s).toUInt32 &&& Int32.toUInt32 31)).toInt32 &&& 255 = byI x s := by
  refine b_ext (fun i hi => ?_)
  unfold byI
  rw [b_and, b_and, b_255, b_ushr s (by omega), b_sshr s (by omega) x hi]
  by_cases h : i < 8
  · rw [if_pos (by omega)]
  · rw [decide_eq_false h, Bool.and_false, Bool.and_false]
theorem by_c {x z w : Int32} {s : Nat} (hs : s ≤ 24) (ez : z = (x.toUInt32 >>> ((nI s).toUInt32 &&& Int32.toUInt32 31)).toInt32) (ew : w = z.toInt8.toInt32) : vp_nar .byte w &&& 255 = byI x s := by
  rw [vp_nar_byte, bp_b, ew, bp_b, ez]
  exact by_eq x s hs
theorem and255 (x : Int32) : (x &&& 255).toInt = x.toInt % 256 := by
  have h1 : (x &&& 255).toBitVec.toNat = x.toBitVec.toNat % 256 := by
    rw [Int32.toBitVec_and, BitVec.toNat_and]
    exact Nat.and_two_pow_sub_one_eq_mod _ 8
  have h2 : (x &&& 255).toInt = (x &&& 255).toBitVec.toInt := rfl
  have h3 : x.toInt = x.toBitVec.toInt := rfl
  rw [h2, h3, BitVec.toInt_eq_toNat_cond, BitVec.toInt_eq_toNat_cond, h1]
  have h4 := x.toBitVec.isLt
  split <;> split <;> omega
/-- bytes that were laid behind a: n of them, w's -/
def FD (a : Nat → Int32) (b : Int) (n : Nat) (w f : Nat → Int32) : Prop := (∀ j : Nat, (j : Int) < b → f j = a j) ∧ ∀ k : Nat, k < n → f (b.toNat + k) = w k
theorem FD_0 (a : Nat → Int32) (b : Int) (w : Nat → Int32) : FD a b 0 w a := ⟨fun _ _ => rfl, fun k hk => absurd hk (Nat.not_lt_zero k)⟩
theorem FD_s {a f g w : Nat → Int32} {b : Int} (n : Nat) {i v : Int32} (h : FD a b n w f) (e : g = upd f i.toNatClampNeg v) (ei : i.toInt = b + (n : Int)) (h0 : 0 ≤ b) (ev : w n = v) : FD a b (n + 1) w g := by
  refine ⟨fun j hj => ?_, fun k hk => ?_⟩
  · rw [e, upd_no (by omega) (by omega)]; exact h.1 j hj
  · rw [e]
    rcases (show k = n ∨ k < n from by omega) with q | q
    · rw [upd_at2 (by omega), q]; exact ev.symm
    · rw [upd_no (by omega) (by omega)]; exact h.2 k q
def fdW (x y z v w : Int32) : Nat → Int32 := fun k => byI (if k < 4 then x else if k < 8 then y else if k < 12 then z else if k < 16 then v else w) (24 - 8 * (k % 4))
theorem fits_in {v : Int32} (h : fits .byte (.int v) = true) : -128 ≤ v.toInt ∧ v.toInt ≤ 127 := by
  have h1 := h
  simp [fits, narrow] at h1
  have h2 := Int32.le_iff_toInt_le.mp h1.1
  have h3 := Int32.le_iff_toInt_le.mp h1.2
  rw [show (-128 : Int32).toInt = -128 from by decide] at h2
  rw [show (127 : Int32).toInt = 127 from by decide] at h3
  exact ⟨h2, h3⟩
theorem cB_255 {v w : Int32} (h : fits .byte (.int v) = true) (e : v &&& 255 = w) : cB v.toInt = cB w.toInt := by
  have h1 := fits_in h
  have h2 : w.toInt = v.toInt % 256 := by rw [← e]; exact and255 v
  unfold cB
  by_cases h3 : 0 ≤ v.toInt
  · rw [if_pos (by omega), if_pos (by omega)]; omega
  · rw [if_neg (by omega), if_neg (by omega)]
