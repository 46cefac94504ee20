def NRP (a : Int) : Prop := a = 1 ∨ a = 2 ∨ a = 6 ∨ (16 ≤ a ∧ a < 32) ∨ (80 ≤ a ∧ a < 96)
/-- f and g are alike but for minute, at, oil, crops, reaped -/
def KR (f g : Nat → Int32) : Prop := ∀ j : Nat, ¬ NRP (j : Int) → f j = g j
theorem KR_rfl (f : Nat → Int32) : KR f f := fun _ _ => rfl
theorem KR_tr {f g k : Nat → Int32} (h1 : KR f g) (h2 : KR g k) : KR f k := fun j hj => (h1 j hj).trans (h2 j hj)
theorem KR_upd {f f' g : Nat → Int32} {i v : Int32} {a : Int} (h : KR f g) (e : f' = upd f i.toNatClampNeg v) (ei : i.toInt = a) (h0 : 0 ≤ a) (hn : NRP a) : KR f' g := fun j hj => by
  rw [e, upd_no (fun e2 => hj (by rw [e2, ei]; exact hn)) (by omega)]
  exact h j hj
theorem KR_put {f0 f1 f2 f3 : Nat → Int32} {i k v w : Int32} {a : Int} (e1 : f1 = upd f0 i.toNatClampNeg v) (h : KR f2 f1) (e3 : f3 = upd f2 k.toNatClampNeg w) (ei : i.toInt = a) (ek : k.toInt = a) (h0 : 0 ≤ a) (hw : w = f0 a.toNat) : KR f3 f0 := fun j hj => by
  rw [e3]
  by_cases hq : (j : Int) = a
  · rw [upd_at2 (by omega), hw]; congr 1; omega
  · rw [upd_no (by omega) (by omega), h j hj, e1, upd_no (by omega) (by omega)]
/-- the first n places are alike -/
def KB (n : Int) (f g : Nat → Int32) : Prop := ∀ j : Nat, (j : Int) < n → f j = g j
theorem KB_rfl (n : Int) (f : Nat → Int32) : KB n f f := fun _ _ => rfl
theorem KB_tr {n : Int} {f g k : Nat → Int32} (h1 : KB n f g) (h2 : KB n g k) : KB n f k := fun j hj => (h1 j hj).trans (h2 j hj)
theorem KB_le {n m : Int} {f g : Nat → Int32} (h : KB m f g) (hn : n ≤ m) : KB n f g := fun j hj => h j (by omega)
/-- 96 places of f from n on are g's first -/
def KP (n : Int) (f g : Nat → Int32) : Prop := ∀ j : Nat, j < 96 → f (n.toNat + j) = g j
theorem KP_b {n m : Int} {f f' g : Nat → Int32} (h : KP n f g) (hb : KB m f' f) (h0 : 0 ≤ n) (hm : n + 96 ≤ m) : KP n f' g := fun j hj => (hb _ (by omega)).trans (h j hj)
/-- again as it was kept -/
def AG (n : Int) (f g : Nat → Int32) (old : Nat → Int32) : Prop := (∀ j : Nat, j < 96 → f j = g (n.toNat + j)) ∧ ∀ j : Nat, 96 ≤ j → f j = old j
theorem KR_ag {n : Int} {f' f kp a0 : Nat → Int32} (h : AG n f' kp f) (hk : KR f a0) (hp : KP n kp a0) : KR f' a0 := fun j hj => by
  by_cases h1 : j < 96
  · rw [h.1 j h1]; exact hp j h1
  · rw [h.2 j (by omega)]; exact hk j hj
theorem KR_two {f0 f1 f2 u f3 f4 : Nat → Int32} {i1 i2 i3 i4 w1 w2 w3 w4 : Int32} {a b : Int} (e1 : f1 = upd f0 i1.toNatClampNeg w1) (e2 : f2 = upd f1 i2.toNatClampNeg w2) (hu : KR u f2) (e3 : f3 = upd u i3.toNatClampNeg w3) (e4 : f4 = upd f3 i4.toNatClampNeg w4) (h1 : i1.toInt = a) (h2 : i2.toInt = b) (h3 : i3.toInt = a) (h4 : i4.toInt = b) (ha : 32 ≤ a ∧ a < 48) (hb : 32 ≤ b ∧ b < 48) (hab : ¬ a = b)
    (v1 : w1 = f0 i1.toNatClampNeg - 1) (v2 : w2 = f1 i2.toNatClampNeg + 1) (v3 : w3 = u i3.toNatClampNeg + 1) (v4 : w4 = f3 i4.toNatClampNeg - 1) : KR f4 f0 := by
  have n1 : i1.toNatClampNeg = a.toNat := by show i1.toInt.toNat = _; rw [h1]
  have n2 : i2.toNatClampNeg = b.toNat := by show i2.toInt.toNat = _; rw [h2]
  have n3 : i3.toNatClampNeg = a.toNat := by show i3.toInt.toNat = _; rw [h3]
  have n4 : i4.toNatClampNeg = b.toNat := by show i4.toInt.toNat = _; rw [h4]
  have rA : ¬ NRP ((a.toNat : Nat) : Int) := by unfold NRP; omega
  have rB : ¬ NRP ((b.toNat : Nat) : Int) := by unfold NRP; omega
  have uA : u a.toNat = f0 a.toNat - 1 := by
    rw [hu _ rA, e2, upd_no (by omega) (by omega), e1, upd_at2 (by omega), v1, n1]
  have uB : u b.toNat = f0 b.toNat + 1 := by
    rw [hu _ rB, e2, upd_at2 (by omega), v2, n2, e1, upd_no (by omega) (by omega)]
  intro j hj
  rcases (show (j : Int) = a ∨ (j : Int) = b ∨ (¬ (j : Int) = a ∧ ¬ (j : Int) = b) from by omega) with q | q | ⟨q1, q2⟩
  · have ej : j = a.toNat := by omega
    rw [e4, upd_no (by omega) (by omega), e3, upd_at2 (by omega), v3, n3, uA, ej, Int32.sub_add_cancel]
  · have ej : j = b.toNat := by omega
    rw [e4, upd_at2 (by omega), v4, n4, e3, upd_no (by omega) (by omega), uB, ej, Int32.add_sub_cancel]
  · rw [e4, upd_no (by omega) (by omega), e3, upd_no (by omega) (by omega), hu j hj, e2, upd_no (by omega) (by omega), e1, upd_no (by omega) (by omega)]
/-- trees that a text tells are never above 30 -/
def BTp (pl : Nat → Int) : Prop := ∀ j : Nat, 48 ≤ j → j < 64 → 0 ≤ pl j ∧ pl j ≤ 30
theorem BTp_pu {pl : Nat → Int} {k : Nat} {v : Int} (h : BTp pl) (hk : k < 48 ∨ 64 ≤ k ∨ (0 ≤ v ∧ v ≤ 30)) : BTp (pu pl k v) := fun j h1 h2 => by
  unfold pu
  split
  · next e => omega
  · exact h j h1 h2
theorem fails_no {k : Int} {sg : Nat → Int} (hk : ¬ k = 0) (h : failsF k sg 4 = 0) : False := fails_4 k sg hk h
theorem tif_r {tx : Nat → Int} {n k lo hi wo : Int} {sg : Nat → Int} (h : tifF tx n k lo hi sg 4 = 0) (hw : lo ≤ wo ∧ wo ≤ hi) : lo ≤ tifR tx n k wo sg ∧ tifR tx n k wo sg ≤ hi := by
  unfold tifF at h
  unfold tifR
  by_cases c : sg 4 = 0 ∧ sg 2 = k
  · rw [if_pos c] at h ⊢; exact (takes_0 h).2.2
  · rw [if_neg c]; exact hw
theorem bt_strip {tx : Nat → Int} {n : Int} {sg pl : Nat → Int} (h : BTp pl) (hp : 0 ≤ pl 0 ∧ pl 0 ≤ 16) (hs : stripF tx n (pl 0) sg 4 = 0) : BTp (stripP tx n sg pl) ∧ (0 ≤ stripP tx n sg pl 0 ∧ stripP tx n sg pl 0 ≤ 16) := by
  unfold stripF at hs
  by_cases c : pl 0 = 16
  · rw [if_pos c] at hs; exact absurd hs (fails_4 _ _ (by decide))
  · rw [if_neg c] at hs
    have h3 : s3F tx n sg 4 = 0 := tif_0 hs
    have hr := tif_r (wo := 0) h3 (by decide)
    unfold stripP
    refine ⟨BTp_pu (BTp_pu (BTp_pu (BTp_pu (BTp_pu (BTp_pu h (by omega)) (by omega)) (by omega)) (by omega)) (by omega)) (by omega), ?_⟩
    rw [pu_eq rfl]
    omega
def BTi (pl : Nat → Int) : Prop := BTp pl ∧ (0 ≤ pl 0 ∧ pl 0 ≤ 16)
theorem BTi_pu {pl : Nat → Int} {k : Nat} {v : Int} (h : BTi pl) (hk : ¬ k = 0 ∧ (k < 48 ∨ 64 ≤ k)) : BTi (pu pl k v) := ⟨BTp_pu h.1 (by omega), by rw [pu_ne (by omega)]; exact h.2⟩
theorem bt_body {tx : Nat → Int} {n : Int} {sg pl : Nat → Int} (h : BTi pl) (hb : bodyF tx n (pl 0) sg 4 = 0) : BTi (bodyP tx n sg pl) := by
  unfold bodyF at hb
  unfold bodyP
  by_cases c1 : sg 4 = 0 ∧ sg 2 = 0
  · rw [if_pos c1] at hb ⊢; exact bt_strip h.1 h.2 hb
  rw [if_neg c1] at hb ⊢
  by_cases c2 : sg 4 = 0 ∧ sg 2 = 4
  · rw [if_pos c2]; unfold lampP; exact BTi_pu (BTi_pu (BTi_pu (BTi_pu h (by decide)) (by decide)) (by decide)) (by decide)
  rw [if_neg c2] at hb ⊢
  by_cases c3 : e1F tx n sg 4 = 0 ∧ e1F tx n sg 2 = 9
  · rw [if_pos c3]; exact BTi_pu h (by decide)
  rw [if_neg c3] at hb ⊢
  by_cases c4 : e2F tx n sg 4 = 0 ∧ e2F tx n sg 2 = 10
  · rw [if_pos c4] at hb ⊢
    have h1 := takes_0 (takes_0 hb).1
    unfold bidP
    exact BTi_pu h (by omega)
  rw [if_neg c4] at hb ⊢
  by_cases c5 : e3F tx n sg 4 = 0 ∧ e3F tx n sg 2 = 11
  · rw [if_pos c5]; exact BTi_pu h (by decide)
  rw [if_neg c5] at hb ⊢
  by_cases c6 : e4F tx n sg 4 = 0 ∧ e4F tx n sg 2 = 12
  · rw [if_pos c6]; exact BTi_pu h (by decide)
  rw [if_neg c6] at hb ⊢
  exact h
theorem bt_line {tx : Nat → Int} {n : Int} {sg pl : Nat → Int} (h : BTi pl) (hl : lineF tx n (pl 0) sg 4 = 0) : BTi (lineP tx n sg pl) := by
  have hb : bodyF tx n (pl 0) sg 4 = 0 := by
    unfold lineF semiF at hl
    by_cases c : bodyF tx n (pl 0) sg 4 = 0 ∧ bodyF tx n (pl 0) sg 2 = 15
    · exact c.1
    · rw [if_neg c] at hl; exact absurd hl (fails_4 _ _ (by decide))
  unfold lineP
  exact BTi_pu (bt_body h hb) (by decide)
theorem bt_text {tx : Nat → Int} {n : Int} : ∀ (f : Nat) (q : (Nat → Int) × (Nat → Int)), (q.1 4 = 0 → BTi q.2) → (textF tx n f q).1 4 = 0 → BTi (textF tx n f q).2 := by
  intro f
  induction f with
  | zero => intro q h h4; exact h h4
  | succ f ih =>
    intro q h
    by_cases c : q.1 4 = 0 ∧ ¬ q.1 2 = 16
    · have e : textF tx n (f + 1) q = textF tx n f (lineF tx n (q.2 0) q.1, lineP tx n q.1 q.2) := by
        show (if q.1 4 = 0 ∧ ¬ q.1 2 = 16 then textF tx n f (lineF tx n (q.2 0) q.1, lineP tx n q.1 q.2) else q) = _
        rw [if_pos c]
      rw [e]
      exact ih _ (fun h4 => bt_line (h c.1) h4)
    · have e : textF tx n (f + 1) q = q := by
        show (if q.1 4 = 0 ∧ ¬ q.1 2 = 16 then textF tx n f (lineF tx n (q.2 0) q.1, lineP tx n q.1 q.2) else q) = _
        rw [if_neg c]
      rw [e]
      exact h
theorem bt_0 : BTi plain0 := ⟨fun j h1 h2 => by unfold plain0; rw [if_neg (by omega), if_neg (by omega), if_neg (by omega), if_neg (by omega), if_neg (by omega)]; decide, by decide⟩
theorem bt_tell {tx : Nat → Int} {n : Int} (h : (tellF tx n).1 4 = 0) : BTp (tellF tx n).2 := (bt_text 900 _ (fun _ => bt_0) h).1
/-- a plain of the class (its told numbers) and the 96 numbers from o on of the reference are alike: strips, lines, height, power, fade, moths, cross, bids; reapers, trees, farms of its strips -/
def REL (o : Nat) (p0 p1 p4 p5 p6 p8 p9 : Int32) (f1 f2 f3 f5 a : Nat → Int32) : Prop :=
  p0.toInt = (a o).toInt ∧ p1.toInt = (a (o + 9)).toInt ∧ p4.toInt = (a (o + 3)).toInt ∧ p5.toInt = (a (o + 4)).toInt ∧ p6.toInt = (a (o + 5)).toInt ∧ p8.toInt = (a (o + 7)).toInt ∧ p9.toInt = (a (o + 8)).toInt ∧ (∀ j : Nat, j < 6 → (f5 j).toInt = (a (o + 10 + j)).toInt) ∧
  (∀ j : Nat, (j : Int) < p0.toInt → (f1 j).toInt = (a (o + 32 + j)).toInt ∧ (f2 j).toInt = (a (o + 48 + j)).toInt ∧ (f3 j).toInt = (a (o + 64 + j)).toInt) ∧
  ∀ j : Nat, j < 16 → 0 ≤ (a (o + 48 + j)).toInt ∧ (a (o + 48 + j)).toInt ≤ 30
theorem REL_ex {o : Nat} {p0 p1 p4 p5 p6 p8 p9 : Int32} {f1 f2 f3 f5 a a' : Nat → Int32} (h : REL o p0 p1 p4 p5 p6 p8 p9 f1 f2 f3 f5 a) (h0 : p0.toInt ≤ 16) (e : ∀ k : Nat, (k = 0 ∨ k = 3 ∨ k = 4 ∨ k = 5 ∨ (7 ≤ k ∧ k < 16) ∨ (32 ≤ k ∧ k < 80)) → a' (o + k) = a (o + k)) : REL o p0 p1 p4 p5 p6 p8 p9 f1 f2 f3 f5 a' := by
  obtain ⟨g0, g1, g4, g5, g6, g8, g9, gb, gr, gt⟩ := h
  have e0 : a' o = a o := e 0 (Or.inl rfl)
  refine ⟨by rw [e0]; exact g0, by rw [e 9 (by omega)]; exact g1, by rw [e 3 (by omega)]; exact g4, by rw [e 4 (by omega)]; exact g5, by rw [e 5 (by omega)]; exact g6, by rw [e 7 (by omega)]; exact g8, by rw [e 8 (by omega)]; exact g9, fun j hj => ?_, fun j hj => ?_, fun j hj => by rw [show o + 48 + j = o + (48 + j) from by omega, e (48 + j) (by omega), show o + (48 + j) = o + 48 + j from by omega]; exact gt j hj⟩
  · rw [show o + 10 + j = o + (10 + j) from by omega, e (10 + j) (by omega), show o + (10 + j) = o + 10 + j from by omega]; exact gb j hj
  · obtain ⟨r1, r2, r3⟩ := gr j hj
    refine ⟨?_, ?_, ?_⟩
    · rw [show o + 32 + j = o + (32 + j) from by omega, e (32 + j) (by omega), show o + (32 + j) = o + 32 + j from by omega]; exact r1
    · rw [show o + 48 + j = o + (48 + j) from by omega, e (48 + j) (by omega), show o + (48 + j) = o + 48 + j from by omega]; exact r2
    · rw [show o + 64 + j = o + (64 + j) from by omega, e (64 + j) (by omega), show o + (64 + j) = o + 64 + j from by omega]; exact r3
theorem REL_kr {o : Nat} {p0 p1 p4 p5 p6 p8 p9 : Int32} {f1 f2 f3 f5 a a' : Nat → Int32} (h : REL o p0 p1 p4 p5 p6 p8 p9 f1 f2 f3 f5 a) (h0 : p0.toInt ≤ 16) (ho : o = 0 ∨ 96 ≤ o) (hk : KR a' a) : REL o p0 p1 p4 p5 p6 p8 p9 f1 f2 f3 f5 a' :=
  REL_ex h h0 (fun k hk2 => hk _ (by unfold NRP; omega))
theorem REL_of {pl : Nat → Int} {p0 p1 p2 p3 p4 p5 p6 p7 p8 p9 : Int32} {f0 f1 f2 f3 f4 f5 a : Nat → Int32} (h : PLc pl p0 p1 p2 p3 p4 p5 p6 p7 p8 p9 f0 f1 f2 f3 f4 f5) (h0 : p0.toInt ≤ 16) (hb : BTp pl) (ha : ∀ k : Nat, k < 96 → (a k).toInt = pl k) : REL 0 p0 p1 p4 p5 p6 p8 p9 f1 f2 f3 f5 a := by
  obtain ⟨g0, g1, g2, g3, g4, g5, g6, g7, g8, g9, gb, gr⟩ := h
  refine ⟨by rw [ha 0 (by decide)]; exact g0, by rw [ha (0 + 9) (by decide)]; exact g9, by rw [ha (0 + 3) (by decide)]; exact g3, by rw [ha (0 + 4) (by decide)]; exact g4, by rw [ha (0 + 5) (by decide)]; exact g5, by rw [ha (0 + 7) (by decide)]; exact g7, by rw [ha (0 + 8) (by decide)]; exact g8, fun j hj => ?_, fun j hj => ?_, fun j hj => by rw [ha _ (by omega)]; exact hb _ (by omega) (by omega)⟩
  · rw [ha _ (by omega), show 0 + 10 + j = 10 + j from by omega]; exact gb j hj
  · obtain ⟨r0, r1, r2, r3, r4⟩ := gr j hj
    rw [ha _ (by omega), ha _ (by omega), ha _ (by omega), show 0 + 32 + j = 32 + j from by omega, show 0 + 48 + j = 48 + j from by omega, show 0 + 64 + j = 64 + j from by omega]
    exact ⟨r1, r2, r3⟩
/-- the same numbers, told at another place -/
theorem REL_mv {o o' : Nat} {p0 p1 p4 p5 p6 p8 p9 : Int32} {f1 f2 f3 f5 g1 g2 g3 g5 a a' : Nat → Int32} (h : REL o p0 p1 p4 p5 p6 p8 p9 f1 f2 f3 f5 a) (h0 : p0.toInt ≤ 16) (e1 : ∀ j, j < 16 → g1 j = f1 j) (e2 : ∀ j, j < 16 → g2 j = f2 j) (e3 : ∀ j, j < 16 → g3 j = f3 j) (e5 : ∀ j, j < 6 → g5 j = f5 j) (e : ∀ k : Nat, k < 96 → a' (o' + k) = a (o + k)) : REL o' p0 p1 p4 p5 p6 p8 p9 g1 g2 g3 g5 a' := by
  obtain ⟨q0, q1, q4, q5, q6, q8, q9, qb, qr, qt⟩ := h
  have z : a' o' = a o := e 0 (by decide)
  refine ⟨by rw [z]; exact q0, by rw [e 9 (by decide)]; exact q1, by rw [e 3 (by decide)]; exact q4, by rw [e 4 (by decide)]; exact q5, by rw [e 5 (by decide)]; exact q6, by rw [e 7 (by decide)]; exact q8, by rw [e 8 (by decide)]; exact q9, fun j hj => ?_, fun j hj => ?_, fun j hj => by rw [show o' + 48 + j = o' + (48 + j) from by omega, e (48 + j) (by omega), show o + (48 + j) = o + 48 + j from by omega]; exact qt j hj⟩
  · rw [e5 j hj, show o' + 10 + j = o' + (10 + j) from by omega, e (10 + j) (by omega), show o + (10 + j) = o + 10 + j from by omega]; exact qb j hj
  · obtain ⟨r1, r2, r3⟩ := qr j hj
    rw [e1 j (by omega), e2 j (by omega), e3 j (by omega)]
    refine ⟨?_, ?_, ?_⟩
    · rw [show o' + 32 + j = o' + (32 + j) from by omega, e (32 + j) (by omega), show o + (32 + j) = o + 32 + j from by omega]; exact r1
    · rw [show o' + 48 + j = o' + (48 + j) from by omega, e (48 + j) (by omega), show o + (48 + j) = o + 48 + j from by omega]; exact r2
    · rw [show o' + 64 + j = o' + (64 + j) from by omega, e (64 + j) (by omega), show o + (64 + j) = o + 64 + j from by omega]; exact r3
/-- one plain has become the other -/
def CPc (p0 p1 p2 p3 p4 p5 p6 p7 p8 p9 : Int32) (f0 f1 f2 f3 f4 f5 : Nat → Int32) (q0 q1 q2 q3 q4 q5 q6 q7 q8 q9 : Int32) (g0 g1 g2 g3 g4 g5 : Nat → Int32) : Prop := (q0 = p0 ∧ q1 = p1 ∧ q2 = p2 ∧ q3 = p3 ∧ q4 = p4 ∧ q5 = p5 ∧ q6 = p6 ∧ q7 = p7 ∧ q8 = p8 ∧ q9 = p9) ∧ (∀ j, j < 16 → g0 j = f0 j) ∧ (∀ j, j < 16 → g1 j = f1 j) ∧ (∀ j, j < 16 → g2 j = f2 j) ∧ (∀ j, j < 16 → g3 j = f3 j) ∧ (∀ j, j < 16 → g4 j = f4 j) ∧ ∀ j, j < 6 → g5 j = f5 j
theorem NRP_far {j : Nat} (h : 96 ≤ j) : ¬ NRP (j : Int) := by unfold NRP; omega
theorem RL_a {o : Nat} {p0 p1 p4 p5 p6 p8 p9 : Int32} {f1 f2 f3 f5 gh a0 : Nat → Int32} (h : REL o p0 p1 p4 p5 p6 p8 p9 f1 f2 f3 f5 gh) (h0 : p0.toInt ≤ 16) (ho : o = 0 ∨ 96 ≤ o) (hk : KR a0 gh) : REL o p0 p1 p4 p5 p6 p8 p9 f1 f2 f3 f5 a0 := REL_kr h h0 ho hk
/-- an image stays as it is where the reference's numbers from 96 on stay -/
theorem RL_up {o : Nat} {p0 p1 p4 p5 p6 p8 p9 : Int32} {f1 f2 f3 f5 gh a0 v : Nat → Int32} (h : REL o p0 p1 p4 p5 p6 p8 p9 f1 f2 f3 f5 gh) (h0 : p0.toInt ≤ 16) (ho : 96 ≤ o) (hk : KR a0 gh) (hv : ∀ k : Nat, 96 ≤ k → v k = a0 k) : REL o p0 p1 p4 p5 p6 p8 p9 f1 f2 f3 f5 v :=
  REL_ex h h0 (fun k _ => (hv _ (by omega)).trans (hk _ (NRP_far (by omega))))
theorem RL_height {p0 p1 p4 u4 p5 p6 p8 p9 : Int32} {f1 f2 f3 f5 gh a0 v : Nat → Int32} (h : REL 0 p0 p1 p4 p5 p6 p8 p9 f1 f2 f3 f5 gh) (h0 : p0.toInt ≤ 16) (hk : KR a0 gh) (hv : ∀ j : Nat, ¬ j = 3 → v j = a0 j) (e : u4.toInt = (v 3).toInt) : REL 0 p0 p1 u4 p5 p6 p8 p9 f1 f2 f3 f5 v := by
  obtain ⟨g0, g1, g4, g5, g6, g8, g9, gb, gr, gt⟩ := RL_a h h0 (Or.inl rfl) hk
  refine ⟨by rw [hv 0 (by decide)]; exact g0, by rw [hv (0 + 9) (by decide)]; exact g1, e, by rw [hv (0 + 4) (by decide)]; exact g5, by rw [hv (0 + 5) (by decide)]; exact g6, by rw [hv (0 + 7) (by decide)]; exact g8, by rw [hv (0 + 8) (by decide)]; exact g9, fun j hj => ?_, fun j hj => ?_, fun j hj => by rw [hv _ (by omega)]; exact gt j hj⟩
  · rw [hv _ (by omega)]; exact gb j hj
  · rw [hv _ (by omega), hv _ (by omega), hv _ (by omega)]; exact gr j hj
theorem RL_fell {x : Int} {p0 p1 p4 p5 p6 p8 p9 : Int32} {f1 f2 u f3 f5 gh a0 v : Nat → Int32} (h : REL 0 p0 p1 p4 p5 p6 p8 p9 f1 f2 f3 f5 gh) (h0 : p0.toInt ≤ 16) (hk : KR a0 gh) (hu : ∀ j : Nat, u j = if (j : Int) = x ∧ x < p0.toInt then 0 else f2 j) (hv : ∀ j : Nat, v j = if (j : Int) = 48 + x ∧ 0 ≤ x ∧ x < (a0 0).toInt then 0 else a0 j) : REL 0 p0 p1 p4 p5 p6 p8 p9 f1 u f3 f5 v := by
  obtain ⟨g0, g1, g4, g5, g6, g8, g9, gb, gr, gt⟩ := RL_a h h0 (Or.inl rfl) hk
  have q : ∀ k : Nat, (k < 48 ∨ 64 ≤ k) → v k = a0 k := fun k hq => by rw [hv k, if_neg (by omega)]
  refine ⟨by rw [q 0 (by decide)]; exact g0, by rw [q (0 + 9) (by decide)]; exact g1, by rw [q (0 + 3) (by decide)]; exact g4, by rw [q (0 + 4) (by decide)]; exact g5, by rw [q (0 + 5) (by decide)]; exact g6, by rw [q (0 + 7) (by decide)]; exact g8, by rw [q (0 + 8) (by decide)]; exact g9, fun j hj => ?_, fun j hj => ?_, fun j hj => ?_⟩
  · rw [q _ (by omega)]; exact gb j hj
  · obtain ⟨r1, r2, r3⟩ := gr j hj
    refine ⟨by rw [q _ (by omega)]; exact r1, ?_, by rw [q _ (by omega)]; exact r3⟩
    rw [hu j, hv (0 + 48 + j)]
    by_cases e : (j : Int) = x ∧ x < p0.toInt
    · rw [if_pos e, if_pos (by omega)]
    · rw [if_neg e, if_neg (by omega)]; exact r2
  · rw [hv (0 + 48 + j)]
    split
    · decide
    · exact gt j hj
theorem RL_fellF {x : Int} {a0 v : Nat → Int32} (h0 : (a0 0).toInt ≤ 16) (hv : ∀ j : Nat, v j = if (j : Int) = 48 + x ∧ 0 ≤ x ∧ x < (a0 0).toInt then 0 else a0 j) : ∀ k : Nat, 96 ≤ k → v k = a0 k := fun k hq => by rw [hv k, if_neg (by omega)]
def walkF (f : Nat → Int32) (i k : Nat) (z : Int32) : Nat → Int32 := upd (upd f i (f i - z)) k ((upd f i (f i - z)) k + z)
def wkA (n x y z a b : Int) : Int := if 0 ≤ x ∧ x < n ∧ 0 ≤ y ∧ y < n then (if 0 ≤ z ∧ z ≤ a then (if ¬ x = y ∧ 9 < b then -4 else 0) else -3) else -2
theorem wk_eq {n n' x y z a b a' b' : Int} (hn : n = n') (h : 0 ≤ x ∧ x < n ∧ 0 ≤ y ∧ y < n → a = a' ∧ b = b') : wkA n x y z a b = wkA n' x y z a' b' := by
  unfold wkA
  subst hn
  by_cases c : 0 ≤ x ∧ x < n ∧ 0 ≤ y ∧ y < n
  · rw [if_pos c, if_pos c, (h c).1, (h c).2]
  · rw [if_neg c, if_neg c]
theorem wk_0 {n x y z a b : Int} (h : wkA n x y z a b = 0) : 0 ≤ x ∧ x < n ∧ 0 ≤ y ∧ y < n := by
  unfold wkA at h
  by_cases c : 0 ≤ x ∧ x < n ∧ 0 ≤ y ∧ y < n
  · exact c
  · rw [if_neg c] at h; exact absurd h (by decide)
theorem walkF_eq {f a : Nat → Int32} {z : Int32} {n i k j : Nat} (h : ∀ j : Nat, j < n → f j = a (32 + j)) (hi : i < n) (hk : k < n) (hj : j < n) : walkF f i k z j = walkF a (32 + i) (32 + k) z (32 + j) := by
  have e : ∀ m, m < n → upd f i (f i - z) m = upd a (32 + i) (a (32 + i) - z) (32 + m) := fun m hm => by
    unfold upd
    by_cases c : m = i
    · rw [if_pos c, if_pos (by omega), h i hi]
    · rw [if_neg c, if_neg (by omega), h m hm]
  unfold walkF
  show (if j = k then upd f i (f i - z) k + z else upd f i (f i - z) j) = (if 32 + j = 32 + k then upd a (32 + i) (a (32 + i) - z) (32 + k) + z else upd a (32 + i) (a (32 + i) - z) (32 + j))
  by_cases c : j = k
  · rw [if_pos c, if_pos (by omega), e k hk]
  · rw [if_neg c, if_neg (by omega), e j hj]
theorem walkF_no {a : Nat → Int32} {z : Int32} {i k j : Nat} (h1 : ¬ j = i) (h2 : ¬ j = k) : walkF a i k z j = a j := by
  unfold walkF
  show (if j = k then _ else (if j = i then _ else a j)) = a j
  rw [if_neg h2, if_neg h1]
theorem RL_walk {x y : Int} {z : Int32} {p0 p1 p4 p5 p6 p8 p9 : Int32} {f1 u f2 f3 f5 gh a0 v : Nat → Int32} (h : REL 0 p0 p1 p4 p5 p6 p8 p9 f1 f2 f3 f5 gh) (h0 : p0.toInt ≤ 16) (hk : KR a0 gh) (hx : 0 ≤ x ∧ x < p0.toInt ∧ 0 ≤ y ∧ y < p0.toInt) (hu : ∀ j : Nat, u j = walkF f1 x.toNat y.toNat z j) (hv : ∀ j : Nat, v j = walkF a0 (32 + x.toNat) (32 + y.toNat) z j) : REL 0 p0 p1 p4 p5 p6 p8 p9 u f2 f3 f5 v := by
  obtain ⟨g0, g1, g4, g5, g6, g8, g9, gb, gr, gt⟩ := RL_a h h0 (Or.inl rfl) hk
  have q : ∀ k : Nat, (k < 32 ∨ 48 ≤ k) → v k = a0 k := fun k hq => by rw [hv k, walkF_no (by omega) (by omega)]
  refine ⟨by rw [q 0 (by decide)]; exact g0, by rw [q (0 + 9) (by decide)]; exact g1, by rw [q (0 + 3) (by decide)]; exact g4, by rw [q (0 + 4) (by decide)]; exact g5, by rw [q (0 + 5) (by decide)]; exact g6, by rw [q (0 + 7) (by decide)]; exact g8, by rw [q (0 + 8) (by decide)]; exact g9, fun j hj => ?_, fun j hj => ?_, fun j hj => by rw [q _ (by omega)]; exact gt j hj⟩
  · rw [q _ (by omega)]; exact gb j hj
  · obtain ⟨r1, r2, r3⟩ := gr j hj
    refine ⟨?_, by rw [q _ (by omega)]; exact r2, by rw [q _ (by omega)]; exact r3⟩
    rw [hu j, hv (0 + 32 + j), show 0 + 32 + j = 32 + j from by omega]
    exact congrArg Int32.toInt (walkF_eq (n := p0.toInt.toNat) (fun m hm => i32_is (by have := (gr m (by omega)).1; rw [show 0 + 32 + m = 32 + m from by omega] at this; exact this)) (by omega) (by omega) (by omega))
theorem RL_walkF {x y : Int} {z : Int32} {n : Int} {a0 v : Nat → Int32} (h0 : n ≤ 16) (hx : 0 ≤ x ∧ x < n ∧ 0 ≤ y ∧ y < n) (hv : ∀ j : Nat, v j = walkF a0 (32 + x.toNat) (32 + y.toNat) z j) : ∀ k : Nat, 96 ≤ k → v k = a0 k := fun k hq => by rw [hv k, walkF_no (by omega) (by omega)]
/-- a plain that is the same as it was, or as another was -/
theorem RL_sm {o : Nat} {p0 p1 p2 p3 p4 p5 p6 p7 p8 p9 q0 q1 q2 q3 q4 q5 q6 q7 q8 q9 : Int32} {f0 f1 f2 f3 f4 f5 g0 g1 g2 g3 g4 g5 a : Nat → Int32} (h : REL o p0 p1 p4 p5 p6 p8 p9 f1 f2 f3 f5 a) (hs : SMc p0 p1 p2 p3 p4 p5 p6 p7 p8 p9 f0 f1 f2 f3 f4 f5 q0 q1 q2 q3 q4 q5 q6 q7 q8 q9 g0 g1 g2 g3 g4 g5) : REL o q0 q1 q4 q5 q6 q8 q9 g1 g2 g3 g5 a := by
  obtain ⟨⟨e0, e1, e2, e3, e4, e5, e6, e7, e8, e9⟩, k0, k1, k2, k3, k4, k5⟩ := hs
  rw [e0, e1, e4, e5, e6, e8, e9, k1, k2, k3, k5]
  exact h
theorem RL_cp {o o' : Nat} {p0 p1 p2 p3 p4 p5 p6 p7 p8 p9 q0 q1 q2 q3 q4 q5 q6 q7 q8 q9 : Int32} {f0 f1 f2 f3 f4 f5 g0 g1 g2 g3 g4 g5 a a' : Nat → Int32} (h : REL o p0 p1 p4 p5 p6 p8 p9 f1 f2 f3 f5 a) (h0 : p0.toInt ≤ 16) (hs : CPc p0 p1 p2 p3 p4 p5 p6 p7 p8 p9 f0 f1 f2 f3 f4 f5 q0 q1 q2 q3 q4 q5 q6 q7 q8 q9 g0 g1 g2 g3 g4 g5) (e : ∀ k : Nat, k < 96 → a' (o' + k) = a (o + k)) : REL o' q0 q1 q4 q5 q6 q8 q9 g1 g2 g3 g5 a' := by
  obtain ⟨⟨e0, e1, e2, e3, e4, e5, e6, e7, e8, e9⟩, k0, k1, k2, k3, k4, k5⟩ := hs
  rw [e0, e1, e4, e5, e6, e8, e9]
  exact REL_mv h h0 k1 k2 k3 k5 e
/-- numbers alike -/
theorem RL_eq {o : Nat} {p0 p1 p4 p5 p6 p8 p9 : Int32} {f1 f2 f3 f5 a a' : Nat → Int32} (h : REL o p0 p1 p4 p5 p6 p8 p9 f1 f2 f3 f5 a) (e : ∀ k : Nat, k < 96 → a' (o + k) = a (o + k)) (h0 : p0.toInt ≤ 16) : REL o p0 p1 p4 p5 p6 p8 p9 f1 f2 f3 f5 a' := REL_mv h h0 (fun _ _ => rfl) (fun _ _ => rfl) (fun _ _ => rfl) (fun _ _ => rfl) e
theorem PL0 : PLc plain0 0 0 0 0 6 6 1 60 0 0 (fun _ => 0) (fun _ => 0) (fun _ => 0) (fun _ => 0) (fun _ => 0) (fillF (fun _ => 0) 6 (1)) :=
  ⟨by decide, by decide, by decide, by decide, by decide, by decide, by decide, by decide, by decide, by decide, by decide, fun j hj => absurd hj (by rw [ti_0]; omega)⟩
