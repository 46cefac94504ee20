/-- halts: how many strips a mask has, whether they light what is open, whether few of the lower strips can -/
def pcN (m : Nat) : Nat → Nat
  | 0 => 0
  | k + 1 => pcN m k + (if m.testBit k = true then 1 else 0)
theorem pcN_s (m k : Nat) : pcN m (k + 1) = pcN m k + (if m.testBit k = true then 1 else 0) := rfl
def cvr (lit : Nat → Int32) (n m : Nat) (op : Int32) : Prop := ∀ i, i < 32 → bt op i = true → ∃ o, o < n ∧ m.testBit o = true ∧ bt (lit o) i = true
def can (lit : Nat → Int32) (n a left : Nat) (op : Int32) : Prop := ∃ m, m < 2 ^ a ∧ pcN m n ≤ left ∧ cvr lit n m op
theorem tb_lt {m a o : Nat} (h : m < 2 ^ a) (hb : m.testBit o = true) : o < a := by
  refine Nat.not_le.mp (fun q => ?_)
  have h2 := Nat.testBit_lt_two_pow (Nat.lt_of_lt_of_le h (Nat.pow_le_pow_right (by decide) q))
  rw [h2] at hb
  exact absurd hb (by decide)
theorem tb_or (m o k : Nat) : (m ||| 2 ^ o).testBit k = (m.testBit k || decide (o = k)) := by rw [Nat.testBit_or, Nat.testBit_two_pow]
theorem tb_xor (m o k : Nat) : (m ^^^ 2 ^ o).testBit k = (m.testBit k ^^ decide (o = k)) := by rw [Nat.testBit_xor, Nat.testBit_two_pow]
theorem pc_ex {m m' : Nat} : ∀ n, (∀ k, k < n → m.testBit k = m'.testBit k) → pcN m n = pcN m' n := by
  intro n
  induction n with
  | zero => intro _; rfl
  | succ n ih => intro h; rw [pcN_s, pcN_s, ih (fun k hk => h k (by omega)), h n (by omega)]
theorem pc_or (m o : Nat) : ∀ n, pcN (m ||| 2 ^ o) n ≤ pcN m n + (if o < n then 1 else 0) := by
  intro n
  induction n with
  | zero => exact Nat.le_refl _
  | succ n ih =>
    rw [pcN_s, pcN_s, tb_or]
    by_cases c : o = n
    · rw [if_neg (by omega)] at ih
      rw [if_pos (show o < n + 1 from by omega)]
      split <;> split <;> omega
    · rw [decide_eq_false c, Bool.or_false]
      by_cases c2 : o < n
      · rw [if_pos c2] at ih; rw [if_pos (show o < n + 1 from by omega)]; split <;> omega
      · rw [if_neg c2] at ih; rw [if_neg (show ¬ o < n + 1 from by omega)]; split <;> omega
theorem pc_cl {m o : Nat} (h : m.testBit o = true) : ∀ n, pcN (m ^^^ 2 ^ o) n + (if o < n then 1 else 0) = pcN m n := by
  intro n
  induction n with
  | zero => rfl
  | succ n ih =>
    rw [pcN_s, pcN_s, tb_xor]
    by_cases c : o = n
    · rw [if_neg (by omega)] at ih
      rw [if_pos (show o < n + 1 from by omega), ← c, h, decide_eq_true rfl, if_neg (by decide), if_pos rfl]
      rw [c] at ih ⊢
      omega
    · rw [decide_eq_false c, Bool.xor_false]
      by_cases c2 : o < n
      · rw [if_pos c2] at ih; rw [if_pos (show o < n + 1 from by omega)]; split <;> omega
      · rw [if_neg c2] at ih; rw [if_neg (show ¬ o < n + 1 from by omega)]; split <;> omega
theorem pc_0 {m : Nat} : ∀ n, pcN m n = 0 → ∀ o, o < n → m.testBit o = false := by
  intro n
  induction n with
  | zero => intro _ o ho; omega
  | succ n ih =>
    intro h o ho
    rw [pcN_s] at h
    rcases (show o = n ∨ o < n from by omega) with q | q
    · cases c : m.testBit o with
      | false => rfl
      | true => rw [q] at c; rw [if_pos c] at h; omega
    · exact ih (by omega) o q
theorem can_e (lit : Nat → Int32) (n a left : Nat) : can lit n a left 0 := by
  refine ⟨0, Nat.two_pow_pos a, ?_, fun i _ hb => ?_⟩
  · have : ∀ k, pcN 0 k = 0 := fun k => by
      induction k with
      | zero => rfl
      | succ k ih => rw [pcN_s, ih, Nat.zero_testBit]; rfl
    rw [this]; exact Nat.zero_le _
  · rw [bt_0s] at hb; exact absurd hb (by decide)
theorem can_0 {lit : Nat → Int32} {n a s : Nat} {op : Int32} (hs : s < 32) (hb : bt op s = true) : ¬ can lit n a 0 op := by
  rintro ⟨m, _, hp, hc⟩
  obtain ⟨o, ho, hm, _⟩ := hc s hs hb
  rw [pc_0 n (by omega) o ho] at hm
  exact absurd hm (by decide)
theorem can_s {lit : Nat → Int32} {n a left s : Nat} {op : Int32} (hs : s < 32) (hb : bt op s = true) (han : a ≤ n) : can lit n a (left + 1) op ↔ ∃ o, o < a ∧ bt (lit o) s = true ∧ can lit n a left (op &&& (lit o ^^^ (-1))) := by
  constructor
  · rintro ⟨m, hm, hp, hc⟩
    obtain ⟨o, ho, hmo, hlo⟩ := hc s hs hb
    have hoa := tb_lt hm hmo
    refine ⟨o, hoa, hlo, m ^^^ 2 ^ o, Nat.xor_lt_two_pow hm (Nat.pow_lt_pow_right (by decide) hoa), ?_, fun i hi hbi => ?_⟩
    · have := pc_cl hmo n
      rw [if_pos ho] at this
      omega
    · rw [bt_and, bt_not _ hi] at hbi
      have h1 : bt op i = true := by cases c : bt op i with
        | true => rfl
        | false => rw [c] at hbi; exact absurd hbi (fun q => Bool.noConfusion q)
      have h2 : bt (lit o) i = false := by cases c : bt (lit o) i with
        | false => rfl
        | true => rw [c, h1] at hbi; exact absurd hbi (by decide)
      obtain ⟨o', ho', hm', hl'⟩ := hc i hi h1
      have hne : ¬ o = o' := fun e => by rw [e, hl'] at h2; exact absurd h2 (by decide)
      exact ⟨o', ho', by rw [tb_xor, decide_eq_false hne, Bool.xor_false]; exact hm', hl'⟩
  · rintro ⟨o, ho, hl, m, hm, hp, hc⟩
    refine ⟨m ||| 2 ^ o, Nat.or_lt_two_pow hm (Nat.pow_lt_pow_right (by decide) ho), ?_, fun i hi hbi => ?_⟩
    · have := pc_or m o n
      rw [if_pos (show o < n from by omega)] at this
      omega
    · cases c : bt (lit o) i with
      | true => exact ⟨o, by omega, by rw [tb_or, decide_eq_true rfl, Bool.or_true], c⟩
      | false =>
        obtain ⟨o', ho', hm', hl'⟩ := hc i hi (by rw [bt_and, bt_not _ hi, hbi, c]; rfl)
        exact ⟨o', ho', by rw [tb_or, hm']; rfl, hl'⟩
theorem can_m {lit : Nat → Int32} {n a left left' : Nat} {op : Int32} (h : can lit n a left op) (hl : left ≤ left') : can lit n a left' op := by
  obtain ⟨m, h1, h2, h3⟩ := h
  exact ⟨m, h1, by omega, h3⟩
/-- the best of the masks below k -/
def BS (lit : Nat → Int32) (n : Nat) (set : Int32) (k : Nat) (b : Int) : Prop := (b = -1 ∧ ∀ m, m < k → ¬ cvr lit n m set) ∨ ∃ c : Nat, b = (c : Int) ∧ c < k ∧ cvr lit n c set ∧ ∀ m, m < k → cvr lit n m set → (pcN c n < pcN m n ∨ (pcN c n = pcN m n ∧ c ≤ m))
theorem BS_uniq {lit : Nat → Int32} {n k : Nat} {set : Int32} {b b' : Int} (h : BS lit n set k b) (g : BS lit n set k b') : b = b' := by
  rcases h with ⟨h1, h2⟩ | ⟨c, h1, h2, h3, h4⟩ <;> rcases g with ⟨g1, g2⟩ | ⟨d, g1, g2, g3, g4⟩
  · omega
  · exact absurd g3 (h2 d g2)
  · exact absurd h3 (g2 c h2)
  · have a1 := h4 d g2 g3
    have a2 := g4 c h2 h3
    omega
theorem BS_0 (lit : Nat → Int32) (n : Nat) (set : Int32) : BS lit n set 0 (-1) := Or.inl ⟨rfl, fun m h => by omega⟩
/-- one mask more: it is passed over, or it lights all and is better, or it doesn't -/
theorem BS_skip {lit : Nat → Int32} {n k : Nat} {set : Int32} {c : Nat} (h : BS lit n set k (c : Int)) (hp : pcN c n ≤ pcN k n) : BS lit n set (k + 1) (c : Int) := by
  rcases h with ⟨h1, h2⟩ | ⟨d, h1, h2, h3, h4⟩
  · omega
  · have e : c = d := by omega
    subst e
    refine Or.inr ⟨c, rfl, by omega, h3, fun m hm hc => ?_⟩
    rcases (show m = k ∨ m < k from by omega) with q | q
    · rw [q]; omega
    · exact h4 m q hc
theorem BS_no {lit : Nat → Int32} {n k : Nat} {set : Int32} {b : Int} (h : BS lit n set k b) (hc : ¬ cvr lit n k set) : BS lit n set (k + 1) b := by
  rcases h with ⟨h1, h2⟩ | ⟨d, h1, h2, h3, h4⟩
  · refine Or.inl ⟨h1, fun m hm => ?_⟩
    rcases (show m = k ∨ m < k from by omega) with q | q
    · rw [q]; exact hc
    · exact h2 m q
  · refine Or.inr ⟨d, h1, by omega, h3, fun m hm hm2 => ?_⟩
    rcases (show m = k ∨ m < k from by omega) with q | q
    · rw [q] at hm2; exact absurd hm2 hc
    · exact h4 m q hm2
theorem BS_new {lit : Nat → Int32} {n k : Nat} {set : Int32} {b : Int} (h : BS lit n set k b) (hc : cvr lit n k set) (hp : b = -1 ∨ ∃ c : Nat, b = (c : Int) ∧ pcN k n < pcN c n) : BS lit n set (k + 1) (k : Int) := by
  refine Or.inr ⟨k, rfl, by omega, hc, fun m hm hm2 => ?_⟩
  rcases (show m = k ∨ m < k from by omega) with q | q
  · rw [q]; exact Or.inr ⟨rfl, Nat.le_refl _⟩
  · rcases h with ⟨h1, h2⟩ | ⟨d, h1, h2, h3, h4⟩
    · exact absurd hm2 (h2 m q)
    · have a1 := h4 m q hm2
      rcases hp with hp | ⟨c, hp1, hp2⟩
      · omega
      · have e : c = d := by omega
        subst e
        omega
/-- the class's greedy choice, from the highest strip down: bits from o on are settled (g), the rest is open -/
def GR (lit : Nat → Int32) (n : Nat) (set : Int32) (h o g : Nat) (op : Int32) (left : Nat) : Prop :=
  g < 2 ^ n ∧ g % 2 ^ o = 0 ∧ pcN g n + left = h ∧ can lit n o left op ∧ (∀ m, m < 2 ^ o → (cvr lit n m op ↔ cvr lit n (g + m) set)) ∧ ∀ m, m < 2 ^ n → cvr lit n m set → pcN m n ≤ h → g ≤ m
theorem tb_g {i q r : Nat} (hr : r < 2 ^ i) (k : Nat) : (2 ^ i * q + r).testBit k = ((2 ^ i * q).testBit k || r.testBit k) ∧ ((2 ^ i * q).testBit k = true → r.testBit k = false) := by
  have e1 := Nat.testBit_two_pow_mul_add q hr k
  have e2 := Nat.testBit_two_pow_mul_add q (Nat.two_pow_pos i) k
  rw [Nat.add_zero] at e2
  rw [e1, e2]
  by_cases c : k < i
  · rw [if_pos c, if_pos c, Nat.zero_testBit]
    exact ⟨by rw [Bool.false_or], fun h => absurd h (by decide)⟩
  · rw [if_neg c, if_neg c]
    have h3 : r.testBit k = false := Nat.testBit_lt_two_pow (Nat.lt_of_lt_of_le hr (Nat.pow_le_pow_right (by decide) (by omega)))
    exact ⟨by rw [h3, Bool.or_false], fun _ => h3⟩
theorem pc_sum {m a b : Nat} (h : ∀ k, m.testBit k = (a.testBit k || b.testBit k)) (hd : ∀ k, a.testBit k = true → b.testBit k = false) : ∀ n, pcN m n = pcN a n + pcN b n := by
  intro n
  induction n with
  | zero => rfl
  | succ n ih =>
    rw [pcN_s, pcN_s, pcN_s, ih, h n]
    cases ca : a.testBit n with
    | false => rw [Bool.false_or, if_neg (show ¬ false = true from by decide)]; omega
    | true => rw [hd n ca, Bool.true_or, if_pos rfl, if_neg (show ¬ false = true from by decide)]; omega
theorem pc_2 {o n : Nat} (h : o < n) : pcN (2 ^ o) n = 1 := by
  have h1 := pc_cl (m := 2 ^ o) (o := o) (by rw [Nat.testBit_two_pow]; exact decide_eq_true rfl) n
  rw [if_pos h, Nat.xor_self] at h1
  have : ∀ k, pcN 0 k = 0 := fun k => by
    induction k with
    | zero => rfl
    | succ k ih => rw [pcN_s, ih, Nat.zero_testBit]; rfl
  rw [this] at h1
  omega
theorem cv_one {lit : Nat → Int32} {n o r : Nat} {op : Int32} (ho : o < n) (hr : r < 2 ^ o) : cvr lit n r (op &&& (lit o ^^^ (-1))) ↔ cvr lit n (2 ^ o * 1 + r) op := by
  constructor
  · intro h i hi hb
    cases c : bt (lit o) i with
    | true => exact ⟨o, ho, by rw [(tb_g hr o).1, Nat.mul_one, Nat.testBit_two_pow, decide_eq_true rfl]; rfl, c⟩
    | false =>
      obtain ⟨o', h1, h2, h3⟩ := h i hi (by rw [bt_and, bt_not _ hi, hb, c]; rfl)
      exact ⟨o', h1, by rw [(tb_g hr o').1, h2, Bool.or_true], h3⟩
  · intro h i hi hb
    rw [bt_and, bt_not _ hi] at hb
    have h1 : bt op i = true := by cases c : bt op i with
      | true => rfl
      | false => rw [c] at hb; exact absurd hb (fun q => Bool.noConfusion q)
    have h2 : bt (lit o) i = false := by cases c : bt (lit o) i with
      | false => rfl
      | true => rw [c, h1] at hb; exact absurd hb (by decide)
    obtain ⟨o', g1, g2, g3⟩ := h i hi h1
    have hne : ¬ o = o' := fun e => by rw [e, g3] at h2; exact absurd h2 (by decide)
    rw [(tb_g hr o').1, Nat.mul_one, Nat.testBit_two_pow, decide_eq_false hne, Bool.false_or] at g2
    exact ⟨o', g1, g2, g3⟩
theorem GR_skip {lit : Nat → Int32} {n h o g left : Nat} {set op : Int32} (hG : GR lit n set h (o + 1) g op left) (hc : can lit n o left op) : GR lit n set h o g op left := by
  obtain ⟨g1, g2, g3, g4, g5, g6⟩ := hG
  have hp : 2 ^ (o + 1) = 2 ^ o * 2 := Nat.pow_succ 2 o
  refine ⟨g1, ?_, g3, hc, fun m hm => g5 m (by omega), g6⟩
  rw [hp] at g2
  exact Nat.mod_eq_zero_of_dvd (Nat.dvd_trans (Nat.dvd_mul_right _ _) (Nat.dvd_of_mod_eq_zero g2))
theorem GR_take {lit : Nat → Int32} {n h o g left : Nat} {set op : Int32} (ho : o < n) (hG : GR lit n set h (o + 1) g op left) (hc : ¬ can lit n o left op) : 1 ≤ left ∧ GR lit n set h o (g + 2 ^ o) (op &&& (lit o ^^^ (-1))) (left - 1) := by
  obtain ⟨g1, g2, g3, g4, g5, g6⟩ := hG
  have hp : 2 ^ (o + 1) = 2 ^ o * 2 := Nat.pow_succ 2 o
  have hp0 := Nat.two_pow_pos o
  obtain ⟨q, hq⟩ := Nat.dvd_of_mod_eq_zero g2
  obtain ⟨m, m1, m2, m3⟩ := g4
  have hm : 2 ^ o ≤ m := Nat.not_lt.mp (fun z => hc ⟨m, z, m2, m3⟩)
  obtain ⟨r, hr⟩ : ∃ r, m = 2 ^ o * 1 + r := ⟨m - 2 ^ o, by omega⟩
  have hrl : r < 2 ^ o := by omega
  have pcm : pcN m n = 1 + pcN r n := by rw [hr, pc_sum (fun k => (tb_g hrl k).1) (fun k => (tb_g hrl k).2) n, Nat.mul_one, pc_2 ho]
  have eg : g + 2 ^ o = 2 ^ (o + 1) * q + 2 ^ o := by rw [hq]
  have h2l : 2 ^ o < 2 ^ (o + 1) := by omega
  have pcg : pcN (g + 2 ^ o) n = pcN g n + 1 := by
    rw [eg, pc_sum (fun k => (tb_g h2l k).1) (fun k => (tb_g h2l k).2) n, pc_2 ho, hq]
  refine ⟨by omega, ?_, ?_, by omega, ⟨r, hrl, by omega, (cv_one ho hrl).mpr (by rw [← hr]; exact m3)⟩, fun w hw => ?_, fun w hw hcw hpw => ?_⟩
  · -- below 2 ^ n
    obtain ⟨t, ht⟩ : ∃ t, 2 ^ n = 2 ^ (o + 1) * t := ⟨2 ^ (n - (o + 1)), by rw [← Nat.pow_add]; congr 1; omega⟩
    rw [hq, ht] at g1
    have h3 : q < t := Nat.lt_of_mul_lt_mul_left g1
    have h4 : 2 ^ (o + 1) * (q + 1) ≤ 2 ^ (o + 1) * t := Nat.mul_le_mul_left _ h3
    rw [Nat.mul_add, Nat.mul_one] at h4
    rw [ht, eg]
    omega
  · have h3 : g % 2 ^ o = 0 := by
      rw [hp] at g2
      exact Nat.mod_eq_zero_of_dvd (Nat.dvd_trans (Nat.dvd_mul_right _ _) (Nat.dvd_of_mod_eq_zero g2))
    rw [Nat.add_mod, h3, Nat.mod_self, Nat.zero_add, Nat.zero_mod]
  · rw [cv_one ho hw, g5 (2 ^ o * 1 + w) (by omega), show g + (2 ^ o * 1 + w) = g + 2 ^ o + w from by omega]
  · have h3 := g6 w hw hcw hpw
    refine Nat.not_lt.mp (fun z => ?_)
    obtain ⟨v, hv⟩ : ∃ v, w = g + v := ⟨w - g, by omega⟩
    have hv2 : v < 2 ^ o := by omega
    have hv3 : v < 2 ^ (o + 1) := by omega
    have hcv : cvr lit n v op := (g5 v hv3).mpr (by rw [← hv]; exact hcw)
    have hpv : pcN w n = pcN g n + pcN v n := by
      rw [hv, hq]
      exact pc_sum (fun k => (tb_g hv3 k).1) (fun k => (tb_g hv3 k).2) n
    exact hc ⟨v, hv2, by omega, hcv⟩
theorem pc_le (m : Nat) : ∀ n, pcN m n ≤ n := by
  intro n
  induction n with
  | zero => exact Nat.le_refl _
  | succ n ih => rw [pcN_s]; split <;> omega
theorem GR_in {lit : Nat → Int32} {n h : Nat} {set : Int32} (hc : can lit n n h set) : GR lit n set h n 0 set h := by
  refine ⟨Nat.two_pow_pos n, Nat.zero_mod _, ?_, hc, fun m _ => by rw [Nat.zero_add], fun m _ _ _ => Nat.zero_le _⟩
  have : ∀ k, pcN 0 k = 0 := fun k => by
    induction k with
    | zero => rfl
    | succ k ih => rw [pcN_s, ih, Nat.zero_testBit]; rfl
  rw [this]; omega
theorem GR_out {lit : Nat → Int32} {n h g left : Nat} {set op : Int32} (hG : GR lit n set h 0 g op left) (hmin : ∀ l, l < h → ¬ can lit n n l set) : BS lit n set (2 ^ n) (g : Int) := by
  obtain ⟨g1, g2, g3, ⟨m, m1, m2, m3⟩, g5, g6⟩ := hG
  have e : m = 0 := by have : (2 : Nat) ^ 0 = 1 := rfl; omega
  subst e
  have hcg : cvr lit n g set := (g5 0 (Nat.two_pow_pos 0)).mp m3
  have lo : ∀ w, w < 2 ^ n → cvr lit n w set → h ≤ pcN w n := fun w hw hcw => Nat.not_lt.mp (fun z => hmin _ z ⟨w, hw, Nat.le_refl _, hcw⟩)
  have h1 := lo g g1 hcg
  refine Or.inr ⟨g, rfl, g1, hcg, fun w hw hcw => ?_⟩
  have h2 := lo w hw hcw
  rcases (show pcN w n ≤ h ∨ h < pcN w n from by omega) with z | z
  · exact Or.inr ⟨by omega, g6 w hw hcw z⟩
  · exact Or.inl (by omega)
theorem BS_none {lit : Nat → Int32} {n : Nat} {set : Int32} (h : ¬ can lit n n n set) : BS lit n set (2 ^ n) (-1) := Or.inl ⟨rfl, fun m hm hc => h ⟨m, hm, pc_le m n, hc⟩⟩
/-- trailing zeros: a bit that is set, and all below it -/
theorem low_bit : ∀ X : Nat, ¬ X = 0 → ∃ k q, X = 2 ^ (k + 1) * q + 2 ^ k := by
  intro X
  induction X using Nat.strongRecOn with
  | ind X ih =>
    intro h
    rcases Nat.mod_two_eq_zero_or_one X with c | c
    · obtain ⟨k, q, e⟩ := ih (X / 2) (by omega) (by omega)
      refine ⟨k + 1, q, ?_⟩
      have e2 : X = 2 * (X / 2) := by omega
      rw [e2, e, Nat.pow_succ 2 (k + 1), Nat.pow_succ 2 k, Nat.mul_add]
      have : 2 * (2 ^ k * 2 * q) = 2 ^ k * 2 * 2 * q := by rw [Nat.mul_comm (2 ^ k * 2) 2, Nat.mul_assoc 2 (2 ^ k * 2) q]
      rw [this, Nat.mul_comm 2 (2 ^ k)]
    · exact ⟨0, X / 2, by rw [Nat.pow_succ, Nat.pow_zero]; omega⟩
theorem bt_ofm : ∀ (k j : Fin 32), bt (Int32.ofInt ((2 : Int) ^ k.val - 1)) j.val = decide (j.val < k.val) := by decide +kernel
theorem bt_N (x : Int32) (i : Nat) : bt x i = x.toBitVec.toNat.testBit i := rfl
theorem sub1_N {x : Int32} (h : ¬ x.toBitVec.toNat = 0) : (x - 1).toBitVec.toNat = x.toBitVec.toNat - 1 := by
  rw [Int32.toBitVec_sub, show ((1 : Int32).toBitVec) = 1#32 from by decide]
  rw [BitVec.toNat_sub_of_le (by rw [BitVec.le_def]; show 1 ≤ x.toBitVec.toNat; omega)]
  rfl
theorem ctz_ex {x : Int32} (h : ¬ x.toInt = 0) : ∃ k : Nat, k < 32 ∧ bt x k = true ∧ (x ^^^ (-1)) &&& (x - 1) = Int32.ofInt ((2 : Int) ^ k - 1) := by
  have h0 : ¬ x.toBitVec.toNat = 0 := fun e => h (by
    have e2 : x.toBitVec = 0#32 := BitVec.eq_of_toNat_eq e
    have : x.toInt = x.toBitVec.toInt := rfl
    rw [this, e2]; rfl)
  obtain ⟨k, q, e⟩ := low_bit _ h0
  have hlt := x.toBitVec.isLt
  have hp : 2 ^ k < 2 ^ (k + 1) := Nat.pow_lt_pow_right (by decide) (by omega)
  have hp0 := Nat.two_pow_pos k
  have b1 : ∀ j, x.toBitVec.toNat.testBit j = if j < k + 1 then decide (k = j) else q.testBit (j - (k + 1)) := fun j => by rw [e, Nat.testBit_two_pow_mul_add q hp j, Nat.testBit_two_pow]
  have b2 : ∀ j, (x - 1).toBitVec.toNat.testBit j = if j < k + 1 then decide (j < k) else q.testBit (j - (k + 1)) := fun j => by
    rw [sub1_N h0, e, show 2 ^ (k + 1) * q + 2 ^ k - 1 = 2 ^ (k + 1) * q + (2 ^ k - 1) from by omega, Nat.testBit_two_pow_mul_add q (show 2 ^ k - 1 < 2 ^ (k + 1) from by omega) j, Nat.testBit_two_pow_sub_one]
  have hbk : bt x k = true := by rw [bt_N, b1 k, if_pos (by omega)]; exact decide_eq_true rfl
  have hk : k < 32 := tb_lt hlt hbk
  refine ⟨k, hk, hbk, bt_eq (fun i hi => ?_)⟩
  rw [bt_and, bt_not _ hi, bt_ofm ⟨k, hk⟩ ⟨i, hi⟩, bt_N, bt_N, b1 i, b2 i]
  by_cases c : i < k + 1
  · rw [if_pos c, if_pos c]
    by_cases c2 : k = i
    · rw [decide_eq_true c2, decide_eq_false (show ¬ i < k from by omega)]; rfl
    · rw [decide_eq_false c2, decide_eq_true (show i < k from by omega)]; rfl
  · rw [if_neg c, if_neg c, decide_eq_false (show ¬ i < k from by omega)]
    cases q.testBit (i - (k + 1)) <;> rfl
/-- numbers as Int32 -/
theorem nI_N {m : Nat} (h : m < 2147483648) : (nI m).toBitVec.toNat = m := by
  have h1 := nI_toInt h
  have h2 := (nn_iff (x := nI m)).mp (by omega)
  omega
theorem bt_nI {m : Nat} (h : m < 2147483648) (i : Nat) : bt (nI m) i = m.testBit i := by rw [bt_N, nI_N h]
theorem or_nI {g o q : Nat} (hg : g = 2 ^ (o + 1) * q) (hs : g + 2 ^ o < 2147483648) (ho : o < 32) : nI g ||| ((1 : Int32) <<< (nI o &&& 31)) = nI (g + 2 ^ o) := by
  have hp : 2 ^ o < 2 ^ (o + 1) := Nat.pow_lt_pow_right (by decide) (by omega)
  refine bt_eq (fun i hi => ?_)
  rw [bt_or, bt_nI (by omega), bt_shl ⟨o, ho⟩ ⟨i, hi⟩, bt_nI hs, hg, (tb_g hp i).1, Nat.testBit_two_pow]
  congr 1
  exact decide_eq_decide.mpr ⟨fun h => h.symm, fun h => h.symm⟩
/-- lighters of a strip -/
def LTR (f0 f1 : Nat → Int32) (n : Nat) : Prop := ∀ s o : Nat, s < n → o < 16 → bt (f1 s) o = (decide (o < n) && bt (f0 o) s)
def opn (x : Int32) (n : Nat) : Prop := ∀ i, i < 32 → bt x i = true → i < n
def alw (y : Int32) (a : Nat) : Prop := ∀ i, i < 32 → bt y i = decide (i < a)
theorem opn_and {x w : Int32} {n : Nat} (h : opn x n) : opn (x &&& w) n := fun i hi hb => h i hi (by
  rw [bt_and] at hb
  cases c : bt x i with
  | true => rfl
  | false => rw [c] at hb; exact absurd hb (fun q => Bool.noConfusion q))
theorem ov_iff {f0 f1 : Nat → Int32} {n a s k : Nat} {y v w : Int32} (hl : LTR f0 f1 n) (ha : alw y a) (han : a ≤ n) (hs : s < n) (hk : k < 16) (ev : v = f1 s) (ew : w = v &&& y) : bt w k = true ↔ (k < a ∧ bt (f0 k) s = true) := by
  rw [ew, bt_and, ev, hl s k hs hk, ha k (by omega)]
  constructor
  · intro h
    rw [Bool.and_eq_true, Bool.and_eq_true] at h
    exact ⟨of_decide_eq_true h.2, h.1.2⟩
  · intro h
    rw [decide_eq_true h.1, decide_eq_true (show k < n from by omega), h.2]
    rfl
theorem can_yes {lit : Nat → Int32} {n a left l2 s o : Nat} {op w : Int32} (hs : s < 32) (hb : bt op s = true) (han : a ≤ n) (he : left = l2 + 1) (ho : o < a ∧ bt (lit o) s = true) (ew : w = op &&& (lit o ^^^ (-1))) (hc : can lit n a l2 w) : can lit n a left op := by
  rw [he]
  exact (can_s hs hb han).mpr ⟨o, ho.1, ho.2, by rw [← ew]; exact hc⟩
theorem can_no {lit : Nat → Int32} {n a left l2 s : Nat} {op : Int32} (hs : s < 32) (hb : bt op s = true) (han : a ≤ n) (hn : n ≤ 16) (he : left = l2 + 1) (hi : ∀ o : Nat, o < 16 → ¬ (o < a ∧ bt (lit o) s = true ∧ can lit n a l2 (op &&& (lit o ^^^ (-1))))) : ¬ can lit n a left op := by
  rw [he]
  intro h
  obtain ⟨o, h1, h2, h3⟩ := (can_s hs hb han).mp h
  exact hi o (by omega) ⟨h1, h2, h3⟩
theorem nz_bt {x z : Int32} (h : z = x) : True := trivial
theorem k_nI {k : Int32} (h : 0 ≤ k.toInt) : k = nI k.toInt.toNat := i32_is (by rw [nI_toInt (by have := Int32.toInt_lt k; omega)]; omega)
theorem alw_of {k z1 z2 : Int32} (hk : 0 ≤ k.toInt ∧ k.toInt ≤ 16) (e1 : z1 = 1 <<< (k &&& 31)) (e2 : z2 = z1 - 1) : alw z2 k.toInt.toNat := fun i hi => by
  rw [e2, e1, show k &&& 31 = nI k.toInt.toNat &&& 31 from by rw [← k_nI hk.1]]
  exact bt_mask ⟨k.toInt.toNat, by omega⟩ ⟨i, hi⟩
theorem opn_of {x n : Int32} (hn : 0 ≤ n.toInt ∧ n.toInt ≤ 16) (h : x &&& ((((1 : Int32) <<< (n &&& 31)) - 1) ^^^ (-1)) = 0) : opn x n.toInt.toNat := fun i hi hb => by
  have := (areS hn).mp h i hi hb
  omega
theorem BS_ex {lit lit' : Nat → Int32} {n k : Nat} {set : Int32} {b : Int} (e : ∀ o, o < n → lit o = lit' o) (h : BS lit n set k b) : BS lit' n set k b := by
  have cv : ∀ m, cvr lit n m set ↔ cvr lit' n m set := fun m => by
    constructor
    · intro hc i hi hb
      obtain ⟨o, h1, h2, h3⟩ := hc i hi hb
      exact ⟨o, h1, h2, by rw [← e o h1]; exact h3⟩
    · intro hc i hi hb
      obtain ⟨o, h1, h2, h3⟩ := hc i hi hb
      exact ⟨o, h1, h2, by rw [e o h1]; exact h3⟩
  rcases h with ⟨h1, h2⟩ | ⟨c, h1, h2, h3, h4⟩
  · exact Or.inl ⟨h1, fun m hm hc => h2 m hm ((cv m).mpr hc)⟩
  · exact Or.inr ⟨c, h1, h2, (cv c).mp h3, fun m hm hc => h4 m hm ((cv m).mpr hc)⟩
/-- one more strip's light into lighters: ((F >> s) & 1) << o -/
theorem bt_01 : ∀ (o i : Fin 32), bt ((0 : Int32) <<< (nI o.val &&& 31)) i.val = false := by decide +kernel
theorem bt_lt1 {x z1 z2 z3 : Int32} {s o : Nat} (hs : s < 32) (ho : o < 32) (e1 : z1 = x >>> (nI s &&& 31)) (e2 : z2 = z1 &&& 1) (e3 : z3 = z2 <<< (nI o &&& 31)) (i : Nat) (hi : i < 32) : bt z3 i = (decide (i = o) && bt x s) := by
  have hg := bt_get hs e1 e2
  have hb := andI e2 (by decide) (show (0 : Int) ≤ 1 from by decide)
  cases c : bt x s with
  | true =>
    have h1 := hg.mpr c
    have h2 : z2 = 1 := i32_is (by rw [ti_1]; omega)
    rw [e3, h2, bt_shl ⟨o, ho⟩ ⟨i, hi⟩, Bool.and_true]
  | false =>
    have h1 : z2.toInt = 0 := Classical.byContradiction (fun q => by rw [hg.mp q] at c; exact absurd c (by decide))
    have h2 : z2 = 0 := i32_is (by rw [ti_0]; exact h1)
    rw [e3, h2, bt_01 ⟨o, ho⟩ ⟨i, hi⟩, Bool.and_false]
def LK (F G : Nat → Int32) (n o s : Nat) : Prop := ∀ t i : Nat, t < n → i < 16 → bt (G t) i = (decide (i < o + (if t < s then 1 else 0)) && bt (F i) t)
theorem LK_0 {F : Nat → Int32} {n : Nat} (G : Nat → Int32) (hG : ∀ t, t < n → G t = 0) : LK F G n 0 0 := fun t i ht hi => by rw [hG t ht, bt_0s, if_neg (by omega), decide_eq_false (by omega)]; rfl
theorem LK_up {F F' G : Nat → Int32} {n o : Nat} (h : LK F G n o 0) (e : ∀ i, ¬ i = o → F' i = F i) : LK F' G n o 0 := fun t i ht hi => by
  rw [h t i ht hi, if_neg (by omega)]
  by_cases c : i = o
  · rw [decide_eq_false (by omega)]; rfl
  · rw [e i c]
theorem LK_s {F G G' : Nat → Int32} {n o s : Nat} {z1 z2 z3 w : Int32} (h : LK F G n o s) (hs : s < n) (hn : n ≤ 16) (ho : o < 16) (e1 : z1 = F o >>> (nI s &&& 31)) (e2 : z2 = z1 &&& 1) (e3 : z3 = z2 <<< (nI o &&& 31)) (ew : w = G s ||| z3) (hw : G' s = w) (hG : ∀ t, ¬ t = s → G' t = G t) : LK F G' n o (s + 1) := fun t i ht hi => by
  by_cases c : t = s
  · rw [c, hw, ew, bt_or, h s i hs hi, bt_lt1 (by omega) (by omega) e1 e2 e3 i (by omega), if_neg (by omega), if_pos (by omega)]
    by_cases c2 : i = o
    · rw [c2, decide_eq_false (show ¬ o < o + 0 from by omega), decide_eq_true (rfl : o = o), decide_eq_true (show o < o + 1 from by omega)]; rfl
    · rw [decide_eq_false c2]
      by_cases c3 : i < o
      · rw [decide_eq_true (show i < o + 0 from by omega), decide_eq_true (show i < o + 1 from by omega)]; cases bt (F i) s <;> rfl
      · rw [decide_eq_false (show ¬ i < o + 0 from by omega), decide_eq_false (show ¬ i < o + 1 from by omega)]; rfl
  · rw [hG t c, h t i ht hi]
    by_cases c2 : t < s
    · rw [if_pos c2, if_pos (by omega)]
    · rw [if_neg c2, if_neg (by omega)]
theorem LK_end {F G : Nat → Int32} {n o s : Nat} (h : LK F G n o s) (hs : n ≤ s) : LK F G n (o + 1) 0 := fun t i ht hi => by rw [h t i ht hi, if_pos (by omega), if_neg (by omega)]
theorem LK_ltr {F G : Nat → Int32} {n : Nat} (h : LK F G n n 0) : LTR F G n := fun s o hs ho => by rw [h s o hs ho, if_neg (by omega)]; rfl
/-- how many bits (the reference counts sixteen) -/
theorem pc_16 {m n : Nat} (h : m < 2 ^ n) : ∀ k, pcN m (n + k) = pcN m n := by
  intro k
  induction k with
  | zero => rfl
  | succ k ih =>
    show pcN m (n + k) + (if m.testBit (n + k) = true then 1 else 0) = _
    rw [ih, Nat.testBit_lt_two_pow (Nat.lt_of_lt_of_le h (Nat.pow_le_pow_right (by decide) (by omega)))]
    rfl
theorem tN_i {x : Int32} (h : 0 ≤ x.toInt) : x.toBitVec.toNat = x.toInt.toNat := by have := nn_iff.mp h; omega
/-- what the strips of a mask light together -/
def orL (lit : Nat → Int32) (m k : Nat) (w : Int32) : Prop := ∀ i, i < 32 → (bt w i = true ↔ ∃ o, o < k ∧ m.testBit o = true ∧ bt (lit o) i = true)
theorem orL_0 (lit : Nat → Int32) (m : Nat) : orL lit m 0 0 := fun i _ => by
  rw [bt_0s]
  exact ⟨fun h => absurd h (by decide), fun ⟨o, h, _⟩ => by omega⟩
theorem orL_y {lit : Nat → Int32} {m k : Nat} {w w' l : Int32} (h : orL lit m k w) (hb : m.testBit k = true) (el : l = lit k) (e : w' = w ||| l) : orL lit m (k + 1) w' := fun i hi => by
  rw [e, bt_or, el, Bool.or_eq_true, h i hi]
  constructor
  · rintro (⟨o, h1, h2, h3⟩ | h1)
    · exact ⟨o, by omega, h2, h3⟩
    · exact ⟨k, by omega, hb, h1⟩
  · rintro ⟨o, h1, h2, h3⟩
    rcases (show o < k ∨ o = k from by omega) with q | q
    · exact Or.inl ⟨o, q, h2, h3⟩
    · rw [q] at h3; exact Or.inr h3
theorem orL_n {lit : Nat → Int32} {m k : Nat} {w w' : Int32} (h : orL lit m k w) (hb : ¬ m.testBit k = true) (e : w' = w) : orL lit m (k + 1) w' := fun i hi => by
  rw [e, h i hi]
  constructor
  · rintro ⟨o, h1, h2, h3⟩; exact ⟨o, by omega, h2, h3⟩
  · rintro ⟨o, h1, h2, h3⟩
    rcases (show o < k ∨ o = k from by omega) with q | q
    · exact ⟨o, q, h2, h3⟩
    · rw [q] at h2; exact absurd h2 hb
theorem orL_c {lit : Nat → Int32} {m n : Nat} {w set : Int32} (h : orL lit m n w) : set &&& (w ^^^ (-1)) = 0 ↔ cvr lit n m set := by
  rw [an_0]
  exact ⟨fun q i hi hb => (h i hi).mp (q i hi hb), fun q i hi hb => (h i hi).mpr (q i hi hb)⟩
theorem tb_bt {x : Int32} {m : Nat} (e : x = nI m) (hm : m < 2147483648) (k : Nat) : bt x k = m.testBit k := by rw [e, bt_nI hm]
theorem sh_i : ∀ n : Fin 17, ((1 : Int32) <<< (nI n.val &&& 31)).toInt = ((2 ^ n.val : Nat) : Int) := by decide +kernel
theorem sh_pw {k z : Int32} (hk : 0 ≤ k.toInt ∧ k.toInt ≤ 16) (e : z = 1 <<< (k &&& 31)) : z.toInt = ((2 ^ k.toInt.toNat : Nat) : Int) := by
  rw [e, show k &&& 31 = nI k.toInt.toNat &&& 31 from by rw [← k_nI hk.1]]
  exact sh_i ⟨k.toInt.toNat, by omega⟩
theorem pc_n16 {m n : Nat} (h : m < 2 ^ n) (hn : n ≤ 16) : pcN m 16 = pcN m n := by
  have := pc_16 h (16 - n)
  rw [show n + (16 - n) = 16 from by omega] at this
  exact this
theorem BS_nn {lit : Nat → Int32} {n k : Nat} {set : Int32} {b : Int} (h : BS lit n set k b) : b = -1 ∨ (0 ≤ b ∧ b < (k : Int)) := by
  rcases h with ⟨h1, _⟩ | ⟨c, h1, h2, _, _⟩
  · exact Or.inl h1
  · exact Or.inr (by omega)
