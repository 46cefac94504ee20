theorem el_z {n : Nat} {hi : Int} (h : 0 ≤ hi) : EL (fun _ => 0) n 0 hi := fun j _ => ⟨(show (0 : Int) ≤ (0 : Int32).toInt from by decide), (show (0 : Int32).toInt ≤ hi from by rw [show (0 : Int32).toInt = 0 from by decide]; exact h)⟩
theorem ra_1 {α : Type} (a b : List α) : (List.range a.length).map (fun i => (a ++ b)[i]?) = a.map some := by
  apply List.ext_getElem?
  intro i
  rw [List.getElem?_map, List.getElem?_map]
  rcases Nat.lt_or_ge i a.length with h | h
  · rw [List.getElem?_range h, List.getElem?_eq_getElem h]
    show some ((a ++ b)[i]?) = some (some a[i])
    rw [List.getElem?_append_left h, List.getElem?_eq_getElem h]
  · rw [List.getElem?_eq_none (by rw [List.length_range]; exact h), List.getElem?_eq_none h]
    rfl
theorem ra_0 {α : Type} (a : List α) : (List.range a.length).map (fun i => a[i]?) = a.map some := by
  have h := ra_1 a []
  rw [List.append_nil] at h
  exact h
theorem ra_2 {α : Type} (a b : List α) : ((List.range b.length).map (fun i => a.length + i)).map (fun i => (a ++ b)[i]?) = b.map some := by
  rw [List.map_map, ← ra_0 b]
  refine List.map_congr_left fun i _ => ?_
  show (a ++ b)[a.length + i]? = b[i]?
  rw [List.getElem?_append_right (by omega), show a.length + i - a.length = i from by omega]
theorem nd_iff : ∀ l : List Nat, l.Nodup → va_nd l = true
  | [], _ => rfl
  | a :: l, h => by
    rw [List.nodup_cons] at h
    unfold va_nd
    rw [nd_iff l h.2, Bool.and_true]
    exact decide_eq_true h.1
theorem pm_of {α : Type} {a b : List α} {n : Nat} (is : List Nat) (hs : is.map (fun i => a[i]?) = b.map some) (hn : a.length = n) (hp : is.isPerm (List.range n) = true) : a.Perm b := by
  have h1 : is.Perm (List.range n) := List.isPerm_iff.mp hp
  have h2 := h1.map (fun i => a[i]?)
  rw [hs, ← hn, ra_0] at h2
  have h3 := h2.filterMap id
  rw [List.filterMap_map, List.filterMap_map] at h3
  have e : ∀ l : List α, List.filterMap (id ∘ some) l = l := fun l => by induction l with
    | nil => rfl
    | cons x l ih => show x :: List.filterMap (id ∘ some) l = x :: l; rw [ih]
  rw [e, e] at h3
  exact h3.symm
theorem P_p {D : va_G} {H : Heap} {a b : va_W} (h : va_P D classes a H) (hp : a.Perm b) : va_P D classes b H := by
  intro k q hk
  obtain ⟨n, hn⟩ := List.mem_iff_getElem?.mp (hp.mem_iff.mpr (List.mem_of_getElem? hk))
  exact h n q hn
theorem D_to {A : Nat → Prop} {a : va_W} (h : va_D A a) : (a.map Prod.fst).Nodup := by
  rw [List.nodup_iff_pairwise_ne, List.pairwise_iff_getElem]
  intro i j hi hj hij e
  rw [List.length_map] at hi hj
  rw [List.getElem_map, List.getElem_map] at e
  have := h.1 i j _ _ (List.getElem?_eq_getElem hi) (List.getElem?_eq_getElem hj) e
  omega
theorem D_of {A : Nat → Prop} {a : va_W} (h : (a.map Prod.fst).Nodup) (hA : ∀ q ∈ a, A q.1) : va_D A a := by
  refine ⟨fun i j p q h1 h2 e => ?_, fun k q hk => hA q (List.mem_of_getElem? hk)⟩
  rw [List.nodup_iff_pairwise_ne, List.pairwise_iff_getElem] at h
  obtain ⟨hi, rfl⟩ := List.getElem?_eq_some_iff.mp h1
  obtain ⟨hj, rfl⟩ := List.getElem?_eq_some_iff.mp h2
  rcases Nat.lt_trichotomy i j with g | g | g
  · exact absurd (by rw [List.getElem_map, List.getElem_map]; exact e) (h i j (by rw [List.length_map]; exact hi) (by rw [List.length_map]; exact hj) g)
  · exact g
  · exact absurd (by rw [List.getElem_map, List.getElem_map]; exact e.symm) (h j i (by rw [List.length_map]; exact hj) (by rw [List.length_map]; exact hi) g)
theorem D_p {A : Nat → Prop} {a b : va_W} (h : va_D A a) (hp : a.Perm b) : va_D A b := by
  refine D_of ((hp.map Prod.fst).nodup_iff.mp (D_to h)) (fun q hq => ?_)
  obtain ⟨n, hn⟩ := List.mem_iff_getElem?.mp (hp.mem_iff.mpr hq)
  exact h.2 n q hn
theorem flat_p {α : Type} {a b : List (List α)} (h : a.Perm b) : a.flatten.Perm b.flatten := by
  induction h with
  | nil => exact List.Perm.refl _
  | cons x _ ih => exact List.Perm.append_left x ih
  | swap x y l =>
    show (y ++ (x ++ l.flatten)).Perm (x ++ (y ++ l.flatten))
    rw [← List.append_assoc, ← List.append_assoc]
    exact List.Perm.append_right _ List.perm_append_comm
  | trans _ _ h1 h2 => exact h1.trans h2
theorem P_G {D : va_G} {H : Heap} {Gs Gs' : List va_W} (h : va_P D classes Gs.flatten H) (is : List Nat) {n : Nat} (hs : is.map (fun i => Gs[i]?) = Gs'.map some) (hn : Gs.length = n) (hp : is.isPerm (List.range n) = true) : va_P D classes Gs'.flatten H := P_p h (flat_p (pm_of is hs hn hp))
theorem D_G {A : Nat → Prop} {Gs Gs' : List va_W} (h : va_D A Gs.flatten) (is : List Nat) {n : Nat} (hs : is.map (fun i => Gs[i]?) = Gs'.map some) (hn : Gs.length = n) (hp : is.isPerm (List.range n) = true) : va_D A Gs'.flatten := D_p h (flat_p (pm_of is hs hn hp))
theorem P_E {D : va_G} {H : Heap} {E E' wr : va_W} (h : va_P D classes (E ++ wr) H) (is : List Nat) {n : Nat} (hs : is.map (fun i => E[i]?) = E'.map some) (hn : E.length = n) (hp : is.isPerm (List.range n) = true) : va_P D classes (E' ++ wr) H := P_p h ((pm_of is hs hn hp).append_right wr)
theorem D_E {A : Nat → Prop} {E E' wr : va_W} (h : va_D A (E ++ wr)) (is : List Nat) {n : Nat} (hs : is.map (fun i => E[i]?) = E'.map some) (hn : E.length = n) (hp : is.isPerm (List.range n) = true) : va_D A (E' ++ wr) := D_p h ((pm_of is hs hn hp).append_right wr)
theorem PD_G {D : va_G} {A : Nat → Prop} {H : Heap} {Gs Gs' : List va_W} (h : PD D A Gs.flatten H) (is : List Nat) {n : Nat} (hs : is.map (fun i => Gs[i]?) = Gs'.map some) (hn : Gs.length = n) (hp : is.isPerm (List.range n) = true) : PD D A Gs'.flatten H := ⟨P_G h.1 is hs hn hp, D_G h.2 is hs hn hp⟩
theorem PD_E {D : va_G} {A : Nat → Prop} {H : Heap} {E E' wr : va_W} (h : PD D A (E ++ wr) H) (is : List Nat) {n : Nat} (hs : is.map (fun i => E[i]?) = E'.map some) (hn : E.length = n) (hp : is.isPerm (List.range n) = true) : PD D A (E' ++ wr) H := ⟨P_E h.1 is hs hn hp, D_E h.2 is hs hn hp⟩
theorem xj_p {α : Type} {E wc er wr : List α} {n : Nat} (isC isR : List Nat) (hC : isC.map (fun i => E[i]?) = wc.map some) (hR : isR.map (fun i => E[i]?) = er.map some) (hn : E.length = n) (hp : (isC ++ isR).isPerm (List.range n) = true) : (E ++ wr).Perm (wc ++ (er ++ wr)) := by
  rw [← List.append_assoc]
  exact (pm_of (isC ++ isR) (by rw [List.map_append, hC, hR, List.map_append]) hn hp).append_right wr
theorem xj_d (a b : Nat) : ∀ i ∈ (List.range b).map (fun i => a + i), i ∉ List.range a := by
  intro i hi h
  obtain ⟨k, -, rfl⟩ := List.mem_map.mp hi
  have := List.mem_range.mp h
  omega
theorem xj_n (a b : Nat) : va_nd ((List.range b).map (fun i => a + i)) = true := by
  refine nd_iff _ ?_
  rw [List.nodup_iff_pairwise_ne, List.pairwise_map]
  exact (List.nodup_iff_pairwise_ne.mp List.nodup_range).imp (fun h e => h (by omega))
theorem xj_q {α : Type} (er wr w : List α) : ((er ++ wr) ++ w).Perm ((er ++ w) ++ wr) := by
  rw [List.append_assoc, List.append_assoc]
  exact List.Perm.append_left er List.perm_append_comm
section XJ
variable {p : Program} {l : Launch} {e : Env} {R : Room} {s : State} {m : MethodId} {args : Array Value} {below : List Frame} {meth : Method} {c : Code} {H : Heap} {locs : List Loc} {cells slots : Nat} {Q : State → Prop}
variable {pc : Nat} {ls : Array Slot} {st0 rest : List Value} {D : va_G} {A : Nat → Prop} {E wc er wr : va_W} {H0 : Heap} {n : Nat}
theorem xj_i {S : Type} {post : Int32 → S → Prop} {wo : S → va_W} {mc ms : Nat} {a : Array Value} (hr : va_Run p l e R s m args below meth c H locs cells slots mc ms (F0 m pc ls st0) rest (va_Qi post (fun u t => RW D (va_A wc H.size) (wo u) t) (va_A wc H.size) a) (va_A wc H.size)) (hP : va_P D classes (E ++ wr) H) (hD : va_D A (E ++ wr)) (hS : va_S A H0 H locs) (hA : ∀ q, H0.size ≤ q → A q) (isC isR : List Nat) (hC : isC.map (fun i => E[i]?) = wc.map some) (hR : isR.map (fun i => E[i]?) = er.map some) (hn : E.length = n) (hp : (isC ++ isR).isPerm (List.range n) = true)
    (kk : ∀ (r : Int32) (u : S) (H1 : Heap) (locs1 : List Loc), post r u → va_P D classes ((er ++ wo u) ++ wr) H1 → va_D A ((er ++ wo u) ++ wr) → va_S A H0 H1 locs1 → W p l e R s m args below meth c H1 locs1 (cells + mc) (slots + ms) Q (F0 m (pc + 3) ls (.int r :: rest))) : W p l e R s m args below meth c H locs cells slots Q (F0 m pc ls st0) := by
  have pm := xj_p (wr := wr) isC isR hC hR hn hp
  exact xk_i (wr := er ++ wr) hr (P_p hP pm) (D_p hD pm) hS hA (List.range wc.length) ((List.range (er ++ wr).length).map (fun i => wc.length + i)) (ra_1 _ _) (ra_2 _ _) (xj_n _ _) (xj_d _ _) (fun r u H1 locs1 h hP hD hS => kk r u H1 locs1 h (P_p hP (xj_q _ _ _)) (D_p hD (xj_q _ _ _)) hS)
theorem xj_l {S : Type} {post : Int64 → S → Prop} {wo : S → va_W} {mc ms : Nat} {a : Array Value} (hr : va_Run p l e R s m args below meth c H locs cells slots mc ms (F0 m pc ls st0) rest (va_Ql post (fun u t => RW D (va_A wc H.size) (wo u) t) (va_A wc H.size) a) (va_A wc H.size)) (hP : va_P D classes (E ++ wr) H) (hD : va_D A (E ++ wr)) (hS : va_S A H0 H locs) (hA : ∀ q, H0.size ≤ q → A q) (isC isR : List Nat) (hC : isC.map (fun i => E[i]?) = wc.map some) (hR : isR.map (fun i => E[i]?) = er.map some) (hn : E.length = n) (hp : (isC ++ isR).isPerm (List.range n) = true)
    (kk : ∀ (r : Int64) (u : S) (H1 : Heap) (locs1 : List Loc), post r u → va_P D classes ((er ++ wo u) ++ wr) H1 → va_D A ((er ++ wo u) ++ wr) → va_S A H0 H1 locs1 → W p l e R s m args below meth c H1 locs1 (cells + mc) (slots + ms) Q (F0 m (pc + 3) ls (.long r :: rest))) : W p l e R s m args below meth c H locs cells slots Q (F0 m pc ls st0) := by
  have pm := xj_p (wr := wr) isC isR hC hR hn hp
  exact xk_l (wr := er ++ wr) hr (P_p hP pm) (D_p hD pm) hS hA (List.range wc.length) ((List.range (er ++ wr).length).map (fun i => wc.length + i)) (ra_1 _ _) (ra_2 _ _) (xj_n _ _) (xj_d _ _) (fun r u H1 locs1 h hP hD hS => kk r u H1 locs1 h (P_p hP (xj_q _ _ _)) (D_p hD (xj_q _ _ _)) hS)
theorem xj_v {S : Type} {post : S → Prop} {wo : S → va_W} {mc ms : Nat} {a : Array Value} (hr : va_Run p l e R s m args below meth c H locs cells slots mc ms (F0 m pc ls st0) rest (va_Qv post (fun u t => RW D (va_A wc H.size) (wo u) t) (va_A wc H.size) a) (va_A wc H.size)) (hP : va_P D classes (E ++ wr) H) (hD : va_D A (E ++ wr)) (hS : va_S A H0 H locs) (hA : ∀ q, H0.size ≤ q → A q) (isC isR : List Nat) (hC : isC.map (fun i => E[i]?) = wc.map some) (hR : isR.map (fun i => E[i]?) = er.map some) (hn : E.length = n) (hp : (isC ++ isR).isPerm (List.range n) = true)
    (kk : ∀ (u : S) (H1 : Heap) (locs1 : List Loc), post u → va_P D classes ((er ++ wo u) ++ wr) H1 → va_D A ((er ++ wo u) ++ wr) → va_S A H0 H1 locs1 → W p l e R s m args below meth c H1 locs1 (cells + mc) (slots + ms) Q (F0 m (pc + 3) ls rest)) : W p l e R s m args below meth c H locs cells slots Q (F0 m pc ls st0) := by
  have pm := xj_p (wr := wr) isC isR hC hR hn hp
  exact xk_v (wr := er ++ wr) hr (P_p hP pm) (D_p hD pm) hS hA (List.range wc.length) ((List.range (er ++ wr).length).map (fun i => wc.length + i)) (ra_1 _ _) (ra_2 _ _) (xj_n _ _) (xj_d _ _) (fun u H1 locs1 h hP hD hS => kk u H1 locs1 h (P_p hP (xj_q _ _ _)) (D_p hD (xj_q _ _ _)) hS)
end XJ
theorem pl_or (x n : Int) : (x < 0 ∨ n < x) ∨ (0 ≤ x ∧ x ≤ n) := by omega
theorem pl_n {x n n' b' : Int} (a : (0 ≤ x ∧ x ≤ n ∧ n' = 0) ∨ ((x < 0 ∨ n < x) ∧ n' = n)) (b : (0 ≤ x ∧ x ≤ n ∧ b' = 0) ∨ ((x < 0 ∨ n < x) ∧ b' = n)) : n' = b' := by omega
theorem pl_rel {x n b K V P r s T1 T2 U1 U2 t1 t2 u1 u2 n' b' : Int} (hn : n = b) (h1 : t1 = u1) (h2 : t2 = u2)
    (a0 : (0 ≤ x ∧ x ≤ n ∧ n' = 0) ∨ ((x < 0 ∨ n < x) ∧ n' = n)) (a1 : (x < 0 ∨ n < x) → r = -3) (a2 : (x < 0 ∨ n < x) → T1 = t1) (a3 : (x < 0 ∨ n < x) → T2 = t2) (a4 : (0 ≤ x ∧ x ≤ n) → T1 = K) (a5 : (0 ≤ x ∧ x ≤ n) → K = 0 → T2 = -1) (a6 : (0 ≤ x ∧ x ≤ n) → ¬ K = 0 → T2 = P) (a7 : (0 ≤ x ∧ x ≤ n) → ¬ K = 0 → r = -30 - K) (a8 : (0 ≤ x ∧ x ≤ n) → K = 0 → r = V)
    (b0 : (0 ≤ x ∧ x ≤ b ∧ b' = 0) ∨ ((x < 0 ∨ b < x) ∧ b' = b)) (b1 : (x < 0 ∨ b < x) → s = -3) (b2 : (x < 0 ∨ b < x) → U1 = u1) (b3 : (x < 0 ∨ b < x) → U2 = u2) (b4 : (0 ≤ x ∧ x ≤ b) → U1 = K) (b5 : (0 ≤ x ∧ x ≤ b) → K = 0 → U2 = -1) (b6 : (0 ≤ x ∧ x ≤ b) → ¬ K = 0 → U2 = P) (b7 : (0 ≤ x ∧ x ≤ b) → ¬ K = 0 → s = -30 - K) (b8 : (0 ≤ x ∧ x ≤ b) → K = 0 → s = V) : r = s ∧ n' = b' ∧ T1 = U1 ∧ T2 = U2 := by
  subst hn h1 h2
  rcases pl_or x n with h | h
  · exact ⟨(a1 h).trans (b1 h).symm, pl_n a0 b0, (a2 h).trans (b2 h).symm, (a3 h).trans (b3 h).symm⟩
  · by_cases k : K = 0
    · exact ⟨(a8 h k).trans (b8 h k).symm, pl_n a0 b0, (a4 h).trans (b4 h).symm, (a5 h k).trans (b5 h k).symm⟩
    · exact ⟨(a7 h k).trans (b7 h k).symm, pl_n a0 b0, (a4 h).trans (b4 h).symm, (a6 h k).trans (b6 h k).symm⟩
