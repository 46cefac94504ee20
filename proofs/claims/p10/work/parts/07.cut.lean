def cutL (so : Int) (v : Int64) : Int64 := if so = 0 then v.toInt32.toInt8.toInt32.toInt64 else if so = 1 then v.toInt32.toInt16.toInt32.toInt64 else if so = 2 then v.toInt32.toInt64 else v
def wrA (y ms so sz : Int) (v : Int64) : Int64 := if ms = 0 then (if 0 ≤ y ∧ y < sz then cutL so v else -7) else -6
def wrB (y so sz : Int) (v : Int64) : Int64 := if so = -1 then -6 else (if 0 ≤ y ∧ y < sz then cutL so v else -7)
theorem wr_eq {y ms so sz so' sz' : Int} (v : Int64) (h : (¬ ms = 0 ∧ so' = -1) ∨ (ms = 0 ∧ 0 ≤ so ∧ so ≤ 3 ∧ so' = so ∧ sz' = sz)) : wrA y ms so sz v = wrB y so' sz' v := by
  unfold wrA wrB
  rcases h with ⟨h1, h2⟩ | ⟨h1, h2, h3, h4, h5⟩
  · rw [if_neg h1, if_pos h2]
  · rw [if_pos h1, h4, h5, if_neg (show ¬ so = -1 from by omega)]
theorem updL_eqI {f : Nat → Int64} {i j : Int32} {w : Int64} {a : Int} (ei : i.toInt = a) (ej : j.toInt = a) : (vp_updL f i.toNatClampNeg w) j.toNatClampNeg = w := if_pos (by show j.toInt.toNat = i.toInt.toNat; omega)
