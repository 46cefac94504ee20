/-- where a fault of the reference stands -/
def WR (t : Int) (G : Nat → Int) : Prop := ¬ G 4 = 0 → t = G 5
