theorem p_52 {n : Nat} : (0 ≤ (0 : Int64).toInt ∧ 0 ≤ (52 : Int64).toInt ∧ (0 : Int64).toInt + (52 : Int64).toInt ≤ (n : Int)) ↔ 52 ≤ n := by
  have h1 : (0 : Int64).toInt = 0 := rfl
  have h2 : (52 : Int64).toInt = 52 := rfl
  rw [h1, h2]
  omega
abbrev marked (f : Nat → Int32) : Prop := nbN f 0 1 = 127 ∧ nbN f 1 1 = 69 ∧ nbN f 2 1 = 76 ∧ nbN f 3 1 = 70 ∧ nbN f 4 1 = 1 ∧ nbN f 5 1 = 1 ∧ nbN f 6 1 = 1
