-- rows that keep the rounds short
theorem i4 {x : Int32} (h0 : 0 ≤ x.toInt) (h1 : x.toInt < 4) : x.toInt = 0 ∨ x.toInt = 1 ∨ x.toInt = 2 ∨ x.toInt = 3 := by omega
