-- small rows on numbers: a branch of the machine, read over the integers
theorem i_lt {x y : Int32} (h : x < y) : x.toInt < y.toInt := Int32.lt_iff_toInt_lt.mp h
theorem i_nlt {x y : Int32} (h : ¬ x < y) : y.toInt ≤ x.toInt := Int.not_lt.mp (fun q => h (Int32.lt_iff_toInt_lt.mpr q))
theorem i_le {x y : Int32} (h : x ≤ y) : x.toInt ≤ y.toInt := Int32.le_iff_toInt_le.mp h
theorem i_nle {x y : Int32} (h : ¬ x ≤ y) : y.toInt < x.toInt := Int.not_le.mp (fun q => h (Int32.le_iff_toInt_le.mpr q))
theorem i_eq {x y : Int32} (h : x = y) : x.toInt = y.toInt := by rw [h]
theorem i_ne {x y : Int32} (h : ¬ x = y) : ¬ x.toInt = y.toInt := fun q => h (Int32.toInt_inj.mp q)
theorem cj_v (x y : Int64) : (x < y ∧ lg_cmp x y = -1) ∨ (x = y ∧ lg_cmp x y = 0) ∨ (y < x ∧ lg_cmp x y = 1) := by
  by_cases h1 : y < x
  · exact Or.inr (Or.inr ⟨h1, by simp [lg_cmp, h1]⟩)
  · by_cases h2 : x = y
    · exact Or.inr (Or.inl ⟨h2, by simp [lg_cmp, h1, h2]⟩)
    · have h3 : x < y := by
        have a : ¬ y.toInt < x.toInt := fun q => h1 (Int64.lt_iff_toInt_lt.mpr q)
        have b : ¬ x.toInt = y.toInt := fun q => h2 (Int64.toInt_inj.mp q)
        exact Int64.lt_iff_toInt_lt.mpr (by omega)
      exact Or.inl ⟨h3, by simp [lg_cmp, h1, h2]⟩
theorem cj_i (x y : Int64) : (x.toInt < y.toInt ∧ (lg_cmp x y).toInt = -1) ∨ (x.toInt = y.toInt ∧ (lg_cmp x y).toInt = 0) ∨ (y.toInt < x.toInt ∧ (lg_cmp x y).toInt = 1) := by
  rcases cj_v x y with ⟨a, b⟩ | ⟨a, b⟩ | ⟨a, b⟩
  · exact Or.inl ⟨Int64.lt_iff_toInt_lt.mp a, by rw [b]; decide⟩
  · exact Or.inr (Or.inl ⟨by rw [a], by rw [b]; decide⟩)
  · exact Or.inr (Or.inr ⟨Int64.lt_iff_toInt_lt.mp a, by rw [b]; decide⟩)
theorem z_0 : (0 : Int32).toInt = 0 := by decide
theorem cj_lt {x y : Int64} (h : lg_cmp x y < 0) : x.toInt < y.toInt := by
  have a := i_lt h; have b := cj_i x y; rw [z_0] at a; omega
theorem cj_nlt {x y : Int64} (h : ¬ lg_cmp x y < 0) : y.toInt ≤ x.toInt := by
  have a := i_nlt h; have b := cj_i x y; rw [z_0] at a; omega
theorem cj_ge {x y : Int64} (h : 0 ≤ lg_cmp x y) : y.toInt ≤ x.toInt := by
  have a := i_le h; have b := cj_i x y; rw [z_0] at a; omega
theorem cj_nge {x y : Int64} (h : ¬ 0 ≤ lg_cmp x y) : x.toInt < y.toInt := by
  have a := i_nle h; have b := cj_i x y; rw [z_0] at a; omega
theorem cj_gt {x y : Int64} (h : 0 < lg_cmp x y) : y.toInt < x.toInt := by
  have a := i_lt h; have b := cj_i x y; rw [z_0] at a; omega
theorem cj_ngt {x y : Int64} (h : ¬ 0 < lg_cmp x y) : x.toInt ≤ y.toInt := by
  have a := i_nlt h; have b := cj_i x y; rw [z_0] at a; omega
theorem cj_le {x y : Int64} (h : lg_cmp x y ≤ 0) : x.toInt ≤ y.toInt := by
  have a := i_le h; have b := cj_i x y; rw [z_0] at a; omega
theorem cj_nle {x y : Int64} (h : ¬ lg_cmp x y ≤ 0) : y.toInt < x.toInt := by
  have a := i_nle h; have b := cj_i x y; rw [z_0] at a; omega
theorem cj_eq {x y : Int64} (h : lg_cmp x y = 0) : x.toInt = y.toInt := by
  have a := i_eq h; have b := cj_i x y; rw [z_0] at a; omega
theorem cj_ne {x y : Int64} (h : ¬ lg_cmp x y = 0) : ¬ x.toInt = y.toInt := by
  have a := i_ne h; have b := cj_i x y; rw [z_0] at a; omega
theorem i_bm {n : Int} (h1 : -2147483648 ≤ n) (h2 : n ≤ 2147483647) : n.bmod (2 ^ 32) = n := by
  rw [Int.bmod_def]
  split <;> omega
theorem i_add {x y z : Int32} (h : z = x + y) (h1 : -2147483648 ≤ x.toInt + y.toInt) (h2 : x.toInt + y.toInt ≤ 2147483647) : z.toInt = x.toInt + y.toInt := by
  rw [h, Int32.toInt_add]
  exact i_bm h1 h2
theorem i_sub {x y z : Int32} (h : z = x - y) (h1 : -2147483648 ≤ x.toInt - y.toInt) (h2 : x.toInt - y.toInt ≤ 2147483647) : z.toInt = x.toInt - y.toInt := by
  rw [h, Int32.toInt_sub]
  exact i_bm h1 h2
theorem i_mul {x y z : Int32} (h : z = x * y) (h1 : -2147483648 ≤ x.toInt * y.toInt) (h2 : x.toInt * y.toInt ≤ 2147483647) : z.toInt = x.toInt * y.toInt := by
  rw [h, Int32.toInt_mul]
  exact i_bm h1 h2
theorem i_nat {x : Int32} {k : Nat} (h : x.toInt = k) : x.toNatClampNeg = k := by
  show x.toInt.toNat = k
  omega
theorem i_natlt {x : Int32} {k : Nat} (h0 : 0 ≤ x.toInt) (h : x.toInt < k) : x.toNatClampNeg < k := by
  show x.toInt.toNat < k
  omega
theorem i_mulc {x y z : Int32} {k : Int} (h : z = x * y) (hx : x.toInt = k) (h1 : -2147483648 ≤ k * y.toInt) (h2 : k * y.toInt ≤ 2147483647) : z.toInt = k * y.toInt := by
  rw [h, Int32.toInt_mul, hx]
  exact i_bm h1 h2
