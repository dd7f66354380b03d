-- small rows on numbers: a branch of the machine, read over the integers
theorem i_lt {x y : Int32} (h : x < y) : x.toInt < y.toInt := Int32.lt_iff_toInt_lt.mp h
theorem i_nlt {x y : Int32} (h : ¬ x < y) : y.toInt ≤ x.toInt := Int.not_lt.mp (fun q => h (Int32.lt_iff_toInt_lt.mpr q))
theorem i_le {x y : Int32} (h : x ≤ y) : x.toInt ≤ y.toInt := Int32.le_iff_toInt_le.mp h
theorem i_nle {x y : Int32} (h : ¬ x ≤ y) : y.toInt < x.toInt := Int.not_le.mp (fun q => h (Int32.le_iff_toInt_le.mpr q))
theorem i_eq {x y : Int32} (h : x = y) : x.toInt = y.toInt := by rw [h]
theorem i_ne {x y : Int32} (h : ¬ x = y) : ¬ x.toInt = y.toInt := fun q => h (Int32.toInt_inj.mp q)
theorem cj_v (x y : Int64) : (x < y ∧ lg_cmp x y = -1) ∨ (x = y ∧ lg_cmp x y = 0) ∨ (y < x ∧ lg_cmp x y = 1) := by
  by_cases h1 : y < x
  · exact Or.inr (Or.inr ⟨h1, by simp [lg_cmp, h1]⟩)
  · by_cases h2 : x = y
    · exact Or.inr (Or.inl ⟨h2, by simp [lg_cmp, h1, h2]⟩)
    · have h3 : x < y := by
        have a : ¬ y.toInt < x.toInt := fun q => h1 (Int64.lt_iff_toInt_lt.mpr q)
        have b : ¬ x.toInt = y.toInt := fun q => h2 (Int64.toInt_inj.mp q)
        exact Int64.lt_iff_toInt_lt.mpr (by omega)
      exact Or.inl ⟨h3, by simp [lg_cmp, h1, h2]⟩
theorem cj_i (x y : Int64) : (x.toInt < y.toInt ∧ (lg_cmp x y).toInt = -1) ∨ (x.toInt = y.toInt ∧ (lg_cmp x y).toInt = 0) ∨ (y.toInt < x.toInt ∧ (lg_cmp x y).toInt = 1) := by
  rcases cj_v x y with ⟨a, b⟩ | ⟨a, b⟩ | ⟨a, b⟩
  · exact Or.inl ⟨Int64.lt_iff_toInt_lt.mp a, by rw [b]; decide⟩
  · exact Or.inr (Or.inl ⟨by rw [a], by rw [b]; decide⟩)
  · exact Or.inr (Or.inr ⟨Int64.lt_iff_toInt_lt.mp a, by rw [b]; decide⟩)
theorem z_0 : (0 : Int32).toInt = 0 := by decide
theorem cj_lt {x y : Int64} (h : lg_cmp x y < 0) : x.toInt < y.toInt := by
  have a := i_lt h; have b := cj_i x y; rw [z_0] at a; omega
theorem cj_nlt {x y : Int64} (h : ¬ lg_cmp x y < 0) : y.toInt ≤ x.toInt := by
  have a := i_nlt h; have b := cj_i x y; rw [z_0] at a; omega
theorem cj_ge {x y : Int64} (h : 0 ≤ lg_cmp x y) : y.toInt ≤ x.toInt := by
  have a := i_le h; have b := cj_i x y; rw [z_0] at a; omega
theorem cj_nge {x y : Int64} (h : ¬ 0 ≤ lg_cmp x y) : x.toInt < y.toInt := by
  have a := i_nle h; have b := cj_i x y; rw [z_0] at a; omega
theorem cj_gt {x y : Int64} (h : 0 < lg_cmp x y) : y.toInt < x.toInt := by
  have a := i_lt h; have b := cj_i x y; rw [z_0] at a; omega
theorem cj_ngt {x y : Int64} (h : ¬ 0 < lg_cmp x y) : x.toInt ≤ y.toInt := by
  have a := i_nlt h; have b := cj_i x y; rw [z_0] at a; omega
theorem cj_le {x y : Int64} (h : lg_cmp x y ≤ 0) : x.toInt ≤ y.toInt := by
  have a := i_le h; have b := cj_i x y; rw [z_0] at a; omega
theorem cj_nle {x y : Int64} (h : ¬ lg_cmp x y ≤ 0) : y.toInt < x.toInt := by
  have a := i_nle h; have b := cj_i x y; rw [z_0] at a; omega
theorem cj_eq {x y : Int64} (h : lg_cmp x y = 0) : x.toInt = y.toInt := by
  have a := i_eq h; have b := cj_i x y; rw [z_0] at a; omega
theorem cj_ne {x y : Int64} (h : ¬ lg_cmp x y = 0) : ¬ x.toInt = y.toInt := by
  have a := i_ne h; have b := cj_i x y; rw [z_0] at a; omega
theorem i_bm {n : Int} (h1 : -2147483648 ≤ n) (h2 : n ≤ 2147483647) : n.bmod (2 ^ 32) = n := by
  rw [Int.bmod_def]
  split <;> omega
theorem i_add {x y z : Int32} (h : z = x + y) (h1 : -2147483648 ≤ x.toInt + y.toInt) (h2 : x.toInt + y.toInt ≤ 2147483647) : z.toInt = x.toInt + y.toInt := by
  rw [h, Int32.toInt_add]
  exact i_bm h1 h2
theorem i_sub {x y z : Int32} (h : z = x - y) (h1 : -2147483648 ≤ x.toInt - y.toInt) (h2 : x.toInt - y.toInt ≤ 2147483647) : z.toInt = x.toInt - y.toInt := by
  rw [h, Int32.toInt_sub]
  exact i_bm h1 h2
theorem i_mul {x y z : Int32} (h : z = x * y) (h1 : -2147483648 ≤ x.toInt * y.toInt) (h2 : x.toInt * y.toInt ≤ 2147483647) : z.toInt = x.toInt * y.toInt := by
  rw [h, Int32.toInt_mul]
  exact i_bm h1 h2
theorem i_nat {x : Int32} {k : Nat} (h : x.toInt = k) : x.toNatClampNeg = k := by
  show x.toInt.toNat = k
  omega
theorem i_natlt {x : Int32} {k : Nat} (h0 : 0 ≤ x.toInt) (h : x.toInt < k) : x.toNatClampNeg < k := by
  show x.toInt.toNat < k
  omega
theorem i_mulc {x y z : Int32} {k : Int} (h : z = x * y) (hx : x.toInt = k) (h1 : -2147483648 ≤ k * y.toInt) (h2 : k * y.toInt ≤ 2147483647) : z.toInt = k * y.toInt := by
  rw [h, Int32.toInt_mul, hx]
  exact i_bm h1 h2
def inr8 (z : Int32) : Prop := 0 ≤ z.toInt ∧ z.toInt < 8
theorem i_natZ {x : Int32} (h : 0 ≤ x.toInt) : (x.toNatClampNeg : Int) = x.toInt := by
  show (x.toInt.toNat : Int) = x.toInt
  omega
theorem up_in {f : Nat → Int32} {d : Nat} {i x : Int32} (hi : i.toNatClampNeg = d) (hx : inr8 x) (hf : ∀ k : Nat, k < d → inr8 (f k)) : ∀ k : Nat, k < d + 1 → inr8 (upd f i.toNatClampNeg x k) := by
  intro k hk
  unfold upd
  split
  · exact hx
  · exact hf k (by omega)
theorem up_all {f : Nat → Int32} {i x : Int32} (hx : 0 ≤ x.toInt ∧ x.toInt ≤ 80) (hf : ∀ k : Nat, 0 ≤ (f k).toInt ∧ (f k).toInt ≤ 80) : ∀ k : Nat, 0 ≤ (upd f i.toNatClampNeg x k).toInt ∧ (upd f i.toNatClampNeg x k).toInt ≤ 80 := by
  intro k
  unfold upd
  split
  · exact hx
  · exact hf k
theorem up_push {f : Nat → Int32} {i x j : Int32} (h0 : 0 ≤ i.toInt) (hj : j.toInt = i.toInt + 1) (hx : 0 ≤ x.toInt ∧ x.toInt < 80) (hf : ∀ k : Nat, (k : Int) < i.toInt → 0 ≤ (f k).toInt ∧ (f k).toInt < 80) : ∀ k : Nat, (k : Int) < j.toInt → 0 ≤ (upd f i.toNatClampNeg x k).toInt ∧ (upd f i.toNatClampNeg x k).toInt < 80 := by
  intro k hk
  unfold upd
  split
  · exact hx
  · have := i_natZ h0
    exact hf k (by omega)
theorem i_mul8 {x z : Int32} (h : z = x * 8) (h1 : -2147483648 ≤ x.toInt * 8) (h2 : x.toInt * 8 ≤ 2147483647) : z.toInt = x.toInt * 8 := by
  have e : (8 : Int32).toInt = 8 := by decide
  rw [h, Int32.toInt_mul, e]
  exact i_bm h1 h2
section VAM
variable {p : Program} {l : Launch} {e : Env} {R : Room} {s : State} {m : MethodId} {args : Array Value} {below : List Frame} {meth : Method} {c : Code} {H : Heap} {locs : List Loc} {cells slots : Nat} {Q : State → Prop}
variable {cc : ByteArray} {pc : Nat} {ls : Array Slot} {rest : List Value} {D : va_G} {cl : List vw_C} {a : Nat} {tys : List (ClassId × FieldType)} {ws : va_W}
/-- aaload of an array whose items are arrays of ints -/
theorem va_aldm (hexec : p.tables.exec = Jvm.exec) (hb : c.code = cc) (hK : va_K D cl tys s) (hP : va_P D cl ws H) (q0 t0 : Nat) {cA : ClassId} {n : Nat} {f : Nat → Option Nat} (ha : ws[q0]? = some (a, .inl (cA, n, .inr (.inr (.inr (.inr f)))))) (ht : tys[t0]? = some (cA, .array .int)) {i : Int32} (hin : vp_in i n) (hdg : decode cc pc = .ok (.aaload, 1))
    (kk : W p l e R s m args below meth c H locs cells slots Q (F0 m (pc + 1) ls (va_rf (f i.toNatClampNeg) :: rest))) : W p l e R s m args below meth c H locs cells slots Q (F0 m pc ls (.int i :: .ref a :: rest)) := by
  have hlt : i.toNatClampNeg < n := Nat.not_le.mp fun q => hin (Or.inr q)
  exact W.aald (v := va_rf (f i.toNatClampNeg)) (ty := .array .int) hexec hb (hP q0 _ ha) ((hK.2 t0 _ ht).1 n (fun j => va_rf (f j))) rfl (fun q => by cases q) (by show ¬ (i < 0 ∨ (arrV _ _ _).slots.size ≤ _); rw [arrV_size]; exact hin) (by show (arrV _ _ _).slots[_]? = _; rw [arrV_read _ _ hlt]) rfl rfl hdg kk
end VAM
theorem cpy8 {f g : Nat → Int32} (j : Nat) (hj : j < 8) : va_cpy f g (0 : Int32).toNatClampNeg (0 : Int32).toNatClampNeg (8 : Int32).toNatClampNeg j = f j := by
  show va_cpy f g 0 0 8 j = f j
  refine (pk_cpy_in (Nat.zero_le j) (show j < 0 + 8 by omega)).trans ?_
  rw [Nat.sub_zero, Nat.zero_add]
theorem i_min {x y z : Int32} (h : z = if y < x then y else x) : z.toInt ≤ x.toInt ∧ z.toInt ≤ y.toInt ∧ (z.toInt = x.toInt ∨ z.toInt = y.toInt) := by
  rw [h]
  split
  · rename_i q
    have := i_lt q
    omega
  · rename_i q
    have := i_nlt q
    omega
theorem i_max {x y z : Int32} (h : z = if x < y then y else x) : x.toInt ≤ z.toInt ∧ y.toInt ≤ z.toInt ∧ (z.toInt = x.toInt ∨ z.toInt = y.toInt) := by
  rw [h]
  split
  · rename_i q
    have := i_lt q
    omega
  · rename_i q
    have := i_nlt q
    omega
theorem i10 {x : Int32} (h1 : 0 ≤ x.toInt) (h2 : x.toInt ≤ 9) : x = 0 ∨ x = 1 ∨ x = 2 ∨ x = 3 ∨ x = 4 ∨ x = 5 ∨ x = 6 ∨ x = 7 ∨ x = 8 ∨ x = 9 := by
  have e : ∀ k : Int32, x.toInt = k.toInt → x = k := fun k h => Int32.toInt_inj.mp h
  rcases (show x.toInt = 0 ∨ x.toInt = 1 ∨ x.toInt = 2 ∨ x.toInt = 3 ∨ x.toInt = 4 ∨ x.toInt = 5 ∨ x.toInt = 6 ∨ x.toInt = 7 ∨ x.toInt = 8 ∨ x.toInt = 9 by omega) with h | h | h | h | h | h | h | h | h | h
  · exact Or.inl (e 0 h)
  · exact Or.inr (Or.inl (e 1 h))
  · exact Or.inr (Or.inr (Or.inl (e 2 h)))
  · exact Or.inr (Or.inr (Or.inr (Or.inl (e 3 h))))
  · exact Or.inr (Or.inr (Or.inr (Or.inr (Or.inl (e 4 h)))))
  · exact Or.inr (Or.inr (Or.inr (Or.inr (Or.inr (Or.inl (e 5 h))))))
  · exact Or.inr (Or.inr (Or.inr (Or.inr (Or.inr (Or.inr (Or.inl (e 6 h)))))))
  · exact Or.inr (Or.inr (Or.inr (Or.inr (Or.inr (Or.inr (Or.inr (Or.inl (e 7 h))))))))
  · exact Or.inr (Or.inr (Or.inr (Or.inr (Or.inr (Or.inr (Or.inr (Or.inr (Or.inl (e 8 h)))))))))
  · exact Or.inr (Or.inr (Or.inr (Or.inr (Or.inr (Or.inr (Or.inr (Or.inr (Or.inr (e 9 h)))))))))
