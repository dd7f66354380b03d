theorem z80 : ∀ k : Nat, 0 ≤ ((fun _ : Nat => (0 : Int32)) k).toInt ∧ ((fun _ : Nat => (0 : Int32)) k).toInt ≤ 80 := fun _ => ⟨by show (0 : Int) ≤ (0 : Int32).toInt; decide, by show (0 : Int32).toInt ≤ 80; decide⟩
theorem z60 : ∀ k : Nat, k < 4 → 0 ≤ ((fun _ : Nat => (0 : Int32)) k).toInt ∧ ((fun _ : Nat => (0 : Int32)) k).toInt ≤ 60 := fun _ _ => ⟨by show (0 : Int) ≤ (0 : Int32).toInt; decide, by show (0 : Int32).toInt ≤ 60; decide⟩
theorem ms_z : ms (fun _ => 0) := ⟨by decide, by decide, fun _ _ _ => ⟨by show (0 : Int) ≤ (0 : Int32).toInt; decide, by show (0 : Int32).toInt ≤ 99999; decide⟩⟩
