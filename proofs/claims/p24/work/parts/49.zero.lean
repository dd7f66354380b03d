theorem z80 : ∀ k : Nat, 0 ≤ ((fun _ : Nat => (0 : Int32)) k).toInt ∧ ((fun _ : Nat => (0 : Int32)) k).toInt ≤ 80 := fun _ => ⟨by show (0 : Int) ≤ (0 : Int32).toInt; decide, by show (0 : Int32).toInt ≤ 80; decide⟩
theorem z60 : ∀ k : Nat, k < 4 → 0 ≤ ((fun _ : Nat => (0 : Int32)) k).toInt ∧ ((fun _ : Nat => (0 : Int32)) k).toInt ≤ 60 := fun _ _ => ⟨by show (0 : Int) ≤ (0 : Int32).toInt; decide, by show (0 : Int32).toInt ≤ 60; decide⟩
theorem lv_tope {p : Program} {l : Launch} {e : Env} {R : Room} {s : State} {m : MethodId} {args : Array Value} {below : List Frame} {meth : Method} {c : Code} {H : Heap} {locs : List Loc} {cells slots : Nat} {Q : State → Prop} {pc : Nat} {ls : Array Slot} {rest : List Value} {x v : Int32} (h : x = v) (k : W p l e R s m args below meth c H locs cells slots Q (F0 m pc ls (.int v :: rest))) : W p l e R s m args below meth c H locs cells slots Q (F0 m pc ls (.int x :: rest)) := by
  rw [h]
  exact k
theorem ms_z : ms (fun _ => 0) := ⟨by decide, by decide, fun _ _ _ => ⟨by show (0 : Int) ≤ (0 : Int32).toInt; decide, by show (0 : Int32).toInt ≤ 99999; decide⟩⟩
