theorem z80 : ∀ k : Nat, 0 ≤ ((fun _ : Nat => (0 : Int32)) k).toInt ∧ ((fun _ : Nat => (0 : Int32)) k).toInt ≤ 80 := fun _ => ⟨by show (0 : Int) ≤ (0 : Int32).toInt; decide, by show (0 : Int32).toInt ≤ 80; decide⟩
theorem z60 : ∀ k : Nat, k < 4 → 0 ≤ ((fun _ : Nat => (0 : Int32)) k).toInt ∧ ((fun _ : Nat => (0 : Int32)) k).toInt ≤ 60 := fun _ _ => ⟨by show (0 : Int) ≤ (0 : Int32).toInt; decide, by show (0 : Int32).toInt ≤ 60; decide⟩
theorem rd_i {i z k : Int32} {K : Int} {L : Nat} (hz : z = i + k) (hk : k.toInt = K) (h1 : 0 ≤ K) (h2 : K < 7) (h0 : 0 ≤ i.toInt) (h7 : i.toInt + 7 ≤ (L : Int)) (hL : L ≤ 3584) : z.toInt = i.toInt + K := by
  rw [i_add hz (by omega) (by omega), hk]
theorem rd_in {i z : Int32} {K : Int} {L : Nat} (t : z.toInt = i.toInt + K) (h1 : 0 ≤ K) (h2 : K < 7) (h0 : 0 ≤ i.toInt) (h7 : i.toInt + 7 ≤ (L : Int)) : vp_in z L := vp_in_iff.mpr ⟨by omega, by omega⟩
theorem lv_tope {p : Program} {l : Launch} {e : Env} {R : Room} {s : State} {m : MethodId} {args : Array Value} {below : List Frame} {meth : Method} {c : Code} {H : Heap} {locs : List Loc} {cells slots : Nat} {Q : State → Prop} {pc : Nat} {ls : Array Slot} {rest : List Value} {x v : Int32} (h : x = v) (k : W p l e R s m args below meth c H locs cells slots Q (F0 m pc ls (.int v :: rest))) : W p l e R s m args below meth c H locs cells slots Q (F0 m pc ls (.int x :: rest)) := by
  rw [h]
  exact k
theorem ms_z : ms (fun _ => 0) := ⟨by decide, by decide, fun _ _ _ => ⟨by show (0 : Int) ≤ (0 : Int32).toInt; decide, by show (0 : Int32).toInt ≤ 99999; decide⟩⟩
