set_option maxRecDepth 100000 in
set_option maxHeartbeats 4000000 in
/-- Kinds.isKind -/
theorem c_X2_isKind (l : Launch) (dC : Nat → ClassId) (dI : Nat → Nat → Nat) (p0 : Int32) (sz : Nat) : Met l yX2_isKind wsX2_isKind ({ frames := 0, cells := 0, slots := 0, locals := 0 }) (va_Pc [.int p0] (fun U => U.heap.size = sz ∧ va_P (dC, dI) vwCl [] U.heap ∧ va_K (dC, dI) vwCl [] U ∧ va_D (fun _ => True) [])) (va_Qi (fun (r : Int32) (_ : Unit) => (r = 1 ∧ 0 ≤ p0.toInt ∧ p0.toInt < 5) ∨ (r = 0 ∧ ¬(0 ≤ p0.toInt ∧ p0.toInt < 5))) (fun (_ : Unit) (t : State) => va_P (dC, dI) vwCl [] t.heap ∧ va_K (dC, dI) vwCl [] t ∧ va_D (va_A [] sz) []) (va_A [] sz)) 0 0 (va_A [] sz) := by
  refine Met.ofW (cc := cX2_isKind) (maxL := 1) (ret := (some .boolean)) (by decide) rfl ?_
  intro p e s m args below meth c s₁ B hml hv
  obtain ⟨rfl, hsz, hP, hK, hD0⟩ := hv
  have hx := B.exec
  have hb := B.bytes
  have hr := B.returns
  have hts := atoms_spec (ws := wsX2_isKind) B.pre
  have hown : s.vm.findClass RX2 = some m.cls := findClass_of_methodNamed B.named
  have hlocks := B.notSynchronized
  subst hsz
  have hD := hD0.self (sz := s.heap.size)
  generalize hAe : va_A [] s.heap.size = A at hD ⊢
  have hA : ∀ q : Nat, s.heap.size ≤ q → A q := fun q h => by rw [← hAe]; exact Or.inr h
  have hS : va_S A s.heap s.heap [] := va_S.rf
  have hP : va_P (dC, dI) vwCl [] s.heap := hP
  have hl := lv_entry ([.int p0]) (n := 1) (Nat.le_of_ble_eq_true rfl)
  rw [lg_entry_eq]
  generalize (lg_sl ([.int p0]) ++ List.replicate (1 - (lg_sl ([.int p0])).length) Slot.unset).toArray = ls at hl ⊢
  have hl : lv_has ls 1 [(0, .int p0)] := hl
  suffices key9 : ∀ Q9 : State → Prop, Q9 = (MQ below (va_Qi (fun (r : Int32) (_ : Unit) => (r = 1 ∧ 0 ≤ p0.toInt ∧ p0.toInt < 5) ∨ (r = 0 ∧ ¬(0 ≤ p0.toInt ∧ p0.toInt < 5))) (fun (_ : Unit) (t : State) => va_P (dC, dI) vwCl [] t.heap ∧ va_K (dC, dI) vwCl [] t ∧ va_D A []) A) (([.int p0] : List Value).toArray) s 0 0 A) → W p l e ({ frames := 0, cells := 0, slots := 0, locals := 0 }) s m (([.int p0] : List Value).toArray) below meth c s.heap [] 0 0 Q9 (F0 m 0 ls []) from key9 _ rfl
  intro Q9 hQ9
  have k_0 : (0 : Int32).toInt = 0 := by decide
  have k_1 : (1 : Int32).toInt = 1 := by decide
  have k_5 : (5 : Int32).toInt = 5 := by decide
  refine lv_iload_n hx hb dX2_isKind_0 rfl (lv_at hl 0 rfl) ?_
  refine lv_if_lt (tgt := 13) hx hb dX2_isKind_1 (by decide) (fun c1 => ?_) (fun c1 => ?_)
  · skip
    have f_c1 := i_lt c1
    refine lv_iconst (v := 0) hx hb dX2_isKind_13 (by decide) ?_
    rw [hQ9]
    exact W.zret (v := 0) hx hb hr (by decide) (fun t ht hW => ⟨⟨0, (), rfl, Or.inr (⟨rfl, by first | trivial | omega⟩), by rw [ht]; exact hP, va_K.moved hW.alike hK, hD⟩, hS.F ht⟩) hS.2.2 dX2_isKind_14
  · skip
    have f_c1 := i_nlt c1
    refine lv_iload_n hx hb dX2_isKind_4 rfl (lv_at hl 0 rfl) ?_
    refine lv_iconst (v := 5) hx hb dX2_isKind_5 (by decide) ?_
    refine lv_icmp_ge (tgt := 13) hx hb dX2_isKind_6 (by decide) (fun c2 => ?_) (fun c2 => ?_)
    · skip
      have f_c2 := i_le c2
      refine lv_iconst (v := 0) hx hb dX2_isKind_13 (by decide) ?_
      rw [hQ9]
      exact W.zret (v := 0) hx hb hr (by decide) (fun t ht hW => ⟨⟨0, (), rfl, Or.inr (⟨rfl, by first | trivial | omega⟩), by rw [ht]; exact hP, va_K.moved hW.alike hK, hD⟩, hS.F ht⟩) hS.2.2 dX2_isKind_14
    · skip
      have f_c2 := i_nle c2
      refine lv_iconst (v := 1) hx hb dX2_isKind_9 (by decide) ?_
      refine lv_goto (tgt := 14) hx hb dX2_isKind_10 (by decide) ?_
      rw [hQ9]
      exact W.zret (v := 1) hx hb hr (by decide) (fun t ht hW => ⟨⟨1, (), rfl, Or.inl ⟨rfl, by first | trivial | omega⟩, by rw [ht]; exact hP, va_K.moved hW.alike hK, hD⟩, hS.F ht⟩) hS.2.2 dX2_isKind_14

set_option maxRecDepth 100000 in
set_option maxHeartbeats 4000000 in
/-- Kinds.feeOf -/
theorem c_X2_feeOf (l : Launch) (dC : Nat → ClassId) (dI : Nat → Nat → Nat) (p0 : Int32) (p1 : Int32) (sz : Nat) : Met l yX2_feeOf wsX2_feeOf ({ frames := 0, cells := 0, slots := 0, locals := 0 }) (va_Pc [.int p0, .int p1] (fun U => U.heap.size = sz ∧ va_P (dC, dI) vwCl [] U.heap ∧ va_K (dC, dI) vwCl [] U ∧ va_D (fun _ => True) [])) (va_Qi (fun (r : Int32) (_ : Unit) => True) (fun (_ : Unit) (t : State) => va_P (dC, dI) vwCl [] t.heap ∧ va_K (dC, dI) vwCl [] t ∧ va_D (va_A [] sz) []) (va_A [] sz)) 0 0 (va_A [] sz) := by
  refine Met.ofW (cc := cX2_feeOf) (maxL := 2) (ret := (some .int)) (by decide) rfl ?_
  intro p e s m args below meth c s₁ B hml hv
  obtain ⟨rfl, hsz, hP, hK, hD0⟩ := hv
  have hx := B.exec
  have hb := B.bytes
  have hr := B.returns
  have hts := atoms_spec (ws := wsX2_feeOf) B.pre
  have hown : s.vm.findClass RX2 = some m.cls := findClass_of_methodNamed B.named
  have hlocks := B.notSynchronized
  subst hsz
  have hD := hD0.self (sz := s.heap.size)
  generalize hAe : va_A [] s.heap.size = A at hD ⊢
  have hA : ∀ q : Nat, s.heap.size ≤ q → A q := fun q h => by rw [← hAe]; exact Or.inr h
  have hS : va_S A s.heap s.heap [] := va_S.rf
  have hP : va_P (dC, dI) vwCl [] s.heap := hP
  have hl := lv_entry ([.int p0, .int p1]) (n := 2) (Nat.le_of_ble_eq_true rfl)
  rw [lg_entry_eq]
  generalize (lg_sl ([.int p0, .int p1]) ++ List.replicate (2 - (lg_sl ([.int p0, .int p1])).length) Slot.unset).toArray = ls at hl ⊢
  have hl : lv_has ls 2 [(0, .int p0), (1, .int p1)] := hl
  suffices key9 : ∀ Q9 : State → Prop, Q9 = (MQ below (va_Qi (fun (r : Int32) (_ : Unit) => True) (fun (_ : Unit) (t : State) => va_P (dC, dI) vwCl [] t.heap ∧ va_K (dC, dI) vwCl [] t ∧ va_D A []) A) (([.int p0, .int p1] : List Value).toArray) s 0 0 A) → W p l e ({ frames := 0, cells := 0, slots := 0, locals := 0 }) s m (([.int p0, .int p1] : List Value).toArray) below meth c s.heap [] 0 0 Q9 (F0 m 0 ls []) from key9 _ rfl
  intro Q9 hQ9
  have k_0 : (0 : Int32).toInt = 0 := by decide
  have k_1 : (1 : Int32).toInt = 1 := by decide
  have k_4 : (4 : Int32).toInt = 4 := by decide
  have k_10 : (10 : Int32).toInt = 10 := by decide
  refine lv_iload_n hx hb dX2_feeOf_0 rfl (lv_at hl 0 rfl) ?_
  rcases Decidable.em (p0 = 1) with c1 | c1
  · refine lv_lookup (off := 27) (tgt := 28) hx hb dX2_feeOf_1 (by decide) (by rw [c1]; decide) (by decide) ?_
    have f_c1 := i_eq c1
    refine lv_iconst (v := 1) hx hb dX2_feeOf_28 (by decide) ?_
    rw [hQ9]
    exact W.iret (v := 1) hx hb hr (fun t ht hW => ⟨⟨1, (), rfl, (by first | rfl | trivial), by rw [ht]; exact hP, va_K.moved hW.alike hK, hD⟩, hS.F ht⟩) hS.2.2 dX2_feeOf_29
  have f_c1 := i_ne c1
  rcases Decidable.em (p0 = 4) with c2 | c2
  · refine lv_lookup (off := 29) (tgt := 30) hx hb dX2_feeOf_1 (by decide) (by rw [c2]; decide) (by decide) ?_
    have f_c2 := i_eq c2
    refine lv_iload_n hx hb dX2_feeOf_30 rfl (lv_at hl 1 rfl) ?_
    refine lv_bipush (v := 10) hx hb dX2_feeOf_31 (by decide) ?_
    refine lv_idiv hx hb dX2_feeOf_33 (by decide) ?_
    refine lv_topi (fun z3 e_z3 => ?_)
    refine lv_iconst (v := 1) hx hb dX2_feeOf_34 (by decide) ?_
    refine lv_iadd hx hb dX2_feeOf_35 ?_
    refine lv_topi (fun z4 e_z4 => ?_)
    rw [hQ9]
    exact W.iret (v := z4) hx hb hr (fun t ht hW => ⟨⟨z4, (), rfl, (by first | rfl | trivial), by rw [ht]; exact hP, va_K.moved hW.alike hK, hD⟩, hS.F ht⟩) hS.2.2 dX2_feeOf_36
  have f_c2 := i_ne c2
  refine lv_lookup (off := 36) (tgt := 37) hx hb dX2_feeOf_1 (by decide) (by rw [lv_osw c1 (by decide), lv_osw c2 (by decide)]; rfl) (by decide) ?_
  refine lv_iconst (v := 0) hx hb dX2_feeOf_37 (by decide) ?_
  rw [hQ9]
  exact W.iret (v := 0) hx hb hr (fun t ht hW => ⟨⟨0, (), rfl, (by first | rfl | trivial), by rw [ht]; exact hP, va_K.moved hW.alike hK, hD⟩, hS.F ht⟩) hS.2.2 dX2_feeOf_38

set_option maxRecDepth 100000 in
set_option maxHeartbeats 4000000 in
/-- Kinds.floorOf -/
theorem c_X2_floorOf (l : Launch) (dC : Nat → ClassId) (dI : Nat → Nat → Nat) (p0 : Int32) (p1 : Int32) (sz : Nat) : Met l yX2_floorOf wsX2_floorOf ({ frames := 0, cells := 0, slots := 0, locals := 0 }) (va_Pc [.int p0, .int p1] (fun U => U.heap.size = sz ∧ va_P (dC, dI) vwCl [] U.heap ∧ va_K (dC, dI) vwCl [] U ∧ va_D (fun _ => True) [])) (va_Qi (fun (r : Int32) (_ : Unit) => True) (fun (_ : Unit) (t : State) => va_P (dC, dI) vwCl [] t.heap ∧ va_K (dC, dI) vwCl [] t ∧ va_D (va_A [] sz) []) (va_A [] sz)) 0 0 (va_A [] sz) := by
  refine Met.ofW (cc := cX2_floorOf) (maxL := 2) (ret := (some .int)) (by decide) rfl ?_
  intro p e s m args below meth c s₁ B hml hv
  obtain ⟨rfl, hsz, hP, hK, hD0⟩ := hv
  have hx := B.exec
  have hb := B.bytes
  have hr := B.returns
  have hts := atoms_spec (ws := wsX2_floorOf) B.pre
  have hown : s.vm.findClass RX2 = some m.cls := findClass_of_methodNamed B.named
  have hlocks := B.notSynchronized
  subst hsz
  have hD := hD0.self (sz := s.heap.size)
  generalize hAe : va_A [] s.heap.size = A at hD ⊢
  have hA : ∀ q : Nat, s.heap.size ≤ q → A q := fun q h => by rw [← hAe]; exact Or.inr h
  have hS : va_S A s.heap s.heap [] := va_S.rf
  have hP : va_P (dC, dI) vwCl [] s.heap := hP
  have hl := lv_entry ([.int p0, .int p1]) (n := 2) (Nat.le_of_ble_eq_true rfl)
  rw [lg_entry_eq]
  generalize (lg_sl ([.int p0, .int p1]) ++ List.replicate (2 - (lg_sl ([.int p0, .int p1])).length) Slot.unset).toArray = ls at hl ⊢
  have hl : lv_has ls 2 [(0, .int p0), (1, .int p1)] := hl
  suffices key9 : ∀ Q9 : State → Prop, Q9 = (MQ below (va_Qi (fun (r : Int32) (_ : Unit) => True) (fun (_ : Unit) (t : State) => va_P (dC, dI) vwCl [] t.heap ∧ va_K (dC, dI) vwCl [] t ∧ va_D A []) A) (([.int p0, .int p1] : List Value).toArray) s 0 0 A) → W p l e ({ frames := 0, cells := 0, slots := 0, locals := 0 }) s m (([.int p0, .int p1] : List Value).toArray) below meth c s.heap [] 0 0 Q9 (F0 m 0 ls []) from key9 _ rfl
  intro Q9 hQ9
  have k_0 : (0 : Int32).toInt = 0 := by decide
  have k_1 : (1 : Int32).toInt = 1 := by decide
  have k_2 : (2 : Int32).toInt = 2 := by decide
  have k_3 : (3 : Int32).toInt = 3 := by decide
  have k_10 : (10 : Int32).toInt = 10 := by decide
  refine lv_iload_n hx hb dX2_floorOf_0 rfl (lv_at hl 0 rfl) ?_
  rcases Decidable.em (p0 = 1) with c1 | c1
  · refine lv_tableIn (off := 27) (tgt := 28) hx hb dX2_floorOf_1 (by rw [c1]; decide) (by rw [c1]; decide) (by rw [c1]; decide) (by decide) ?_
    have f_c1 := i_eq c1
    refine lv_bipush (v := 10) hx hb dX2_floorOf_28 (by decide) ?_
    rw [hQ9]
    exact W.iret (v := 10) hx hb hr (fun t ht hW => ⟨⟨10, (), rfl, (by first | rfl | trivial), by rw [ht]; exact hP, va_K.moved hW.alike hK, hD⟩, hS.F ht⟩) hS.2.2 dX2_floorOf_30
  have f_c1 := i_ne c1
  rcases Decidable.em (p0 = 2) with c2 | c2
  · refine lv_tableIn (off := 30) (tgt := 31) hx hb dX2_floorOf_1 (by rw [c2]; decide) (by rw [c2]; decide) (by rw [c2]; decide) (by decide) ?_
    have f_c2 := i_eq c2
    refine lv_iload_n hx hb dX2_floorOf_31 rfl (lv_at hl 1 rfl) ?_
    refine lv_ineg hx hb dX2_floorOf_32 ?_
    refine lv_topi (fun z3 e_z3 => ?_)
    rw [hQ9]
    exact W.iret (v := z3) hx hb hr (fun t ht hW => ⟨⟨z3, (), rfl, (by first | rfl | trivial), by rw [ht]; exact hP, va_K.moved hW.alike hK, hD⟩, hS.F ht⟩) hS.2.2 dX2_floorOf_33
  have f_c2 := i_ne c2
  rcases Decidable.em (p0 = 3) with c4 | c4
  · refine lv_tableIn (off := 33) (tgt := 34) hx hb dX2_floorOf_1 (by rw [c4]; decide) (by rw [c4]; decide) (by rw [c4]; decide) (by decide) ?_
    have f_c4 := i_eq c4
    refine lv_iload_n hx hb dX2_floorOf_34 rfl (lv_at hl 1 rfl) ?_
    refine lv_ineg hx hb dX2_floorOf_35 ?_
    refine lv_topi (fun z5 e_z5 => ?_)
    refine lv_iload_n hx hb dX2_floorOf_36 rfl (lv_at hl 1 rfl) ?_
    refine lv_isub hx hb dX2_floorOf_37 ?_
    refine lv_topi (fun z6 e_z6 => ?_)
    rw [hQ9]
    exact W.iret (v := z6) hx hb hr (fun t ht hW => ⟨⟨z6, (), rfl, (by first | rfl | trivial), by rw [ht]; exact hP, va_K.moved hW.alike hK, hD⟩, hS.F ht⟩) hS.2.2 dX2_floorOf_38
  have f_c4 := i_ne c4
  refine lv_tableOut (tgt := 39) hx hb dX2_floorOf_1 (by omega) (by decide) ?_
  refine lv_iconst (v := 0) hx hb dX2_floorOf_39 (by decide) ?_
  rw [hQ9]
  exact W.iret (v := 0) hx hb hr (fun t ht hW => ⟨⟨0, (), rfl, (by first | rfl | trivial), by rw [ht]; exact hP, va_K.moved hW.alike hK, hD⟩, hS.F ht⟩) hS.2.2 dX2_floorOf_40

set_option maxRecDepth 100000 in
set_option maxHeartbeats 4000000 in
/-- Kinds.isOrIsUnder -/
theorem c_X2_isOrIsUnder (l : Launch) (dC : Nat → ClassId) (dI : Nat → Nat → Nat) (p0 : Int32) (p1 : Int32) (sz : Nat) : Met l yX2_isOrIsUnder wsX2_isOrIsUnder ({ frames := 0, cells := 0, slots := 0, locals := 0 }) (va_Pc [.int p0, .int p1] (fun U => U.heap.size = sz ∧ va_P (dC, dI) vwCl [] U.heap ∧ va_K (dC, dI) vwCl [] U ∧ va_D (fun _ => True) [])) (va_Qi (fun (r : Int32) (_ : Unit) => (r = 1 ∧ (p0.toInt = p1.toInt ∨ p1.toInt = 0 ∨ (p0.toInt = 3 ∧ p1.toInt = 2) ∨ (p0.toInt = 4 ∧ p1.toInt = 1))) ∨ (r = 0 ∧ ¬((p0.toInt = p1.toInt ∨ p1.toInt = 0 ∨ (p0.toInt = 3 ∧ p1.toInt = 2) ∨ (p0.toInt = 4 ∧ p1.toInt = 1))))) (fun (_ : Unit) (t : State) => va_P (dC, dI) vwCl [] t.heap ∧ va_K (dC, dI) vwCl [] t ∧ va_D (va_A [] sz) []) (va_A [] sz)) 0 0 (va_A [] sz) := by
  refine Met.ofW (cc := cX2_isOrIsUnder) (maxL := 2) (ret := (some .boolean)) (by decide) rfl ?_
  intro p e s m args below meth c s₁ B hml hv
  obtain ⟨rfl, hsz, hP, hK, hD0⟩ := hv
  have hx := B.exec
  have hb := B.bytes
  have hr := B.returns
  have hts := atoms_spec (ws := wsX2_isOrIsUnder) B.pre
  have hown : s.vm.findClass RX2 = some m.cls := findClass_of_methodNamed B.named
  have hlocks := B.notSynchronized
  subst hsz
  have hD := hD0.self (sz := s.heap.size)
  generalize hAe : va_A [] s.heap.size = A at hD ⊢
  have hA : ∀ q : Nat, s.heap.size ≤ q → A q := fun q h => by rw [← hAe]; exact Or.inr h
  have hS : va_S A s.heap s.heap [] := va_S.rf
  have hP : va_P (dC, dI) vwCl [] s.heap := hP
  have hl := lv_entry ([.int p0, .int p1]) (n := 2) (Nat.le_of_ble_eq_true rfl)
  rw [lg_entry_eq]
  generalize (lg_sl ([.int p0, .int p1]) ++ List.replicate (2 - (lg_sl ([.int p0, .int p1])).length) Slot.unset).toArray = ls at hl ⊢
  have hl : lv_has ls 2 [(0, .int p0), (1, .int p1)] := hl
  suffices key9 : ∀ Q9 : State → Prop, Q9 = (MQ below (va_Qi (fun (r : Int32) (_ : Unit) => (r = 1 ∧ (p0.toInt = p1.toInt ∨ p1.toInt = 0 ∨ (p0.toInt = 3 ∧ p1.toInt = 2) ∨ (p0.toInt = 4 ∧ p1.toInt = 1))) ∨ (r = 0 ∧ ¬((p0.toInt = p1.toInt ∨ p1.toInt = 0 ∨ (p0.toInt = 3 ∧ p1.toInt = 2) ∨ (p0.toInt = 4 ∧ p1.toInt = 1))))) (fun (_ : Unit) (t : State) => va_P (dC, dI) vwCl [] t.heap ∧ va_K (dC, dI) vwCl [] t ∧ va_D A []) A) (([.int p0, .int p1] : List Value).toArray) s 0 0 A) → W p l e ({ frames := 0, cells := 0, slots := 0, locals := 0 }) s m (([.int p0, .int p1] : List Value).toArray) below meth c s.heap [] 0 0 Q9 (F0 m 0 ls []) from key9 _ rfl
  intro Q9 hQ9
  have k_0 : (0 : Int32).toInt = 0 := by decide
  have k_1 : (1 : Int32).toInt = 1 := by decide
  have k_2 : (2 : Int32).toInt = 2 := by decide
  have k_3 : (3 : Int32).toInt = 3 := by decide
  have k_4 : (4 : Int32).toInt = 4 := by decide
  refine lv_iload_n hx hb dX2_isOrIsUnder_0 rfl (lv_at hl 0 rfl) ?_
  refine lv_iload_n hx hb dX2_isOrIsUnder_1 rfl (lv_at hl 1 rfl) ?_
  refine lv_icmp_eq (tgt := 9) hx hb dX2_isOrIsUnder_2 (by decide) (fun c1 => ?_) (fun c1 => ?_)
  · skip
    have f_c1 := i_eq c1
    refine lv_iconst (v := 1) hx hb dX2_isOrIsUnder_9 (by decide) ?_
    rw [hQ9]
    exact W.zret (v := 1) hx hb hr (by decide) (fun t ht hW => ⟨⟨1, (), rfl, Or.inl ⟨rfl, by first | trivial | omega⟩, by rw [ht]; exact hP, va_K.moved hW.alike hK, hD⟩, hS.F ht⟩) hS.2.2 dX2_isOrIsUnder_10
  · skip
    have f_c1 := i_ne c1
    refine lv_iload_n hx hb dX2_isOrIsUnder_5 rfl (lv_at hl 1 rfl) ?_
    refine lv_if_ne (tgt := 11) hx hb dX2_isOrIsUnder_6 (by decide) (fun c2 => ?_) (fun c2 => ?_)
    · skip
      have f_c2 := i_ne c2
      refine lv_iload_n hx hb dX2_isOrIsUnder_11 rfl (lv_at hl 0 rfl) ?_
      refine lv_iconst (v := 3) hx hb dX2_isOrIsUnder_12 (by decide) ?_
      refine lv_icmp_ne (tgt := 21) hx hb dX2_isOrIsUnder_13 (by decide) (fun c3 => ?_) (fun c3 => ?_)
      · skip
        have f_c3 := i_ne c3
        refine lv_iload_n hx hb dX2_isOrIsUnder_21 rfl (lv_at hl 0 rfl) ?_
        refine lv_iconst (v := 4) hx hb dX2_isOrIsUnder_22 (by decide) ?_
        refine lv_icmp_ne (tgt := 35) hx hb dX2_isOrIsUnder_23 (by decide) (fun c4 => ?_) (fun c4 => ?_)
        · skip
          have f_c4 := i_ne c4
          refine lv_iconst (v := 0) hx hb dX2_isOrIsUnder_35 (by decide) ?_
          rw [hQ9]
          exact W.zret (v := 0) hx hb hr (by decide) (fun t ht hW => ⟨⟨0, (), rfl, Or.inr (⟨rfl, by first | trivial | omega⟩), by rw [ht]; exact hP, va_K.moved hW.alike hK, hD⟩, hS.F ht⟩) hS.2.2 dX2_isOrIsUnder_36
        · skip
          have f_c4 := i_eq c4
          refine lv_iload_n hx hb dX2_isOrIsUnder_26 rfl (lv_at hl 1 rfl) ?_
          refine lv_iconst (v := 1) hx hb dX2_isOrIsUnder_27 (by decide) ?_
          refine lv_icmp_ne (tgt := 35) hx hb dX2_isOrIsUnder_28 (by decide) (fun c5 => ?_) (fun c5 => ?_)
          · skip
            have f_c5 := i_ne c5
            refine lv_iconst (v := 0) hx hb dX2_isOrIsUnder_35 (by decide) ?_
            rw [hQ9]
            exact W.zret (v := 0) hx hb hr (by decide) (fun t ht hW => ⟨⟨0, (), rfl, Or.inr (⟨rfl, by first | trivial | omega⟩), by rw [ht]; exact hP, va_K.moved hW.alike hK, hD⟩, hS.F ht⟩) hS.2.2 dX2_isOrIsUnder_36
          · skip
            have f_c5 := i_eq c5
            refine lv_iconst (v := 1) hx hb dX2_isOrIsUnder_31 (by decide) ?_
            refine lv_goto (tgt := 36) hx hb dX2_isOrIsUnder_32 (by decide) ?_
            rw [hQ9]
            exact W.zret (v := 1) hx hb hr (by decide) (fun t ht hW => ⟨⟨1, (), rfl, Or.inl ⟨rfl, by first | trivial | omega⟩, by rw [ht]; exact hP, va_K.moved hW.alike hK, hD⟩, hS.F ht⟩) hS.2.2 dX2_isOrIsUnder_36
      · skip
        have f_c3 := i_eq c3
        refine lv_iload_n hx hb dX2_isOrIsUnder_16 rfl (lv_at hl 1 rfl) ?_
        refine lv_iconst (v := 2) hx hb dX2_isOrIsUnder_17 (by decide) ?_
        refine lv_icmp_eq (tgt := 31) hx hb dX2_isOrIsUnder_18 (by decide) (fun c6 => ?_) (fun c6 => ?_)
        · skip
          have f_c6 := i_eq c6
          refine lv_iconst (v := 1) hx hb dX2_isOrIsUnder_31 (by decide) ?_
          refine lv_goto (tgt := 36) hx hb dX2_isOrIsUnder_32 (by decide) ?_
          rw [hQ9]
          exact W.zret (v := 1) hx hb hr (by decide) (fun t ht hW => ⟨⟨1, (), rfl, Or.inl ⟨rfl, by first | trivial | omega⟩, by rw [ht]; exact hP, va_K.moved hW.alike hK, hD⟩, hS.F ht⟩) hS.2.2 dX2_isOrIsUnder_36
        · skip
          have f_c6 := i_ne c6
          refine lv_iload_n hx hb dX2_isOrIsUnder_21 rfl (lv_at hl 0 rfl) ?_
          refine lv_iconst (v := 4) hx hb dX2_isOrIsUnder_22 (by decide) ?_
          refine lv_icmp_ne (tgt := 35) hx hb dX2_isOrIsUnder_23 (by decide) (fun c7 => ?_) (fun c7 => ?_)
          · skip
            have f_c7 := i_ne c7
            refine lv_iconst (v := 0) hx hb dX2_isOrIsUnder_35 (by decide) ?_
            rw [hQ9]
            exact W.zret (v := 0) hx hb hr (by decide) (fun t ht hW => ⟨⟨0, (), rfl, Or.inr (⟨rfl, by first | trivial | omega⟩), by rw [ht]; exact hP, va_K.moved hW.alike hK, hD⟩, hS.F ht⟩) hS.2.2 dX2_isOrIsUnder_36
          · skip
            have f_c7 := i_eq c7
            exfalso; omega
    · skip
      have f_c2 := i_eq c2
      refine lv_iconst (v := 1) hx hb dX2_isOrIsUnder_9 (by decide) ?_
      rw [hQ9]
      exact W.zret (v := 1) hx hb hr (by decide) (fun t ht hW => ⟨⟨1, (), rfl, Or.inl ⟨rfl, by first | trivial | omega⟩, by rw [ht]; exact hP, va_K.moved hW.alike hK, hD⟩, hS.F ht⟩) hS.2.2 dX2_isOrIsUnder_10

set_option maxRecDepth 100000 in
set_option maxHeartbeats 4000000 in
/-- isWithin -/
theorem c_X9_isWithin (l : Launch) (dC : Nat → ClassId) (dI : Nat → Nat → Nat) (p0 : Int32) (p1 : Int32) (sz : Nat) : Met l yX9_isWithin wsX9_isWithin ({ frames := 0, cells := 0, slots := 0, locals := 0 }) (va_Pc [.int p0, .int p1] (fun U => U.heap.size = sz ∧ va_P (dC, dI) vwCl [] U.heap ∧ va_K (dC, dI) vwCl [] U ∧ va_D (fun _ => True) [])) (va_Qi (fun (r : Int32) (_ : Unit) => (r = 1 ∧ 0 ≤ p0.toInt ∧ p0.toInt ≤ p1.toInt) ∨ (r = 0 ∧ ¬(0 ≤ p0.toInt ∧ p0.toInt ≤ p1.toInt))) (fun (_ : Unit) (t : State) => va_P (dC, dI) vwCl [] t.heap ∧ va_K (dC, dI) vwCl [] t ∧ va_D (va_A [] sz) []) (va_A [] sz)) 0 0 (va_A [] sz) := by
  refine Met.ofW (cc := cX9_isWithin) (maxL := 2) (ret := (some .boolean)) (by decide) rfl ?_
  intro p e s m args below meth c s₁ B hml hv
  obtain ⟨rfl, hsz, hP, hK, hD0⟩ := hv
  have hx := B.exec
  have hb := B.bytes
  have hr := B.returns
  have hts := atoms_spec (ws := wsX9_isWithin) B.pre
  have hown : s.vm.findClass RX9 = some m.cls := findClass_of_methodNamed B.named
  have hlocks := B.notSynchronized
  subst hsz
  have hD := hD0.self (sz := s.heap.size)
  generalize hAe : va_A [] s.heap.size = A at hD ⊢
  have hA : ∀ q : Nat, s.heap.size ≤ q → A q := fun q h => by rw [← hAe]; exact Or.inr h
  have hS : va_S A s.heap s.heap [] := va_S.rf
  have hP : va_P (dC, dI) vwCl [] s.heap := hP
  have hl := lv_entry ([.int p0, .int p1]) (n := 2) (Nat.le_of_ble_eq_true rfl)
  rw [lg_entry_eq]
  generalize (lg_sl ([.int p0, .int p1]) ++ List.replicate (2 - (lg_sl ([.int p0, .int p1])).length) Slot.unset).toArray = ls at hl ⊢
  have hl : lv_has ls 2 [(0, .int p0), (1, .int p1)] := hl
  suffices key9 : ∀ Q9 : State → Prop, Q9 = (MQ below (va_Qi (fun (r : Int32) (_ : Unit) => (r = 1 ∧ 0 ≤ p0.toInt ∧ p0.toInt ≤ p1.toInt) ∨ (r = 0 ∧ ¬(0 ≤ p0.toInt ∧ p0.toInt ≤ p1.toInt))) (fun (_ : Unit) (t : State) => va_P (dC, dI) vwCl [] t.heap ∧ va_K (dC, dI) vwCl [] t ∧ va_D A []) A) (([.int p0, .int p1] : List Value).toArray) s 0 0 A) → W p l e ({ frames := 0, cells := 0, slots := 0, locals := 0 }) s m (([.int p0, .int p1] : List Value).toArray) below meth c s.heap [] 0 0 Q9 (F0 m 0 ls []) from key9 _ rfl
  intro Q9 hQ9
  have k_0 : (0 : Int32).toInt = 0 := by decide
  have k_1 : (1 : Int32).toInt = 1 := by decide
  refine lv_iload_n hx hb dX9_isWithin_0 rfl (lv_at hl 0 rfl) ?_
  refine lv_if_lt (tgt := 13) hx hb dX9_isWithin_1 (by decide) (fun c1 => ?_) (fun c1 => ?_)
  · skip
    have f_c1 := i_lt c1
    refine lv_iconst (v := 0) hx hb dX9_isWithin_13 (by decide) ?_
    rw [hQ9]
    exact W.zret (v := 0) hx hb hr (by decide) (fun t ht hW => ⟨⟨0, (), rfl, Or.inr (⟨rfl, by first | trivial | omega⟩), by rw [ht]; exact hP, va_K.moved hW.alike hK, hD⟩, hS.F ht⟩) hS.2.2 dX9_isWithin_14
  · skip
    have f_c1 := i_nlt c1
    refine lv_iload_n hx hb dX9_isWithin_4 rfl (lv_at hl 0 rfl) ?_
    refine lv_iload_n hx hb dX9_isWithin_5 rfl (lv_at hl 1 rfl) ?_
    refine lv_icmp_gt (tgt := 13) hx hb dX9_isWithin_6 (by decide) (fun c2 => ?_) (fun c2 => ?_)
    · skip
      have f_c2 := i_lt c2
      refine lv_iconst (v := 0) hx hb dX9_isWithin_13 (by decide) ?_
      rw [hQ9]
      exact W.zret (v := 0) hx hb hr (by decide) (fun t ht hW => ⟨⟨0, (), rfl, Or.inr (⟨rfl, by first | trivial | omega⟩), by rw [ht]; exact hP, va_K.moved hW.alike hK, hD⟩, hS.F ht⟩) hS.2.2 dX9_isWithin_14
    · skip
      have f_c2 := i_nlt c2
      refine lv_iconst (v := 1) hx hb dX9_isWithin_9 (by decide) ?_
      refine lv_goto (tgt := 14) hx hb dX9_isWithin_10 (by decide) ?_
      rw [hQ9]
      exact W.zret (v := 1) hx hb hr (by decide) (fun t ht hW => ⟨⟨1, (), rfl, Or.inl ⟨rfl, by first | trivial | omega⟩, by rw [ht]; exact hP, va_K.moved hW.alike hK, hD⟩, hS.F ht⟩) hS.2.2 dX9_isWithin_14

set_option maxRecDepth 100000 in
set_option maxHeartbeats 4000000 in
/-- isByte -/
theorem c_X9_isByte (l : Launch) (dC : Nat → ClassId) (dI : Nat → Nat → Nat) (p0 : Int32) (sz : Nat) : Met l yX9_isByte wsX9_isByte ({ frames := 1, cells := 0, slots := 0, locals := 21 }) (va_Pc [.int p0] (fun U => U.heap.size = sz ∧ va_P (dC, dI) vwCl [] U.heap ∧ va_K (dC, dI) vwCl [] U ∧ va_D (fun _ => True) [])) (va_Qi (fun (r : Int32) (_ : Unit) => (r = 1 ∧ 0 ≤ p0.toInt ∧ p0.toInt ≤ 255) ∨ (r = 0 ∧ ¬(0 ≤ p0.toInt ∧ p0.toInt ≤ 255))) (fun (_ : Unit) (t : State) => va_P (dC, dI) vwCl [] t.heap ∧ va_K (dC, dI) vwCl [] t ∧ va_D (va_A [] sz) []) (va_A [] sz)) 0 0 (va_A [] sz) := by
  refine Met.ofW (cc := cX9_isByte) (maxL := 1) (ret := (some .boolean)) (by decide) rfl ?_
  intro p e s m args below meth c s₁ B hml hv
  obtain ⟨rfl, hsz, hP, hK, hD0⟩ := hv
  have hx := B.exec
  have hb := B.bytes
  have hr := B.returns
  have hts := atoms_spec (ws := wsX9_isByte) B.pre
  have hown : s.vm.findClass RX9 = some m.cls := findClass_of_methodNamed B.named
  have hlocks := B.notSynchronized
  subst hsz
  have hD := hD0.self (sz := s.heap.size)
  generalize hAe : va_A [] s.heap.size = A at hD ⊢
  have hA : ∀ q : Nat, s.heap.size ≤ q → A q := fun q h => by rw [← hAe]; exact Or.inr h
  have hS : va_S A s.heap s.heap [] := va_S.rf
  have hP : va_P (dC, dI) vwCl [] s.heap := hP
  have hl := lv_entry ([.int p0]) (n := 1) (Nat.le_of_ble_eq_true rfl)
  rw [lg_entry_eq]
  generalize (lg_sl ([.int p0]) ++ List.replicate (1 - (lg_sl ([.int p0])).length) Slot.unset).toArray = ls at hl ⊢
  have hl : lv_has ls 1 [(0, .int p0)] := hl
  suffices key9 : ∀ Q9 : State → Prop, Q9 = (MQ below (va_Qi (fun (r : Int32) (_ : Unit) => (r = 1 ∧ 0 ≤ p0.toInt ∧ p0.toInt ≤ 255) ∨ (r = 0 ∧ ¬(0 ≤ p0.toInt ∧ p0.toInt ≤ 255))) (fun (_ : Unit) (t : State) => va_P (dC, dI) vwCl [] t.heap ∧ va_K (dC, dI) vwCl [] t ∧ va_D A []) A) (([.int p0] : List Value).toArray) s 0 0 A) → W p l e ({ frames := 1, cells := 0, slots := 0, locals := 21 }) s m (([.int p0] : List Value).toArray) below meth c s.heap [] 0 0 Q9 (F0 m 0 ls []) from key9 _ rfl
  intro Q9 hQ9
  have k_0 : (0 : Int32).toInt = 0 := by decide
  have k_1 : (1 : Int32).toInt = 1 := by decide
  have k_255 : (255 : Int32).toInt = 255 := by decide
  refine lv_iload_n hx hb dX9_isByte_0 rfl (lv_at hl 0 rfl) ?_
  refine lv_sipush (v := 255) hx hb dX9_isByte_1 (by decide) ?_
  obtain ⟨hPc, hDc, hFc, hCm, hNw⟩ := C_s (wc := []) hP hD hS hA [] 0 rfl (by decide +kernel) rfl
  have hKc := K_s (tys' := []) hK [] rfl
  refine va_calli (va_runS (As := [.int p0, .int 255]) (rest := []) ⟨hx, hb, hml, hown, hts⟩ (c_X9_isWithin l dC dI p0 255 s.heap.size) (va_cwS 2 hts gX9_isByte_X9_isWithin rfl rfl rfl (by decide +kernel) ⟨Nat.le_of_ble_eq_true rfl, Nat.le_of_ble_eq_true rfl⟩) ⟨fun a U g mk q => by obtain ⟨q0, q1, qP, qK, qD⟩ := q; exact ⟨q0, q1, qP, va_K.moved (u := U) (U := U.calling g mk a) (Vm.Alike.refl U.vm) qK, qD⟩, fun U hU hW => ⟨rfl, by rw [hU], by rw [hU]; exact hPc, va_K.moved hW.alike hKc, hDc.weaken (fun _ _ _ _ => trivial)⟩⟩ rfl rfl hl.1 rfl (lv_room (Nat.le_of_ble_eq_true rfl)) dX9_isByte_4 ⟨Nat.le_of_ble_eq_true rfl, Nat.le_of_ble_eq_true rfl⟩) hS (fun q _ h => hFc q h) hFc (fun r1 u t H1 locs ht hvm hw hB hz1 hk1 hS => ?_)
  obtain ⟨hP1, hK1, hD1⟩ := hB
  rw [ht] at hP1
  have hK1 := va_K.moved hvm.symm hK1
  try dsimp only at hw
  obtain ⟨hP, hD⟩ := J_s (wL := []) hP hD [] [] hCm hNw (by decide +kernel) hk1 hFc hP1 hD1 rfl
  have hK := KJ_s (tys' := []) hK hK1 [] rfl
  generalize H1 = H at hP hS ⊢
  rcases hw with ⟨e_r1, f_r1⟩ | ⟨e_r1, f_r1⟩
  · subst e_r1
    rw [hQ9]
    exact W.zret (v := 1) hx hb hr (by decide) (fun t ht hW => ⟨⟨1, (), rfl, Or.inl ⟨rfl, by first | trivial | omega⟩, by rw [ht]; exact hP, va_K.moved hW.alike hK, hD⟩, hS.F ht⟩) hS.2.2 dX9_isByte_7
  · subst e_r1
    rw [hQ9]
    exact W.zret (v := 0) hx hb hr (by decide) (fun t ht hW => ⟨⟨0, (), rfl, Or.inr (⟨rfl, by first | trivial | omega⟩), by rw [ht]; exact hP, va_K.moved hW.alike hK, hD⟩, hS.F ht⟩) hS.2.2 dX9_isByte_7

set_option maxRecDepth 100000 in
set_option maxHeartbeats 4000000 in
/-- isSheet -/
theorem c_X9_isSheet (l : Launch) (dC : Nat → ClassId) (dI : Nat → Nat → Nat) (p0 : Int32) (sz : Nat) : Met l yX9_isSheet wsX9_isSheet ({ frames := 0, cells := 0, slots := 0, locals := 0 }) (va_Pc [.int p0] (fun U => U.heap.size = sz ∧ va_P (dC, dI) vwCl [] U.heap ∧ va_K (dC, dI) vwCl [] U ∧ va_D (fun _ => True) [])) (va_Qi (fun (r : Int32) (_ : Unit) => (r = 1 ∧ 0 ≤ p0.toInt ∧ p0.toInt < 4) ∨ (r = 0 ∧ ¬(0 ≤ p0.toInt ∧ p0.toInt < 4))) (fun (_ : Unit) (t : State) => va_P (dC, dI) vwCl [] t.heap ∧ va_K (dC, dI) vwCl [] t ∧ va_D (va_A [] sz) []) (va_A [] sz)) 0 0 (va_A [] sz) := by
  refine Met.ofW (cc := cX9_isSheet) (maxL := 1) (ret := (some .boolean)) (by decide) rfl ?_
  intro p e s m args below meth c s₁ B hml hv
  obtain ⟨rfl, hsz, hP, hK, hD0⟩ := hv
  have hx := B.exec
  have hb := B.bytes
  have hr := B.returns
  have hts := atoms_spec (ws := wsX9_isSheet) B.pre
  have hown : s.vm.findClass RX9 = some m.cls := findClass_of_methodNamed B.named
  have hlocks := B.notSynchronized
  subst hsz
  have hD := hD0.self (sz := s.heap.size)
  generalize hAe : va_A [] s.heap.size = A at hD ⊢
  have hA : ∀ q : Nat, s.heap.size ≤ q → A q := fun q h => by rw [← hAe]; exact Or.inr h
  have hS : va_S A s.heap s.heap [] := va_S.rf
  have hP : va_P (dC, dI) vwCl [] s.heap := hP
  have hl := lv_entry ([.int p0]) (n := 1) (Nat.le_of_ble_eq_true rfl)
  rw [lg_entry_eq]
  generalize (lg_sl ([.int p0]) ++ List.replicate (1 - (lg_sl ([.int p0])).length) Slot.unset).toArray = ls at hl ⊢
  have hl : lv_has ls 1 [(0, .int p0)] := hl
  suffices key9 : ∀ Q9 : State → Prop, Q9 = (MQ below (va_Qi (fun (r : Int32) (_ : Unit) => (r = 1 ∧ 0 ≤ p0.toInt ∧ p0.toInt < 4) ∨ (r = 0 ∧ ¬(0 ≤ p0.toInt ∧ p0.toInt < 4))) (fun (_ : Unit) (t : State) => va_P (dC, dI) vwCl [] t.heap ∧ va_K (dC, dI) vwCl [] t ∧ va_D A []) A) (([.int p0] : List Value).toArray) s 0 0 A) → W p l e ({ frames := 0, cells := 0, slots := 0, locals := 0 }) s m (([.int p0] : List Value).toArray) below meth c s.heap [] 0 0 Q9 (F0 m 0 ls []) from key9 _ rfl
  intro Q9 hQ9
  have k_0 : (0 : Int32).toInt = 0 := by decide
  have k_1 : (1 : Int32).toInt = 1 := by decide
  have k_4 : (4 : Int32).toInt = 4 := by decide
  refine lv_iload_n hx hb dX9_isSheet_0 rfl (lv_at hl 0 rfl) ?_
  refine lv_if_lt (tgt := 13) hx hb dX9_isSheet_1 (by decide) (fun c1 => ?_) (fun c1 => ?_)
  · skip
    have f_c1 := i_lt c1
    refine lv_iconst (v := 0) hx hb dX9_isSheet_13 (by decide) ?_
    rw [hQ9]
    exact W.zret (v := 0) hx hb hr (by decide) (fun t ht hW => ⟨⟨0, (), rfl, Or.inr (⟨rfl, by first | trivial | omega⟩), by rw [ht]; exact hP, va_K.moved hW.alike hK, hD⟩, hS.F ht⟩) hS.2.2 dX9_isSheet_14
  · skip
    have f_c1 := i_nlt c1
    refine lv_iload_n hx hb dX9_isSheet_4 rfl (lv_at hl 0 rfl) ?_
    refine lv_iconst (v := 4) hx hb dX9_isSheet_5 (by decide) ?_
    refine lv_icmp_ge (tgt := 13) hx hb dX9_isSheet_6 (by decide) (fun c2 => ?_) (fun c2 => ?_)
    · skip
      have f_c2 := i_le c2
      refine lv_iconst (v := 0) hx hb dX9_isSheet_13 (by decide) ?_
      rw [hQ9]
      exact W.zret (v := 0) hx hb hr (by decide) (fun t ht hW => ⟨⟨0, (), rfl, Or.inr (⟨rfl, by first | trivial | omega⟩), by rw [ht]; exact hP, va_K.moved hW.alike hK, hD⟩, hS.F ht⟩) hS.2.2 dX9_isSheet_14
    · skip
      have f_c2 := i_nle c2
      refine lv_iconst (v := 1) hx hb dX9_isSheet_9 (by decide) ?_
      refine lv_goto (tgt := 14) hx hb dX9_isSheet_10 (by decide) ?_
      rw [hQ9]
      exact W.zret (v := 1) hx hb hr (by decide) (fun t ht hW => ⟨⟨1, (), rfl, Or.inl ⟨rfl, by first | trivial | omega⟩, by rw [ht]; exact hP, va_K.moved hW.alike hK, hD⟩, hS.F ht⟩) hS.2.2 dX9_isSheet_14

set_option maxRecDepth 100000 in
set_option maxHeartbeats 4000000 in
/-- Books.has -/
theorem c_X0_has (l : Launch) (dC : Nat → ClassId) (dI : Nat → Nat → Nat) (h0 : Nat) (p0 : Int32) (v0 : Value) (v1 : Value) (v2 : Value) (v3 : Value) (v4 : Value) (v5 : Value) (v6 : Value) (acc : Int32) (v8 : Value) (v9 : Value) (v10 : Value) (v11 : Value) (v12 : Value) (sz : Nat) : Met l yX0_has wsX0_has ({ frames := 0, cells := 0, slots := 0, locals := 0 }) (va_Pc [.ref h0, .int p0] (fun U => U.heap.size = sz ∧ va_P (dC, dI) vwCl [eO h0 0 [v0, v1, v2, v3, v4, v5, v6, .int acc, v8, v9, v10, v11, v12]] U.heap ∧ va_K (dC, dI) vwCl [] U ∧ va_D (fun _ => True) [eO h0 0 [v0, v1, v2, v3, v4, v5, v6, .int acc, v8, v9, v10, v11, v12]])) (va_Qi (fun (r : Int32) (_ : Unit) => (r = 1 ∧ 0 ≤ p0.toInt ∧ p0.toInt < acc.toInt) ∨ (r = 0 ∧ ¬(0 ≤ p0.toInt ∧ p0.toInt < acc.toInt))) (fun (_ : Unit) (t : State) => va_P (dC, dI) vwCl [eO h0 0 [v0, v1, v2, v3, v4, v5, v6, .int acc, v8, v9, v10, v11, v12]] t.heap ∧ va_K (dC, dI) vwCl [] t ∧ va_D (va_A [eO h0 0 [v0, v1, v2, v3, v4, v5, v6, .int acc, v8, v9, v10, v11, v12]] sz) [eO h0 0 [v0, v1, v2, v3, v4, v5, v6, .int acc, v8, v9, v10, v11, v12]]) (va_A [eO h0 0 [v0, v1, v2, v3, v4, v5, v6, .int acc, v8, v9, v10, v11, v12]] sz)) 0 0 (va_A [eO h0 0 [v0, v1, v2, v3, v4, v5, v6, .int acc, v8, v9, v10, v11, v12]] sz) := by
  refine Met.ofW (cc := cX0_has) (maxL := 2) (ret := (some .boolean)) (by decide) rfl ?_
  intro p e s m args below meth c s₁ B hml hv
  obtain ⟨rfl, hsz, hP, hK, hD0⟩ := hv
  have hx := B.exec
  have hb := B.bytes
  have hr := B.returns
  have hts := atoms_spec (ws := wsX0_has) B.pre
  have hown : s.vm.findClass RX0 = some m.cls := findClass_of_methodNamed B.named
  have hlocks := B.notSynchronized
  subst hsz
  have hD := hD0.self (sz := s.heap.size)
  generalize hAe : va_A [eO h0 0 [v0, v1, v2, v3, v4, v5, v6, .int acc, v8, v9, v10, v11, v12]] s.heap.size = A at hD ⊢
  have hA : ∀ q : Nat, s.heap.size ≤ q → A q := fun q h => by rw [← hAe]; exact Or.inr h
  have hS : va_S A s.heap s.heap [] := va_S.rf
  have hP : va_P (dC, dI) vwCl [eO h0 0 [v0, v1, v2, v3, v4, v5, v6, .int acc, v8, v9, v10, v11, v12]] s.heap := hP
  have hl := lv_entry ([.ref h0, .int p0]) (n := 2) (Nat.le_of_ble_eq_true rfl)
  rw [lg_entry_eq]
  generalize (lg_sl ([.ref h0, .int p0]) ++ List.replicate (2 - (lg_sl ([.ref h0, .int p0])).length) Slot.unset).toArray = ls at hl ⊢
  have hl : lv_has ls 2 [(0, .ref h0), (1, .int p0)] := hl
  suffices key9 : ∀ Q9 : State → Prop, Q9 = (MQ below (va_Qi (fun (r : Int32) (_ : Unit) => (r = 1 ∧ 0 ≤ p0.toInt ∧ p0.toInt < acc.toInt) ∨ (r = 0 ∧ ¬(0 ≤ p0.toInt ∧ p0.toInt < acc.toInt))) (fun (_ : Unit) (t : State) => va_P (dC, dI) vwCl [eO h0 0 [v0, v1, v2, v3, v4, v5, v6, .int acc, v8, v9, v10, v11, v12]] t.heap ∧ va_K (dC, dI) vwCl [] t ∧ va_D A [eO h0 0 [v0, v1, v2, v3, v4, v5, v6, .int acc, v8, v9, v10, v11, v12]]) A) (([.ref h0, .int p0] : List Value).toArray) s 0 0 A) → W p l e ({ frames := 0, cells := 0, slots := 0, locals := 0 }) s m (([.ref h0, .int p0] : List Value).toArray) below meth c s.heap [] 0 0 Q9 (F0 m 0 ls []) from key9 _ rfl
  intro Q9 hQ9
  have k_0 : (0 : Int32).toInt = 0 := by decide
  have k_1 : (1 : Int32).toInt = 1 := by decide
  refine lv_iload_n hx hb dX0_has_0 rfl (lv_at hl 1 rfl) ?_
  refine lv_if_lt (tgt := 16) hx hb dX0_has_1 (by decide) (fun c1 => ?_) (fun c1 => ?_)
  · skip
    have f_c1 := i_lt c1
    refine lv_iconst (v := 0) hx hb dX0_has_16 (by decide) ?_
    rw [hQ9]
    exact W.zret (v := 0) hx hb hr (by decide) (fun t ht hW => ⟨⟨0, (), rfl, Or.inr (⟨rfl, by first | trivial | omega⟩), by rw [ht]; exact hP, va_K.moved hW.alike hK, hD⟩, hS.F ht⟩) hS.2.2 dX0_has_17
  · skip
    have f_c1 := i_nlt c1
    refine lv_iload_n hx hb dX0_has_4 rfl (lv_at hl 1 rfl) ?_
    refine lv_aload_n hx hb dX0_has_5 rfl (lv_at hl 0 rfl) ?_
    refine va_get (D := (dC, dI)) (ci := 0) (v := .int acc) (C := RX0) (T := TX0) (N := 13) hx hb hts (fun w h => List.mem_cons_of_mem _ (inlX0 w h)) hown hK hP 0 rfl rfl 7 (by decide) (hts (.fieldLink RX0 34 "ClearingGates$Books" "accounts" "I") (List.mem_cons_of_mem _ mw_112)) (fun _ h9 => h9) rfl dX0_has_6 ?_
    refine lv_icmp_ge (tgt := 16) hx hb dX0_has_9 (by decide) (fun c2 => ?_) (fun c2 => ?_)
    · skip
      have f_c2 := i_le c2
      refine lv_iconst (v := 0) hx hb dX0_has_16 (by decide) ?_
      rw [hQ9]
      exact W.zret (v := 0) hx hb hr (by decide) (fun t ht hW => ⟨⟨0, (), rfl, Or.inr (⟨rfl, by first | trivial | omega⟩), by rw [ht]; exact hP, va_K.moved hW.alike hK, hD⟩, hS.F ht⟩) hS.2.2 dX0_has_17
    · skip
      have f_c2 := i_nle c2
      refine lv_iconst (v := 1) hx hb dX0_has_12 (by decide) ?_
      refine lv_goto (tgt := 17) hx hb dX0_has_13 (by decide) ?_
      rw [hQ9]
      exact W.zret (v := 1) hx hb hr (by decide) (fun t ht hW => ⟨⟨1, (), rfl, Or.inl ⟨rfl, by first | trivial | omega⟩, by rw [ht]; exact hP, va_K.moved hW.alike hK, hD⟩, hS.F ht⟩) hS.2.2 dX0_has_17
