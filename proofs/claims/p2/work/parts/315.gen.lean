set_option maxRecDepth 100000 in
set_option maxHeartbeats 4000000 in
/-- Sheet.isMissing -/
theorem c_X7_isMissing (l : Launch) (dC : Nat → ClassId) (dI : Nat → Nat → Nat) (h0 : Nat) (so : Int32) (sn : Int32) (si : Nat) (sz : Nat) : Met l yX7_isMissing wsX7_isMissing ({ frames := 0, cells := 0, slots := 0, locals := 0 }) (va_Pc [.ref h0] (fun U => U.heap.size = sz ∧ va_P (dC, dI) vwCl [eO h0 6 [.int so, .int sn, .ref si]] U.heap ∧ va_K (dC, dI) vwCl [] U ∧ va_D (fun _ => True) [eO h0 6 [.int so, .int sn, .ref si]])) (va_Qi (fun (r : Int32) (_ : Unit) => (r = 1 ∧ (0 : Int) ≤ 0) ∨ (r = 0 ∧ (0 : Int) ≤ 0)) (fun (_ : Unit) (t : State) => va_P (dC, dI) vwCl [eO h0 6 [.int so, .int sn, .ref si]] t.heap ∧ va_K (dC, dI) vwCl [] t ∧ va_D (va_A [eO h0 6 [.int so, .int sn, .ref si]] sz) [eO h0 6 [.int so, .int sn, .ref si]]) (va_A [eO h0 6 [.int so, .int sn, .ref si]] sz)) 0 0 (va_A [eO h0 6 [.int so, .int sn, .ref si]] sz) := by
  refine Met.ofW (cc := cX7_isMissing) (maxL := 1) (ret := (some .boolean)) (by decide) rfl ?_
  intro p e s m args below meth c s₁ B hml hv
  obtain ⟨rfl, hsz, hP, hK, hD0⟩ := hv
  have hx := B.exec
  have hb := B.bytes
  have hr := B.returns
  have hts := atoms_spec (ws := wsX7_isMissing) B.pre
  have hown : s.vm.findClass RX7 = some m.cls := findClass_of_methodNamed B.named
  have hlocks := B.notSynchronized
  subst hsz
  have hD := hD0.self (sz := s.heap.size)
  generalize hAe : va_A [eO h0 6 [.int so, .int sn, .ref si]] s.heap.size = A at hD ⊢
  have hA : ∀ q : Nat, s.heap.size ≤ q → A q := fun q h => by rw [← hAe]; exact Or.inr h
  have hS : va_S A s.heap s.heap [] := va_S.rf
  have hP : va_P (dC, dI) vwCl [eO h0 6 [.int so, .int sn, .ref si]] s.heap := hP
  have hl := lv_entry ([.ref h0]) (n := 1) (Nat.le_of_ble_eq_true rfl)
  rw [lg_entry_eq]
  generalize (lg_sl ([.ref h0]) ++ List.replicate (1 - (lg_sl ([.ref h0])).length) Slot.unset).toArray = ls at hl ⊢
  have hl : lv_has ls 1 [(0, .ref h0)] := hl
  suffices key9 : ∀ Q9 : State → Prop, Q9 = (MQ below (va_Qi (fun (r : Int32) (_ : Unit) => (r = 1 ∧ (0 : Int) ≤ 0) ∨ (r = 0 ∧ (0 : Int) ≤ 0)) (fun (_ : Unit) (t : State) => va_P (dC, dI) vwCl [eO h0 6 [.int so, .int sn, .ref si]] t.heap ∧ va_K (dC, dI) vwCl [] t ∧ va_D A [eO h0 6 [.int so, .int sn, .ref si]]) A) (([.ref h0] : List Value).toArray) s 0 0 A) → W p l e ({ frames := 0, cells := 0, slots := 0, locals := 0 }) s m (([.ref h0] : List Value).toArray) below meth c s.heap [] 0 0 Q9 (F0 m 0 ls []) from key9 _ rfl
  intro Q9 hQ9
  have k_m1 : ((-1) : Int32).toInt = (-1) := by decide
  have k_0 : (0 : Int32).toInt = 0 := by decide
  have k_1 : (1 : Int32).toInt = 1 := by decide
  refine lv_aload_n hx hb dX7_isMissing_0 rfl (lv_at hl 0 rfl) ?_
  refine va_get (D := (dC, dI)) (ci := 6) (v := .int so) (C := RX7) (T := TX7) (N := 3) hx hb hts (fun w h => List.mem_cons_of_mem _ (inlX7 w h)) hown hK hP 0 rfl rfl 0 (by decide) (hts (.fieldLink RX7 11 "ClearingGates$Sheet" "sort" "I") (List.mem_cons_of_mem _ mw_202)) (fun _ h9 => h9) rfl dX7_isMissing_1 ?_
  refine lv_iconst (v := -1) hx hb dX7_isMissing_4 (by decide) ?_
  refine lv_icmp_ne (tgt := 12) hx hb dX7_isMissing_5 (by decide) (fun c1 => ?_) (fun c1 => ?_)
  · skip
    have f_c1 := i_ne c1
    refine lv_iconst (v := 0) hx hb dX7_isMissing_12 (by decide) ?_
    rw [hQ9]
    exact W.zret (v := 0) hx hb hr (by decide) (fun t ht hW => ⟨⟨0, (), rfl, Or.inr (⟨rfl, by first | trivial | omega⟩), by rw [ht]; exact hP, va_K.moved hW.alike hK, hD⟩, hS.F ht⟩) hS.2.2 dX7_isMissing_13
  · skip
    have f_c1 := i_eq c1
    refine lv_iconst (v := 1) hx hb dX7_isMissing_8 (by decide) ?_
    refine lv_goto (tgt := 13) hx hb dX7_isMissing_9 (by decide) ?_
    rw [hQ9]
    exact W.zret (v := 1) hx hb hr (by decide) (fun t ht hW => ⟨⟨1, (), rfl, Or.inl ⟨rfl, by first | trivial | omega⟩, by rw [ht]; exact hP, va_K.moved hW.alike hK, hD⟩, hS.F ht⟩) hS.2.2 dX7_isMissing_13

set_option maxRecDepth 100000 in
set_option maxHeartbeats 4000000 in
/-- Sheet.hasPlace -/
theorem c_X7_hasPlace (l : Launch) (dC : Nat → ClassId) (dI : Nat → Nat → Nat) (h0 : Nat) (p0 : Int32) (so : Int32) (sn : Int32) (si : Nat) (sz : Nat) : Met l yX7_hasPlace wsX7_hasPlace ({ frames := 0, cells := 0, slots := 0, locals := 0 }) (va_Pc [.ref h0, .int p0] (fun U => U.heap.size = sz ∧ va_P (dC, dI) vwCl [eO h0 6 [.int so, .int sn, .ref si]] U.heap ∧ va_K (dC, dI) vwCl [] U ∧ va_D (fun _ => True) [eO h0 6 [.int so, .int sn, .ref si]])) (va_Qi (fun (r : Int32) (_ : Unit) => (r = 1 ∧ 0 ≤ p0.toInt ∧ p0.toInt < sn.toInt) ∨ (r = 0 ∧ ¬(0 ≤ p0.toInt ∧ p0.toInt < sn.toInt))) (fun (_ : Unit) (t : State) => va_P (dC, dI) vwCl [eO h0 6 [.int so, .int sn, .ref si]] t.heap ∧ va_K (dC, dI) vwCl [] t ∧ va_D (va_A [eO h0 6 [.int so, .int sn, .ref si]] sz) [eO h0 6 [.int so, .int sn, .ref si]]) (va_A [eO h0 6 [.int so, .int sn, .ref si]] sz)) 0 0 (va_A [eO h0 6 [.int so, .int sn, .ref si]] sz) := by
  refine Met.ofW (cc := cX7_hasPlace) (maxL := 2) (ret := (some .boolean)) (by decide) rfl ?_
  intro p e s m args below meth c s₁ B hml hv
  obtain ⟨rfl, hsz, hP, hK, hD0⟩ := hv
  have hx := B.exec
  have hb := B.bytes
  have hr := B.returns
  have hts := atoms_spec (ws := wsX7_hasPlace) B.pre
  have hown : s.vm.findClass RX7 = some m.cls := findClass_of_methodNamed B.named
  have hlocks := B.notSynchronized
  subst hsz
  have hD := hD0.self (sz := s.heap.size)
  generalize hAe : va_A [eO h0 6 [.int so, .int sn, .ref si]] s.heap.size = A at hD ⊢
  have hA : ∀ q : Nat, s.heap.size ≤ q → A q := fun q h => by rw [← hAe]; exact Or.inr h
  have hS : va_S A s.heap s.heap [] := va_S.rf
  have hP : va_P (dC, dI) vwCl [eO h0 6 [.int so, .int sn, .ref si]] s.heap := hP
  have hl := lv_entry ([.ref h0, .int p0]) (n := 2) (Nat.le_of_ble_eq_true rfl)
  rw [lg_entry_eq]
  generalize (lg_sl ([.ref h0, .int p0]) ++ List.replicate (2 - (lg_sl ([.ref h0, .int p0])).length) Slot.unset).toArray = ls at hl ⊢
  have hl : lv_has ls 2 [(0, .ref h0), (1, .int p0)] := hl
  suffices key9 : ∀ Q9 : State → Prop, Q9 = (MQ below (va_Qi (fun (r : Int32) (_ : Unit) => (r = 1 ∧ 0 ≤ p0.toInt ∧ p0.toInt < sn.toInt) ∨ (r = 0 ∧ ¬(0 ≤ p0.toInt ∧ p0.toInt < sn.toInt))) (fun (_ : Unit) (t : State) => va_P (dC, dI) vwCl [eO h0 6 [.int so, .int sn, .ref si]] t.heap ∧ va_K (dC, dI) vwCl [] t ∧ va_D A [eO h0 6 [.int so, .int sn, .ref si]]) A) (([.ref h0, .int p0] : List Value).toArray) s 0 0 A) → W p l e ({ frames := 0, cells := 0, slots := 0, locals := 0 }) s m (([.ref h0, .int p0] : List Value).toArray) below meth c s.heap [] 0 0 Q9 (F0 m 0 ls []) from key9 _ rfl
  intro Q9 hQ9
  have k_0 : (0 : Int32).toInt = 0 := by decide
  have k_1 : (1 : Int32).toInt = 1 := by decide
  refine lv_iload_n hx hb dX7_hasPlace_0 rfl (lv_at hl 1 rfl) ?_
  refine lv_if_lt (tgt := 16) hx hb dX7_hasPlace_1 (by decide) (fun c1 => ?_) (fun c1 => ?_)
  · skip
    have f_c1 := i_lt c1
    refine lv_iconst (v := 0) hx hb dX7_hasPlace_16 (by decide) ?_
    rw [hQ9]
    exact W.zret (v := 0) hx hb hr (by decide) (fun t ht hW => ⟨⟨0, (), rfl, Or.inr (⟨rfl, by first | trivial | omega⟩), by rw [ht]; exact hP, va_K.moved hW.alike hK, hD⟩, hS.F ht⟩) hS.2.2 dX7_hasPlace_17
  · skip
    have f_c1 := i_nlt c1
    refine lv_iload_n hx hb dX7_hasPlace_4 rfl (lv_at hl 1 rfl) ?_
    refine lv_aload_n hx hb dX7_hasPlace_5 rfl (lv_at hl 0 rfl) ?_
    refine va_get (D := (dC, dI)) (ci := 6) (v := .int sn) (C := RX7) (T := TX7) (N := 3) hx hb hts (fun w h => List.mem_cons_of_mem _ (inlX7 w h)) hown hK hP 0 rfl rfl 1 (by decide) (hts (.fieldLink RX7 19 "ClearingGates$Sheet" "size" "I") (List.mem_cons_of_mem _ mw_204)) (fun _ h9 => h9) rfl dX7_hasPlace_6 ?_
    refine lv_icmp_ge (tgt := 16) hx hb dX7_hasPlace_9 (by decide) (fun c2 => ?_) (fun c2 => ?_)
    · skip
      have f_c2 := i_le c2
      refine lv_iconst (v := 0) hx hb dX7_hasPlace_16 (by decide) ?_
      rw [hQ9]
      exact W.zret (v := 0) hx hb hr (by decide) (fun t ht hW => ⟨⟨0, (), rfl, Or.inr (⟨rfl, by first | trivial | omega⟩), by rw [ht]; exact hP, va_K.moved hW.alike hK, hD⟩, hS.F ht⟩) hS.2.2 dX7_hasPlace_17
    · skip
      have f_c2 := i_nle c2
      refine lv_iconst (v := 1) hx hb dX7_hasPlace_12 (by decide) ?_
      refine lv_goto (tgt := 17) hx hb dX7_hasPlace_13 (by decide) ?_
      rw [hQ9]
      exact W.zret (v := 1) hx hb hr (by decide) (fun t ht hW => ⟨⟨1, (), rfl, Or.inl ⟨rfl, by first | trivial | omega⟩, by rw [ht]; exact hP, va_K.moved hW.alike hK, hD⟩, hS.F ht⟩) hS.2.2 dX7_hasPlace_17

set_option maxRecDepth 100000 in
set_option maxHeartbeats 4000000 in
/-- Sheet.hasStretch -/
theorem c_X7_hasStretch (l : Launch) (dC : Nat → ClassId) (dI : Nat → Nat → Nat) (h0 : Nat) (p0 : Int32) (p1 : Int32) (so : Int32) (sn : Int32) (si : Nat) (sz : Nat) (hs1 : 0 ≤ sn.toInt) (hs2 : sn.toInt ≤ 60) : Met l yX7_hasStretch wsX7_hasStretch ({ frames := 0, cells := 0, slots := 0, locals := 0 }) (va_Pc [.ref h0, .int p0, .int p1] (fun U => U.heap.size = sz ∧ va_P (dC, dI) vwCl [eO h0 6 [.int so, .int sn, .ref si]] U.heap ∧ va_K (dC, dI) vwCl [] U ∧ va_D (fun _ => True) [eO h0 6 [.int so, .int sn, .ref si]])) (va_Qi (fun (r : Int32) (_ : Unit) => (r = 1 ∧ 0 ≤ p0.toInt ∧ 0 ≤ p1.toInt ∧ p0.toInt + p1.toInt ≤ sn.toInt) ∨ (r = 0 ∧ (0 : Int) ≤ 0)) (fun (_ : Unit) (t : State) => va_P (dC, dI) vwCl [eO h0 6 [.int so, .int sn, .ref si]] t.heap ∧ va_K (dC, dI) vwCl [] t ∧ va_D (va_A [eO h0 6 [.int so, .int sn, .ref si]] sz) [eO h0 6 [.int so, .int sn, .ref si]]) (va_A [eO h0 6 [.int so, .int sn, .ref si]] sz)) 0 0 (va_A [eO h0 6 [.int so, .int sn, .ref si]] sz) := by
  refine Met.ofW (cc := cX7_hasStretch) (maxL := 3) (ret := (some .boolean)) (by decide) rfl ?_
  intro p e s m args below meth c s₁ B hml hv
  obtain ⟨rfl, hsz, hP, hK, hD0⟩ := hv
  have hx := B.exec
  have hb := B.bytes
  have hr := B.returns
  have hts := atoms_spec (ws := wsX7_hasStretch) B.pre
  have hown : s.vm.findClass RX7 = some m.cls := findClass_of_methodNamed B.named
  have hlocks := B.notSynchronized
  subst hsz
  have hD := hD0.self (sz := s.heap.size)
  generalize hAe : va_A [eO h0 6 [.int so, .int sn, .ref si]] s.heap.size = A at hD ⊢
  have hA : ∀ q : Nat, s.heap.size ≤ q → A q := fun q h => by rw [← hAe]; exact Or.inr h
  have hS : va_S A s.heap s.heap [] := va_S.rf
  have hP : va_P (dC, dI) vwCl [eO h0 6 [.int so, .int sn, .ref si]] s.heap := hP
  have hl := lv_entry ([.ref h0, .int p0, .int p1]) (n := 3) (Nat.le_of_ble_eq_true rfl)
  rw [lg_entry_eq]
  generalize (lg_sl ([.ref h0, .int p0, .int p1]) ++ List.replicate (3 - (lg_sl ([.ref h0, .int p0, .int p1])).length) Slot.unset).toArray = ls at hl ⊢
  have hl : lv_has ls 3 [(0, .ref h0), (1, .int p0), (2, .int p1)] := hl
  suffices key9 : ∀ Q9 : State → Prop, Q9 = (MQ below (va_Qi (fun (r : Int32) (_ : Unit) => (r = 1 ∧ 0 ≤ p0.toInt ∧ 0 ≤ p1.toInt ∧ p0.toInt + p1.toInt ≤ sn.toInt) ∨ (r = 0 ∧ (0 : Int) ≤ 0)) (fun (_ : Unit) (t : State) => va_P (dC, dI) vwCl [eO h0 6 [.int so, .int sn, .ref si]] t.heap ∧ va_K (dC, dI) vwCl [] t ∧ va_D A [eO h0 6 [.int so, .int sn, .ref si]]) A) (([.ref h0, .int p0, .int p1] : List Value).toArray) s 0 0 A) → W p l e ({ frames := 0, cells := 0, slots := 0, locals := 0 }) s m (([.ref h0, .int p0, .int p1] : List Value).toArray) below meth c s.heap [] 0 0 Q9 (F0 m 0 ls []) from key9 _ rfl
  intro Q9 hQ9
  have k_0 : (0 : Int32).toInt = 0 := by decide
  have k_1 : (1 : Int32).toInt = 1 := by decide
  refine lv_iload_n hx hb dX7_hasStretch_0 rfl (lv_at hl 2 rfl) ?_
  refine lv_if_lt (tgt := 30) hx hb dX7_hasStretch_1 (by decide) (fun c1 => ?_) (fun c1 => ?_)
  · skip
    have f_c1 := i_lt c1
    refine lv_iconst (v := 0) hx hb dX7_hasStretch_30 (by decide) ?_
    rw [hQ9]
    exact W.zret (v := 0) hx hb hr (by decide) (fun t ht hW => ⟨⟨0, (), rfl, Or.inr (⟨rfl, by first | trivial | omega⟩), by rw [ht]; exact hP, va_K.moved hW.alike hK, hD⟩, hS.F ht⟩) hS.2.2 dX7_hasStretch_31
  · skip
    have f_c1 := i_nlt c1
    refine lv_iload_n hx hb dX7_hasStretch_4 rfl (lv_at hl 1 rfl) ?_
    refine lv_if_lt (tgt := 30) hx hb dX7_hasStretch_5 (by decide) (fun c2 => ?_) (fun c2 => ?_)
    · skip
      have f_c2 := i_lt c2
      refine lv_iconst (v := 0) hx hb dX7_hasStretch_30 (by decide) ?_
      rw [hQ9]
      exact W.zret (v := 0) hx hb hr (by decide) (fun t ht hW => ⟨⟨0, (), rfl, Or.inr (⟨rfl, by first | trivial | omega⟩), by rw [ht]; exact hP, va_K.moved hW.alike hK, hD⟩, hS.F ht⟩) hS.2.2 dX7_hasStretch_31
    · skip
      have f_c2 := i_nlt c2
      refine lv_iload_n hx hb dX7_hasStretch_8 rfl (lv_at hl 1 rfl) ?_
      refine lv_aload_n hx hb dX7_hasStretch_9 rfl (lv_at hl 0 rfl) ?_
      refine va_get (D := (dC, dI)) (ci := 6) (v := .int sn) (C := RX7) (T := TX7) (N := 3) hx hb hts (fun w h => List.mem_cons_of_mem _ (inlX7 w h)) hown hK hP 0 rfl rfl 1 (by decide) (hts (.fieldLink RX7 19 "ClearingGates$Sheet" "size" "I") (List.mem_cons_of_mem _ mw_204)) (fun _ h9 => h9) rfl dX7_hasStretch_10 ?_
      refine lv_icmp_gt (tgt := 30) hx hb dX7_hasStretch_13 (by decide) (fun c3 => ?_) (fun c3 => ?_)
      · skip
        have f_c3 := i_lt c3
        refine lv_iconst (v := 0) hx hb dX7_hasStretch_30 (by decide) ?_
        rw [hQ9]
        exact W.zret (v := 0) hx hb hr (by decide) (fun t ht hW => ⟨⟨0, (), rfl, Or.inr (⟨rfl, by first | trivial | omega⟩), by rw [ht]; exact hP, va_K.moved hW.alike hK, hD⟩, hS.F ht⟩) hS.2.2 dX7_hasStretch_31
      · skip
        have f_c3 := i_nlt c3
        refine lv_iload_n hx hb dX7_hasStretch_16 rfl (lv_at hl 2 rfl) ?_
        refine lv_aload_n hx hb dX7_hasStretch_17 rfl (lv_at hl 0 rfl) ?_
        refine va_get (D := (dC, dI)) (ci := 6) (v := .int sn) (C := RX7) (T := TX7) (N := 3) hx hb hts (fun w h => List.mem_cons_of_mem _ (inlX7 w h)) hown hK hP 0 rfl rfl 1 (by decide) (hts (.fieldLink RX7 19 "ClearingGates$Sheet" "size" "I") (List.mem_cons_of_mem _ mw_204)) (fun _ h9 => h9) rfl dX7_hasStretch_18 ?_
        refine lv_iload_n hx hb dX7_hasStretch_21 rfl (lv_at hl 1 rfl) ?_
        refine lv_isub hx hb dX7_hasStretch_22 ?_
        refine lv_topi (fun z4 e_z4 => ?_)
        (first | have t_z4 := i_sub e_z4 (by omega) (by omega) | skip)
        refine lv_icmp_gt (tgt := 30) hx hb dX7_hasStretch_23 (by decide) (fun c5 => ?_) (fun c5 => ?_)
        · skip
          have f_c5 := i_lt c5
          refine lv_iconst (v := 0) hx hb dX7_hasStretch_30 (by decide) ?_
          rw [hQ9]
          exact W.zret (v := 0) hx hb hr (by decide) (fun t ht hW => ⟨⟨0, (), rfl, Or.inr (⟨rfl, by first | trivial | omega⟩), by rw [ht]; exact hP, va_K.moved hW.alike hK, hD⟩, hS.F ht⟩) hS.2.2 dX7_hasStretch_31
        · skip
          have f_c5 := i_nlt c5
          refine lv_iconst (v := 1) hx hb dX7_hasStretch_26 (by decide) ?_
          refine lv_goto (tgt := 31) hx hb dX7_hasStretch_27 (by decide) ?_
          rw [hQ9]
          exact W.zret (v := 1) hx hb hr (by decide) (fun t ht hW => ⟨⟨1, (), rfl, Or.inl ⟨rfl, by first | trivial | omega⟩, by rw [ht]; exact hP, va_K.moved hW.alike hK, hD⟩, hS.F ht⟩) hS.2.2 dX7_hasStretch_31

set_option maxRecDepth 100000 in
set_option maxHeartbeats 4000000 in
/-- Sheet.become -/
theorem c_X7_become (l : Launch) (dC : Nat → ClassId) (dI : Nat → Nat → Nat) (h0 : Nat) (p0 : Int32) (p1 : Int32) (so : Int32) (sn : Int32) (si : Nat) (ksi : ClassId) (fsi : Nat → Int32) (sz : Nat) : Met l yX7_become wsX7_become ({ frames := 0, cells := 0, slots := 0, locals := 0 }) (va_Pc [.ref h0, .int p0, .int p1] (fun U => U.heap.size = sz ∧ va_P (dC, dI) vwCl [eO h0 6 [.int so, .int sn, .ref si], eI si ksi 60 fsi] U.heap ∧ va_K (dC, dI) vwCl [(ksi, .int)] U ∧ va_D (fun _ => True) [eO h0 6 [.int so, .int sn, .ref si], eI si ksi 60 fsi])) (va_Qv (fun (_ : Unit) => True) (fun (_ : Unit) (t : State) => ∃ (fsi' : Nat → Int32), va_P (dC, dI) vwCl [eO h0 6 [.int p0, .int p1, .ref si], eI si ksi 60 (fsi')] t.heap ∧ va_K (dC, dI) vwCl [(ksi, .int)] t ∧ va_D (va_A [eO h0 6 [.int so, .int sn, .ref si], eI si ksi 60 fsi] sz) [eO h0 6 [.int p0, .int p1, .ref si], eI si ksi 60 (fsi')]) (va_A [eO h0 6 [.int so, .int sn, .ref si], eI si ksi 60 fsi] sz)) 0 0 (va_A [eO h0 6 [.int so, .int sn, .ref si], eI si ksi 60 fsi] sz) := by
  refine Met.ofW (cc := cX7_become) (maxL := 4) (ret := none) (by decide) rfl ?_
  intro p e s m args below meth c s₁ B hml hv
  obtain ⟨rfl, hsz, hP, hK, hD0⟩ := hv
  have hx := B.exec
  have hb := B.bytes
  have hr := B.returns
  have hts := atoms_spec (ws := wsX7_become) B.pre
  have hown : s.vm.findClass RX7 = some m.cls := findClass_of_methodNamed B.named
  have hlocks := B.notSynchronized
  subst hsz
  have hD := hD0.self (sz := s.heap.size)
  generalize hAe : va_A [eO h0 6 [.int so, .int sn, .ref si], eI si ksi 60 fsi] s.heap.size = A at hD ⊢
  have hA : ∀ q : Nat, s.heap.size ≤ q → A q := fun q h => by rw [← hAe]; exact Or.inr h
  have hS : va_S A s.heap s.heap [] := va_S.rf
  have hP : va_P (dC, dI) vwCl [eO h0 6 [.int so, .int sn, .ref si], eI si ksi 60 fsi] s.heap := hP
  have hl := lv_entry ([.ref h0, .int p0, .int p1]) (n := 4) (Nat.le_of_ble_eq_true rfl)
  rw [lg_entry_eq]
  generalize (lg_sl ([.ref h0, .int p0, .int p1]) ++ List.replicate (4 - (lg_sl ([.ref h0, .int p0, .int p1])).length) Slot.unset).toArray = ls at hl ⊢
  have hl : lv_has ls 4 [(0, .ref h0), (1, .int p0), (2, .int p1)] := hl
  suffices key9 : ∀ Q9 : State → Prop, Q9 = (MQ below (va_Qv (fun (_ : Unit) => True) (fun (_ : Unit) (t : State) => ∃ (fsi' : Nat → Int32), va_P (dC, dI) vwCl [eO h0 6 [.int p0, .int p1, .ref si], eI si ksi 60 (fsi')] t.heap ∧ va_K (dC, dI) vwCl [(ksi, .int)] t ∧ va_D A [eO h0 6 [.int p0, .int p1, .ref si], eI si ksi 60 (fsi')]) A) (([.ref h0, .int p0, .int p1] : List Value).toArray) s 0 0 A) → W p l e ({ frames := 0, cells := 0, slots := 0, locals := 0 }) s m (([.ref h0, .int p0, .int p1] : List Value).toArray) below meth c s.heap [] 0 0 Q9 (F0 m 0 ls []) from key9 _ rfl
  intro Q9 hQ9
  have k_60 : (60 : Int32).toInt = 60 := by decide
  refine lv_aload_n hx hb dX7_become_0 rfl (lv_at hl 0 rfl) ?_
  refine lv_iload_n hx hb dX7_become_1 rfl (lv_at hl 1 rfl) ?_
  refine va_put (D := (dC, dI)) (ci := 6) (v := .int p0) (ty := .int) (C := RX7) (T := TX7) (N := 3) hx hb hts (fun w h => List.mem_cons_of_mem _ (inlX7 w h)) tyX7 tyX7_ok nmX7 hown hK hP hD hS 0 rfl rfl 0 (by decide) (hts (.fieldLink RX7 11 "ClearingGates$Sheet" "sort" "I") (List.mem_cons_of_mem _ mw_202)) (fun _ h9 => h9) rfl (by decide +kernel) rfl rfl (Nat.le_of_ble_eq_true rfl) dX7_become_2 (fun H locs hP hD hS => ?_)
  obtain ⟨hP, hD⟩ := X_s (ws' := [eO h0 6 [.int p0, .int sn, .ref si], eI si ksi 60 fsi]) hP hD rfl
  refine lv_aload_n hx hb dX7_become_5 rfl (lv_at hl 0 rfl) ?_
  refine lv_iload_n hx hb dX7_become_6 rfl (lv_at hl 2 rfl) ?_
  refine va_put (D := (dC, dI)) (ci := 6) (v := .int p1) (ty := .int) (C := RX7) (T := TX7) (N := 3) hx hb hts (fun w h => List.mem_cons_of_mem _ (inlX7 w h)) tyX7 tyX7_ok nmX7 hown hK hP hD hS 0 rfl rfl 1 (by decide) (hts (.fieldLink RX7 19 "ClearingGates$Sheet" "size" "I") (List.mem_cons_of_mem _ mw_204)) (fun _ h9 => h9) rfl (by decide +kernel) rfl rfl (Nat.le_of_ble_eq_true rfl) dX7_become_7 (fun H locs hP hD hS => ?_)
  obtain ⟨hP, hD⟩ := X_s (ws' := [eO h0 6 [.int p0, .int p1, .ref si], eI si ksi 60 fsi]) hP hD rfl
  refine lv_iconst (v := 0) hx hb dX7_become_10 (by decide) ?_
  refine lv_istore_n (lv' := [(3, .int 0), (0, .ref h0), (1, .int p0), (2, .int p1)]) hx hb dX7_become_11 rfl hl (by decide) rfl (fun ls hl => ?_)
  have loop_12 : ∀ (n i_12 : Nat) (x_12 : Int32), i_12 ≤ 60 → 60 < i_12 + n → x_12 = nI i_12 → ∀ (gi : Nat → Int32), ∀ (H : Heap) (locs : List Loc), va_K (dC, dI) vwCl [(ksi, .int)] s → va_P (dC, dI) vwCl [eO h0 6 [.int p0, .int p1, .ref si], eI si ksi 60 gi] H → va_D A [eO h0 6 [.int p0, .int p1, .ref si], eI si ksi 60 gi] → va_S A s.heap H locs → ∀ (ls : Array Slot), lv_has ls 4 [(3, .int x_12), (0, .ref h0), (1, .int p0), (2, .int p1)] → W p l e ({ frames := 0, cells := 0, slots := 0, locals := 0 }) s m (([.ref h0, .int p0, .int p1] : List Value).toArray) below meth c H locs 0 0 Q9 (F0 m 12 ls []) := by
    intro n
    induction n with
    | zero => intro i_12 x_12 h1 h2; exact absurd h2 (by omega)
    | succ n ih_12 =>
      intro i_12 x_12 hi_12 hn_12 e_x_12 gi H locs hK hP hD hS ls hl
      have t_x_12 : x_12.toInt = (i_12 : Int) := by rw [e_x_12]; exact nI_toInt (by omega)
      refine lv_iload_n hx hb dX7_become_12 rfl (lv_at hl 0 rfl) ?_
      refine lv_bipush (v := 60) hx hb dX7_become_13 (by decide) ?_
      refine lv_icmp_ge (tgt := 31) hx hb dX7_become_15 (by decide) (fun c1 => ?_) (fun c1 => ?_)
      · skip
        have f_c1 := i_le c1
        rw [hQ9]
        exact W.vret hx hb hr (fun t ht hW => ⟨⟨(), rfl, (by first | rfl | trivial), gi, by rw [ht]; exact hP, va_K.moved hW.alike hK, hD⟩, hS.F ht⟩) hS.2.2 dX7_become_31
      · skip
        have f_c1 := i_nle c1
        refine lv_aload_n hx hb dX7_become_18 rfl (lv_at hl 1 rfl) ?_
        refine va_get (D := (dC, dI)) (ci := 6) (v := .ref si) (C := RX7) (T := TX7) (N := 3) hx hb hts (fun w h => List.mem_cons_of_mem _ (inlX7 w h)) hown hK hP 0 rfl rfl 2 (by decide) (hts (.fieldLink RX7 15 "ClearingGates$Sheet" "items" "[I") (List.mem_cons_of_mem _ mw_206)) (fun _ h9 => h9) rfl dX7_become_19 ?_
        refine lv_iload_n hx hb dX7_become_22 rfl (lv_at hl 0 rfl) ?_
        refine lv_iconst (v := 0) hx hb dX7_become_23 (by decide) ?_
        refine va_iast (D := (dC, dI)) hx hb hK hP hD hS 1 0 rfl rfl (vp_in_iff.mpr ⟨by omega, by omega⟩) dX7_become_24 (fun H locs hP hD hS => ?_)
        generalize e_g2 : (upd gi (x_12).toNatClampNeg 0) = g2 at hP hD
        obtain ⟨hP, hD⟩ := X_s (ws' := [eO h0 6 [.int p0, .int p1, .ref si], eI si ksi 60 g2]) hP hD rfl
        obtain ⟨x3, e_x3⟩ : ∃ yy : Int32, yy = x_12 + 1 := ⟨_, rfl⟩
        refine lv_iinc (v := x3) (lv' := [(3, .int x3), (0, .ref h0), (1, .int p0), (2, .int p1)]) hx hb dX7_become_25 hl (k := 0) rfl (by rw [e_x3]; rfl) (by decide) rfl (fun ls hl => ?_)
        refine lv_goto (tgt := 12) hx hb dX7_become_28 (by decide) ?_
        exact ih_12 (i_12 + 1) x3 (by omega) (by omega) (by rw [e_x3, e_x_12]; exact nI_1 i_12) g2  _ _ (K_s hK [(0, 1)] rfl) (P_s hP [(0, 2)] rfl) (D_s hD [(0, 2)] 2 rfl (by decide +kernel) rfl) hS ls (lv_sub hl [0, 1, 2, 3] rfl)
  exact loop_12 (60 + 1) 0 0 (by omega) (by omega) rfl fsi  _ _ hK hP hD hS ls hl

set_option maxRecDepth 100000 in
set_option maxHeartbeats 4000000 in
/-- Sheet.write -/
theorem c_X7_write (l : Launch) (dC : Nat → ClassId) (dI : Nat → Nat → Nat) (h0 : Nat) (p0 : Int32) (p1 : Int32) (so : Int32) (sn : Int32) (si : Nat) (ksi : ClassId) (fsi : Nat → Int32) (sz : Nat) (h1 : 0 ≤ p0.toInt) (h2 : p0.toInt < 60) : Met l yX7_write wsX7_write ({ frames := 0, cells := 0, slots := 0, locals := 0 }) (va_Pc [.ref h0, .int p0, .int p1] (fun U => U.heap.size = sz ∧ va_P (dC, dI) vwCl [eO h0 6 [.int so, .int sn, .ref si], eI si ksi 60 fsi] U.heap ∧ va_K (dC, dI) vwCl [(ksi, .int)] U ∧ va_D (fun _ => True) [eO h0 6 [.int so, .int sn, .ref si], eI si ksi 60 fsi])) (va_Qv (fun (_ : Unit) => True) (fun (_ : Unit) (t : State) => ∃ (fsi' : Nat → Int32), va_P (dC, dI) vwCl [eO h0 6 [.int so, .int sn, .ref si], eI si ksi 60 (fsi')] t.heap ∧ va_K (dC, dI) vwCl [(ksi, .int)] t ∧ va_D (va_A [eO h0 6 [.int so, .int sn, .ref si], eI si ksi 60 fsi] sz) [eO h0 6 [.int so, .int sn, .ref si], eI si ksi 60 (fsi')]) (va_A [eO h0 6 [.int so, .int sn, .ref si], eI si ksi 60 fsi] sz)) 0 0 (va_A [eO h0 6 [.int so, .int sn, .ref si], eI si ksi 60 fsi] sz) := by
  refine Met.ofW (cc := cX7_write) (maxL := 3) (ret := none) (by decide) rfl ?_
  intro p e s m args below meth c s₁ B hml hv
  obtain ⟨rfl, hsz, hP, hK, hD0⟩ := hv
  have hx := B.exec
  have hb := B.bytes
  have hr := B.returns
  have hts := atoms_spec (ws := wsX7_write) B.pre
  have hown : s.vm.findClass RX7 = some m.cls := findClass_of_methodNamed B.named
  have hlocks := B.notSynchronized
  subst hsz
  have hD := hD0.self (sz := s.heap.size)
  generalize hAe : va_A [eO h0 6 [.int so, .int sn, .ref si], eI si ksi 60 fsi] s.heap.size = A at hD ⊢
  have hA : ∀ q : Nat, s.heap.size ≤ q → A q := fun q h => by rw [← hAe]; exact Or.inr h
  have hS : va_S A s.heap s.heap [] := va_S.rf
  have hP : va_P (dC, dI) vwCl [eO h0 6 [.int so, .int sn, .ref si], eI si ksi 60 fsi] s.heap := hP
  have hl := lv_entry ([.ref h0, .int p0, .int p1]) (n := 3) (Nat.le_of_ble_eq_true rfl)
  rw [lg_entry_eq]
  generalize (lg_sl ([.ref h0, .int p0, .int p1]) ++ List.replicate (3 - (lg_sl ([.ref h0, .int p0, .int p1])).length) Slot.unset).toArray = ls at hl ⊢
  have hl : lv_has ls 3 [(0, .ref h0), (1, .int p0), (2, .int p1)] := hl
  suffices key9 : ∀ Q9 : State → Prop, Q9 = (MQ below (va_Qv (fun (_ : Unit) => True) (fun (_ : Unit) (t : State) => ∃ (fsi' : Nat → Int32), va_P (dC, dI) vwCl [eO h0 6 [.int so, .int sn, .ref si], eI si ksi 60 (fsi')] t.heap ∧ va_K (dC, dI) vwCl [(ksi, .int)] t ∧ va_D A [eO h0 6 [.int so, .int sn, .ref si], eI si ksi 60 (fsi')]) A) (([.ref h0, .int p0, .int p1] : List Value).toArray) s 0 0 A) → W p l e ({ frames := 0, cells := 0, slots := 0, locals := 0 }) s m (([.ref h0, .int p0, .int p1] : List Value).toArray) below meth c s.heap [] 0 0 Q9 (F0 m 0 ls []) from key9 _ rfl
  intro Q9 hQ9
  have k_0 : (0 : Int32).toInt = 0 := by decide
  have k_255 : (255 : Int32).toInt = 255 := by decide
  refine lv_aload_n hx hb dX7_write_0 rfl (lv_at hl 0 rfl) ?_
  refine va_get (D := (dC, dI)) (ci := 6) (v := .ref si) (C := RX7) (T := TX7) (N := 3) hx hb hts (fun w h => List.mem_cons_of_mem _ (inlX7 w h)) hown hK hP 0 rfl rfl 2 (by decide) (hts (.fieldLink RX7 15 "ClearingGates$Sheet" "items" "[I") (List.mem_cons_of_mem _ mw_206)) (fun _ h9 => h9) rfl dX7_write_1 ?_
  refine lv_iload_n hx hb dX7_write_4 rfl (lv_at hl 1 rfl) ?_
  refine lv_aload_n hx hb dX7_write_5 rfl (lv_at hl 0 rfl) ?_
  refine va_get (D := (dC, dI)) (ci := 6) (v := .int so) (C := RX7) (T := TX7) (N := 3) hx hb hts (fun w h => List.mem_cons_of_mem _ (inlX7 w h)) hown hK hP 0 rfl rfl 0 (by decide) (hts (.fieldLink RX7 11 "ClearingGates$Sheet" "sort" "I") (List.mem_cons_of_mem _ mw_202)) (fun _ h9 => h9) rfl dX7_write_6 ?_
  refine lv_if_ne (tgt := 20) hx hb dX7_write_9 (by decide) (fun c1 => ?_) (fun c1 => ?_)
  · skip
    have f_c1 := i_ne c1
    refine lv_iload_n hx hb dX7_write_20 rfl (lv_at hl 2 rfl) ?_
    refine va_iast (D := (dC, dI)) hx hb hK hP hD hS 1 0 rfl rfl (vp_in_iff.mpr ⟨by omega, by omega⟩) dX7_write_21 (fun H locs hP hD hS => ?_)
    generalize e_g2 : (upd fsi (p0).toNatClampNeg p1) = g2 at hP hD
    obtain ⟨hP, hD⟩ := X_s (ws' := [eO h0 6 [.int so, .int sn, .ref si], eI si ksi 60 g2]) hP hD rfl
    rw [hQ9]
    exact W.vret hx hb hr (fun t ht hW => ⟨⟨(), rfl, (by first | rfl | trivial), g2, by rw [ht]; exact hP, va_K.moved hW.alike hK, hD⟩, hS.F ht⟩) hS.2.2 dX7_write_22
  · skip
    have f_c1 := i_eq c1
    refine lv_iload_n hx hb dX7_write_12 rfl (lv_at hl 2 rfl) ?_
    refine lv_sipush (v := 255) hx hb dX7_write_13 (by decide) ?_
    refine lv_iand hx hb dX7_write_16 ?_
    refine lv_topi (fun z3 e_z3 => ?_)
    refine lv_goto (tgt := 21) hx hb dX7_write_17 (by decide) ?_
    refine va_iast (D := (dC, dI)) hx hb hK hP hD hS 1 0 rfl rfl (vp_in_iff.mpr ⟨by omega, by omega⟩) dX7_write_21 (fun H locs hP hD hS => ?_)
    generalize e_g4 : (upd fsi (p0).toNatClampNeg z3) = g4 at hP hD
    obtain ⟨hP, hD⟩ := X_s (ws' := [eO h0 6 [.int so, .int sn, .ref si], eI si ksi 60 g4]) hP hD rfl
    rw [hQ9]
    exact W.vret hx hb hr (fun t ht hW => ⟨⟨(), rfl, (by first | rfl | trivial), g4, by rw [ht]; exact hP, va_K.moved hW.alike hK, hD⟩, hS.F ht⟩) hS.2.2 dX7_write_22

set_option maxRecDepth 100000 in
set_option maxHeartbeats 4000000 in
/-- Sheet.takeOver -/
theorem c_X7_takeOver (l : Launch) (dC : Nat → ClassId) (dI : Nat → Nat → Nat) (h0 : Nat) (qm : Nat) (p1 : Int32) (so : Int32) (sn : Int32) (si : Nat) (ksi : ClassId) (fsi : Nat → Int32) (km : ClassId) (fm : Nat → Int32) (sz : Nat) (h1 : 0 ≤ p1.toInt) (h2 : p1.toInt ≤ 60) : Met l yX7_takeOver wsX7_takeOver ({ frames := 1, cells := 0, slots := 0, locals := 60 }) (va_Pc [.ref h0, .ref qm, .int p1] (fun U => U.heap.size = sz ∧ va_P (dC, dI) vwCl [eO h0 6 [.int so, .int sn, .ref si], eI si ksi 60 fsi, eI qm km 60 fm] U.heap ∧ va_K (dC, dI) vwCl [(ksi, .int), (km, .int)] U ∧ va_D (fun _ => True) [eO h0 6 [.int so, .int sn, .ref si], eI si ksi 60 fsi, eI qm km 60 fm])) (va_Qv (fun (_ : Unit) => True) (fun (_ : Unit) (t : State) => ∃ (fsi' : Nat → Int32), va_P (dC, dI) vwCl [eO h0 6 [.int 1, .int p1, .ref si], eI si ksi 60 (fsi'), eI qm km 60 fm] t.heap ∧ va_K (dC, dI) vwCl [(ksi, .int), (km, .int)] t ∧ va_D (va_A [eO h0 6 [.int so, .int sn, .ref si], eI si ksi 60 fsi, eI qm km 60 fm] sz) [eO h0 6 [.int 1, .int p1, .ref si], eI si ksi 60 (fsi'), eI qm km 60 fm]) (va_A [eO h0 6 [.int so, .int sn, .ref si], eI si ksi 60 fsi, eI qm km 60 fm] sz)) 0 0 (va_A [eO h0 6 [.int so, .int sn, .ref si], eI si ksi 60 fsi, eI qm km 60 fm] sz) := by
  refine Met.ofW (cc := cX7_takeOver) (maxL := 3) (ret := none) (by decide) rfl ?_
  intro p e s m args below meth c s₁ B hml hv
  obtain ⟨rfl, hsz, hP, hK, hD0⟩ := hv
  have hx := B.exec
  have hb := B.bytes
  have hr := B.returns
  have hts := atoms_spec (ws := wsX7_takeOver) B.pre
  have hown : s.vm.findClass RX7 = some m.cls := findClass_of_methodNamed B.named
  have hlocks := B.notSynchronized
  subst hsz
  have hD := hD0.self (sz := s.heap.size)
  generalize hAe : va_A [eO h0 6 [.int so, .int sn, .ref si], eI si ksi 60 fsi, eI qm km 60 fm] s.heap.size = A at hD ⊢
  have hA : ∀ q : Nat, s.heap.size ≤ q → A q := fun q h => by rw [← hAe]; exact Or.inr h
  have hS : va_S A s.heap s.heap [] := va_S.rf
  have hP : va_P (dC, dI) vwCl [eO h0 6 [.int so, .int sn, .ref si], eI si ksi 60 fsi, eI qm km 60 fm] s.heap := hP
  have hl := lv_entry ([.ref h0, .ref qm, .int p1]) (n := 3) (Nat.le_of_ble_eq_true rfl)
  rw [lg_entry_eq]
  generalize (lg_sl ([.ref h0, .ref qm, .int p1]) ++ List.replicate (3 - (lg_sl ([.ref h0, .ref qm, .int p1])).length) Slot.unset).toArray = ls at hl ⊢
  have hl : lv_has ls 3 [(0, .ref h0), (1, .ref qm), (2, .int p1)] := hl
  suffices key9 : ∀ Q9 : State → Prop, Q9 = (MQ below (va_Qv (fun (_ : Unit) => True) (fun (_ : Unit) (t : State) => ∃ (fsi' : Nat → Int32), va_P (dC, dI) vwCl [eO h0 6 [.int 1, .int p1, .ref si], eI si ksi 60 (fsi'), eI qm km 60 fm] t.heap ∧ va_K (dC, dI) vwCl [(ksi, .int), (km, .int)] t ∧ va_D A [eO h0 6 [.int 1, .int p1, .ref si], eI si ksi 60 (fsi'), eI qm km 60 fm]) A) (([.ref h0, .ref qm, .int p1] : List Value).toArray) s 0 0 A) → W p l e ({ frames := 1, cells := 0, slots := 0, locals := 60 }) s m (([.ref h0, .ref qm, .int p1] : List Value).toArray) below meth c s.heap [] 0 0 Q9 (F0 m 0 ls []) from key9 _ rfl
  intro Q9 hQ9
  have k_0 : (0 : Int32).toInt = 0 := by decide
  have k_1 : (1 : Int32).toInt = 1 := by decide
  refine lv_aload_n hx hb dX7_takeOver_0 rfl (lv_at hl 0 rfl) ?_
  refine lv_iconst (v := 1) hx hb dX7_takeOver_1 (by decide) ?_
  refine lv_iload_n hx hb dX7_takeOver_2 rfl (lv_at hl 2 rfl) ?_
  obtain ⟨hPc, hDc, hFc, hCm, hNw⟩ := C_s (wc := [eO h0 6 [.int so, .int sn, .ref si], eI si ksi 60 fsi]) hP hD hS hA [(0, 2)] 3 rfl (by decide +kernel) rfl
  have hKc := K_s (tys' := [(ksi, .int)]) hK [(0, 1)] rfl
  refine va_callv (va_runV (As := [.int 1, .int p1]) (rest := []) ⟨hx, hb, hml, hown, hts⟩ (c_X7_become l dC dI h0 1 p1 so sn si ksi fsi s.heap.size) (cwV 2 hts gX7_takeOver_X7_become rfl rfl rfl (by decide +kernel) ⟨Nat.le_of_ble_eq_true rfl, Nat.le_of_ble_eq_true rfl⟩) ⟨fun a U g mk q => by obtain ⟨q0, q1, qP, qK, qD⟩ := q; exact ⟨q0, q1, qP, va_K.moved (u := U) (U := U.calling g mk a) (Vm.Alike.refl U.vm) qK, qD⟩, va_recv (s := s) (q := (RX7, TX7, 3)) hKc hPc (ci := 6) (q0 := 0) rfl rfl, fun U hU hW => ⟨rfl, by rw [hU], by rw [hU]; exact hPc, va_K.moved hW.alike hKc, hDc.weaken (fun _ _ _ _ => trivial)⟩⟩ rfl rfl hl.1 rfl (lv_room (Nat.le_of_ble_eq_true rfl)) dX7_takeOver_3 ⟨Nat.le_of_ble_eq_true rfl, Nat.le_of_ble_eq_true rfl⟩) hS (fun q _ h => hFc q h) hFc (fun u t H1 locs ht hvm hw hB hz1 hk1 hS => ?_)
  obtain ⟨q2, hP1, hK1, hD1⟩ := hB
  rw [ht] at hP1
  have hK1 := va_K.moved hvm.symm hK1
  try dsimp only at hw
  obtain ⟨hP, hD⟩ := J_s (wL := [eI qm km 60 fm, eO h0 6 [.int 1, .int p1, .ref si], eI si ksi 60 q2]) hP hD [(0, 2)] [(2, 1)] hCm hNw (by decide +kernel) hk1 hFc hP1 hD1 rfl
  have hK := KJ_s (tys' := [(km, .int), (ksi, .int)]) hK hK1 [(1, 1)] rfl
  generalize H1 = H at hP hS ⊢
  refine lv_aload_n hx hb dX7_takeOver_6 rfl (lv_at hl 1 rfl) ?_
  refine lv_iconst (v := 0) hx hb dX7_takeOver_7 (by decide) ?_
  refine lv_aload_n hx hb dX7_takeOver_8 rfl (lv_at hl 0 rfl) ?_
  refine va_get (D := (dC, dI)) (ci := 6) (v := .ref si) (C := RX7) (T := TX7) (N := 3) hx hb hts (fun w h => List.mem_cons_of_mem _ (inlX7 w h)) hown hK hP 1 rfl rfl 2 (by decide) (hts (.fieldLink RX7 15 "ClearingGates$Sheet" "items" "[I") (List.mem_cons_of_mem _ mw_206)) (fun _ h9 => h9) rfl dX7_takeOver_9 ?_
  refine lv_iconst (v := 0) hx hb dX7_takeOver_12 (by decide) ?_
  refine lv_iload_n hx hb dX7_takeOver_13 rfl (lv_at hl 2 rfl) ?_
  refine va_copyi (D := (dC, dI)) hx hb (hml.trans hl.1.symm) hown (hts (.methodLink RX7 26 arraycopyName) (List.mem_cons_of_mem _ mw_558)) (hts (.native arraycopyName) (List.mem_cons_of_mem _ mw_330)) (hts (.static arraycopyName) (List.mem_cons_of_mem _ mw_329)) (hts (.initialized "java/lang/System") (List.mem_cons_of_mem _ mw_80)) hK hP hD hS 0 2 0 1 rfl rfl rfl rfl rfl (by decide) (by decide) (fun q => by have := i_lt q; omega) (by have e1 := i_natZ (x := 0) (by omega); have e2 := i_natZ (x := p1) (by omega); omega) (by have e1 := i_natZ (x := 0) (by omega); have e2 := i_natZ (x := p1) (by omega); omega) (fun _ _ => rfl) (Nat.le_of_ble_eq_true rfl) (by decide) dX7_takeOver_14 (fun H locs hP hD hS => ?_)
  generalize e_g3 : (va_cpy fm q2 (0 : Int32).toNatClampNeg (0 : Int32).toNatClampNeg (p1 : Int32).toNatClampNeg) = g3 at hP hD
  obtain ⟨hP, hD⟩ := X_s (ws' := [eI qm km 60 fm, eO h0 6 [.int 1, .int p1, .ref si], eI si ksi 60 g3]) hP hD rfl
  rw [hQ9]
  exact W.vret hx hb hr (fun t ht hW => ⟨⟨(), rfl, (by first | rfl | trivial), g3, by rw [ht]; exact P_s hP [(1, 2), (0, 1)] rfl, va_K.moved hW.alike (K_s hK [(1, 1), (0, 1)] rfl), D_s hD [(1, 2), (0, 1)] 3 rfl (by decide +kernel) rfl⟩, hS.F ht⟩) hS.2.2 dX7_takeOver_17

set_option maxRecDepth 100000 in
set_option maxHeartbeats 4000000 in
/-- Sheet.firstUnlike -/
theorem c_X7_firstUnlike (l : Launch) (dC : Nat → ClassId) (dI : Nat → Nat → Nat) (h0 : Nat) (qm : Nat) (p1 : Int32) (so : Int32) (sn : Int32) (si : Nat) (ksi : ClassId) (fsi : Nat → Int32) (km : ClassId) (fm : Nat → Int32) (sz : Nat) (h1 : 0 ≤ p1.toInt) (h2 : p1.toInt ≤ 60) : Met l yX7_firstUnlike wsX7_firstUnlike ({ frames := 1, cells := 0, slots := 0, locals := 13 }) (va_Pc [.ref h0, .ref qm, .int p1] (fun U => U.heap.size = sz ∧ va_P (dC, dI) vwCl [eO h0 6 [.int so, .int sn, .ref si], eI si ksi 60 fsi, eI qm km 60 fm] U.heap ∧ va_K (dC, dI) vwCl [(ksi, .int), (km, .int)] U ∧ va_D (fun _ => True) [eO h0 6 [.int so, .int sn, .ref si], eI si ksi 60 fsi, eI qm km 60 fm])) (va_Qi (fun (r : Int32) (_ : Unit) => True) (fun (_ : Unit) (t : State) => va_P (dC, dI) vwCl [eO h0 6 [.int so, .int sn, .ref si], eI si ksi 60 fsi, eI qm km 60 fm] t.heap ∧ va_K (dC, dI) vwCl [(ksi, .int), (km, .int)] t ∧ va_D (va_A [eO h0 6 [.int so, .int sn, .ref si], eI si ksi 60 fsi, eI qm km 60 fm] sz) [eO h0 6 [.int so, .int sn, .ref si], eI si ksi 60 fsi, eI qm km 60 fm]) (va_A [eO h0 6 [.int so, .int sn, .ref si], eI si ksi 60 fsi, eI qm km 60 fm] sz)) 0 0 (va_A [eO h0 6 [.int so, .int sn, .ref si], eI si ksi 60 fsi, eI qm km 60 fm] sz) := by
  refine Met.ofW (cc := cX7_firstUnlike) (maxL := 5) (ret := (some .int)) (by decide) rfl ?_
  intro p e s m args below meth c s₁ B hml hv
  obtain ⟨rfl, hsz, hP, hK, hD0⟩ := hv
  have hx := B.exec
  have hb := B.bytes
  have hr := B.returns
  have hts := atoms_spec (ws := wsX7_firstUnlike) B.pre
  have hown : s.vm.findClass RX7 = some m.cls := findClass_of_methodNamed B.named
  have hlocks := B.notSynchronized
  subst hsz
  have hD := hD0.self (sz := s.heap.size)
  generalize hAe : va_A [eO h0 6 [.int so, .int sn, .ref si], eI si ksi 60 fsi, eI qm km 60 fm] s.heap.size = A at hD ⊢
  have hA : ∀ q : Nat, s.heap.size ≤ q → A q := fun q h => by rw [← hAe]; exact Or.inr h
  have hS : va_S A s.heap s.heap [] := va_S.rf
  have hP : va_P (dC, dI) vwCl [eO h0 6 [.int so, .int sn, .ref si], eI si ksi 60 fsi, eI qm km 60 fm] s.heap := hP
  have hl := lv_entry ([.ref h0, .ref qm, .int p1]) (n := 5) (Nat.le_of_ble_eq_true rfl)
  rw [lg_entry_eq]
  generalize (lg_sl ([.ref h0, .ref qm, .int p1]) ++ List.replicate (5 - (lg_sl ([.ref h0, .ref qm, .int p1])).length) Slot.unset).toArray = ls at hl ⊢
  have hl : lv_has ls 5 [(0, .ref h0), (1, .ref qm), (2, .int p1)] := hl
  suffices key9 : ∀ Q9 : State → Prop, Q9 = (MQ below (va_Qi (fun (r : Int32) (_ : Unit) => True) (fun (_ : Unit) (t : State) => va_P (dC, dI) vwCl [eO h0 6 [.int so, .int sn, .ref si], eI si ksi 60 fsi, eI qm km 60 fm] t.heap ∧ va_K (dC, dI) vwCl [(ksi, .int), (km, .int)] t ∧ va_D A [eO h0 6 [.int so, .int sn, .ref si], eI si ksi 60 fsi, eI qm km 60 fm]) A) (([.ref h0, .ref qm, .int p1] : List Value).toArray) s 0 0 A) → W p l e ({ frames := 1, cells := 0, slots := 0, locals := 13 }) s m (([.ref h0, .ref qm, .int p1] : List Value).toArray) below meth c s.heap [] 0 0 Q9 (F0 m 0 ls []) from key9 _ rfl
  intro Q9 hQ9
  have k_m1 : ((-1) : Int32).toInt = (-1) := by decide
  have k_0 : (0 : Int32).toInt = 0 := by decide
  have k_1 : (1 : Int32).toInt = 1 := by decide
  refine lv_aload_n hx hb dX7_firstUnlike_0 rfl (lv_at hl 0 rfl) ?_
  refine va_get (D := (dC, dI)) (ci := 6) (v := .int sn) (C := RX7) (T := TX7) (N := 3) hx hb hts (fun w h => List.mem_cons_of_mem _ (inlX7 w h)) hown hK hP 0 rfl rfl 1 (by decide) (hts (.fieldLink RX7 19 "ClearingGates$Sheet" "size" "I") (List.mem_cons_of_mem _ mw_204)) (fun _ h9 => h9) rfl dX7_firstUnlike_1 ?_
  refine lv_iload_n hx hb dX7_firstUnlike_4 rfl (lv_at hl 2 rfl) ?_
  refine va_mmin hx hb (hml.trans hl.1.symm) hown (hts (.methodLink RX7 32 Lib.Math.min.name) (List.mem_cons_of_mem _ mw_545)) (hts (.static Lib.Math.min.name) (List.mem_cons_of_mem _ mw_288)) (hts (.initialized "java/lang/Math") (List.mem_cons_of_mem _ mw_79)) (hts (.code Lib.Math.min.name Lib.Math.min.code 2 (some .int)) (List.mem_cons_of_mem _ mw_289)) (Nat.le_of_ble_eq_true rfl) (Nat.le_of_ble_eq_true rfl) (Nat.le_of_ble_eq_true rfl) (Nat.le_of_ble_eq_true rfl) dX7_firstUnlike_5 ?_
  refine lv_topi (fun z1 e_z1 => ?_)
  have t_z1 := i_min e_z1
  refine lv_istore_n (lv' := [(3, .int z1), (0, .ref h0), (1, .ref qm), (2, .int p1)]) hx hb dX7_firstUnlike_8 rfl hl (by decide) rfl (fun ls hl => ?_)
  refine lv_iconst (v := 0) hx hb dX7_firstUnlike_9 (by decide) ?_
  refine lv_istore (lv' := [(4, .int 0), (3, .int z1), (0, .ref h0), (1, .ref qm), (2, .int p1)]) hx hb dX7_firstUnlike_10 hl (by decide) rfl (fun ls hl => ?_)
  have loop_12 : ∀ (n : Nat) (x : Int32), (0 ≤ x.toInt) → (x.toInt ≤ 60) → (60 - x.toInt) < (n : Int) → ∀ (H : Heap) (locs : List Loc), va_K (dC, dI) vwCl [(ksi, .int), (km, .int)] s → va_P (dC, dI) vwCl [eO h0 6 [.int so, .int sn, .ref si], eI si ksi 60 fsi, eI qm km 60 fm] H → va_D A [eO h0 6 [.int so, .int sn, .ref si], eI si ksi 60 fsi, eI qm km 60 fm] → va_S A s.heap H locs → ∀ (ls : Array Slot), lv_has ls 5 [(4, .int x), (3, .int z1), (0, .ref h0), (1, .ref qm), (2, .int p1)] → W p l e ({ frames := 1, cells := 0, slots := 0, locals := 13 }) s m (([.ref h0, .ref qm, .int p1] : List Value).toArray) below meth c H locs 0 0 Q9 (F0 m 12 ls []) := by
    intro n
    induction n with
    | zero => intro x i1 i2 hM_12; exfalso; omega
    | succ n ih_12 =>
      intro x i1 i2 hM_12 H locs hK hP hD hS ls hl
      refine lv_iload hx hb dX7_firstUnlike_12 (lv_at hl 0 rfl) ?_
      refine lv_iload_n hx hb dX7_firstUnlike_14 rfl (lv_at hl 1 rfl) ?_
      refine lv_icmp_ge (tgt := 41) hx hb dX7_firstUnlike_15 (by decide) (fun c2 => ?_) (fun c2 => ?_)
      · skip
        have f_c2 := i_le c2
        refine lv_aload_n hx hb dX7_firstUnlike_41 rfl (lv_at hl 2 rfl) ?_
        refine va_get (D := (dC, dI)) (ci := 6) (v := .int sn) (C := RX7) (T := TX7) (N := 3) hx hb hts (fun w h => List.mem_cons_of_mem _ (inlX7 w h)) hown hK hP 0 rfl rfl 1 (by decide) (hts (.fieldLink RX7 19 "ClearingGates$Sheet" "size" "I") (List.mem_cons_of_mem _ mw_204)) (fun _ h9 => h9) rfl dX7_firstUnlike_42 ?_
        refine lv_iload_n hx hb dX7_firstUnlike_45 rfl (lv_at hl 4 rfl) ?_
        refine lv_icmp_ne (tgt := 53) hx hb dX7_firstUnlike_46 (by decide) (fun c3 => ?_) (fun c3 => ?_)
        · skip
          have f_c3 := i_ne c3
          refine lv_iload_n hx hb dX7_firstUnlike_53 rfl (lv_at hl 1 rfl) ?_
          rw [hQ9]
          exact W.iret (v := z1) hx hb hr (fun t ht hW => ⟨⟨z1, (), rfl, (by first | rfl | trivial), by rw [ht]; exact hP, va_K.moved hW.alike hK, hD⟩, hS.F ht⟩) hS.2.2 dX7_firstUnlike_54
        · skip
          have f_c3 := i_eq c3
          refine lv_iconst (v := -1) hx hb dX7_firstUnlike_49 (by decide) ?_
          refine lv_goto (tgt := 54) hx hb dX7_firstUnlike_50 (by decide) ?_
          rw [hQ9]
          exact W.iret (v := (-1)) hx hb hr (fun t ht hW => ⟨⟨(-1), (), rfl, (by first | rfl | trivial), by rw [ht]; exact hP, va_K.moved hW.alike hK, hD⟩, hS.F ht⟩) hS.2.2 dX7_firstUnlike_54
      · skip
        have f_c2 := i_nle c2
        refine lv_aload_n hx hb dX7_firstUnlike_18 rfl (lv_at hl 2 rfl) ?_
        refine va_get (D := (dC, dI)) (ci := 6) (v := .ref si) (C := RX7) (T := TX7) (N := 3) hx hb hts (fun w h => List.mem_cons_of_mem _ (inlX7 w h)) hown hK hP 0 rfl rfl 2 (by decide) (hts (.fieldLink RX7 15 "ClearingGates$Sheet" "items" "[I") (List.mem_cons_of_mem _ mw_206)) (fun _ h9 => h9) rfl dX7_firstUnlike_19 ?_
        refine lv_iload hx hb dX7_firstUnlike_22 (lv_at hl 0 rfl) ?_
        refine va_iald (D := (dC, dI)) hx hb hK hP 1 0 rfl rfl (vp_in_iff.mpr ⟨by omega, by omega⟩) dX7_firstUnlike_24 ?_
        refine lv_topi (fun z4 e_z4 => ?_)
        refine lv_aload_n hx hb dX7_firstUnlike_25 rfl (lv_at hl 3 rfl) ?_
        refine lv_iload hx hb dX7_firstUnlike_26 (lv_at hl 0 rfl) ?_
        refine va_iald (D := (dC, dI)) hx hb hK hP 2 1 rfl rfl (vp_in_iff.mpr ⟨by omega, by omega⟩) dX7_firstUnlike_28 ?_
        refine lv_topi (fun z5 e_z5 => ?_)
        refine lv_icmp_eq (tgt := 35) hx hb dX7_firstUnlike_29 (by decide) (fun c6 => ?_) (fun c6 => ?_)
        · skip
          have f_c6 := i_eq c6
          obtain ⟨x7, e_x7⟩ : ∃ yy : Int32, yy = x + 1 := ⟨_, rfl⟩
          refine lv_iinc (v := x7) (lv' := [(4, .int x7), (3, .int z1), (0, .ref h0), (1, .ref qm), (2, .int p1)]) hx hb dX7_firstUnlike_35 hl (k := 0) rfl (by rw [e_x7]; rfl) (by decide) rfl (fun ls hl => ?_)
          (first | have t_x7 := i_add e_x7 (by omega) (by omega) | skip)
          refine lv_goto (tgt := 12) hx hb dX7_firstUnlike_38 (by decide) ?_
          exact ih_12 x7 (by first | assumption | omega) (by first | assumption | omega) (by omega) _ _ (K_s hK [(0, 2)] rfl) (P_s hP [(0, 3)] rfl) (D_s hD [(0, 3)] 3 rfl (by decide +kernel) rfl) hS ls (lv_sub hl [0, 1, 2, 3, 4] rfl)
        · skip
          have f_c6 := i_ne c6
          refine lv_iload hx hb dX7_firstUnlike_32 (lv_at hl 0 rfl) ?_
          rw [hQ9]
          exact W.iret (v := x) hx hb hr (fun t ht hW => ⟨⟨x, (), rfl, (by first | rfl | trivial), by rw [ht]; exact hP, va_K.moved hW.alike hK, hD⟩, hS.F ht⟩) hS.2.2 dX7_firstUnlike_34
  exact loop_12 (1000) 0 (by first | assumption | omega) (by first | assumption | omega) (by omega) _ _ hK hP hD hS ls (lv_sub hl [0, 1, 2, 3, 4] rfl)
