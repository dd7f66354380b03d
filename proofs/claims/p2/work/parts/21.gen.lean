set_option maxRecDepth 100000 in
set_option maxHeartbeats 4000000 in
/-- isIn of the reference -/
theorem c_X10_isIn (l : Launch) (dC : Nat → ClassId) (dI : Nat → Nat → Nat) (p0 : Int64) (p1 : Int64) (p2 : Int64) (sz : Nat) : Met l yX10_isIn wsX10_isIn ({ frames := 0, cells := 0, slots := 0, locals := 0 }) (va_Pc [.long p0, .long p1, .long p2] (fun U => U.heap.size = sz ∧ va_P (dC, dI) vwCl [] U.heap ∧ va_K (dC, dI) vwCl [] U ∧ va_D (fun _ => True) [])) (va_Qi (fun (r : Int32) (_ : Unit) => (r = 1 ∧ p1.toInt ≤ p0.toInt ∧ p0.toInt ≤ p2.toInt) ∨ (r = 0 ∧ ¬(p1.toInt ≤ p0.toInt ∧ p0.toInt ≤ p2.toInt))) (fun (_ : Unit) (t : State) => va_P (dC, dI) vwCl [] t.heap ∧ va_K (dC, dI) vwCl [] t ∧ va_D (va_A [] sz) []) (va_A [] sz)) 0 0 (va_A [] sz) := by
  refine Met.ofW (cc := cX10_isIn) (maxL := 6) (ret := (some .boolean)) (by decide) rfl ?_
  intro p e s m args below meth c s₁ B hml hv
  obtain ⟨rfl, hsz, hP, hK, hD0⟩ := hv
  have hx := B.exec
  have hb := B.bytes
  have hr := B.returns
  have hts := atoms_spec (ws := wsX10_isIn) B.pre
  have hown : s.vm.findClass RX10 = some m.cls := findClass_of_methodNamed B.named
  have hlocks := B.notSynchronized
  subst hsz
  have hD := hD0.self (sz := s.heap.size)
  generalize hAe : va_A [] s.heap.size = A at hD ⊢
  have hA : ∀ q : Nat, s.heap.size ≤ q → A q := fun q h => by rw [← hAe]; exact Or.inr h
  have hS : va_S A s.heap s.heap [] := va_S.rf
  have hP : va_P (dC, dI) vwCl [] s.heap := hP
  have hl := lv_entry ([.long p0, .long p1, .long p2]) (n := 6) (Nat.le_of_ble_eq_true rfl)
  rw [lg_entry_eq]
  generalize (lg_sl ([.long p0, .long p1, .long p2]) ++ List.replicate (6 - (lg_sl ([.long p0, .long p1, .long p2])).length) Slot.unset).toArray = ls at hl ⊢
  have hl : lv_has ls 6 [(0, .long p0), (2, .long p1), (4, .long p2)] := hl
  suffices key9 : ∀ Q9 : State → Prop, Q9 = (MQ below (va_Qi (fun (r : Int32) (_ : Unit) => (r = 1 ∧ p1.toInt ≤ p0.toInt ∧ p0.toInt ≤ p2.toInt) ∨ (r = 0 ∧ ¬(p1.toInt ≤ p0.toInt ∧ p0.toInt ≤ p2.toInt))) (fun (_ : Unit) (t : State) => va_P (dC, dI) vwCl [] t.heap ∧ va_K (dC, dI) vwCl [] t ∧ va_D A []) A) (([.long p0, .long p1, .long p2] : List Value).toArray) s 0 0 A) → W p l e ({ frames := 0, cells := 0, slots := 0, locals := 0 }) s m (([.long p0, .long p1, .long p2] : List Value).toArray) below meth c s.heap [] 0 0 Q9 (F0 m 0 ls []) from key9 _ rfl
  intro Q9 hQ9
  have k_0 : (0 : Int32).toInt = 0 := by decide
  have k_1 : (1 : Int32).toInt = 1 := by decide
  refine lv_lload_n hx hb dX10_isIn_0 rfl (lv_at hl 0 rfl) ?_
  refine lv_lload_n hx hb dX10_isIn_1 rfl (lv_at hl 1 rfl) ?_
  refine W.lcmp hx hb dX10_isIn_2 ?_
  refine lv_if_lt (tgt := 17) hx hb dX10_isIn_3 (by decide) (fun c1 => ?_) (fun c1 => ?_)
  · skip
    have f_c1 := cj_lt c1
    refine lv_iconst (v := 0) hx hb dX10_isIn_17 (by decide) ?_
    rw [hQ9]
    exact W.zret (v := 0) hx hb hr (by decide) (fun t ht hW => ⟨⟨0, (), rfl, Or.inr (⟨rfl, by first | trivial | omega⟩), by rw [ht]; exact hP, va_K.moved hW.alike hK, hD⟩, hS.F ht⟩) hS.2.2 dX10_isIn_18
  · skip
    have f_c1 := cj_nlt c1
    refine lv_lload_n hx hb dX10_isIn_6 rfl (lv_at hl 0 rfl) ?_
    refine lv_lload hx hb dX10_isIn_7 (lv_at hl 2 rfl) ?_
    refine W.lcmp hx hb dX10_isIn_9 ?_
    refine lv_if_gt (tgt := 17) hx hb dX10_isIn_10 (by decide) (fun c2 => ?_) (fun c2 => ?_)
    · skip
      have f_c2 := cj_gt c2
      refine lv_iconst (v := 0) hx hb dX10_isIn_17 (by decide) ?_
      rw [hQ9]
      exact W.zret (v := 0) hx hb hr (by decide) (fun t ht hW => ⟨⟨0, (), rfl, Or.inr (⟨rfl, by first | trivial | omega⟩), by rw [ht]; exact hP, va_K.moved hW.alike hK, hD⟩, hS.F ht⟩) hS.2.2 dX10_isIn_18
    · skip
      have f_c2 := cj_ngt c2
      refine lv_iconst (v := 1) hx hb dX10_isIn_13 (by decide) ?_
      refine lv_goto (tgt := 18) hx hb dX10_isIn_14 (by decide) ?_
      rw [hQ9]
      exact W.zret (v := 1) hx hb hr (by decide) (fun t ht hW => ⟨⟨1, (), rfl, Or.inl ⟨rfl, by first | trivial | omega⟩, by rw [ht]; exact hP, va_K.moved hW.alike hK, hD⟩, hS.F ht⟩) hS.2.2 dX10_isIn_18

set_option maxRecDepth 100000 in
set_option maxHeartbeats 4000000 in
/-- isByte of the reference -/
theorem c_X10_isByte (l : Launch) (dC : Nat → ClassId) (dI : Nat → Nat → Nat) (p0 : Int32) (sz : Nat) : Met l yX10_isByte wsX10_isByte ({ frames := 1, cells := 0, slots := 0, locals := 25 }) (va_Pc [.int p0] (fun U => U.heap.size = sz ∧ va_P (dC, dI) vwCl [] U.heap ∧ va_K (dC, dI) vwCl [] U ∧ va_D (fun _ => True) [])) (va_Qi (fun (r : Int32) (_ : Unit) => (r = 1 ∧ 0 ≤ p0.toInt ∧ p0.toInt ≤ 255) ∨ (r = 0 ∧ ¬(0 ≤ p0.toInt ∧ p0.toInt ≤ 255))) (fun (_ : Unit) (t : State) => va_P (dC, dI) vwCl [] t.heap ∧ va_K (dC, dI) vwCl [] t ∧ va_D (va_A [] sz) []) (va_A [] sz)) 0 0 (va_A [] sz) := by
  refine Met.ofW (cc := cX10_isByte) (maxL := 1) (ret := (some .boolean)) (by decide) rfl ?_
  intro p e s m args below meth c s₁ B hml hv
  obtain ⟨rfl, hsz, hP, hK, hD0⟩ := hv
  have hx := B.exec
  have hb := B.bytes
  have hr := B.returns
  have hts := atoms_spec (ws := wsX10_isByte) B.pre
  have hown : s.vm.findClass RX10 = some m.cls := findClass_of_methodNamed B.named
  have hlocks := B.notSynchronized
  subst hsz
  have hD := hD0.self (sz := s.heap.size)
  generalize hAe : va_A [] s.heap.size = A at hD ⊢
  have hA : ∀ q : Nat, s.heap.size ≤ q → A q := fun q h => by rw [← hAe]; exact Or.inr h
  have hS : va_S A s.heap s.heap [] := va_S.rf
  have hP : va_P (dC, dI) vwCl [] s.heap := hP
  have hl := lv_entry ([.int p0]) (n := 1) (Nat.le_of_ble_eq_true rfl)
  rw [lg_entry_eq]
  generalize (lg_sl ([.int p0]) ++ List.replicate (1 - (lg_sl ([.int p0])).length) Slot.unset).toArray = ls at hl ⊢
  have hl : lv_has ls 1 [(0, .int p0)] := hl
  suffices key9 : ∀ Q9 : State → Prop, Q9 = (MQ below (va_Qi (fun (r : Int32) (_ : Unit) => (r = 1 ∧ 0 ≤ p0.toInt ∧ p0.toInt ≤ 255) ∨ (r = 0 ∧ ¬(0 ≤ p0.toInt ∧ p0.toInt ≤ 255))) (fun (_ : Unit) (t : State) => va_P (dC, dI) vwCl [] t.heap ∧ va_K (dC, dI) vwCl [] t ∧ va_D A []) A) (([.int p0] : List Value).toArray) s 0 0 A) → W p l e ({ frames := 1, cells := 0, slots := 0, locals := 25 }) s m (([.int p0] : List Value).toArray) below meth c s.heap [] 0 0 Q9 (F0 m 0 ls []) from key9 _ rfl
  intro Q9 hQ9
  have k_0 : (0 : Int32).toInt = 0 := by decide
  have k_1 : (1 : Int32).toInt = 1 := by decide
  have kl_0 : (0 : Int64).toInt = 0 := by decide
  have kl_255 : (255 : Int64).toInt = 255 := by decide
  refine lv_iload_n hx hb dX10_isByte_0 rfl (lv_at hl 0 rfl) ?_
  refine lv_i2l (v := p0.toInt64) hx hb dX10_isByte_1 rfl ?_
  have t_t1 := Int32.toInt_toInt64 p0
  refine lv_lconst (v := 0) hx hb dX10_isByte_2 (by decide) ?_
  refine lv_ldc2 hx hb hown (hts (.constantLong RX10 117 (255)) (List.mem_cons_of_mem _ mw_707)) dX10_isByte_3 ?_
  obtain ⟨hPc, hDc, hFc, hCm, hNw⟩ := C_s (wc := []) hP hD hS hA [] 0 rfl (by decide +kernel) rfl
  have hKc := K_s (tys' := []) hK [] rfl
  refine va_calli (va_runS (As := [.long p0.toInt64, .long 0, .long 255]) (rest := []) ⟨hx, hb, hml, hown, hts⟩ (c_X10_isIn l dC dI (p0.toInt64) 0 255 s.heap.size) (va_cwS 3 hts gX10_isByte_X10_isIn rfl rfl rfl (by decide +kernel) ⟨Nat.le_of_ble_eq_true rfl, Nat.le_of_ble_eq_true rfl⟩) ⟨fun a U g mk q => by obtain ⟨q0, q1, qP, qK, qD⟩ := q; exact ⟨q0, q1, qP, va_K.moved (u := U) (U := U.calling g mk a) (Vm.Alike.refl U.vm) qK, qD⟩, fun U hU hW => ⟨rfl, by rw [hU], by rw [hU]; exact hPc, va_K.moved hW.alike hKc, hDc.weaken (fun _ _ _ _ => trivial)⟩⟩ rfl rfl hl.1 rfl (lv_room (Nat.le_of_ble_eq_true rfl)) dX10_isByte_6 ⟨Nat.le_of_ble_eq_true rfl, Nat.le_of_ble_eq_true rfl⟩) hS (fun q _ h => hFc q h) hFc (fun r2 u t H1 locs ht hvm hw hB hz1 hk1 hS => ?_)
  obtain ⟨hP1, hK1, hD1⟩ := hB
  rw [ht] at hP1
  have hK1 := va_K.moved hvm.symm hK1
  try dsimp only at hw
  obtain ⟨hP, hD⟩ := J_s (wL := []) hP hD [] [] hCm hNw (by decide +kernel) hk1 hFc hP1 hD1 rfl
  have hK := KJ_s (tys' := []) hK hK1 [] rfl
  generalize H1 = H at hP hS ⊢
  rcases hw with ⟨e_r2, f_r2⟩ | ⟨e_r2, f_r2⟩
  · subst e_r2
    rw [hQ9]
    exact W.zret (v := 1) hx hb hr (by decide) (fun t ht hW => ⟨⟨1, (), rfl, Or.inl ⟨rfl, by first | trivial | omega⟩, by rw [ht]; exact hP, va_K.moved hW.alike hK, hD⟩, hS.F ht⟩) hS.2.2 dX10_isByte_9
  · subst e_r2
    rw [hQ9]
    exact W.zret (v := 0) hx hb hr (by decide) (fun t ht hW => ⟨⟨0, (), rfl, Or.inr (⟨rfl, by first | trivial | omega⟩), by rw [ht]; exact hP, va_K.moved hW.alike hK, hD⟩, hS.F ht⟩) hS.2.2 dX10_isByte_9

set_option maxRecDepth 100000 in
set_option maxHeartbeats 4000000 in
/-- isSheet of the reference -/
theorem c_X10_isSheet (l : Launch) (dC : Nat → ClassId) (dI : Nat → Nat → Nat) (p0 : Int32) (sz : Nat) : Met l yX10_isSheet wsX10_isSheet ({ frames := 1, cells := 0, slots := 0, locals := 25 }) (va_Pc [.int p0] (fun U => U.heap.size = sz ∧ va_P (dC, dI) vwCl [] U.heap ∧ va_K (dC, dI) vwCl [] U ∧ va_D (fun _ => True) [])) (va_Qi (fun (r : Int32) (_ : Unit) => (r = 1 ∧ 0 ≤ p0.toInt ∧ p0.toInt < 4) ∨ (r = 0 ∧ ¬(0 ≤ p0.toInt ∧ p0.toInt < 4))) (fun (_ : Unit) (t : State) => va_P (dC, dI) vwCl [] t.heap ∧ va_K (dC, dI) vwCl [] t ∧ va_D (va_A [] sz) []) (va_A [] sz)) 0 0 (va_A [] sz) := by
  refine Met.ofW (cc := cX10_isSheet) (maxL := 1) (ret := (some .boolean)) (by decide) rfl ?_
  intro p e s m args below meth c s₁ B hml hv
  obtain ⟨rfl, hsz, hP, hK, hD0⟩ := hv
  have hx := B.exec
  have hb := B.bytes
  have hr := B.returns
  have hts := atoms_spec (ws := wsX10_isSheet) B.pre
  have hown : s.vm.findClass RX10 = some m.cls := findClass_of_methodNamed B.named
  have hlocks := B.notSynchronized
  subst hsz
  have hD := hD0.self (sz := s.heap.size)
  generalize hAe : va_A [] s.heap.size = A at hD ⊢
  have hA : ∀ q : Nat, s.heap.size ≤ q → A q := fun q h => by rw [← hAe]; exact Or.inr h
  have hS : va_S A s.heap s.heap [] := va_S.rf
  have hP : va_P (dC, dI) vwCl [] s.heap := hP
  have hl := lv_entry ([.int p0]) (n := 1) (Nat.le_of_ble_eq_true rfl)
  rw [lg_entry_eq]
  generalize (lg_sl ([.int p0]) ++ List.replicate (1 - (lg_sl ([.int p0])).length) Slot.unset).toArray = ls at hl ⊢
  have hl : lv_has ls 1 [(0, .int p0)] := hl
  suffices key9 : ∀ Q9 : State → Prop, Q9 = (MQ below (va_Qi (fun (r : Int32) (_ : Unit) => (r = 1 ∧ 0 ≤ p0.toInt ∧ p0.toInt < 4) ∨ (r = 0 ∧ ¬(0 ≤ p0.toInt ∧ p0.toInt < 4))) (fun (_ : Unit) (t : State) => va_P (dC, dI) vwCl [] t.heap ∧ va_K (dC, dI) vwCl [] t ∧ va_D A []) A) (([.int p0] : List Value).toArray) s 0 0 A) → W p l e ({ frames := 1, cells := 0, slots := 0, locals := 25 }) s m (([.int p0] : List Value).toArray) below meth c s.heap [] 0 0 Q9 (F0 m 0 ls []) from key9 _ rfl
  intro Q9 hQ9
  have k_0 : (0 : Int32).toInt = 0 := by decide
  have k_1 : (1 : Int32).toInt = 1 := by decide
  have kl_0 : (0 : Int64).toInt = 0 := by decide
  have kl_3 : (3 : Int64).toInt = 3 := by decide
  refine lv_iload_n hx hb dX10_isSheet_0 rfl (lv_at hl 0 rfl) ?_
  refine lv_i2l (v := p0.toInt64) hx hb dX10_isSheet_1 rfl ?_
  have t_t1 := Int32.toInt_toInt64 p0
  refine lv_lconst (v := 0) hx hb dX10_isSheet_2 (by decide) ?_
  refine lv_ldc2 hx hb hown (hts (.constantLong RX10 236 (3)) (List.mem_cons_of_mem _ mw_796)) dX10_isSheet_3 ?_
  obtain ⟨hPc, hDc, hFc, hCm, hNw⟩ := C_s (wc := []) hP hD hS hA [] 0 rfl (by decide +kernel) rfl
  have hKc := K_s (tys' := []) hK [] rfl
  refine va_calli (va_runS (As := [.long p0.toInt64, .long 0, .long 3]) (rest := []) ⟨hx, hb, hml, hown, hts⟩ (c_X10_isIn l dC dI (p0.toInt64) 0 3 s.heap.size) (va_cwS 3 hts gX10_isSheet_X10_isIn rfl rfl rfl (by decide +kernel) ⟨Nat.le_of_ble_eq_true rfl, Nat.le_of_ble_eq_true rfl⟩) ⟨fun a U g mk q => by obtain ⟨q0, q1, qP, qK, qD⟩ := q; exact ⟨q0, q1, qP, va_K.moved (u := U) (U := U.calling g mk a) (Vm.Alike.refl U.vm) qK, qD⟩, fun U hU hW => ⟨rfl, by rw [hU], by rw [hU]; exact hPc, va_K.moved hW.alike hKc, hDc.weaken (fun _ _ _ _ => trivial)⟩⟩ rfl rfl hl.1 rfl (lv_room (Nat.le_of_ble_eq_true rfl)) dX10_isSheet_6 ⟨Nat.le_of_ble_eq_true rfl, Nat.le_of_ble_eq_true rfl⟩) hS (fun q _ h => hFc q h) hFc (fun r2 u t H1 locs ht hvm hw hB hz1 hk1 hS => ?_)
  obtain ⟨hP1, hK1, hD1⟩ := hB
  rw [ht] at hP1
  have hK1 := va_K.moved hvm.symm hK1
  try dsimp only at hw
  obtain ⟨hP, hD⟩ := J_s (wL := []) hP hD [] [] hCm hNw (by decide +kernel) hk1 hFc hP1 hD1 rfl
  have hK := KJ_s (tys' := []) hK hK1 [] rfl
  generalize H1 = H at hP hS ⊢
  rcases hw with ⟨e_r2, f_r2⟩ | ⟨e_r2, f_r2⟩
  · subst e_r2
    rw [hQ9]
    exact W.zret (v := 1) hx hb hr (by decide) (fun t ht hW => ⟨⟨1, (), rfl, Or.inl ⟨rfl, by first | trivial | omega⟩, by rw [ht]; exact hP, va_K.moved hW.alike hK, hD⟩, hS.F ht⟩) hS.2.2 dX10_isSheet_9
  · subst e_r2
    rw [hQ9]
    exact W.zret (v := 0) hx hb hr (by decide) (fun t ht hW => ⟨⟨0, (), rfl, Or.inr (⟨rfl, by first | trivial | omega⟩), by rw [ht]; exact hP, va_K.moved hW.alike hK, hD⟩, hS.F ht⟩) hS.2.2 dX10_isSheet_9

set_option maxRecDepth 100000 in
set_option maxHeartbeats 4000000 in
/-- above of the reference -/
theorem c_X10_above (l : Launch) (dC : Nat → ClassId) (dI : Nat → Nat → Nat) (p0 : Int32) (sz : Nat) : Met l yX10_above wsX10_above ({ frames := 0, cells := 0, slots := 0, locals := 0 }) (va_Pc [.int p0] (fun U => U.heap.size = sz ∧ va_P (dC, dI) vwCl [] U.heap ∧ va_K (dC, dI) vwCl [] U ∧ va_D (fun _ => True) [])) (va_Qi (fun (r : Int32) (_ : Unit) => (p0.toInt = 3 ∧ r.toInt = 2) ∨ (p0.toInt = 4 ∧ r.toInt = 1) ∨ (p0.toInt ≠ 3 ∧ p0.toInt ≠ 4 ∧ r.toInt = 0)) (fun (_ : Unit) (t : State) => va_P (dC, dI) vwCl [] t.heap ∧ va_K (dC, dI) vwCl [] t ∧ va_D (va_A [] sz) []) (va_A [] sz)) 0 0 (va_A [] sz) := by
  refine Met.ofW (cc := cX10_above) (maxL := 1) (ret := (some .int)) (by decide) rfl ?_
  intro p e s m args below meth c s₁ B hml hv
  obtain ⟨rfl, hsz, hP, hK, hD0⟩ := hv
  have hx := B.exec
  have hb := B.bytes
  have hr := B.returns
  have hts := atoms_spec (ws := wsX10_above) B.pre
  have hown : s.vm.findClass RX10 = some m.cls := findClass_of_methodNamed B.named
  have hlocks := B.notSynchronized
  subst hsz
  have hD := hD0.self (sz := s.heap.size)
  generalize hAe : va_A [] s.heap.size = A at hD ⊢
  have hA : ∀ q : Nat, s.heap.size ≤ q → A q := fun q h => by rw [← hAe]; exact Or.inr h
  have hS : va_S A s.heap s.heap [] := va_S.rf
  have hP : va_P (dC, dI) vwCl [] s.heap := hP
  have hl := lv_entry ([.int p0]) (n := 1) (Nat.le_of_ble_eq_true rfl)
  rw [lg_entry_eq]
  generalize (lg_sl ([.int p0]) ++ List.replicate (1 - (lg_sl ([.int p0])).length) Slot.unset).toArray = ls at hl ⊢
  have hl : lv_has ls 1 [(0, .int p0)] := hl
  suffices key9 : ∀ Q9 : State → Prop, Q9 = (MQ below (va_Qi (fun (r : Int32) (_ : Unit) => (p0.toInt = 3 ∧ r.toInt = 2) ∨ (p0.toInt = 4 ∧ r.toInt = 1) ∨ (p0.toInt ≠ 3 ∧ p0.toInt ≠ 4 ∧ r.toInt = 0)) (fun (_ : Unit) (t : State) => va_P (dC, dI) vwCl [] t.heap ∧ va_K (dC, dI) vwCl [] t ∧ va_D A []) A) (([.int p0] : List Value).toArray) s 0 0 A) → W p l e ({ frames := 0, cells := 0, slots := 0, locals := 0 }) s m (([.int p0] : List Value).toArray) below meth c s.heap [] 0 0 Q9 (F0 m 0 ls []) from key9 _ rfl
  intro Q9 hQ9
  have k_0 : (0 : Int32).toInt = 0 := by decide
  have k_1 : (1 : Int32).toInt = 1 := by decide
  have k_2 : (2 : Int32).toInt = 2 := by decide
  have k_3 : (3 : Int32).toInt = 3 := by decide
  have k_4 : (4 : Int32).toInt = 4 := by decide
  refine lv_iload_n hx hb dX10_above_0 rfl (lv_at hl 0 rfl) ?_
  refine lv_iconst (v := 3) hx hb dX10_above_1 (by decide) ?_
  refine lv_icmp_ne (tgt := 9) hx hb dX10_above_2 (by decide) (fun c1 => ?_) (fun c1 => ?_)
  · skip
    have f_c1 := i_ne c1
    refine lv_iload_n hx hb dX10_above_9 rfl (lv_at hl 0 rfl) ?_
    refine lv_iconst (v := 4) hx hb dX10_above_10 (by decide) ?_
    refine lv_icmp_ne (tgt := 18) hx hb dX10_above_11 (by decide) (fun c2 => ?_) (fun c2 => ?_)
    · skip
      have f_c2 := i_ne c2
      refine lv_iconst (v := 0) hx hb dX10_above_18 (by decide) ?_
      rw [hQ9]
      exact W.iret (v := 0) hx hb hr (fun t ht hW => ⟨⟨0, (), rfl, (by omega), by rw [ht]; exact hP, va_K.moved hW.alike hK, hD⟩, hS.F ht⟩) hS.2.2 dX10_above_19
    · skip
      have f_c2 := i_eq c2
      refine lv_iconst (v := 1) hx hb dX10_above_14 (by decide) ?_
      refine lv_goto (tgt := 19) hx hb dX10_above_15 (by decide) ?_
      rw [hQ9]
      exact W.iret (v := 1) hx hb hr (fun t ht hW => ⟨⟨1, (), rfl, (by omega), by rw [ht]; exact hP, va_K.moved hW.alike hK, hD⟩, hS.F ht⟩) hS.2.2 dX10_above_19
  · skip
    have f_c1 := i_eq c1
    refine lv_iconst (v := 2) hx hb dX10_above_5 (by decide) ?_
    refine lv_goto (tgt := 19) hx hb dX10_above_6 (by decide) ?_
    rw [hQ9]
    exact W.iret (v := 2) hx hb hr (fun t ht hW => ⟨⟨2, (), rfl, (by omega), by rw [ht]; exact hP, va_K.moved hW.alike hK, hD⟩, hS.F ht⟩) hS.2.2 dX10_above_19

set_option maxRecDepth 100000 in
set_option maxHeartbeats 4000000 in
/-- isAccount of the reference -/
theorem c_X10_isAccount (l : Launch) (dC : Nat → ClassId) (dI : Nat → Nat → Nat) (h0 : Nat) (p0 : Int32) (q_s : Nat) (v_fees : Int64) (q_thought : Nat) (v_thoughtFees : Int64) (q_image : Nat) (v_imageFees : Int64) (v_hasImage : Int32) (q_tape : Nat) (v_taped : Int32) (q_texts : Nat) (q_sizes : Nat) (v_programs : Int32) (q_imageTexts : Nat) (q_imageSizes : Nat) (v_imagePrograms : Int32) (v_here : Int32) (v_open : Int32) (v_running : Int32) (v_begun : Int32) (q_held : Nat) (q_marks : Nat) (v_markMany : Int32) (q_trace : Nat) (v_traced : Int32) (q_keptBalances : Nat) (q_keptFees : Nat) (v_deep : Int32) (q_way : Nat) (q_sorts : Nat) (q_rowMany : Nat) (q_items : Nat) (q_moved : Nat) (k_s : ClassId) (f_s : Nat → Int32) (sz : Nat) (ha1 : 0 ≤ (f_s 60).toInt) (ha2 : (f_s 60).toInt ≤ 8) : Met l yX10_isAccount wsX10_isAccount ({ frames := 1, cells := 0, slots := 0, locals := 25 }) (va_Pc [.ref h0, .int p0] (fun U => U.heap.size = sz ∧ va_P (dC, dI) vwCl [eO h0 9 [.ref q_s, .long v_fees, .ref q_thought, .long v_thoughtFees, .ref q_image, .long v_imageFees, .int v_hasImage, .ref q_tape, .int v_taped, .ref q_texts, .ref q_sizes, .int v_programs, .ref q_imageTexts, .ref q_imageSizes, .int v_imagePrograms, .int v_here, .int v_open, .int v_running, .int v_begun, .ref q_held, .ref q_marks, .int v_markMany, .ref q_trace, .int v_traced, .ref q_keptBalances, .ref q_keptFees, .int v_deep, .ref q_way, .ref q_sorts, .ref q_rowMany, .ref q_items, .ref q_moved], eI q_s k_s 125 f_s] U.heap ∧ va_K (dC, dI) vwCl [(k_s, .int)] U ∧ va_D (fun _ => True) [eO h0 9 [.ref q_s, .long v_fees, .ref q_thought, .long v_thoughtFees, .ref q_image, .long v_imageFees, .int v_hasImage, .ref q_tape, .int v_taped, .ref q_texts, .ref q_sizes, .int v_programs, .ref q_imageTexts, .ref q_imageSizes, .int v_imagePrograms, .int v_here, .int v_open, .int v_running, .int v_begun, .ref q_held, .ref q_marks, .int v_markMany, .ref q_trace, .int v_traced, .ref q_keptBalances, .ref q_keptFees, .int v_deep, .ref q_way, .ref q_sorts, .ref q_rowMany, .ref q_items, .ref q_moved], eI q_s k_s 125 f_s])) (va_Qi (fun (r : Int32) (_ : Unit) => (r = 1 ∧ 0 ≤ p0.toInt ∧ p0.toInt < (f_s 60).toInt) ∨ (r = 0 ∧ ¬(0 ≤ p0.toInt ∧ p0.toInt < (f_s 60).toInt))) (fun (_ : Unit) (t : State) => va_P (dC, dI) vwCl [eO h0 9 [.ref q_s, .long v_fees, .ref q_thought, .long v_thoughtFees, .ref q_image, .long v_imageFees, .int v_hasImage, .ref q_tape, .int v_taped, .ref q_texts, .ref q_sizes, .int v_programs, .ref q_imageTexts, .ref q_imageSizes, .int v_imagePrograms, .int v_here, .int v_open, .int v_running, .int v_begun, .ref q_held, .ref q_marks, .int v_markMany, .ref q_trace, .int v_traced, .ref q_keptBalances, .ref q_keptFees, .int v_deep, .ref q_way, .ref q_sorts, .ref q_rowMany, .ref q_items, .ref q_moved], eI q_s k_s 125 f_s] t.heap ∧ va_K (dC, dI) vwCl [(k_s, .int)] t ∧ va_D (va_A [eO h0 9 [.ref q_s, .long v_fees, .ref q_thought, .long v_thoughtFees, .ref q_image, .long v_imageFees, .int v_hasImage, .ref q_tape, .int v_taped, .ref q_texts, .ref q_sizes, .int v_programs, .ref q_imageTexts, .ref q_imageSizes, .int v_imagePrograms, .int v_here, .int v_open, .int v_running, .int v_begun, .ref q_held, .ref q_marks, .int v_markMany, .ref q_trace, .int v_traced, .ref q_keptBalances, .ref q_keptFees, .int v_deep, .ref q_way, .ref q_sorts, .ref q_rowMany, .ref q_items, .ref q_moved], eI q_s k_s 125 f_s] sz) [eO h0 9 [.ref q_s, .long v_fees, .ref q_thought, .long v_thoughtFees, .ref q_image, .long v_imageFees, .int v_hasImage, .ref q_tape, .int v_taped, .ref q_texts, .ref q_sizes, .int v_programs, .ref q_imageTexts, .ref q_imageSizes, .int v_imagePrograms, .int v_here, .int v_open, .int v_running, .int v_begun, .ref q_held, .ref q_marks, .int v_markMany, .ref q_trace, .int v_traced, .ref q_keptBalances, .ref q_keptFees, .int v_deep, .ref q_way, .ref q_sorts, .ref q_rowMany, .ref q_items, .ref q_moved], eI q_s k_s 125 f_s]) (va_A [eO h0 9 [.ref q_s, .long v_fees, .ref q_thought, .long v_thoughtFees, .ref q_image, .long v_imageFees, .int v_hasImage, .ref q_tape, .int v_taped, .ref q_texts, .ref q_sizes, .int v_programs, .ref q_imageTexts, .ref q_imageSizes, .int v_imagePrograms, .int v_here, .int v_open, .int v_running, .int v_begun, .ref q_held, .ref q_marks, .int v_markMany, .ref q_trace, .int v_traced, .ref q_keptBalances, .ref q_keptFees, .int v_deep, .ref q_way, .ref q_sorts, .ref q_rowMany, .ref q_items, .ref q_moved], eI q_s k_s 125 f_s] sz)) 0 0 (va_A [eO h0 9 [.ref q_s, .long v_fees, .ref q_thought, .long v_thoughtFees, .ref q_image, .long v_imageFees, .int v_hasImage, .ref q_tape, .int v_taped, .ref q_texts, .ref q_sizes, .int v_programs, .ref q_imageTexts, .ref q_imageSizes, .int v_imagePrograms, .int v_here, .int v_open, .int v_running, .int v_begun, .ref q_held, .ref q_marks, .int v_markMany, .ref q_trace, .int v_traced, .ref q_keptBalances, .ref q_keptFees, .int v_deep, .ref q_way, .ref q_sorts, .ref q_rowMany, .ref q_items, .ref q_moved], eI q_s k_s 125 f_s] sz) := by
  refine Met.ofW (cc := cX10_isAccount) (maxL := 2) (ret := (some .boolean)) (by decide) rfl ?_
  intro p e s m args below meth c s₁ B hml hv
  obtain ⟨rfl, hsz, hP, hK, hD0⟩ := hv
  have hx := B.exec
  have hb := B.bytes
  have hr := B.returns
  have hts := atoms_spec (ws := wsX10_isAccount) B.pre
  have hown : s.vm.findClass RX10 = some m.cls := findClass_of_methodNamed B.named
  have hlocks := B.notSynchronized
  subst hsz
  have hD := hD0.self (sz := s.heap.size)
  generalize hAe : va_A [eO h0 9 [.ref q_s, .long v_fees, .ref q_thought, .long v_thoughtFees, .ref q_image, .long v_imageFees, .int v_hasImage, .ref q_tape, .int v_taped, .ref q_texts, .ref q_sizes, .int v_programs, .ref q_imageTexts, .ref q_imageSizes, .int v_imagePrograms, .int v_here, .int v_open, .int v_running, .int v_begun, .ref q_held, .ref q_marks, .int v_markMany, .ref q_trace, .int v_traced, .ref q_keptBalances, .ref q_keptFees, .int v_deep, .ref q_way, .ref q_sorts, .ref q_rowMany, .ref q_items, .ref q_moved], eI q_s k_s 125 f_s] s.heap.size = A at hD ⊢
  have hA : ∀ q : Nat, s.heap.size ≤ q → A q := fun q h => by rw [← hAe]; exact Or.inr h
  have hS : va_S A s.heap s.heap [] := va_S.rf
  have hP : va_P (dC, dI) vwCl [eO h0 9 [.ref q_s, .long v_fees, .ref q_thought, .long v_thoughtFees, .ref q_image, .long v_imageFees, .int v_hasImage, .ref q_tape, .int v_taped, .ref q_texts, .ref q_sizes, .int v_programs, .ref q_imageTexts, .ref q_imageSizes, .int v_imagePrograms, .int v_here, .int v_open, .int v_running, .int v_begun, .ref q_held, .ref q_marks, .int v_markMany, .ref q_trace, .int v_traced, .ref q_keptBalances, .ref q_keptFees, .int v_deep, .ref q_way, .ref q_sorts, .ref q_rowMany, .ref q_items, .ref q_moved], eI q_s k_s 125 f_s] s.heap := hP
  have hl := lv_entry ([.ref h0, .int p0]) (n := 2) (Nat.le_of_ble_eq_true rfl)
  rw [lg_entry_eq]
  generalize (lg_sl ([.ref h0, .int p0]) ++ List.replicate (2 - (lg_sl ([.ref h0, .int p0])).length) Slot.unset).toArray = ls at hl ⊢
  have hl : lv_has ls 2 [(0, .ref h0), (1, .int p0)] := hl
  suffices key9 : ∀ Q9 : State → Prop, Q9 = (MQ below (va_Qi (fun (r : Int32) (_ : Unit) => (r = 1 ∧ 0 ≤ p0.toInt ∧ p0.toInt < (f_s 60).toInt) ∨ (r = 0 ∧ ¬(0 ≤ p0.toInt ∧ p0.toInt < (f_s 60).toInt))) (fun (_ : Unit) (t : State) => va_P (dC, dI) vwCl [eO h0 9 [.ref q_s, .long v_fees, .ref q_thought, .long v_thoughtFees, .ref q_image, .long v_imageFees, .int v_hasImage, .ref q_tape, .int v_taped, .ref q_texts, .ref q_sizes, .int v_programs, .ref q_imageTexts, .ref q_imageSizes, .int v_imagePrograms, .int v_here, .int v_open, .int v_running, .int v_begun, .ref q_held, .ref q_marks, .int v_markMany, .ref q_trace, .int v_traced, .ref q_keptBalances, .ref q_keptFees, .int v_deep, .ref q_way, .ref q_sorts, .ref q_rowMany, .ref q_items, .ref q_moved], eI q_s k_s 125 f_s] t.heap ∧ va_K (dC, dI) vwCl [(k_s, .int)] t ∧ va_D A [eO h0 9 [.ref q_s, .long v_fees, .ref q_thought, .long v_thoughtFees, .ref q_image, .long v_imageFees, .int v_hasImage, .ref q_tape, .int v_taped, .ref q_texts, .ref q_sizes, .int v_programs, .ref q_imageTexts, .ref q_imageSizes, .int v_imagePrograms, .int v_here, .int v_open, .int v_running, .int v_begun, .ref q_held, .ref q_marks, .int v_markMany, .ref q_trace, .int v_traced, .ref q_keptBalances, .ref q_keptFees, .int v_deep, .ref q_way, .ref q_sorts, .ref q_rowMany, .ref q_items, .ref q_moved], eI q_s k_s 125 f_s]) A) (([.ref h0, .int p0] : List Value).toArray) s 0 0 A) → W p l e ({ frames := 1, cells := 0, slots := 0, locals := 25 }) s m (([.ref h0, .int p0] : List Value).toArray) below meth c s.heap [] 0 0 Q9 (F0 m 0 ls []) from key9 _ rfl
  intro Q9 hQ9
  have k_0 : (0 : Int32).toInt = 0 := by decide
  have k_1 : (1 : Int32).toInt = 1 := by decide
  have kl_0 : (0 : Int64).toInt = 0 := by decide
  refine lv_iload_n hx hb dX10_isAccount_0 rfl (lv_at hl 1 rfl) ?_
  refine lv_i2l (v := p0.toInt64) hx hb dX10_isAccount_1 rfl ?_
  have t_t1 := Int32.toInt_toInt64 p0
  refine lv_lconst (v := 0) hx hb dX10_isAccount_2 (by decide) ?_
  refine lv_aload_n hx hb dX10_isAccount_3 rfl (lv_at hl 0 rfl) ?_
  refine va_get (D := (dC, dI)) (ci := 9) (v := .ref q_s) (C := RX10) (T := TX10) (N := 32) hx hb hts (fun w h => List.mem_cons_of_mem _ (inlX10 w h)) hown hK hP 0 rfl rfl 0 (by decide) (hts (.fieldLink RX10 11 "ClearingGatesModel" "s" "[I") (List.mem_cons_of_mem _ mw_609)) (fun _ h9 => h9) rfl dX10_isAccount_4 ?_
  refine lv_bipush (v := 60) hx hb dX10_isAccount_7 (by decide) ?_
  refine va_iald (D := (dC, dI)) hx hb hK hP 1 0 rfl rfl (vp_in_iff.mpr ⟨by decide, by decide⟩) dX10_isAccount_9 ?_
  refine lv_topi (fun z2 e_z2 => ?_)
  have a_z2 : z2.toInt = (f_s 60).toInt := by rw [e_z2]; rfl
  refine lv_iconst (v := 1) hx hb dX10_isAccount_10 (by decide) ?_
  refine lv_isub hx hb dX10_isAccount_11 ?_
  refine lv_topi (fun z3 e_z3 => ?_)
  (first | have t_z3 := i_sub e_z3 (by omega) (by omega) | skip)
  refine lv_i2l (v := z3.toInt64) hx hb dX10_isAccount_12 rfl ?_
  have t_t4 := Int32.toInt_toInt64 z3
  obtain ⟨hPc, hDc, hFc, hCm, hNw⟩ := C_s (wc := []) hP hD hS hA [] 2 rfl (by decide +kernel) rfl
  have hKc := K_s (tys' := []) hK [] rfl
  refine va_calli (va_runS (As := [.long p0.toInt64, .long 0, .long z3.toInt64]) (rest := []) ⟨hx, hb, hml, hown, hts⟩ (c_X10_isIn l dC dI (p0.toInt64) 0 (z3.toInt64) s.heap.size) (va_cwS 3 hts gX10_isAccount_X10_isIn rfl rfl rfl (by decide +kernel) ⟨Nat.le_of_ble_eq_true rfl, Nat.le_of_ble_eq_true rfl⟩) ⟨fun a U g mk q => by obtain ⟨q0, q1, qP, qK, qD⟩ := q; exact ⟨q0, q1, qP, va_K.moved (u := U) (U := U.calling g mk a) (Vm.Alike.refl U.vm) qK, qD⟩, fun U hU hW => ⟨rfl, by rw [hU], by rw [hU]; exact hPc, va_K.moved hW.alike hKc, hDc.weaken (fun _ _ _ _ => trivial)⟩⟩ rfl rfl hl.1 rfl (lv_room (Nat.le_of_ble_eq_true rfl)) dX10_isAccount_13 ⟨Nat.le_of_ble_eq_true rfl, Nat.le_of_ble_eq_true rfl⟩) hS (fun q _ h => hFc q h) hFc (fun r5 u t H1 locs ht hvm hw hB hz1 hk1 hS => ?_)
  obtain ⟨hP1, hK1, hD1⟩ := hB
  rw [ht] at hP1
  have hK1 := va_K.moved hvm.symm hK1
  try dsimp only at hw
  obtain ⟨hP, hD⟩ := J_s (wL := [eO h0 9 [.ref q_s, .long v_fees, .ref q_thought, .long v_thoughtFees, .ref q_image, .long v_imageFees, .int v_hasImage, .ref q_tape, .int v_taped, .ref q_texts, .ref q_sizes, .int v_programs, .ref q_imageTexts, .ref q_imageSizes, .int v_imagePrograms, .int v_here, .int v_open, .int v_running, .int v_begun, .ref q_held, .ref q_marks, .int v_markMany, .ref q_trace, .int v_traced, .ref q_keptBalances, .ref q_keptFees, .int v_deep, .ref q_way, .ref q_sorts, .ref q_rowMany, .ref q_items, .ref q_moved], eI q_s k_s 125 f_s]) hP hD [] [(0, 2)] hCm hNw (by decide +kernel) hk1 hFc hP1 hD1 rfl
  have hK := KJ_s (tys' := [(k_s, .int)]) hK hK1 [(0, 1)] rfl
  generalize H1 = H at hP hS ⊢
  rcases hw with ⟨e_r5, f_r5⟩ | ⟨e_r5, f_r5⟩
  · subst e_r5
    rw [hQ9]
    exact W.zret (v := 1) hx hb hr (by decide) (fun t ht hW => ⟨⟨1, (), rfl, Or.inl ⟨rfl, by first | trivial | omega⟩, by rw [ht]; exact hP, va_K.moved hW.alike hK, hD⟩, hS.F ht⟩) hS.2.2 dX10_isAccount_16
  · subst e_r5
    rw [hQ9]
    exact W.zret (v := 0) hx hb hr (by decide) (fun t ht hW => ⟨⟨0, (), rfl, Or.inr (⟨rfl, by first | trivial | omega⟩), by rw [ht]; exact hP, va_K.moved hW.alike hK, hD⟩, hS.F ht⟩) hS.2.2 dX10_isAccount_16

set_option maxRecDepth 100000 in
set_option maxHeartbeats 4000000 in
/-- isProgram of the reference -/
theorem c_X10_isProgram (l : Launch) (dC : Nat → ClassId) (dI : Nat → Nat → Nat) (h0 : Nat) (p0 : Int32) (q_s : Nat) (v_fees : Int64) (q_thought : Nat) (v_thoughtFees : Int64) (q_image : Nat) (v_imageFees : Int64) (v_hasImage : Int32) (q_tape : Nat) (v_taped : Int32) (q_texts : Nat) (q_sizes : Nat) (v_programs : Int32) (q_imageTexts : Nat) (q_imageSizes : Nat) (v_imagePrograms : Int32) (v_here : Int32) (v_open : Int32) (v_running : Int32) (v_begun : Int32) (q_held : Nat) (q_marks : Nat) (v_markMany : Int32) (q_trace : Nat) (v_traced : Int32) (q_keptBalances : Nat) (q_keptFees : Nat) (v_deep : Int32) (q_way : Nat) (q_sorts : Nat) (q_rowMany : Nat) (q_items : Nat) (q_moved : Nat) (sz : Nat) (h1 : 0 ≤ v_programs.toInt) (h2 : v_programs.toInt ≤ 4) : Met l yX10_isProgram wsX10_isProgram ({ frames := 1, cells := 0, slots := 0, locals := 25 }) (va_Pc [.ref h0, .int p0] (fun U => U.heap.size = sz ∧ va_P (dC, dI) vwCl [eO h0 9 [.ref q_s, .long v_fees, .ref q_thought, .long v_thoughtFees, .ref q_image, .long v_imageFees, .int v_hasImage, .ref q_tape, .int v_taped, .ref q_texts, .ref q_sizes, .int v_programs, .ref q_imageTexts, .ref q_imageSizes, .int v_imagePrograms, .int v_here, .int v_open, .int v_running, .int v_begun, .ref q_held, .ref q_marks, .int v_markMany, .ref q_trace, .int v_traced, .ref q_keptBalances, .ref q_keptFees, .int v_deep, .ref q_way, .ref q_sorts, .ref q_rowMany, .ref q_items, .ref q_moved]] U.heap ∧ va_K (dC, dI) vwCl [] U ∧ va_D (fun _ => True) [eO h0 9 [.ref q_s, .long v_fees, .ref q_thought, .long v_thoughtFees, .ref q_image, .long v_imageFees, .int v_hasImage, .ref q_tape, .int v_taped, .ref q_texts, .ref q_sizes, .int v_programs, .ref q_imageTexts, .ref q_imageSizes, .int v_imagePrograms, .int v_here, .int v_open, .int v_running, .int v_begun, .ref q_held, .ref q_marks, .int v_markMany, .ref q_trace, .int v_traced, .ref q_keptBalances, .ref q_keptFees, .int v_deep, .ref q_way, .ref q_sorts, .ref q_rowMany, .ref q_items, .ref q_moved]])) (va_Qi (fun (r : Int32) (_ : Unit) => (r = 1 ∧ 0 ≤ p0.toInt ∧ p0.toInt < v_programs.toInt) ∨ (r = 0 ∧ ¬(0 ≤ p0.toInt ∧ p0.toInt < v_programs.toInt))) (fun (_ : Unit) (t : State) => va_P (dC, dI) vwCl [eO h0 9 [.ref q_s, .long v_fees, .ref q_thought, .long v_thoughtFees, .ref q_image, .long v_imageFees, .int v_hasImage, .ref q_tape, .int v_taped, .ref q_texts, .ref q_sizes, .int v_programs, .ref q_imageTexts, .ref q_imageSizes, .int v_imagePrograms, .int v_here, .int v_open, .int v_running, .int v_begun, .ref q_held, .ref q_marks, .int v_markMany, .ref q_trace, .int v_traced, .ref q_keptBalances, .ref q_keptFees, .int v_deep, .ref q_way, .ref q_sorts, .ref q_rowMany, .ref q_items, .ref q_moved]] t.heap ∧ va_K (dC, dI) vwCl [] t ∧ va_D (va_A [eO h0 9 [.ref q_s, .long v_fees, .ref q_thought, .long v_thoughtFees, .ref q_image, .long v_imageFees, .int v_hasImage, .ref q_tape, .int v_taped, .ref q_texts, .ref q_sizes, .int v_programs, .ref q_imageTexts, .ref q_imageSizes, .int v_imagePrograms, .int v_here, .int v_open, .int v_running, .int v_begun, .ref q_held, .ref q_marks, .int v_markMany, .ref q_trace, .int v_traced, .ref q_keptBalances, .ref q_keptFees, .int v_deep, .ref q_way, .ref q_sorts, .ref q_rowMany, .ref q_items, .ref q_moved]] sz) [eO h0 9 [.ref q_s, .long v_fees, .ref q_thought, .long v_thoughtFees, .ref q_image, .long v_imageFees, .int v_hasImage, .ref q_tape, .int v_taped, .ref q_texts, .ref q_sizes, .int v_programs, .ref q_imageTexts, .ref q_imageSizes, .int v_imagePrograms, .int v_here, .int v_open, .int v_running, .int v_begun, .ref q_held, .ref q_marks, .int v_markMany, .ref q_trace, .int v_traced, .ref q_keptBalances, .ref q_keptFees, .int v_deep, .ref q_way, .ref q_sorts, .ref q_rowMany, .ref q_items, .ref q_moved]]) (va_A [eO h0 9 [.ref q_s, .long v_fees, .ref q_thought, .long v_thoughtFees, .ref q_image, .long v_imageFees, .int v_hasImage, .ref q_tape, .int v_taped, .ref q_texts, .ref q_sizes, .int v_programs, .ref q_imageTexts, .ref q_imageSizes, .int v_imagePrograms, .int v_here, .int v_open, .int v_running, .int v_begun, .ref q_held, .ref q_marks, .int v_markMany, .ref q_trace, .int v_traced, .ref q_keptBalances, .ref q_keptFees, .int v_deep, .ref q_way, .ref q_sorts, .ref q_rowMany, .ref q_items, .ref q_moved]] sz)) 0 0 (va_A [eO h0 9 [.ref q_s, .long v_fees, .ref q_thought, .long v_thoughtFees, .ref q_image, .long v_imageFees, .int v_hasImage, .ref q_tape, .int v_taped, .ref q_texts, .ref q_sizes, .int v_programs, .ref q_imageTexts, .ref q_imageSizes, .int v_imagePrograms, .int v_here, .int v_open, .int v_running, .int v_begun, .ref q_held, .ref q_marks, .int v_markMany, .ref q_trace, .int v_traced, .ref q_keptBalances, .ref q_keptFees, .int v_deep, .ref q_way, .ref q_sorts, .ref q_rowMany, .ref q_items, .ref q_moved]] sz) := by
  refine Met.ofW (cc := cX10_isProgram) (maxL := 2) (ret := (some .boolean)) (by decide) rfl ?_
  intro p e s m args below meth c s₁ B hml hv
  obtain ⟨rfl, hsz, hP, hK, hD0⟩ := hv
  have hx := B.exec
  have hb := B.bytes
  have hr := B.returns
  have hts := atoms_spec (ws := wsX10_isProgram) B.pre
  have hown : s.vm.findClass RX10 = some m.cls := findClass_of_methodNamed B.named
  have hlocks := B.notSynchronized
  subst hsz
  have hD := hD0.self (sz := s.heap.size)
  generalize hAe : va_A [eO h0 9 [.ref q_s, .long v_fees, .ref q_thought, .long v_thoughtFees, .ref q_image, .long v_imageFees, .int v_hasImage, .ref q_tape, .int v_taped, .ref q_texts, .ref q_sizes, .int v_programs, .ref q_imageTexts, .ref q_imageSizes, .int v_imagePrograms, .int v_here, .int v_open, .int v_running, .int v_begun, .ref q_held, .ref q_marks, .int v_markMany, .ref q_trace, .int v_traced, .ref q_keptBalances, .ref q_keptFees, .int v_deep, .ref q_way, .ref q_sorts, .ref q_rowMany, .ref q_items, .ref q_moved]] s.heap.size = A at hD ⊢
  have hA : ∀ q : Nat, s.heap.size ≤ q → A q := fun q h => by rw [← hAe]; exact Or.inr h
  have hS : va_S A s.heap s.heap [] := va_S.rf
  have hP : va_P (dC, dI) vwCl [eO h0 9 [.ref q_s, .long v_fees, .ref q_thought, .long v_thoughtFees, .ref q_image, .long v_imageFees, .int v_hasImage, .ref q_tape, .int v_taped, .ref q_texts, .ref q_sizes, .int v_programs, .ref q_imageTexts, .ref q_imageSizes, .int v_imagePrograms, .int v_here, .int v_open, .int v_running, .int v_begun, .ref q_held, .ref q_marks, .int v_markMany, .ref q_trace, .int v_traced, .ref q_keptBalances, .ref q_keptFees, .int v_deep, .ref q_way, .ref q_sorts, .ref q_rowMany, .ref q_items, .ref q_moved]] s.heap := hP
  have hl := lv_entry ([.ref h0, .int p0]) (n := 2) (Nat.le_of_ble_eq_true rfl)
  rw [lg_entry_eq]
  generalize (lg_sl ([.ref h0, .int p0]) ++ List.replicate (2 - (lg_sl ([.ref h0, .int p0])).length) Slot.unset).toArray = ls at hl ⊢
  have hl : lv_has ls 2 [(0, .ref h0), (1, .int p0)] := hl
  suffices key9 : ∀ Q9 : State → Prop, Q9 = (MQ below (va_Qi (fun (r : Int32) (_ : Unit) => (r = 1 ∧ 0 ≤ p0.toInt ∧ p0.toInt < v_programs.toInt) ∨ (r = 0 ∧ ¬(0 ≤ p0.toInt ∧ p0.toInt < v_programs.toInt))) (fun (_ : Unit) (t : State) => va_P (dC, dI) vwCl [eO h0 9 [.ref q_s, .long v_fees, .ref q_thought, .long v_thoughtFees, .ref q_image, .long v_imageFees, .int v_hasImage, .ref q_tape, .int v_taped, .ref q_texts, .ref q_sizes, .int v_programs, .ref q_imageTexts, .ref q_imageSizes, .int v_imagePrograms, .int v_here, .int v_open, .int v_running, .int v_begun, .ref q_held, .ref q_marks, .int v_markMany, .ref q_trace, .int v_traced, .ref q_keptBalances, .ref q_keptFees, .int v_deep, .ref q_way, .ref q_sorts, .ref q_rowMany, .ref q_items, .ref q_moved]] t.heap ∧ va_K (dC, dI) vwCl [] t ∧ va_D A [eO h0 9 [.ref q_s, .long v_fees, .ref q_thought, .long v_thoughtFees, .ref q_image, .long v_imageFees, .int v_hasImage, .ref q_tape, .int v_taped, .ref q_texts, .ref q_sizes, .int v_programs, .ref q_imageTexts, .ref q_imageSizes, .int v_imagePrograms, .int v_here, .int v_open, .int v_running, .int v_begun, .ref q_held, .ref q_marks, .int v_markMany, .ref q_trace, .int v_traced, .ref q_keptBalances, .ref q_keptFees, .int v_deep, .ref q_way, .ref q_sorts, .ref q_rowMany, .ref q_items, .ref q_moved]]) A) (([.ref h0, .int p0] : List Value).toArray) s 0 0 A) → W p l e ({ frames := 1, cells := 0, slots := 0, locals := 25 }) s m (([.ref h0, .int p0] : List Value).toArray) below meth c s.heap [] 0 0 Q9 (F0 m 0 ls []) from key9 _ rfl
  intro Q9 hQ9
  have k_0 : (0 : Int32).toInt = 0 := by decide
  have k_1 : (1 : Int32).toInt = 1 := by decide
  have kl_0 : (0 : Int64).toInt = 0 := by decide
  refine lv_iload_n hx hb dX10_isProgram_0 rfl (lv_at hl 1 rfl) ?_
  refine lv_i2l (v := p0.toInt64) hx hb dX10_isProgram_1 rfl ?_
  have t_t1 := Int32.toInt_toInt64 p0
  refine lv_lconst (v := 0) hx hb dX10_isProgram_2 (by decide) ?_
  refine lv_aload_n hx hb dX10_isProgram_3 rfl (lv_at hl 0 rfl) ?_
  refine va_get (D := (dC, dI)) (ci := 9) (v := .int v_programs) (C := RX10) (T := TX10) (N := 32) hx hb hts (fun w h => List.mem_cons_of_mem _ (inlX10 w h)) hown hK hP 0 rfl rfl 11 (by decide) (hts (.fieldLink RX10 100 "ClearingGatesModel" "programs" "I") (List.mem_cons_of_mem _ mw_620)) (fun _ h9 => h9) rfl dX10_isProgram_4 ?_
  refine lv_iconst (v := 1) hx hb dX10_isProgram_7 (by decide) ?_
  refine lv_isub hx hb dX10_isProgram_8 ?_
  refine lv_topi (fun z2 e_z2 => ?_)
  (first | have t_z2 := i_sub e_z2 (by omega) (by omega) | skip)
  refine lv_i2l (v := z2.toInt64) hx hb dX10_isProgram_9 rfl ?_
  have t_t3 := Int32.toInt_toInt64 z2
  obtain ⟨hPc, hDc, hFc, hCm, hNw⟩ := C_s (wc := []) hP hD hS hA [] 1 rfl (by decide +kernel) rfl
  have hKc := K_s (tys' := []) hK [] rfl
  refine va_calli (va_runS (As := [.long p0.toInt64, .long 0, .long z2.toInt64]) (rest := []) ⟨hx, hb, hml, hown, hts⟩ (c_X10_isIn l dC dI (p0.toInt64) 0 (z2.toInt64) s.heap.size) (va_cwS 3 hts gX10_isProgram_X10_isIn rfl rfl rfl (by decide +kernel) ⟨Nat.le_of_ble_eq_true rfl, Nat.le_of_ble_eq_true rfl⟩) ⟨fun a U g mk q => by obtain ⟨q0, q1, qP, qK, qD⟩ := q; exact ⟨q0, q1, qP, va_K.moved (u := U) (U := U.calling g mk a) (Vm.Alike.refl U.vm) qK, qD⟩, fun U hU hW => ⟨rfl, by rw [hU], by rw [hU]; exact hPc, va_K.moved hW.alike hKc, hDc.weaken (fun _ _ _ _ => trivial)⟩⟩ rfl rfl hl.1 rfl (lv_room (Nat.le_of_ble_eq_true rfl)) dX10_isProgram_10 ⟨Nat.le_of_ble_eq_true rfl, Nat.le_of_ble_eq_true rfl⟩) hS (fun q _ h => hFc q h) hFc (fun r4 u t H1 locs ht hvm hw hB hz1 hk1 hS => ?_)
  obtain ⟨hP1, hK1, hD1⟩ := hB
  rw [ht] at hP1
  have hK1 := va_K.moved hvm.symm hK1
  try dsimp only at hw
  obtain ⟨hP, hD⟩ := J_s (wL := [eO h0 9 [.ref q_s, .long v_fees, .ref q_thought, .long v_thoughtFees, .ref q_image, .long v_imageFees, .int v_hasImage, .ref q_tape, .int v_taped, .ref q_texts, .ref q_sizes, .int v_programs, .ref q_imageTexts, .ref q_imageSizes, .int v_imagePrograms, .int v_here, .int v_open, .int v_running, .int v_begun, .ref q_held, .ref q_marks, .int v_markMany, .ref q_trace, .int v_traced, .ref q_keptBalances, .ref q_keptFees, .int v_deep, .ref q_way, .ref q_sorts, .ref q_rowMany, .ref q_items, .ref q_moved]]) hP hD [] [(0, 1)] hCm hNw (by decide +kernel) hk1 hFc hP1 hD1 rfl
  have hK := KJ_s (tys' := []) hK hK1 [] rfl
  generalize H1 = H at hP hS ⊢
  rcases hw with ⟨e_r4, f_r4⟩ | ⟨e_r4, f_r4⟩
  · subst e_r4
    rw [hQ9]
    exact W.zret (v := 1) hx hb hr (by decide) (fun t ht hW => ⟨⟨1, (), rfl, Or.inl ⟨rfl, by first | trivial | omega⟩, by rw [ht]; exact hP, va_K.moved hW.alike hK, hD⟩, hS.F ht⟩) hS.2.2 dX10_isProgram_13
  · subst e_r4
    rw [hQ9]
    exact W.zret (v := 0) hx hb hr (by decide) (fun t ht hW => ⟨⟨0, (), rfl, Or.inr (⟨rfl, by first | trivial | omega⟩), by rw [ht]; exact hP, va_K.moved hW.alike hK, hD⟩, hS.F ht⟩) hS.2.2 dX10_isProgram_13

set_option maxRecDepth 100000 in
set_option maxHeartbeats 4000000 in
/-- areTwo of the reference -/
theorem c_X10_areTwo (l : Launch) (dC : Nat → ClassId) (dI : Nat → Nat → Nat) (h0 : Nat) (p0 : Int32) (p1 : Int32) (q_s : Nat) (v_fees : Int64) (q_thought : Nat) (v_thoughtFees : Int64) (q_image : Nat) (v_imageFees : Int64) (v_hasImage : Int32) (q_tape : Nat) (v_taped : Int32) (q_texts : Nat) (q_sizes : Nat) (v_programs : Int32) (q_imageTexts : Nat) (q_imageSizes : Nat) (v_imagePrograms : Int32) (v_here : Int32) (v_open : Int32) (v_running : Int32) (v_begun : Int32) (q_held : Nat) (q_marks : Nat) (v_markMany : Int32) (q_trace : Nat) (v_traced : Int32) (q_keptBalances : Nat) (q_keptFees : Nat) (v_deep : Int32) (q_way : Nat) (q_sorts : Nat) (q_rowMany : Nat) (q_items : Nat) (q_moved : Nat) (k_s : ClassId) (f_s : Nat → Int32) (sz : Nat) (ha1 : 0 ≤ (f_s 60).toInt) (ha2 : (f_s 60).toInt ≤ 8) : Met l yX10_areTwo wsX10_areTwo ({ frames := 2, cells := 0, slots := 0, locals := 46 }) (va_Pc [.ref h0, .int p0, .int p1] (fun U => U.heap.size = sz ∧ va_P (dC, dI) vwCl [eO h0 9 [.ref q_s, .long v_fees, .ref q_thought, .long v_thoughtFees, .ref q_image, .long v_imageFees, .int v_hasImage, .ref q_tape, .int v_taped, .ref q_texts, .ref q_sizes, .int v_programs, .ref q_imageTexts, .ref q_imageSizes, .int v_imagePrograms, .int v_here, .int v_open, .int v_running, .int v_begun, .ref q_held, .ref q_marks, .int v_markMany, .ref q_trace, .int v_traced, .ref q_keptBalances, .ref q_keptFees, .int v_deep, .ref q_way, .ref q_sorts, .ref q_rowMany, .ref q_items, .ref q_moved], eI q_s k_s 125 f_s] U.heap ∧ va_K (dC, dI) vwCl [(k_s, .int)] U ∧ va_D (fun _ => True) [eO h0 9 [.ref q_s, .long v_fees, .ref q_thought, .long v_thoughtFees, .ref q_image, .long v_imageFees, .int v_hasImage, .ref q_tape, .int v_taped, .ref q_texts, .ref q_sizes, .int v_programs, .ref q_imageTexts, .ref q_imageSizes, .int v_imagePrograms, .int v_here, .int v_open, .int v_running, .int v_begun, .ref q_held, .ref q_marks, .int v_markMany, .ref q_trace, .int v_traced, .ref q_keptBalances, .ref q_keptFees, .int v_deep, .ref q_way, .ref q_sorts, .ref q_rowMany, .ref q_items, .ref q_moved], eI q_s k_s 125 f_s])) (va_Qi (fun (r : Int32) (_ : Unit) => (r = 1 ∧ 0 ≤ p0.toInt ∧ p0.toInt < (f_s 60).toInt ∧ 0 ≤ p1.toInt ∧ p1.toInt < (f_s 60).toInt) ∨ (r = 0 ∧ (0 : Int) ≤ 0)) (fun (_ : Unit) (t : State) => va_P (dC, dI) vwCl [eO h0 9 [.ref q_s, .long v_fees, .ref q_thought, .long v_thoughtFees, .ref q_image, .long v_imageFees, .int v_hasImage, .ref q_tape, .int v_taped, .ref q_texts, .ref q_sizes, .int v_programs, .ref q_imageTexts, .ref q_imageSizes, .int v_imagePrograms, .int v_here, .int v_open, .int v_running, .int v_begun, .ref q_held, .ref q_marks, .int v_markMany, .ref q_trace, .int v_traced, .ref q_keptBalances, .ref q_keptFees, .int v_deep, .ref q_way, .ref q_sorts, .ref q_rowMany, .ref q_items, .ref q_moved], eI q_s k_s 125 f_s] t.heap ∧ va_K (dC, dI) vwCl [(k_s, .int)] t ∧ va_D (va_A [eO h0 9 [.ref q_s, .long v_fees, .ref q_thought, .long v_thoughtFees, .ref q_image, .long v_imageFees, .int v_hasImage, .ref q_tape, .int v_taped, .ref q_texts, .ref q_sizes, .int v_programs, .ref q_imageTexts, .ref q_imageSizes, .int v_imagePrograms, .int v_here, .int v_open, .int v_running, .int v_begun, .ref q_held, .ref q_marks, .int v_markMany, .ref q_trace, .int v_traced, .ref q_keptBalances, .ref q_keptFees, .int v_deep, .ref q_way, .ref q_sorts, .ref q_rowMany, .ref q_items, .ref q_moved], eI q_s k_s 125 f_s] sz) [eO h0 9 [.ref q_s, .long v_fees, .ref q_thought, .long v_thoughtFees, .ref q_image, .long v_imageFees, .int v_hasImage, .ref q_tape, .int v_taped, .ref q_texts, .ref q_sizes, .int v_programs, .ref q_imageTexts, .ref q_imageSizes, .int v_imagePrograms, .int v_here, .int v_open, .int v_running, .int v_begun, .ref q_held, .ref q_marks, .int v_markMany, .ref q_trace, .int v_traced, .ref q_keptBalances, .ref q_keptFees, .int v_deep, .ref q_way, .ref q_sorts, .ref q_rowMany, .ref q_items, .ref q_moved], eI q_s k_s 125 f_s]) (va_A [eO h0 9 [.ref q_s, .long v_fees, .ref q_thought, .long v_thoughtFees, .ref q_image, .long v_imageFees, .int v_hasImage, .ref q_tape, .int v_taped, .ref q_texts, .ref q_sizes, .int v_programs, .ref q_imageTexts, .ref q_imageSizes, .int v_imagePrograms, .int v_here, .int v_open, .int v_running, .int v_begun, .ref q_held, .ref q_marks, .int v_markMany, .ref q_trace, .int v_traced, .ref q_keptBalances, .ref q_keptFees, .int v_deep, .ref q_way, .ref q_sorts, .ref q_rowMany, .ref q_items, .ref q_moved], eI q_s k_s 125 f_s] sz)) 0 0 (va_A [eO h0 9 [.ref q_s, .long v_fees, .ref q_thought, .long v_thoughtFees, .ref q_image, .long v_imageFees, .int v_hasImage, .ref q_tape, .int v_taped, .ref q_texts, .ref q_sizes, .int v_programs, .ref q_imageTexts, .ref q_imageSizes, .int v_imagePrograms, .int v_here, .int v_open, .int v_running, .int v_begun, .ref q_held, .ref q_marks, .int v_markMany, .ref q_trace, .int v_traced, .ref q_keptBalances, .ref q_keptFees, .int v_deep, .ref q_way, .ref q_sorts, .ref q_rowMany, .ref q_items, .ref q_moved], eI q_s k_s 125 f_s] sz) := by
  refine Met.ofW (cc := cX10_areTwo) (maxL := 3) (ret := (some .boolean)) (by decide) rfl ?_
  intro p e s m args below meth c s₁ B hml hv
  obtain ⟨rfl, hsz, hP, hK, hD0⟩ := hv
  have hx := B.exec
  have hb := B.bytes
  have hr := B.returns
  have hts := atoms_spec (ws := wsX10_areTwo) B.pre
  have hown : s.vm.findClass RX10 = some m.cls := findClass_of_methodNamed B.named
  have hlocks := B.notSynchronized
  subst hsz
  have hD := hD0.self (sz := s.heap.size)
  generalize hAe : va_A [eO h0 9 [.ref q_s, .long v_fees, .ref q_thought, .long v_thoughtFees, .ref q_image, .long v_imageFees, .int v_hasImage, .ref q_tape, .int v_taped, .ref q_texts, .ref q_sizes, .int v_programs, .ref q_imageTexts, .ref q_imageSizes, .int v_imagePrograms, .int v_here, .int v_open, .int v_running, .int v_begun, .ref q_held, .ref q_marks, .int v_markMany, .ref q_trace, .int v_traced, .ref q_keptBalances, .ref q_keptFees, .int v_deep, .ref q_way, .ref q_sorts, .ref q_rowMany, .ref q_items, .ref q_moved], eI q_s k_s 125 f_s] s.heap.size = A at hD ⊢
  have hA : ∀ q : Nat, s.heap.size ≤ q → A q := fun q h => by rw [← hAe]; exact Or.inr h
  have hS : va_S A s.heap s.heap [] := va_S.rf
  have hP : va_P (dC, dI) vwCl [eO h0 9 [.ref q_s, .long v_fees, .ref q_thought, .long v_thoughtFees, .ref q_image, .long v_imageFees, .int v_hasImage, .ref q_tape, .int v_taped, .ref q_texts, .ref q_sizes, .int v_programs, .ref q_imageTexts, .ref q_imageSizes, .int v_imagePrograms, .int v_here, .int v_open, .int v_running, .int v_begun, .ref q_held, .ref q_marks, .int v_markMany, .ref q_trace, .int v_traced, .ref q_keptBalances, .ref q_keptFees, .int v_deep, .ref q_way, .ref q_sorts, .ref q_rowMany, .ref q_items, .ref q_moved], eI q_s k_s 125 f_s] s.heap := hP
  have hl := lv_entry ([.ref h0, .int p0, .int p1]) (n := 3) (Nat.le_of_ble_eq_true rfl)
  rw [lg_entry_eq]
  generalize (lg_sl ([.ref h0, .int p0, .int p1]) ++ List.replicate (3 - (lg_sl ([.ref h0, .int p0, .int p1])).length) Slot.unset).toArray = ls at hl ⊢
  have hl : lv_has ls 3 [(0, .ref h0), (1, .int p0), (2, .int p1)] := hl
  suffices key9 : ∀ Q9 : State → Prop, Q9 = (MQ below (va_Qi (fun (r : Int32) (_ : Unit) => (r = 1 ∧ 0 ≤ p0.toInt ∧ p0.toInt < (f_s 60).toInt ∧ 0 ≤ p1.toInt ∧ p1.toInt < (f_s 60).toInt) ∨ (r = 0 ∧ (0 : Int) ≤ 0)) (fun (_ : Unit) (t : State) => va_P (dC, dI) vwCl [eO h0 9 [.ref q_s, .long v_fees, .ref q_thought, .long v_thoughtFees, .ref q_image, .long v_imageFees, .int v_hasImage, .ref q_tape, .int v_taped, .ref q_texts, .ref q_sizes, .int v_programs, .ref q_imageTexts, .ref q_imageSizes, .int v_imagePrograms, .int v_here, .int v_open, .int v_running, .int v_begun, .ref q_held, .ref q_marks, .int v_markMany, .ref q_trace, .int v_traced, .ref q_keptBalances, .ref q_keptFees, .int v_deep, .ref q_way, .ref q_sorts, .ref q_rowMany, .ref q_items, .ref q_moved], eI q_s k_s 125 f_s] t.heap ∧ va_K (dC, dI) vwCl [(k_s, .int)] t ∧ va_D A [eO h0 9 [.ref q_s, .long v_fees, .ref q_thought, .long v_thoughtFees, .ref q_image, .long v_imageFees, .int v_hasImage, .ref q_tape, .int v_taped, .ref q_texts, .ref q_sizes, .int v_programs, .ref q_imageTexts, .ref q_imageSizes, .int v_imagePrograms, .int v_here, .int v_open, .int v_running, .int v_begun, .ref q_held, .ref q_marks, .int v_markMany, .ref q_trace, .int v_traced, .ref q_keptBalances, .ref q_keptFees, .int v_deep, .ref q_way, .ref q_sorts, .ref q_rowMany, .ref q_items, .ref q_moved], eI q_s k_s 125 f_s]) A) (([.ref h0, .int p0, .int p1] : List Value).toArray) s 0 0 A) → W p l e ({ frames := 2, cells := 0, slots := 0, locals := 46 }) s m (([.ref h0, .int p0, .int p1] : List Value).toArray) below meth c s.heap [] 0 0 Q9 (F0 m 0 ls []) from key9 _ rfl
  intro Q9 hQ9
  have k_0 : (0 : Int32).toInt = 0 := by decide
  have k_1 : (1 : Int32).toInt = 1 := by decide
  refine lv_aload_n hx hb dX10_areTwo_0 rfl (lv_at hl 0 rfl) ?_
  refine lv_iload_n hx hb dX10_areTwo_1 rfl (lv_at hl 1 rfl) ?_
  obtain ⟨hPc, hDc, hFc, hCm, hNw⟩ := C_s (wc := [eO h0 9 [.ref q_s, .long v_fees, .ref q_thought, .long v_thoughtFees, .ref q_image, .long v_imageFees, .int v_hasImage, .ref q_tape, .int v_taped, .ref q_texts, .ref q_sizes, .int v_programs, .ref q_imageTexts, .ref q_imageSizes, .int v_imagePrograms, .int v_here, .int v_open, .int v_running, .int v_begun, .ref q_held, .ref q_marks, .int v_markMany, .ref q_trace, .int v_traced, .ref q_keptBalances, .ref q_keptFees, .int v_deep, .ref q_way, .ref q_sorts, .ref q_rowMany, .ref q_items, .ref q_moved], eI q_s k_s 125 f_s]) hP hD hS hA [(0, 2)] 2 rfl (by decide +kernel) rfl
  have hKc := K_s (tys' := [(k_s, .int)]) hK [(0, 1)] rfl
  refine va_calli (va_runV (As := [.int p0]) (rest := []) ⟨hx, hb, hml, hown, hts⟩ (c_X10_isAccount l dC dI h0 p0 q_s v_fees q_thought v_thoughtFees q_image v_imageFees v_hasImage q_tape v_taped q_texts q_sizes v_programs q_imageTexts q_imageSizes v_imagePrograms v_here v_open v_running v_begun q_held q_marks v_markMany q_trace v_traced q_keptBalances q_keptFees v_deep q_way q_sorts q_rowMany q_items q_moved k_s f_s s.heap.size ha1 ha2) (cwV 1 hts gX10_areTwo_X10_isAccount rfl rfl rfl (by decide +kernel) ⟨Nat.le_of_ble_eq_true rfl, Nat.le_of_ble_eq_true rfl⟩) ⟨fun a U g mk q => by obtain ⟨q0, q1, qP, qK, qD⟩ := q; exact ⟨q0, q1, qP, va_K.moved (u := U) (U := U.calling g mk a) (Vm.Alike.refl U.vm) qK, qD⟩, va_recv (s := s) (q := (RX10, TX10, 32)) hKc hPc (ci := 9) (q0 := 0) rfl rfl, fun U hU hW => ⟨rfl, by rw [hU], by rw [hU]; exact hPc, va_K.moved hW.alike hKc, hDc.weaken (fun _ _ _ _ => trivial)⟩⟩ rfl rfl hl.1 rfl (lv_room (Nat.le_of_ble_eq_true rfl)) dX10_areTwo_2 ⟨Nat.le_of_ble_eq_true rfl, Nat.le_of_ble_eq_true rfl⟩) hS (fun q _ h => hFc q h) hFc (fun r1 u t H1 locs ht hvm hw hB hz1 hk1 hS => ?_)
  obtain ⟨hP1, hK1, hD1⟩ := hB
  rw [ht] at hP1
  have hK1 := va_K.moved hvm.symm hK1
  try dsimp only at hw
  obtain ⟨hP, hD⟩ := J_s (wL := [eO h0 9 [.ref q_s, .long v_fees, .ref q_thought, .long v_thoughtFees, .ref q_image, .long v_imageFees, .int v_hasImage, .ref q_tape, .int v_taped, .ref q_texts, .ref q_sizes, .int v_programs, .ref q_imageTexts, .ref q_imageSizes, .int v_imagePrograms, .int v_here, .int v_open, .int v_running, .int v_begun, .ref q_held, .ref q_marks, .int v_markMany, .ref q_trace, .int v_traced, .ref q_keptBalances, .ref q_keptFees, .int v_deep, .ref q_way, .ref q_sorts, .ref q_rowMany, .ref q_items, .ref q_moved], eI q_s k_s 125 f_s]) hP hD [(0, 2)] [] hCm hNw (by decide +kernel) hk1 hFc hP1 hD1 rfl
  have hK := KJ_s (tys' := [(k_s, .int)]) hK hK1 [] rfl
  generalize H1 = H at hP hS ⊢
  rcases hw with ⟨e_r1, f_r1⟩ | ⟨e_r1, f_r1⟩
  · subst e_r1
    refine lv_if_eq (tgt := 25) hx hb dX10_areTwo_5 (by decide) (fun c2 => absurd c2 (by decide)) (fun c2 => ?_)
    refine lv_aload_n hx hb dX10_areTwo_8 rfl (lv_at hl 0 rfl) ?_
    refine lv_iload_n hx hb dX10_areTwo_9 rfl (lv_at hl 2 rfl) ?_
    obtain ⟨hPc, hDc, hFc, hCm, hNw⟩ := C_s (wc := [eO h0 9 [.ref q_s, .long v_fees, .ref q_thought, .long v_thoughtFees, .ref q_image, .long v_imageFees, .int v_hasImage, .ref q_tape, .int v_taped, .ref q_texts, .ref q_sizes, .int v_programs, .ref q_imageTexts, .ref q_imageSizes, .int v_imagePrograms, .int v_here, .int v_open, .int v_running, .int v_begun, .ref q_held, .ref q_marks, .int v_markMany, .ref q_trace, .int v_traced, .ref q_keptBalances, .ref q_keptFees, .int v_deep, .ref q_way, .ref q_sorts, .ref q_rowMany, .ref q_items, .ref q_moved], eI q_s k_s 125 f_s]) hP hD hS hA [(0, 2)] 2 rfl (by decide +kernel) rfl
    have hKc := K_s (tys' := [(k_s, .int)]) hK [(0, 1)] rfl
    refine va_calli (va_runV (As := [.int p1]) (rest := []) ⟨hx, hb, hml, hown, hts⟩ (c_X10_isAccount l dC dI h0 p1 q_s v_fees q_thought v_thoughtFees q_image v_imageFees v_hasImage q_tape v_taped q_texts q_sizes v_programs q_imageTexts q_imageSizes v_imagePrograms v_here v_open v_running v_begun q_held q_marks v_markMany q_trace v_traced q_keptBalances q_keptFees v_deep q_way q_sorts q_rowMany q_items q_moved k_s f_s H.size ha1 ha2) (cwV 1 hts gX10_areTwo_X10_isAccount rfl rfl rfl (by decide +kernel) ⟨Nat.le_of_ble_eq_true rfl, Nat.le_of_ble_eq_true rfl⟩) ⟨fun a U g mk q => by obtain ⟨q0, q1, qP, qK, qD⟩ := q; exact ⟨q0, q1, qP, va_K.moved (u := U) (U := U.calling g mk a) (Vm.Alike.refl U.vm) qK, qD⟩, va_recv (s := s) (q := (RX10, TX10, 32)) hKc hPc (ci := 9) (q0 := 0) rfl rfl, fun U hU hW => ⟨rfl, by rw [hU], by rw [hU]; exact hPc, va_K.moved hW.alike hKc, hDc.weaken (fun _ _ _ _ => trivial)⟩⟩ rfl rfl hl.1 rfl (lv_room (Nat.le_of_ble_eq_true rfl)) dX10_areTwo_10 ⟨Nat.le_of_ble_eq_true rfl, Nat.le_of_ble_eq_true rfl⟩) hS (fun q _ h => hFc q h) hFc (fun r3 u t H1 locs ht hvm hw hB hz1 hk1 hS => ?_)
    obtain ⟨hP1, hK1, hD1⟩ := hB
    rw [ht] at hP1
    have hK1 := va_K.moved hvm.symm hK1
    try dsimp only at hw
    obtain ⟨hP, hD⟩ := J_s (wL := [eO h0 9 [.ref q_s, .long v_fees, .ref q_thought, .long v_thoughtFees, .ref q_image, .long v_imageFees, .int v_hasImage, .ref q_tape, .int v_taped, .ref q_texts, .ref q_sizes, .int v_programs, .ref q_imageTexts, .ref q_imageSizes, .int v_imagePrograms, .int v_here, .int v_open, .int v_running, .int v_begun, .ref q_held, .ref q_marks, .int v_markMany, .ref q_trace, .int v_traced, .ref q_keptBalances, .ref q_keptFees, .int v_deep, .ref q_way, .ref q_sorts, .ref q_rowMany, .ref q_items, .ref q_moved], eI q_s k_s 125 f_s]) hP hD [(0, 2)] [] hCm hNw (by decide +kernel) hk1 hFc hP1 hD1 rfl
    have hK := KJ_s (tys' := [(k_s, .int)]) hK hK1 [] rfl
    generalize H1 = H at hP hS ⊢
    rcases hw with ⟨e_r3, f_r3⟩ | ⟨e_r3, f_r3⟩
    · subst e_r3
      refine lv_if_eq (tgt := 25) hx hb dX10_areTwo_13 (by decide) (fun c4 => absurd c4 (by decide)) (fun c4 => ?_)
      refine lv_iload_n hx hb dX10_areTwo_16 rfl (lv_at hl 1 rfl) ?_
      refine lv_iload_n hx hb dX10_areTwo_17 rfl (lv_at hl 2 rfl) ?_
      refine lv_icmp_eq (tgt := 25) hx hb dX10_areTwo_18 (by decide) (fun c5 => ?_) (fun c5 => ?_)
      · skip
        have f_c5 := i_eq c5
        refine lv_iconst (v := 0) hx hb dX10_areTwo_25 (by decide) ?_
        rw [hQ9]
        exact W.zret (v := 0) hx hb hr (by decide) (fun t ht hW => ⟨⟨0, (), rfl, Or.inr (⟨rfl, by first | trivial | omega⟩), by rw [ht]; exact hP, va_K.moved hW.alike hK, hD⟩, hS.F ht⟩) hS.2.2 dX10_areTwo_26
      · skip
        have f_c5 := i_ne c5
        refine lv_iconst (v := 1) hx hb dX10_areTwo_21 (by decide) ?_
        refine lv_goto (tgt := 26) hx hb dX10_areTwo_22 (by decide) ?_
        rw [hQ9]
        exact W.zret (v := 1) hx hb hr (by decide) (fun t ht hW => ⟨⟨1, (), rfl, Or.inl ⟨rfl, by first | trivial | omega⟩, by rw [ht]; exact hP, va_K.moved hW.alike hK, hD⟩, hS.F ht⟩) hS.2.2 dX10_areTwo_26
    · subst e_r3
      refine lv_if_eq (tgt := 25) hx hb dX10_areTwo_13 (by decide) (fun c6 => ?_) (fun c6 => absurd (by decide) c6)
      refine lv_iconst (v := 0) hx hb dX10_areTwo_25 (by decide) ?_
      rw [hQ9]
      exact W.zret (v := 0) hx hb hr (by decide) (fun t ht hW => ⟨⟨0, (), rfl, Or.inr (⟨rfl, by first | trivial | omega⟩), by rw [ht]; exact hP, va_K.moved hW.alike hK, hD⟩, hS.F ht⟩) hS.2.2 dX10_areTwo_26
  · subst e_r1
    refine lv_if_eq (tgt := 25) hx hb dX10_areTwo_5 (by decide) (fun c7 => ?_) (fun c7 => absurd (by decide) c7)
    refine lv_iconst (v := 0) hx hb dX10_areTwo_25 (by decide) ?_
    rw [hQ9]
    exact W.zret (v := 0) hx hb hr (by decide) (fun t ht hW => ⟨⟨0, (), rfl, Or.inr (⟨rfl, by first | trivial | omega⟩), by rw [ht]; exact hP, va_K.moved hW.alike hK, hD⟩, hS.F ht⟩) hS.2.2 dX10_areTwo_26

set_option maxRecDepth 100000 in
set_option maxHeartbeats 4000000 in
/-- feeOf of the reference -/
theorem c_X10_feeOf (l : Launch) (dC : Nat → ClassId) (dI : Nat → Nat → Nat) (h0 : Nat) (p0 : Int32) (p1 : Int32) (q_s : Nat) (v_fees : Int64) (q_thought : Nat) (v_thoughtFees : Int64) (q_image : Nat) (v_imageFees : Int64) (v_hasImage : Int32) (q_tape : Nat) (v_taped : Int32) (q_texts : Nat) (q_sizes : Nat) (v_programs : Int32) (q_imageTexts : Nat) (q_imageSizes : Nat) (v_imagePrograms : Int32) (v_here : Int32) (v_open : Int32) (v_running : Int32) (v_begun : Int32) (q_held : Nat) (q_marks : Nat) (v_markMany : Int32) (q_trace : Nat) (v_traced : Int32) (q_keptBalances : Nat) (q_keptFees : Nat) (v_deep : Int32) (q_way : Nat) (q_sorts : Nat) (q_rowMany : Nat) (q_items : Nat) (q_moved : Nat) (k_s : ClassId) (f_s : Nat → Int32) (sz : Nat) (h1 : 0 ≤ p0.toInt) (h2 : p0.toInt < 8) : Met l yX10_feeOf wsX10_feeOf ({ frames := 0, cells := 0, slots := 0, locals := 0 }) (va_Pc [.ref h0, .int p0, .int p1] (fun U => U.heap.size = sz ∧ va_P (dC, dI) vwCl [eO h0 9 [.ref q_s, .long v_fees, .ref q_thought, .long v_thoughtFees, .ref q_image, .long v_imageFees, .int v_hasImage, .ref q_tape, .int v_taped, .ref q_texts, .ref q_sizes, .int v_programs, .ref q_imageTexts, .ref q_imageSizes, .int v_imagePrograms, .int v_here, .int v_open, .int v_running, .int v_begun, .ref q_held, .ref q_marks, .int v_markMany, .ref q_trace, .int v_traced, .ref q_keptBalances, .ref q_keptFees, .int v_deep, .ref q_way, .ref q_sorts, .ref q_rowMany, .ref q_items, .ref q_moved], eI q_s k_s 125 f_s] U.heap ∧ va_K (dC, dI) vwCl [(k_s, .int)] U ∧ va_D (fun _ => True) [eO h0 9 [.ref q_s, .long v_fees, .ref q_thought, .long v_thoughtFees, .ref q_image, .long v_imageFees, .int v_hasImage, .ref q_tape, .int v_taped, .ref q_texts, .ref q_sizes, .int v_programs, .ref q_imageTexts, .ref q_imageSizes, .int v_imagePrograms, .int v_here, .int v_open, .int v_running, .int v_begun, .ref q_held, .ref q_marks, .int v_markMany, .ref q_trace, .int v_traced, .ref q_keptBalances, .ref q_keptFees, .int v_deep, .ref q_way, .ref q_sorts, .ref q_rowMany, .ref q_items, .ref q_moved], eI q_s k_s 125 f_s])) (va_Qi (fun (r : Int32) (_ : Unit) => True) (fun (_ : Unit) (t : State) => va_P (dC, dI) vwCl [eO h0 9 [.ref q_s, .long v_fees, .ref q_thought, .long v_thoughtFees, .ref q_image, .long v_imageFees, .int v_hasImage, .ref q_tape, .int v_taped, .ref q_texts, .ref q_sizes, .int v_programs, .ref q_imageTexts, .ref q_imageSizes, .int v_imagePrograms, .int v_here, .int v_open, .int v_running, .int v_begun, .ref q_held, .ref q_marks, .int v_markMany, .ref q_trace, .int v_traced, .ref q_keptBalances, .ref q_keptFees, .int v_deep, .ref q_way, .ref q_sorts, .ref q_rowMany, .ref q_items, .ref q_moved], eI q_s k_s 125 f_s] t.heap ∧ va_K (dC, dI) vwCl [(k_s, .int)] t ∧ va_D (va_A [eO h0 9 [.ref q_s, .long v_fees, .ref q_thought, .long v_thoughtFees, .ref q_image, .long v_imageFees, .int v_hasImage, .ref q_tape, .int v_taped, .ref q_texts, .ref q_sizes, .int v_programs, .ref q_imageTexts, .ref q_imageSizes, .int v_imagePrograms, .int v_here, .int v_open, .int v_running, .int v_begun, .ref q_held, .ref q_marks, .int v_markMany, .ref q_trace, .int v_traced, .ref q_keptBalances, .ref q_keptFees, .int v_deep, .ref q_way, .ref q_sorts, .ref q_rowMany, .ref q_items, .ref q_moved], eI q_s k_s 125 f_s] sz) [eO h0 9 [.ref q_s, .long v_fees, .ref q_thought, .long v_thoughtFees, .ref q_image, .long v_imageFees, .int v_hasImage, .ref q_tape, .int v_taped, .ref q_texts, .ref q_sizes, .int v_programs, .ref q_imageTexts, .ref q_imageSizes, .int v_imagePrograms, .int v_here, .int v_open, .int v_running, .int v_begun, .ref q_held, .ref q_marks, .int v_markMany, .ref q_trace, .int v_traced, .ref q_keptBalances, .ref q_keptFees, .int v_deep, .ref q_way, .ref q_sorts, .ref q_rowMany, .ref q_items, .ref q_moved], eI q_s k_s 125 f_s]) (va_A [eO h0 9 [.ref q_s, .long v_fees, .ref q_thought, .long v_thoughtFees, .ref q_image, .long v_imageFees, .int v_hasImage, .ref q_tape, .int v_taped, .ref q_texts, .ref q_sizes, .int v_programs, .ref q_imageTexts, .ref q_imageSizes, .int v_imagePrograms, .int v_here, .int v_open, .int v_running, .int v_begun, .ref q_held, .ref q_marks, .int v_markMany, .ref q_trace, .int v_traced, .ref q_keptBalances, .ref q_keptFees, .int v_deep, .ref q_way, .ref q_sorts, .ref q_rowMany, .ref q_items, .ref q_moved], eI q_s k_s 125 f_s] sz)) 0 0 (va_A [eO h0 9 [.ref q_s, .long v_fees, .ref q_thought, .long v_thoughtFees, .ref q_image, .long v_imageFees, .int v_hasImage, .ref q_tape, .int v_taped, .ref q_texts, .ref q_sizes, .int v_programs, .ref q_imageTexts, .ref q_imageSizes, .int v_imagePrograms, .int v_here, .int v_open, .int v_running, .int v_begun, .ref q_held, .ref q_marks, .int v_markMany, .ref q_trace, .int v_traced, .ref q_keptBalances, .ref q_keptFees, .int v_deep, .ref q_way, .ref q_sorts, .ref q_rowMany, .ref q_items, .ref q_moved], eI q_s k_s 125 f_s] sz) := by
  refine Met.ofW (cc := cX10_feeOf) (maxL := 4) (ret := (some .int)) (by decide) rfl ?_
  intro p e s m args below meth c s₁ B hml hv
  obtain ⟨rfl, hsz, hP, hK, hD0⟩ := hv
  have hx := B.exec
  have hb := B.bytes
  have hr := B.returns
  have hts := atoms_spec (ws := wsX10_feeOf) B.pre
  have hown : s.vm.findClass RX10 = some m.cls := findClass_of_methodNamed B.named
  have hlocks := B.notSynchronized
  subst hsz
  have hD := hD0.self (sz := s.heap.size)
  generalize hAe : va_A [eO h0 9 [.ref q_s, .long v_fees, .ref q_thought, .long v_thoughtFees, .ref q_image, .long v_imageFees, .int v_hasImage, .ref q_tape, .int v_taped, .ref q_texts, .ref q_sizes, .int v_programs, .ref q_imageTexts, .ref q_imageSizes, .int v_imagePrograms, .int v_here, .int v_open, .int v_running, .int v_begun, .ref q_held, .ref q_marks, .int v_markMany, .ref q_trace, .int v_traced, .ref q_keptBalances, .ref q_keptFees, .int v_deep, .ref q_way, .ref q_sorts, .ref q_rowMany, .ref q_items, .ref q_moved], eI q_s k_s 125 f_s] s.heap.size = A at hD ⊢
  have hA : ∀ q : Nat, s.heap.size ≤ q → A q := fun q h => by rw [← hAe]; exact Or.inr h
  have hS : va_S A s.heap s.heap [] := va_S.rf
  have hP : va_P (dC, dI) vwCl [eO h0 9 [.ref q_s, .long v_fees, .ref q_thought, .long v_thoughtFees, .ref q_image, .long v_imageFees, .int v_hasImage, .ref q_tape, .int v_taped, .ref q_texts, .ref q_sizes, .int v_programs, .ref q_imageTexts, .ref q_imageSizes, .int v_imagePrograms, .int v_here, .int v_open, .int v_running, .int v_begun, .ref q_held, .ref q_marks, .int v_markMany, .ref q_trace, .int v_traced, .ref q_keptBalances, .ref q_keptFees, .int v_deep, .ref q_way, .ref q_sorts, .ref q_rowMany, .ref q_items, .ref q_moved], eI q_s k_s 125 f_s] s.heap := hP
  have hl := lv_entry ([.ref h0, .int p0, .int p1]) (n := 4) (Nat.le_of_ble_eq_true rfl)
  rw [lg_entry_eq]
  generalize (lg_sl ([.ref h0, .int p0, .int p1]) ++ List.replicate (4 - (lg_sl ([.ref h0, .int p0, .int p1])).length) Slot.unset).toArray = ls at hl ⊢
  have hl : lv_has ls 4 [(0, .ref h0), (1, .int p0), (2, .int p1)] := hl
  suffices key9 : ∀ Q9 : State → Prop, Q9 = (MQ below (va_Qi (fun (r : Int32) (_ : Unit) => True) (fun (_ : Unit) (t : State) => va_P (dC, dI) vwCl [eO h0 9 [.ref q_s, .long v_fees, .ref q_thought, .long v_thoughtFees, .ref q_image, .long v_imageFees, .int v_hasImage, .ref q_tape, .int v_taped, .ref q_texts, .ref q_sizes, .int v_programs, .ref q_imageTexts, .ref q_imageSizes, .int v_imagePrograms, .int v_here, .int v_open, .int v_running, .int v_begun, .ref q_held, .ref q_marks, .int v_markMany, .ref q_trace, .int v_traced, .ref q_keptBalances, .ref q_keptFees, .int v_deep, .ref q_way, .ref q_sorts, .ref q_rowMany, .ref q_items, .ref q_moved], eI q_s k_s 125 f_s] t.heap ∧ va_K (dC, dI) vwCl [(k_s, .int)] t ∧ va_D A [eO h0 9 [.ref q_s, .long v_fees, .ref q_thought, .long v_thoughtFees, .ref q_image, .long v_imageFees, .int v_hasImage, .ref q_tape, .int v_taped, .ref q_texts, .ref q_sizes, .int v_programs, .ref q_imageTexts, .ref q_imageSizes, .int v_imagePrograms, .int v_here, .int v_open, .int v_running, .int v_begun, .ref q_held, .ref q_marks, .int v_markMany, .ref q_trace, .int v_traced, .ref q_keptBalances, .ref q_keptFees, .int v_deep, .ref q_way, .ref q_sorts, .ref q_rowMany, .ref q_items, .ref q_moved], eI q_s k_s 125 f_s]) A) (([.ref h0, .int p0, .int p1] : List Value).toArray) s 0 0 A) → W p l e ({ frames := 0, cells := 0, slots := 0, locals := 0 }) s m (([.ref h0, .int p0, .int p1] : List Value).toArray) below meth c s.heap [] 0 0 Q9 (F0 m 0 ls []) from key9 _ rfl
  intro Q9 hQ9
  have k_0 : (0 : Int32).toInt = 0 := by decide
  have k_1 : (1 : Int32).toInt = 1 := by decide
  have k_4 : (4 : Int32).toInt = 4 := by decide
  have k_10 : (10 : Int32).toInt = 10 := by decide
  refine lv_aload_n hx hb dX10_feeOf_0 rfl (lv_at hl 0 rfl) ?_
  refine va_get (D := (dC, dI)) (ci := 9) (v := .ref q_s) (C := RX10) (T := TX10) (N := 32) hx hb hts (fun w h => List.mem_cons_of_mem _ (inlX10 w h)) hown hK hP 0 rfl rfl 0 (by decide) (hts (.fieldLink RX10 11 "ClearingGatesModel" "s" "[I") (List.mem_cons_of_mem _ mw_609)) (fun _ h9 => h9) rfl dX10_feeOf_1 ?_
  refine lv_iconst (v := 0) hx hb dX10_feeOf_4 (by decide) ?_
  refine lv_iload_n hx hb dX10_feeOf_5 rfl (lv_at hl 1 rfl) ?_
  refine lv_iadd hx hb dX10_feeOf_6 ?_
  refine lv_topi (fun z1 e_z1 => ?_)
  (first | have t_z1 := i_add e_z1 (by omega) (by omega) | skip)
  refine va_iald (D := (dC, dI)) hx hb hK hP 1 0 rfl rfl (vp_in_iff.mpr ⟨by omega, by omega⟩) dX10_feeOf_7 ?_
  refine lv_topi (fun z2 e_z2 => ?_)
  refine lv_istore_n (lv' := [(3, .int z2), (0, .ref h0), (1, .int p0), (2, .int p1)]) hx hb dX10_feeOf_8 rfl hl (by decide) rfl (fun ls hl => ?_)
  refine lv_iload_n hx hb dX10_feeOf_9 rfl (lv_at hl 0 rfl) ?_
  refine lv_iconst (v := 1) hx hb dX10_feeOf_10 (by decide) ?_
  refine lv_icmp_ne (tgt := 18) hx hb dX10_feeOf_11 (by decide) (fun c3 => ?_) (fun c3 => ?_)
  · skip
    have f_c3 := i_ne c3
    refine lv_iload_n hx hb dX10_feeOf_18 rfl (lv_at hl 0 rfl) ?_
    refine lv_iconst (v := 4) hx hb dX10_feeOf_19 (by decide) ?_
    refine lv_icmp_ne (tgt := 32) hx hb dX10_feeOf_20 (by decide) (fun c4 => ?_) (fun c4 => ?_)
    · skip
      have f_c4 := i_ne c4
      refine lv_iconst (v := 0) hx hb dX10_feeOf_32 (by decide) ?_
      rw [hQ9]
      exact W.iret (v := 0) hx hb hr (fun t ht hW => ⟨⟨0, (), rfl, (by first | rfl | trivial), by rw [ht]; exact hP, va_K.moved hW.alike hK, hD⟩, hS.F ht⟩) hS.2.2 dX10_feeOf_33
    · skip
      have f_c4 := i_eq c4
      refine lv_iconst (v := 1) hx hb dX10_feeOf_23 (by decide) ?_
      refine lv_iload_n hx hb dX10_feeOf_24 rfl (lv_at hl 3 rfl) ?_
      refine lv_bipush (v := 10) hx hb dX10_feeOf_25 (by decide) ?_
      refine lv_idiv hx hb dX10_feeOf_27 (by decide) ?_
      refine lv_topi (fun z5 e_z5 => ?_)
      refine lv_iadd hx hb dX10_feeOf_28 ?_
      refine lv_topi (fun z6 e_z6 => ?_)
      (first | have t_z6 := i_add e_z6 (by omega) (by omega) | skip)
      refine lv_goto (tgt := 33) hx hb dX10_feeOf_29 (by decide) ?_
      rw [hQ9]
      exact W.iret (v := z6) hx hb hr (fun t ht hW => ⟨⟨z6, (), rfl, (by first | rfl | trivial), by rw [ht]; exact hP, va_K.moved hW.alike hK, hD⟩, hS.F ht⟩) hS.2.2 dX10_feeOf_33
  · skip
    have f_c3 := i_eq c3
    refine lv_iconst (v := 1) hx hb dX10_feeOf_14 (by decide) ?_
    refine lv_goto (tgt := 33) hx hb dX10_feeOf_15 (by decide) ?_
    rw [hQ9]
    exact W.iret (v := 1) hx hb hr (fun t ht hW => ⟨⟨1, (), rfl, (by first | rfl | trivial), by rw [ht]; exact hP, va_K.moved hW.alike hK, hD⟩, hS.F ht⟩) hS.2.2 dX10_feeOf_33

set_option maxRecDepth 100000 in
set_option maxHeartbeats 4000000 in
/-- floorOf of the reference -/
theorem c_X10_floorOf (l : Launch) (dC : Nat → ClassId) (dI : Nat → Nat → Nat) (h0 : Nat) (p0 : Int32) (q_s : Nat) (v_fees : Int64) (q_thought : Nat) (v_thoughtFees : Int64) (q_image : Nat) (v_imageFees : Int64) (v_hasImage : Int32) (q_tape : Nat) (v_taped : Int32) (q_texts : Nat) (q_sizes : Nat) (v_programs : Int32) (q_imageTexts : Nat) (q_imageSizes : Nat) (v_imagePrograms : Int32) (v_here : Int32) (v_open : Int32) (v_running : Int32) (v_begun : Int32) (q_held : Nat) (q_marks : Nat) (v_markMany : Int32) (q_trace : Nat) (v_traced : Int32) (q_keptBalances : Nat) (q_keptFees : Nat) (v_deep : Int32) (q_way : Nat) (q_sorts : Nat) (q_rowMany : Nat) (q_items : Nat) (q_moved : Nat) (k_s : ClassId) (f_s : Nat → Int32) (sz : Nat) (h1 : 0 ≤ p0.toInt) (h2 : p0.toInt < 8) : Met l yX10_floorOf wsX10_floorOf ({ frames := 0, cells := 0, slots := 0, locals := 0 }) (va_Pc [.ref h0, .int p0] (fun U => U.heap.size = sz ∧ va_P (dC, dI) vwCl [eO h0 9 [.ref q_s, .long v_fees, .ref q_thought, .long v_thoughtFees, .ref q_image, .long v_imageFees, .int v_hasImage, .ref q_tape, .int v_taped, .ref q_texts, .ref q_sizes, .int v_programs, .ref q_imageTexts, .ref q_imageSizes, .int v_imagePrograms, .int v_here, .int v_open, .int v_running, .int v_begun, .ref q_held, .ref q_marks, .int v_markMany, .ref q_trace, .int v_traced, .ref q_keptBalances, .ref q_keptFees, .int v_deep, .ref q_way, .ref q_sorts, .ref q_rowMany, .ref q_items, .ref q_moved], eI q_s k_s 125 f_s] U.heap ∧ va_K (dC, dI) vwCl [(k_s, .int)] U ∧ va_D (fun _ => True) [eO h0 9 [.ref q_s, .long v_fees, .ref q_thought, .long v_thoughtFees, .ref q_image, .long v_imageFees, .int v_hasImage, .ref q_tape, .int v_taped, .ref q_texts, .ref q_sizes, .int v_programs, .ref q_imageTexts, .ref q_imageSizes, .int v_imagePrograms, .int v_here, .int v_open, .int v_running, .int v_begun, .ref q_held, .ref q_marks, .int v_markMany, .ref q_trace, .int v_traced, .ref q_keptBalances, .ref q_keptFees, .int v_deep, .ref q_way, .ref q_sorts, .ref q_rowMany, .ref q_items, .ref q_moved], eI q_s k_s 125 f_s])) (va_Qi (fun (r : Int32) (_ : Unit) => True) (fun (_ : Unit) (t : State) => va_P (dC, dI) vwCl [eO h0 9 [.ref q_s, .long v_fees, .ref q_thought, .long v_thoughtFees, .ref q_image, .long v_imageFees, .int v_hasImage, .ref q_tape, .int v_taped, .ref q_texts, .ref q_sizes, .int v_programs, .ref q_imageTexts, .ref q_imageSizes, .int v_imagePrograms, .int v_here, .int v_open, .int v_running, .int v_begun, .ref q_held, .ref q_marks, .int v_markMany, .ref q_trace, .int v_traced, .ref q_keptBalances, .ref q_keptFees, .int v_deep, .ref q_way, .ref q_sorts, .ref q_rowMany, .ref q_items, .ref q_moved], eI q_s k_s 125 f_s] t.heap ∧ va_K (dC, dI) vwCl [(k_s, .int)] t ∧ va_D (va_A [eO h0 9 [.ref q_s, .long v_fees, .ref q_thought, .long v_thoughtFees, .ref q_image, .long v_imageFees, .int v_hasImage, .ref q_tape, .int v_taped, .ref q_texts, .ref q_sizes, .int v_programs, .ref q_imageTexts, .ref q_imageSizes, .int v_imagePrograms, .int v_here, .int v_open, .int v_running, .int v_begun, .ref q_held, .ref q_marks, .int v_markMany, .ref q_trace, .int v_traced, .ref q_keptBalances, .ref q_keptFees, .int v_deep, .ref q_way, .ref q_sorts, .ref q_rowMany, .ref q_items, .ref q_moved], eI q_s k_s 125 f_s] sz) [eO h0 9 [.ref q_s, .long v_fees, .ref q_thought, .long v_thoughtFees, .ref q_image, .long v_imageFees, .int v_hasImage, .ref q_tape, .int v_taped, .ref q_texts, .ref q_sizes, .int v_programs, .ref q_imageTexts, .ref q_imageSizes, .int v_imagePrograms, .int v_here, .int v_open, .int v_running, .int v_begun, .ref q_held, .ref q_marks, .int v_markMany, .ref q_trace, .int v_traced, .ref q_keptBalances, .ref q_keptFees, .int v_deep, .ref q_way, .ref q_sorts, .ref q_rowMany, .ref q_items, .ref q_moved], eI q_s k_s 125 f_s]) (va_A [eO h0 9 [.ref q_s, .long v_fees, .ref q_thought, .long v_thoughtFees, .ref q_image, .long v_imageFees, .int v_hasImage, .ref q_tape, .int v_taped, .ref q_texts, .ref q_sizes, .int v_programs, .ref q_imageTexts, .ref q_imageSizes, .int v_imagePrograms, .int v_here, .int v_open, .int v_running, .int v_begun, .ref q_held, .ref q_marks, .int v_markMany, .ref q_trace, .int v_traced, .ref q_keptBalances, .ref q_keptFees, .int v_deep, .ref q_way, .ref q_sorts, .ref q_rowMany, .ref q_items, .ref q_moved], eI q_s k_s 125 f_s] sz)) 0 0 (va_A [eO h0 9 [.ref q_s, .long v_fees, .ref q_thought, .long v_thoughtFees, .ref q_image, .long v_imageFees, .int v_hasImage, .ref q_tape, .int v_taped, .ref q_texts, .ref q_sizes, .int v_programs, .ref q_imageTexts, .ref q_imageSizes, .int v_imagePrograms, .int v_here, .int v_open, .int v_running, .int v_begun, .ref q_held, .ref q_marks, .int v_markMany, .ref q_trace, .int v_traced, .ref q_keptBalances, .ref q_keptFees, .int v_deep, .ref q_way, .ref q_sorts, .ref q_rowMany, .ref q_items, .ref q_moved], eI q_s k_s 125 f_s] sz) := by
  refine Met.ofW (cc := cX10_floorOf) (maxL := 2) (ret := (some .int)) (by decide) rfl ?_
  intro p e s m args below meth c s₁ B hml hv
  obtain ⟨rfl, hsz, hP, hK, hD0⟩ := hv
  have hx := B.exec
  have hb := B.bytes
  have hr := B.returns
  have hts := atoms_spec (ws := wsX10_floorOf) B.pre
  have hown : s.vm.findClass RX10 = some m.cls := findClass_of_methodNamed B.named
  have hlocks := B.notSynchronized
  subst hsz
  have hD := hD0.self (sz := s.heap.size)
  generalize hAe : va_A [eO h0 9 [.ref q_s, .long v_fees, .ref q_thought, .long v_thoughtFees, .ref q_image, .long v_imageFees, .int v_hasImage, .ref q_tape, .int v_taped, .ref q_texts, .ref q_sizes, .int v_programs, .ref q_imageTexts, .ref q_imageSizes, .int v_imagePrograms, .int v_here, .int v_open, .int v_running, .int v_begun, .ref q_held, .ref q_marks, .int v_markMany, .ref q_trace, .int v_traced, .ref q_keptBalances, .ref q_keptFees, .int v_deep, .ref q_way, .ref q_sorts, .ref q_rowMany, .ref q_items, .ref q_moved], eI q_s k_s 125 f_s] s.heap.size = A at hD ⊢
  have hA : ∀ q : Nat, s.heap.size ≤ q → A q := fun q h => by rw [← hAe]; exact Or.inr h
  have hS : va_S A s.heap s.heap [] := va_S.rf
  have hP : va_P (dC, dI) vwCl [eO h0 9 [.ref q_s, .long v_fees, .ref q_thought, .long v_thoughtFees, .ref q_image, .long v_imageFees, .int v_hasImage, .ref q_tape, .int v_taped, .ref q_texts, .ref q_sizes, .int v_programs, .ref q_imageTexts, .ref q_imageSizes, .int v_imagePrograms, .int v_here, .int v_open, .int v_running, .int v_begun, .ref q_held, .ref q_marks, .int v_markMany, .ref q_trace, .int v_traced, .ref q_keptBalances, .ref q_keptFees, .int v_deep, .ref q_way, .ref q_sorts, .ref q_rowMany, .ref q_items, .ref q_moved], eI q_s k_s 125 f_s] s.heap := hP
  have hl := lv_entry ([.ref h0, .int p0]) (n := 2) (Nat.le_of_ble_eq_true rfl)
  rw [lg_entry_eq]
  generalize (lg_sl ([.ref h0, .int p0]) ++ List.replicate (2 - (lg_sl ([.ref h0, .int p0])).length) Slot.unset).toArray = ls at hl ⊢
  have hl : lv_has ls 2 [(0, .ref h0), (1, .int p0)] := hl
  suffices key9 : ∀ Q9 : State → Prop, Q9 = (MQ below (va_Qi (fun (r : Int32) (_ : Unit) => True) (fun (_ : Unit) (t : State) => va_P (dC, dI) vwCl [eO h0 9 [.ref q_s, .long v_fees, .ref q_thought, .long v_thoughtFees, .ref q_image, .long v_imageFees, .int v_hasImage, .ref q_tape, .int v_taped, .ref q_texts, .ref q_sizes, .int v_programs, .ref q_imageTexts, .ref q_imageSizes, .int v_imagePrograms, .int v_here, .int v_open, .int v_running, .int v_begun, .ref q_held, .ref q_marks, .int v_markMany, .ref q_trace, .int v_traced, .ref q_keptBalances, .ref q_keptFees, .int v_deep, .ref q_way, .ref q_sorts, .ref q_rowMany, .ref q_items, .ref q_moved], eI q_s k_s 125 f_s] t.heap ∧ va_K (dC, dI) vwCl [(k_s, .int)] t ∧ va_D A [eO h0 9 [.ref q_s, .long v_fees, .ref q_thought, .long v_thoughtFees, .ref q_image, .long v_imageFees, .int v_hasImage, .ref q_tape, .int v_taped, .ref q_texts, .ref q_sizes, .int v_programs, .ref q_imageTexts, .ref q_imageSizes, .int v_imagePrograms, .int v_here, .int v_open, .int v_running, .int v_begun, .ref q_held, .ref q_marks, .int v_markMany, .ref q_trace, .int v_traced, .ref q_keptBalances, .ref q_keptFees, .int v_deep, .ref q_way, .ref q_sorts, .ref q_rowMany, .ref q_items, .ref q_moved], eI q_s k_s 125 f_s]) A) (([.ref h0, .int p0] : List Value).toArray) s 0 0 A) → W p l e ({ frames := 0, cells := 0, slots := 0, locals := 0 }) s m (([.ref h0, .int p0] : List Value).toArray) below meth c s.heap [] 0 0 Q9 (F0 m 0 ls []) from key9 _ rfl
  intro Q9 hQ9
  have k_m2 : ((-2) : Int32).toInt = (-2) := by decide
  have k_0 : (0 : Int32).toInt = 0 := by decide
  have k_1 : (1 : Int32).toInt = 1 := by decide
  have k_2 : (2 : Int32).toInt = 2 := by decide
  have k_3 : (3 : Int32).toInt = 3 := by decide
  have k_10 : (10 : Int32).toInt = 10 := by decide
  have k_16 : (16 : Int32).toInt = 16 := by decide
  refine lv_aload_n hx hb dX10_floorOf_0 rfl (lv_at hl 0 rfl) ?_
  refine va_get (D := (dC, dI)) (ci := 9) (v := .ref q_s) (C := RX10) (T := TX10) (N := 32) hx hb hts (fun w h => List.mem_cons_of_mem _ (inlX10 w h)) hown hK hP 0 rfl rfl 0 (by decide) (hts (.fieldLink RX10 11 "ClearingGatesModel" "s" "[I") (List.mem_cons_of_mem _ mw_609)) (fun _ h9 => h9) rfl dX10_floorOf_1 ?_
  refine lv_iconst (v := 0) hx hb dX10_floorOf_4 (by decide) ?_
  refine lv_iload_n hx hb dX10_floorOf_5 rfl (lv_at hl 1 rfl) ?_
  refine lv_iadd hx hb dX10_floorOf_6 ?_
  refine lv_topi (fun z1 e_z1 => ?_)
  (first | have t_z1 := i_add e_z1 (by omega) (by omega) | skip)
  refine va_iald (D := (dC, dI)) hx hb hK hP 1 0 rfl rfl (vp_in_iff.mpr ⟨by omega, by omega⟩) dX10_floorOf_7 ?_
  refine lv_topi (fun z2 e_z2 => ?_)
  rcases Decidable.em (z2 = 1) with c3 | c3
  · refine lv_tableIn (off := 28) (tgt := 36) hx hb dX10_floorOf_8 (by rw [c3]; decide) (by rw [c3]; decide) (by rw [c3]; decide) (by decide) ?_
    have f_c3 := i_eq c3
    refine lv_bipush (v := 10) hx hb dX10_floorOf_36 (by decide) ?_
    rw [hQ9]
    exact W.iret (v := 10) hx hb hr (fun t ht hW => ⟨⟨10, (), rfl, (by first | rfl | trivial), by rw [ht]; exact hP, va_K.moved hW.alike hK, hD⟩, hS.F ht⟩) hS.2.2 dX10_floorOf_38
  have f_c3 := i_ne c3
  rcases Decidable.em (z2 = 2) with c4 | c4
  · refine lv_tableIn (off := 31) (tgt := 39) hx hb dX10_floorOf_8 (by rw [c4]; decide) (by rw [c4]; decide) (by rw [c4]; decide) (by decide) ?_
    have f_c4 := i_eq c4
    refine lv_aload_n hx hb dX10_floorOf_39 rfl (lv_at hl 0 rfl) ?_
    refine va_get (D := (dC, dI)) (ci := 9) (v := .ref q_s) (C := RX10) (T := TX10) (N := 32) hx hb hts (fun w h => List.mem_cons_of_mem _ (inlX10 w h)) hown hK hP 0 rfl rfl 0 (by decide) (hts (.fieldLink RX10 11 "ClearingGatesModel" "s" "[I") (List.mem_cons_of_mem _ mw_609)) (fun _ h9 => h9) rfl dX10_floorOf_40 ?_
    refine lv_bipush (v := 16) hx hb dX10_floorOf_43 (by decide) ?_
    refine lv_iload_n hx hb dX10_floorOf_45 rfl (lv_at hl 1 rfl) ?_
    refine lv_iadd hx hb dX10_floorOf_46 ?_
    refine lv_topi (fun z5 e_z5 => ?_)
    (first | have t_z5 := i_add e_z5 (by omega) (by omega) | skip)
    refine va_iald (D := (dC, dI)) hx hb hK hP 1 0 rfl rfl (vp_in_iff.mpr ⟨by omega, by omega⟩) dX10_floorOf_47 ?_
    refine lv_topi (fun z6 e_z6 => ?_)
    refine lv_ineg hx hb dX10_floorOf_48 ?_
    refine lv_topi (fun z7 e_z7 => ?_)
    rw [hQ9]
    exact W.iret (v := z7) hx hb hr (fun t ht hW => ⟨⟨z7, (), rfl, (by first | rfl | trivial), by rw [ht]; exact hP, va_K.moved hW.alike hK, hD⟩, hS.F ht⟩) hS.2.2 dX10_floorOf_49
  have f_c4 := i_ne c4
  rcases Decidable.em (z2 = 3) with c8 | c8
  · refine lv_tableIn (off := 42) (tgt := 50) hx hb dX10_floorOf_8 (by rw [c8]; decide) (by rw [c8]; decide) (by rw [c8]; decide) (by decide) ?_
    have f_c8 := i_eq c8
    refine lv_bipush (v := -2) hx hb dX10_floorOf_50 (by decide) ?_
    refine lv_aload_n hx hb dX10_floorOf_52 rfl (lv_at hl 0 rfl) ?_
    refine va_get (D := (dC, dI)) (ci := 9) (v := .ref q_s) (C := RX10) (T := TX10) (N := 32) hx hb hts (fun w h => List.mem_cons_of_mem _ (inlX10 w h)) hown hK hP 0 rfl rfl 0 (by decide) (hts (.fieldLink RX10 11 "ClearingGatesModel" "s" "[I") (List.mem_cons_of_mem _ mw_609)) (fun _ h9 => h9) rfl dX10_floorOf_53 ?_
    refine lv_bipush (v := 16) hx hb dX10_floorOf_56 (by decide) ?_
    refine lv_iload_n hx hb dX10_floorOf_58 rfl (lv_at hl 1 rfl) ?_
    refine lv_iadd hx hb dX10_floorOf_59 ?_
    refine lv_topi (fun z9 e_z9 => ?_)
    (first | have t_z9 := i_add e_z9 (by omega) (by omega) | skip)
    refine va_iald (D := (dC, dI)) hx hb hK hP 1 0 rfl rfl (vp_in_iff.mpr ⟨by omega, by omega⟩) dX10_floorOf_60 ?_
    refine lv_topi (fun z10 e_z10 => ?_)
    refine lv_imul hx hb dX10_floorOf_61 ?_
    refine lv_topi (fun z11 e_z11 => ?_)
    rw [hQ9]
    exact W.iret (v := z11) hx hb hr (fun t ht hW => ⟨⟨z11, (), rfl, (by first | rfl | trivial), by rw [ht]; exact hP, va_K.moved hW.alike hK, hD⟩, hS.F ht⟩) hS.2.2 dX10_floorOf_62
  have f_c8 := i_ne c8
  refine lv_tableOut (tgt := 63) hx hb dX10_floorOf_8 (by omega) (by decide) ?_
  refine lv_iconst (v := 0) hx hb dX10_floorOf_63 (by decide) ?_
  rw [hQ9]
  exact W.iret (v := 0) hx hb hr (fun t ht hW => ⟨⟨0, (), rfl, (by first | rfl | trivial), by rw [ht]; exact hP, va_K.moved hW.alike hK, hD⟩, hS.F ht⟩) hS.2.2 dX10_floorOf_64

set_option maxRecDepth 100000 in
set_option maxHeartbeats 4000000 in
/-- owedTo of the reference -/
theorem c_X10_owedTo (l : Launch) (dC : Nat → ClassId) (dI : Nat → Nat → Nat) (h0 : Nat) (p0 : Int32) (p1 : Int32) (q_s : Nat) (v_fees : Int64) (q_thought : Nat) (v_thoughtFees : Int64) (q_image : Nat) (v_imageFees : Int64) (v_hasImage : Int32) (q_tape : Nat) (v_taped : Int32) (q_texts : Nat) (q_sizes : Nat) (v_programs : Int32) (q_imageTexts : Nat) (q_imageSizes : Nat) (v_imagePrograms : Int32) (v_here : Int32) (v_open : Int32) (v_running : Int32) (v_begun : Int32) (q_held : Nat) (q_marks : Nat) (v_markMany : Int32) (q_trace : Nat) (v_traced : Int32) (q_keptBalances : Nat) (q_keptFees : Nat) (v_deep : Int32) (q_way : Nat) (q_sorts : Nat) (q_rowMany : Nat) (q_items : Nat) (q_moved : Nat) (k_s : ClassId) (f_s : Nat → Int32) (sz : Nat) (h1 : 0 ≤ p0.toInt) (h2 : p0.toInt < 8) (h3 : 0 ≤ p1.toInt) (h4 : p1.toInt < 8) : Met l yX10_owedTo wsX10_owedTo ({ frames := 0, cells := 0, slots := 0, locals := 0 }) (va_Pc [.ref h0, .int p0, .int p1] (fun U => U.heap.size = sz ∧ va_P (dC, dI) vwCl [eO h0 9 [.ref q_s, .long v_fees, .ref q_thought, .long v_thoughtFees, .ref q_image, .long v_imageFees, .int v_hasImage, .ref q_tape, .int v_taped, .ref q_texts, .ref q_sizes, .int v_programs, .ref q_imageTexts, .ref q_imageSizes, .int v_imagePrograms, .int v_here, .int v_open, .int v_running, .int v_begun, .ref q_held, .ref q_marks, .int v_markMany, .ref q_trace, .int v_traced, .ref q_keptBalances, .ref q_keptFees, .int v_deep, .ref q_way, .ref q_sorts, .ref q_rowMany, .ref q_items, .ref q_moved], eI q_s k_s 125 f_s] U.heap ∧ va_K (dC, dI) vwCl [(k_s, .int)] U ∧ va_D (fun _ => True) [eO h0 9 [.ref q_s, .long v_fees, .ref q_thought, .long v_thoughtFees, .ref q_image, .long v_imageFees, .int v_hasImage, .ref q_tape, .int v_taped, .ref q_texts, .ref q_sizes, .int v_programs, .ref q_imageTexts, .ref q_imageSizes, .int v_imagePrograms, .int v_here, .int v_open, .int v_running, .int v_begun, .ref q_held, .ref q_marks, .int v_markMany, .ref q_trace, .int v_traced, .ref q_keptBalances, .ref q_keptFees, .int v_deep, .ref q_way, .ref q_sorts, .ref q_rowMany, .ref q_items, .ref q_moved], eI q_s k_s 125 f_s])) (va_Qi (fun (r : Int32) (_ : Unit) => r = f_s (61 + 8 * p0.toInt.toNat + p1.toInt.toNat)) (fun (_ : Unit) (t : State) => va_P (dC, dI) vwCl [eO h0 9 [.ref q_s, .long v_fees, .ref q_thought, .long v_thoughtFees, .ref q_image, .long v_imageFees, .int v_hasImage, .ref q_tape, .int v_taped, .ref q_texts, .ref q_sizes, .int v_programs, .ref q_imageTexts, .ref q_imageSizes, .int v_imagePrograms, .int v_here, .int v_open, .int v_running, .int v_begun, .ref q_held, .ref q_marks, .int v_markMany, .ref q_trace, .int v_traced, .ref q_keptBalances, .ref q_keptFees, .int v_deep, .ref q_way, .ref q_sorts, .ref q_rowMany, .ref q_items, .ref q_moved], eI q_s k_s 125 f_s] t.heap ∧ va_K (dC, dI) vwCl [(k_s, .int)] t ∧ va_D (va_A [eO h0 9 [.ref q_s, .long v_fees, .ref q_thought, .long v_thoughtFees, .ref q_image, .long v_imageFees, .int v_hasImage, .ref q_tape, .int v_taped, .ref q_texts, .ref q_sizes, .int v_programs, .ref q_imageTexts, .ref q_imageSizes, .int v_imagePrograms, .int v_here, .int v_open, .int v_running, .int v_begun, .ref q_held, .ref q_marks, .int v_markMany, .ref q_trace, .int v_traced, .ref q_keptBalances, .ref q_keptFees, .int v_deep, .ref q_way, .ref q_sorts, .ref q_rowMany, .ref q_items, .ref q_moved], eI q_s k_s 125 f_s] sz) [eO h0 9 [.ref q_s, .long v_fees, .ref q_thought, .long v_thoughtFees, .ref q_image, .long v_imageFees, .int v_hasImage, .ref q_tape, .int v_taped, .ref q_texts, .ref q_sizes, .int v_programs, .ref q_imageTexts, .ref q_imageSizes, .int v_imagePrograms, .int v_here, .int v_open, .int v_running, .int v_begun, .ref q_held, .ref q_marks, .int v_markMany, .ref q_trace, .int v_traced, .ref q_keptBalances, .ref q_keptFees, .int v_deep, .ref q_way, .ref q_sorts, .ref q_rowMany, .ref q_items, .ref q_moved], eI q_s k_s 125 f_s]) (va_A [eO h0 9 [.ref q_s, .long v_fees, .ref q_thought, .long v_thoughtFees, .ref q_image, .long v_imageFees, .int v_hasImage, .ref q_tape, .int v_taped, .ref q_texts, .ref q_sizes, .int v_programs, .ref q_imageTexts, .ref q_imageSizes, .int v_imagePrograms, .int v_here, .int v_open, .int v_running, .int v_begun, .ref q_held, .ref q_marks, .int v_markMany, .ref q_trace, .int v_traced, .ref q_keptBalances, .ref q_keptFees, .int v_deep, .ref q_way, .ref q_sorts, .ref q_rowMany, .ref q_items, .ref q_moved], eI q_s k_s 125 f_s] sz)) 0 0 (va_A [eO h0 9 [.ref q_s, .long v_fees, .ref q_thought, .long v_thoughtFees, .ref q_image, .long v_imageFees, .int v_hasImage, .ref q_tape, .int v_taped, .ref q_texts, .ref q_sizes, .int v_programs, .ref q_imageTexts, .ref q_imageSizes, .int v_imagePrograms, .int v_here, .int v_open, .int v_running, .int v_begun, .ref q_held, .ref q_marks, .int v_markMany, .ref q_trace, .int v_traced, .ref q_keptBalances, .ref q_keptFees, .int v_deep, .ref q_way, .ref q_sorts, .ref q_rowMany, .ref q_items, .ref q_moved], eI q_s k_s 125 f_s] sz) := by
  refine Met.ofW (cc := cX10_owedTo) (maxL := 3) (ret := (some .int)) (by decide) rfl ?_
  intro p e s m args below meth c s₁ B hml hv
  obtain ⟨rfl, hsz, hP, hK, hD0⟩ := hv
  have hx := B.exec
  have hb := B.bytes
  have hr := B.returns
  have hts := atoms_spec (ws := wsX10_owedTo) B.pre
  have hown : s.vm.findClass RX10 = some m.cls := findClass_of_methodNamed B.named
  have hlocks := B.notSynchronized
  subst hsz
  have hD := hD0.self (sz := s.heap.size)
  generalize hAe : va_A [eO h0 9 [.ref q_s, .long v_fees, .ref q_thought, .long v_thoughtFees, .ref q_image, .long v_imageFees, .int v_hasImage, .ref q_tape, .int v_taped, .ref q_texts, .ref q_sizes, .int v_programs, .ref q_imageTexts, .ref q_imageSizes, .int v_imagePrograms, .int v_here, .int v_open, .int v_running, .int v_begun, .ref q_held, .ref q_marks, .int v_markMany, .ref q_trace, .int v_traced, .ref q_keptBalances, .ref q_keptFees, .int v_deep, .ref q_way, .ref q_sorts, .ref q_rowMany, .ref q_items, .ref q_moved], eI q_s k_s 125 f_s] s.heap.size = A at hD ⊢
  have hA : ∀ q : Nat, s.heap.size ≤ q → A q := fun q h => by rw [← hAe]; exact Or.inr h
  have hS : va_S A s.heap s.heap [] := va_S.rf
  have hP : va_P (dC, dI) vwCl [eO h0 9 [.ref q_s, .long v_fees, .ref q_thought, .long v_thoughtFees, .ref q_image, .long v_imageFees, .int v_hasImage, .ref q_tape, .int v_taped, .ref q_texts, .ref q_sizes, .int v_programs, .ref q_imageTexts, .ref q_imageSizes, .int v_imagePrograms, .int v_here, .int v_open, .int v_running, .int v_begun, .ref q_held, .ref q_marks, .int v_markMany, .ref q_trace, .int v_traced, .ref q_keptBalances, .ref q_keptFees, .int v_deep, .ref q_way, .ref q_sorts, .ref q_rowMany, .ref q_items, .ref q_moved], eI q_s k_s 125 f_s] s.heap := hP
  have hl := lv_entry ([.ref h0, .int p0, .int p1]) (n := 3) (Nat.le_of_ble_eq_true rfl)
  rw [lg_entry_eq]
  generalize (lg_sl ([.ref h0, .int p0, .int p1]) ++ List.replicate (3 - (lg_sl ([.ref h0, .int p0, .int p1])).length) Slot.unset).toArray = ls at hl ⊢
  have hl : lv_has ls 3 [(0, .ref h0), (1, .int p0), (2, .int p1)] := hl
  suffices key9 : ∀ Q9 : State → Prop, Q9 = (MQ below (va_Qi (fun (r : Int32) (_ : Unit) => r = f_s (61 + 8 * p0.toInt.toNat + p1.toInt.toNat)) (fun (_ : Unit) (t : State) => va_P (dC, dI) vwCl [eO h0 9 [.ref q_s, .long v_fees, .ref q_thought, .long v_thoughtFees, .ref q_image, .long v_imageFees, .int v_hasImage, .ref q_tape, .int v_taped, .ref q_texts, .ref q_sizes, .int v_programs, .ref q_imageTexts, .ref q_imageSizes, .int v_imagePrograms, .int v_here, .int v_open, .int v_running, .int v_begun, .ref q_held, .ref q_marks, .int v_markMany, .ref q_trace, .int v_traced, .ref q_keptBalances, .ref q_keptFees, .int v_deep, .ref q_way, .ref q_sorts, .ref q_rowMany, .ref q_items, .ref q_moved], eI q_s k_s 125 f_s] t.heap ∧ va_K (dC, dI) vwCl [(k_s, .int)] t ∧ va_D A [eO h0 9 [.ref q_s, .long v_fees, .ref q_thought, .long v_thoughtFees, .ref q_image, .long v_imageFees, .int v_hasImage, .ref q_tape, .int v_taped, .ref q_texts, .ref q_sizes, .int v_programs, .ref q_imageTexts, .ref q_imageSizes, .int v_imagePrograms, .int v_here, .int v_open, .int v_running, .int v_begun, .ref q_held, .ref q_marks, .int v_markMany, .ref q_trace, .int v_traced, .ref q_keptBalances, .ref q_keptFees, .int v_deep, .ref q_way, .ref q_sorts, .ref q_rowMany, .ref q_items, .ref q_moved], eI q_s k_s 125 f_s]) A) (([.ref h0, .int p0, .int p1] : List Value).toArray) s 0 0 A) → W p l e ({ frames := 0, cells := 0, slots := 0, locals := 0 }) s m (([.ref h0, .int p0, .int p1] : List Value).toArray) below meth c s.heap [] 0 0 Q9 (F0 m 0 ls []) from key9 _ rfl
  intro Q9 hQ9
  have k_8 : (8 : Int32).toInt = 8 := by decide
  have k_61 : (61 : Int32).toInt = 61 := by decide
  refine lv_aload_n hx hb dX10_owedTo_0 rfl (lv_at hl 0 rfl) ?_
  refine va_get (D := (dC, dI)) (ci := 9) (v := .ref q_s) (C := RX10) (T := TX10) (N := 32) hx hb hts (fun w h => List.mem_cons_of_mem _ (inlX10 w h)) hown hK hP 0 rfl rfl 0 (by decide) (hts (.fieldLink RX10 11 "ClearingGatesModel" "s" "[I") (List.mem_cons_of_mem _ mw_609)) (fun _ h9 => h9) rfl dX10_owedTo_1 ?_
  refine lv_bipush (v := 61) hx hb dX10_owedTo_4 (by decide) ?_
  refine lv_bipush (v := 8) hx hb dX10_owedTo_6 (by decide) ?_
  refine lv_iload_n hx hb dX10_owedTo_8 rfl (lv_at hl 1 rfl) ?_
  refine lv_imul hx hb dX10_owedTo_9 ?_
  refine lv_topi (fun z1 e_z1 => ?_)
  have t_z1 := i_mulc e_z1 k_8 (by omega) (by omega)
  refine lv_iadd hx hb dX10_owedTo_10 ?_
  refine lv_topi (fun z2 e_z2 => ?_)
  (first | have t_z2 := i_add e_z2 (by omega) (by omega) | skip)
  refine lv_iload_n hx hb dX10_owedTo_11 rfl (lv_at hl 2 rfl) ?_
  refine lv_iadd hx hb dX10_owedTo_12 ?_
  refine lv_topi (fun z3 e_z3 => ?_)
  (first | have t_z3 := i_add e_z3 (by omega) (by omega) | skip)
  refine va_iald (D := (dC, dI)) hx hb hK hP 1 0 rfl rfl (vp_in_iff.mpr ⟨by omega, by omega⟩) dX10_owedTo_13 ?_
  refine lv_topi (fun z4 e_z4 => ?_)
  rw [hQ9]
  exact W.iret (v := z4) hx hb hr (fun t ht hW => ⟨⟨z4, (), rfl, (by rw [e_z4, i_nat (k := 61 + 8 * p0.toInt.toNat + p1.toInt.toNat) (by omega)]), by rw [ht]; exact hP, va_K.moved hW.alike hK, hD⟩, hS.F ht⟩) hS.2.2 dX10_owedTo_14

set_option maxRecDepth 100000 in
set_option maxHeartbeats 4000000 in
/-- positionOf of the reference -/
theorem c_X10_positionOf (l : Launch) (dC : Nat → ClassId) (dI : Nat → Nat → Nat) (h0 : Nat) (p0 : Int32) (q_s : Nat) (v_fees : Int64) (q_thought : Nat) (v_thoughtFees : Int64) (q_image : Nat) (v_imageFees : Int64) (v_hasImage : Int32) (q_tape : Nat) (v_taped : Int32) (q_texts : Nat) (q_sizes : Nat) (v_programs : Int32) (q_imageTexts : Nat) (q_imageSizes : Nat) (v_imagePrograms : Int32) (v_here : Int32) (v_open : Int32) (v_running : Int32) (v_begun : Int32) (q_held : Nat) (q_marks : Nat) (v_markMany : Int32) (q_trace : Nat) (v_traced : Int32) (q_keptBalances : Nat) (q_keptFees : Nat) (v_deep : Int32) (q_way : Nat) (q_sorts : Nat) (q_rowMany : Nat) (q_items : Nat) (q_moved : Nat) (k_s : ClassId) (f_s : Nat → Int32) (sz : Nat) (h1 : 0 ≤ p0.toInt) (h2 : p0.toInt < 8) (ha1 : 0 ≤ (f_s 60).toInt) (ha2 : (f_s 60).toInt ≤ 8) : Met l yX10_positionOf wsX10_positionOf ({ frames := 1, cells := 0, slots := 0, locals := 22 }) (va_Pc [.ref h0, .int p0] (fun U => U.heap.size = sz ∧ va_P (dC, dI) vwCl [eO h0 9 [.ref q_s, .long v_fees, .ref q_thought, .long v_thoughtFees, .ref q_image, .long v_imageFees, .int v_hasImage, .ref q_tape, .int v_taped, .ref q_texts, .ref q_sizes, .int v_programs, .ref q_imageTexts, .ref q_imageSizes, .int v_imagePrograms, .int v_here, .int v_open, .int v_running, .int v_begun, .ref q_held, .ref q_marks, .int v_markMany, .ref q_trace, .int v_traced, .ref q_keptBalances, .ref q_keptFees, .int v_deep, .ref q_way, .ref q_sorts, .ref q_rowMany, .ref q_items, .ref q_moved], eI q_s k_s 125 f_s] U.heap ∧ va_K (dC, dI) vwCl [(k_s, .int)] U ∧ va_D (fun _ => True) [eO h0 9 [.ref q_s, .long v_fees, .ref q_thought, .long v_thoughtFees, .ref q_image, .long v_imageFees, .int v_hasImage, .ref q_tape, .int v_taped, .ref q_texts, .ref q_sizes, .int v_programs, .ref q_imageTexts, .ref q_imageSizes, .int v_imagePrograms, .int v_here, .int v_open, .int v_running, .int v_begun, .ref q_held, .ref q_marks, .int v_markMany, .ref q_trace, .int v_traced, .ref q_keptBalances, .ref q_keptFees, .int v_deep, .ref q_way, .ref q_sorts, .ref q_rowMany, .ref q_items, .ref q_moved], eI q_s k_s 125 f_s])) (va_Ql (fun (r : Int64) (_ : Unit) => True) (fun (_ : Unit) (t : State) => va_P (dC, dI) vwCl [eO h0 9 [.ref q_s, .long v_fees, .ref q_thought, .long v_thoughtFees, .ref q_image, .long v_imageFees, .int v_hasImage, .ref q_tape, .int v_taped, .ref q_texts, .ref q_sizes, .int v_programs, .ref q_imageTexts, .ref q_imageSizes, .int v_imagePrograms, .int v_here, .int v_open, .int v_running, .int v_begun, .ref q_held, .ref q_marks, .int v_markMany, .ref q_trace, .int v_traced, .ref q_keptBalances, .ref q_keptFees, .int v_deep, .ref q_way, .ref q_sorts, .ref q_rowMany, .ref q_items, .ref q_moved], eI q_s k_s 125 f_s] t.heap ∧ va_K (dC, dI) vwCl [(k_s, .int)] t ∧ va_D (va_A [eO h0 9 [.ref q_s, .long v_fees, .ref q_thought, .long v_thoughtFees, .ref q_image, .long v_imageFees, .int v_hasImage, .ref q_tape, .int v_taped, .ref q_texts, .ref q_sizes, .int v_programs, .ref q_imageTexts, .ref q_imageSizes, .int v_imagePrograms, .int v_here, .int v_open, .int v_running, .int v_begun, .ref q_held, .ref q_marks, .int v_markMany, .ref q_trace, .int v_traced, .ref q_keptBalances, .ref q_keptFees, .int v_deep, .ref q_way, .ref q_sorts, .ref q_rowMany, .ref q_items, .ref q_moved], eI q_s k_s 125 f_s] sz) [eO h0 9 [.ref q_s, .long v_fees, .ref q_thought, .long v_thoughtFees, .ref q_image, .long v_imageFees, .int v_hasImage, .ref q_tape, .int v_taped, .ref q_texts, .ref q_sizes, .int v_programs, .ref q_imageTexts, .ref q_imageSizes, .int v_imagePrograms, .int v_here, .int v_open, .int v_running, .int v_begun, .ref q_held, .ref q_marks, .int v_markMany, .ref q_trace, .int v_traced, .ref q_keptBalances, .ref q_keptFees, .int v_deep, .ref q_way, .ref q_sorts, .ref q_rowMany, .ref q_items, .ref q_moved], eI q_s k_s 125 f_s]) (va_A [eO h0 9 [.ref q_s, .long v_fees, .ref q_thought, .long v_thoughtFees, .ref q_image, .long v_imageFees, .int v_hasImage, .ref q_tape, .int v_taped, .ref q_texts, .ref q_sizes, .int v_programs, .ref q_imageTexts, .ref q_imageSizes, .int v_imagePrograms, .int v_here, .int v_open, .int v_running, .int v_begun, .ref q_held, .ref q_marks, .int v_markMany, .ref q_trace, .int v_traced, .ref q_keptBalances, .ref q_keptFees, .int v_deep, .ref q_way, .ref q_sorts, .ref q_rowMany, .ref q_items, .ref q_moved], eI q_s k_s 125 f_s] sz)) 0 0 (va_A [eO h0 9 [.ref q_s, .long v_fees, .ref q_thought, .long v_thoughtFees, .ref q_image, .long v_imageFees, .int v_hasImage, .ref q_tape, .int v_taped, .ref q_texts, .ref q_sizes, .int v_programs, .ref q_imageTexts, .ref q_imageSizes, .int v_imagePrograms, .int v_here, .int v_open, .int v_running, .int v_begun, .ref q_held, .ref q_marks, .int v_markMany, .ref q_trace, .int v_traced, .ref q_keptBalances, .ref q_keptFees, .int v_deep, .ref q_way, .ref q_sorts, .ref q_rowMany, .ref q_items, .ref q_moved], eI q_s k_s 125 f_s] sz) := by
  refine Met.ofW (cc := cX10_positionOf) (maxL := 5) (ret := (some .long)) (by decide) rfl ?_
  intro p e s m args below meth c s₁ B hml hv
  obtain ⟨rfl, hsz, hP, hK, hD0⟩ := hv
  have hx := B.exec
  have hb := B.bytes
  have hr := B.returns
  have hts := atoms_spec (ws := wsX10_positionOf) B.pre
  have hown : s.vm.findClass RX10 = some m.cls := findClass_of_methodNamed B.named
  have hlocks := B.notSynchronized
  subst hsz
  have hD := hD0.self (sz := s.heap.size)
  generalize hAe : va_A [eO h0 9 [.ref q_s, .long v_fees, .ref q_thought, .long v_thoughtFees, .ref q_image, .long v_imageFees, .int v_hasImage, .ref q_tape, .int v_taped, .ref q_texts, .ref q_sizes, .int v_programs, .ref q_imageTexts, .ref q_imageSizes, .int v_imagePrograms, .int v_here, .int v_open, .int v_running, .int v_begun, .ref q_held, .ref q_marks, .int v_markMany, .ref q_trace, .int v_traced, .ref q_keptBalances, .ref q_keptFees, .int v_deep, .ref q_way, .ref q_sorts, .ref q_rowMany, .ref q_items, .ref q_moved], eI q_s k_s 125 f_s] s.heap.size = A at hD ⊢
  have hA : ∀ q : Nat, s.heap.size ≤ q → A q := fun q h => by rw [← hAe]; exact Or.inr h
  have hS : va_S A s.heap s.heap [] := va_S.rf
  have hP : va_P (dC, dI) vwCl [eO h0 9 [.ref q_s, .long v_fees, .ref q_thought, .long v_thoughtFees, .ref q_image, .long v_imageFees, .int v_hasImage, .ref q_tape, .int v_taped, .ref q_texts, .ref q_sizes, .int v_programs, .ref q_imageTexts, .ref q_imageSizes, .int v_imagePrograms, .int v_here, .int v_open, .int v_running, .int v_begun, .ref q_held, .ref q_marks, .int v_markMany, .ref q_trace, .int v_traced, .ref q_keptBalances, .ref q_keptFees, .int v_deep, .ref q_way, .ref q_sorts, .ref q_rowMany, .ref q_items, .ref q_moved], eI q_s k_s 125 f_s] s.heap := hP
  have hl := lv_entry ([.ref h0, .int p0]) (n := 5) (Nat.le_of_ble_eq_true rfl)
  rw [lg_entry_eq]
  generalize (lg_sl ([.ref h0, .int p0]) ++ List.replicate (5 - (lg_sl ([.ref h0, .int p0])).length) Slot.unset).toArray = ls at hl ⊢
  have hl : lv_has ls 5 [(0, .ref h0), (1, .int p0)] := hl
  suffices key9 : ∀ Q9 : State → Prop, Q9 = (MQ below (va_Ql (fun (r : Int64) (_ : Unit) => True) (fun (_ : Unit) (t : State) => va_P (dC, dI) vwCl [eO h0 9 [.ref q_s, .long v_fees, .ref q_thought, .long v_thoughtFees, .ref q_image, .long v_imageFees, .int v_hasImage, .ref q_tape, .int v_taped, .ref q_texts, .ref q_sizes, .int v_programs, .ref q_imageTexts, .ref q_imageSizes, .int v_imagePrograms, .int v_here, .int v_open, .int v_running, .int v_begun, .ref q_held, .ref q_marks, .int v_markMany, .ref q_trace, .int v_traced, .ref q_keptBalances, .ref q_keptFees, .int v_deep, .ref q_way, .ref q_sorts, .ref q_rowMany, .ref q_items, .ref q_moved], eI q_s k_s 125 f_s] t.heap ∧ va_K (dC, dI) vwCl [(k_s, .int)] t ∧ va_D A [eO h0 9 [.ref q_s, .long v_fees, .ref q_thought, .long v_thoughtFees, .ref q_image, .long v_imageFees, .int v_hasImage, .ref q_tape, .int v_taped, .ref q_texts, .ref q_sizes, .int v_programs, .ref q_imageTexts, .ref q_imageSizes, .int v_imagePrograms, .int v_here, .int v_open, .int v_running, .int v_begun, .ref q_held, .ref q_marks, .int v_markMany, .ref q_trace, .int v_traced, .ref q_keptBalances, .ref q_keptFees, .int v_deep, .ref q_way, .ref q_sorts, .ref q_rowMany, .ref q_items, .ref q_moved], eI q_s k_s 125 f_s]) A) (([.ref h0, .int p0] : List Value).toArray) s 0 0 A) → W p l e ({ frames := 1, cells := 0, slots := 0, locals := 22 }) s m (([.ref h0, .int p0] : List Value).toArray) below meth c s.heap [] 0 0 Q9 (F0 m 0 ls []) from key9 _ rfl
  intro Q9 hQ9
  have k_1 : (1 : Int32).toInt = 1 := by decide
  refine lv_lconst (v := 0) hx hb dX10_positionOf_0 (by decide) ?_
  refine lv_lstore_n (lv' := [(2, .long 0), (0, .ref h0), (1, .int p0)]) hx hb dX10_positionOf_1 rfl hl (by decide) rfl (fun ls hl => ?_)
  refine lv_iconst (v := 0) hx hb dX10_positionOf_2 (by decide) ?_
  refine lv_istore (lv' := [(4, .int 0), (2, .long 0), (0, .ref h0), (1, .int p0)]) hx hb dX10_positionOf_3 hl (by decide) rfl (fun ls hl => ?_)
  have loop_5 : ∀ (n i_5 : Nat) (x_5 : Int32), i_5 ≤ 8 → 8 < i_5 + n → x_5 = nI i_5 → ∀ (al : Int64), ∀ (H : Heap) (locs : List Loc), va_K (dC, dI) vwCl [(k_s, .int)] s → va_P (dC, dI) vwCl [eO h0 9 [.ref q_s, .long v_fees, .ref q_thought, .long v_thoughtFees, .ref q_image, .long v_imageFees, .int v_hasImage, .ref q_tape, .int v_taped, .ref q_texts, .ref q_sizes, .int v_programs, .ref q_imageTexts, .ref q_imageSizes, .int v_imagePrograms, .int v_here, .int v_open, .int v_running, .int v_begun, .ref q_held, .ref q_marks, .int v_markMany, .ref q_trace, .int v_traced, .ref q_keptBalances, .ref q_keptFees, .int v_deep, .ref q_way, .ref q_sorts, .ref q_rowMany, .ref q_items, .ref q_moved], eI q_s k_s 125 f_s] H → va_D A [eO h0 9 [.ref q_s, .long v_fees, .ref q_thought, .long v_thoughtFees, .ref q_image, .long v_imageFees, .int v_hasImage, .ref q_tape, .int v_taped, .ref q_texts, .ref q_sizes, .int v_programs, .ref q_imageTexts, .ref q_imageSizes, .int v_imagePrograms, .int v_here, .int v_open, .int v_running, .int v_begun, .ref q_held, .ref q_marks, .int v_markMany, .ref q_trace, .int v_traced, .ref q_keptBalances, .ref q_keptFees, .int v_deep, .ref q_way, .ref q_sorts, .ref q_rowMany, .ref q_items, .ref q_moved], eI q_s k_s 125 f_s] → va_S A s.heap H locs → ∀ (ls : Array Slot), lv_has ls 5 [(4, .int x_5), (2, .long al), (0, .ref h0), (1, .int p0)] → W p l e ({ frames := 1, cells := 0, slots := 0, locals := 22 }) s m (([.ref h0, .int p0] : List Value).toArray) below meth c H locs 0 0 Q9 (F0 m 5 ls []) := by
    intro n
    induction n with
    | zero => intro i_5 x_5 h1 h2; exact absurd h2 (by omega)
    | succ n ih_5 =>
      intro i_5 x_5 hi_5 hn_5 e_x_5 al H locs hK hP hD hS ls hl
      have t_x_5 : x_5.toInt = (i_5 : Int) := by rw [e_x_5]; exact nI_toInt (by omega)
      refine lv_iload hx hb dX10_positionOf_5 (lv_at hl 0 rfl) ?_
      refine lv_aload_n hx hb dX10_positionOf_7 rfl (lv_at hl 2 rfl) ?_
      refine va_get (D := (dC, dI)) (ci := 9) (v := .ref q_s) (C := RX10) (T := TX10) (N := 32) hx hb hts (fun w h => List.mem_cons_of_mem _ (inlX10 w h)) hown hK hP 0 rfl rfl 0 (by decide) (hts (.fieldLink RX10 11 "ClearingGatesModel" "s" "[I") (List.mem_cons_of_mem _ mw_609)) (fun _ h9 => h9) rfl dX10_positionOf_8 ?_
      refine lv_bipush (v := 60) hx hb dX10_positionOf_11 (by decide) ?_
      refine va_iald (D := (dC, dI)) hx hb hK hP 1 0 rfl rfl (vp_in_iff.mpr ⟨by decide, by decide⟩) dX10_positionOf_13 ?_
      refine lv_topi (fun z1 e_z1 => ?_)
      have a_z1 : z1.toInt = (f_s 60).toInt := by rw [e_z1]; rfl
      refine lv_icmp_ge (tgt := 42) hx hb dX10_positionOf_14 (by decide) (fun c2 => ?_) (fun c2 => ?_)
      · skip
        have f_c2 := i_le c2
        refine lv_lload_n hx hb dX10_positionOf_42 rfl (lv_at hl 1 rfl) ?_
        rw [hQ9]
        exact W.lret (v := al) hx hb hr (fun t ht hW => ⟨⟨al, (), rfl, (by first | rfl | trivial), by rw [ht]; exact hP, va_K.moved hW.alike hK, hD⟩, hS.F ht⟩) hS.2.2 dX10_positionOf_43
      · skip
        have f_c2 := i_nle c2
        refine lv_lload_n hx hb dX10_positionOf_17 rfl (lv_at hl 1 rfl) ?_
        refine lv_aload_n hx hb dX10_positionOf_18 rfl (lv_at hl 2 rfl) ?_
        refine lv_iload hx hb dX10_positionOf_19 (lv_at hl 0 rfl) ?_
        refine lv_iload_n hx hb dX10_positionOf_21 rfl (lv_at hl 3 rfl) ?_
        obtain ⟨hPc, hDc, hFc, hCm, hNw⟩ := C_s (wc := [eO h0 9 [.ref q_s, .long v_fees, .ref q_thought, .long v_thoughtFees, .ref q_image, .long v_imageFees, .int v_hasImage, .ref q_tape, .int v_taped, .ref q_texts, .ref q_sizes, .int v_programs, .ref q_imageTexts, .ref q_imageSizes, .int v_imagePrograms, .int v_here, .int v_open, .int v_running, .int v_begun, .ref q_held, .ref q_marks, .int v_markMany, .ref q_trace, .int v_traced, .ref q_keptBalances, .ref q_keptFees, .int v_deep, .ref q_way, .ref q_sorts, .ref q_rowMany, .ref q_items, .ref q_moved], eI q_s k_s 125 f_s]) hP hD hS hA [(0, 2)] 2 rfl (by decide +kernel) rfl
        have hKc := K_s (tys' := [(k_s, .int)]) hK [(0, 1)] rfl
        refine va_calli (va_runV (As := [.int x_5, .int p0]) (rest := [.long al]) ⟨hx, hb, hml, hown, hts⟩ (c_X10_owedTo l dC dI h0 x_5 p0 q_s v_fees q_thought v_thoughtFees q_image v_imageFees v_hasImage q_tape v_taped q_texts q_sizes v_programs q_imageTexts q_imageSizes v_imagePrograms v_here v_open v_running v_begun q_held q_marks v_markMany q_trace v_traced q_keptBalances q_keptFees v_deep q_way q_sorts q_rowMany q_items q_moved k_s f_s H.size (by first | assumption | omega) (by first | assumption | omega) h1 h2) (cwV 2 hts gX10_positionOf_X10_owedTo rfl rfl rfl (by decide +kernel) ⟨Nat.le_of_ble_eq_true rfl, Nat.le_of_ble_eq_true rfl⟩) ⟨fun a U g mk q => by obtain ⟨q0, q1, qP, qK, qD⟩ := q; exact ⟨q0, q1, qP, va_K.moved (u := U) (U := U.calling g mk a) (Vm.Alike.refl U.vm) qK, qD⟩, va_recv (s := s) (q := (RX10, TX10, 32)) hKc hPc (ci := 9) (q0 := 0) rfl rfl, fun U hU hW => ⟨rfl, by rw [hU], by rw [hU]; exact hPc, va_K.moved hW.alike hKc, hDc.weaken (fun _ _ _ _ => trivial)⟩⟩ rfl rfl hl.1 rfl (lv_room (Nat.le_of_ble_eq_true rfl)) dX10_positionOf_22 ⟨Nat.le_of_ble_eq_true rfl, Nat.le_of_ble_eq_true rfl⟩) hS (fun q _ h => hFc q h) hFc (fun r3 u t H1 locs ht hvm hw hB hz1 hk1 hS => ?_)
        obtain ⟨hP1, hK1, hD1⟩ := hB
        rw [ht] at hP1
        have hK1 := va_K.moved hvm.symm hK1
        try dsimp only at hw
        obtain ⟨hP, hD⟩ := J_s (wL := [eO h0 9 [.ref q_s, .long v_fees, .ref q_thought, .long v_thoughtFees, .ref q_image, .long v_imageFees, .int v_hasImage, .ref q_tape, .int v_taped, .ref q_texts, .ref q_sizes, .int v_programs, .ref q_imageTexts, .ref q_imageSizes, .int v_imagePrograms, .int v_here, .int v_open, .int v_running, .int v_begun, .ref q_held, .ref q_marks, .int v_markMany, .ref q_trace, .int v_traced, .ref q_keptBalances, .ref q_keptFees, .int v_deep, .ref q_way, .ref q_sorts, .ref q_rowMany, .ref q_items, .ref q_moved], eI q_s k_s 125 f_s]) hP hD [(0, 2)] [] hCm hNw (by decide +kernel) hk1 hFc hP1 hD1 rfl
        have hK := KJ_s (tys' := [(k_s, .int)]) hK hK1 [] rfl
        generalize H1 = H at hP hS ⊢
        have h_r3 := hw
        have t_r3 := i_eq hw
        refine lv_aload_n hx hb dX10_positionOf_25 rfl (lv_at hl 2 rfl) ?_
        refine lv_iload_n hx hb dX10_positionOf_26 rfl (lv_at hl 3 rfl) ?_
        refine lv_iload hx hb dX10_positionOf_27 (lv_at hl 0 rfl) ?_
        obtain ⟨hPc, hDc, hFc, hCm, hNw⟩ := C_s (wc := [eO h0 9 [.ref q_s, .long v_fees, .ref q_thought, .long v_thoughtFees, .ref q_image, .long v_imageFees, .int v_hasImage, .ref q_tape, .int v_taped, .ref q_texts, .ref q_sizes, .int v_programs, .ref q_imageTexts, .ref q_imageSizes, .int v_imagePrograms, .int v_here, .int v_open, .int v_running, .int v_begun, .ref q_held, .ref q_marks, .int v_markMany, .ref q_trace, .int v_traced, .ref q_keptBalances, .ref q_keptFees, .int v_deep, .ref q_way, .ref q_sorts, .ref q_rowMany, .ref q_items, .ref q_moved], eI q_s k_s 125 f_s]) hP hD hS hA [(0, 2)] 2 rfl (by decide +kernel) rfl
        have hKc := K_s (tys' := [(k_s, .int)]) hK [(0, 1)] rfl
        refine va_calli (va_runV (As := [.int p0, .int x_5]) (rest := [.int r3, .long al]) ⟨hx, hb, hml, hown, hts⟩ (c_X10_owedTo l dC dI h0 p0 x_5 q_s v_fees q_thought v_thoughtFees q_image v_imageFees v_hasImage q_tape v_taped q_texts q_sizes v_programs q_imageTexts q_imageSizes v_imagePrograms v_here v_open v_running v_begun q_held q_marks v_markMany q_trace v_traced q_keptBalances q_keptFees v_deep q_way q_sorts q_rowMany q_items q_moved k_s f_s H.size h1 h2 (by first | assumption | omega) (by first | assumption | omega)) (cwV 2 hts gX10_positionOf_X10_owedTo rfl rfl rfl (by decide +kernel) ⟨Nat.le_of_ble_eq_true rfl, Nat.le_of_ble_eq_true rfl⟩) ⟨fun a U g mk q => by obtain ⟨q0, q1, qP, qK, qD⟩ := q; exact ⟨q0, q1, qP, va_K.moved (u := U) (U := U.calling g mk a) (Vm.Alike.refl U.vm) qK, qD⟩, va_recv (s := s) (q := (RX10, TX10, 32)) hKc hPc (ci := 9) (q0 := 0) rfl rfl, fun U hU hW => ⟨rfl, by rw [hU], by rw [hU]; exact hPc, va_K.moved hW.alike hKc, hDc.weaken (fun _ _ _ _ => trivial)⟩⟩ rfl rfl hl.1 rfl (lv_room (Nat.le_of_ble_eq_true rfl)) dX10_positionOf_29 ⟨Nat.le_of_ble_eq_true rfl, Nat.le_of_ble_eq_true rfl⟩) hS (fun q _ h => hFc q h) hFc (fun r4 u t H1 locs ht hvm hw hB hz1 hk1 hS => ?_)
        obtain ⟨hP1, hK1, hD1⟩ := hB
        rw [ht] at hP1
        have hK1 := va_K.moved hvm.symm hK1
        try dsimp only at hw
        obtain ⟨hP, hD⟩ := J_s (wL := [eO h0 9 [.ref q_s, .long v_fees, .ref q_thought, .long v_thoughtFees, .ref q_image, .long v_imageFees, .int v_hasImage, .ref q_tape, .int v_taped, .ref q_texts, .ref q_sizes, .int v_programs, .ref q_imageTexts, .ref q_imageSizes, .int v_imagePrograms, .int v_here, .int v_open, .int v_running, .int v_begun, .ref q_held, .ref q_marks, .int v_markMany, .ref q_trace, .int v_traced, .ref q_keptBalances, .ref q_keptFees, .int v_deep, .ref q_way, .ref q_sorts, .ref q_rowMany, .ref q_items, .ref q_moved], eI q_s k_s 125 f_s]) hP hD [(0, 2)] [] hCm hNw (by decide +kernel) hk1 hFc hP1 hD1 rfl
        have hK := KJ_s (tys' := [(k_s, .int)]) hK hK1 [] rfl
        generalize H1 = H at hP hS ⊢
        have h_r4 := hw
        have t_r4 := i_eq hw
        refine lv_isub hx hb dX10_positionOf_32 ?_
        refine lv_topi (fun z5 e_z5 => ?_)
        (first | have t_z5 := i_sub e_z5 (by omega) (by omega) | skip)
        refine lv_i2l (v := z5.toInt64) hx hb dX10_positionOf_33 rfl ?_
        have t_t6 := Int32.toInt_toInt64 z5
        refine lv_ladd hx hb dX10_positionOf_34 ?_
        refine lv_topl (fun z7 e_z7 => ?_)
        refine lv_lstore_n (lv' := [(2, .long z7), (4, .int x_5), (0, .ref h0), (1, .int p0)]) hx hb dX10_positionOf_35 rfl hl (by decide) rfl (fun ls hl => ?_)
        obtain ⟨x8, e_x8⟩ : ∃ yy : Int32, yy = x_5 + 1 := ⟨_, rfl⟩
        refine lv_iinc (v := x8) (lv' := [(4, .int x8), (2, .long z7), (0, .ref h0), (1, .int p0)]) hx hb dX10_positionOf_36 hl (k := 1) rfl (by rw [e_x8]; rfl) (by decide) rfl (fun ls hl => ?_)
        (first | have t_x8 := i_add e_x8 (by omega) (by omega) | skip)
        refine lv_goto (tgt := 5) hx hb dX10_positionOf_39 (by decide) ?_
        exact ih_5 (i_5 + 1) x8 (by omega) (by omega) (by rw [e_x8, e_x_5]; exact nI_1 i_5) z7  _ _ (K_s hK [(0, 1)] rfl) (P_s hP [(0, 2)] rfl) (D_s hD [(0, 2)] 2 rfl (by decide +kernel) rfl) hS ls (lv_sub hl [0, 1, 2, 3] rfl)
  exact loop_5 (8 + 1) 0 0 (by omega) (by omega) rfl 0  _ _ hK hP hD hS ls hl

set_option maxRecDepth 100000 in
set_option maxHeartbeats 4000000 in
/-- entries of the reference -/
theorem c_X10_entries (l : Launch) (dC : Nat → ClassId) (dI : Nat → Nat → Nat) (h0 : Nat) (q_s : Nat) (v_fees : Int64) (q_thought : Nat) (v_thoughtFees : Int64) (q_image : Nat) (v_imageFees : Int64) (v_hasImage : Int32) (q_tape : Nat) (v_taped : Int32) (q_texts : Nat) (q_sizes : Nat) (v_programs : Int32) (q_imageTexts : Nat) (q_imageSizes : Nat) (v_imagePrograms : Int32) (v_here : Int32) (v_open : Int32) (v_running : Int32) (v_begun : Int32) (q_held : Nat) (q_marks : Nat) (v_markMany : Int32) (q_trace : Nat) (v_traced : Int32) (q_keptBalances : Nat) (q_keptFees : Nat) (v_deep : Int32) (q_way : Nat) (q_sorts : Nat) (q_rowMany : Nat) (q_items : Nat) (q_moved : Nat) (k_s : ClassId) (f_s : Nat → Int32) (sz : Nat) (ha1 : 0 ≤ (f_s 60).toInt) (ha2 : (f_s 60).toInt ≤ 8) : Met l yX10_entries wsX10_entries ({ frames := 0, cells := 0, slots := 0, locals := 0 }) (va_Pc [.ref h0] (fun U => U.heap.size = sz ∧ va_P (dC, dI) vwCl [eO h0 9 [.ref q_s, .long v_fees, .ref q_thought, .long v_thoughtFees, .ref q_image, .long v_imageFees, .int v_hasImage, .ref q_tape, .int v_taped, .ref q_texts, .ref q_sizes, .int v_programs, .ref q_imageTexts, .ref q_imageSizes, .int v_imagePrograms, .int v_here, .int v_open, .int v_running, .int v_begun, .ref q_held, .ref q_marks, .int v_markMany, .ref q_trace, .int v_traced, .ref q_keptBalances, .ref q_keptFees, .int v_deep, .ref q_way, .ref q_sorts, .ref q_rowMany, .ref q_items, .ref q_moved], eI q_s k_s 125 f_s] U.heap ∧ va_K (dC, dI) vwCl [(k_s, .int)] U ∧ va_D (fun _ => True) [eO h0 9 [.ref q_s, .long v_fees, .ref q_thought, .long v_thoughtFees, .ref q_image, .long v_imageFees, .int v_hasImage, .ref q_tape, .int v_taped, .ref q_texts, .ref q_sizes, .int v_programs, .ref q_imageTexts, .ref q_imageSizes, .int v_imagePrograms, .int v_here, .int v_open, .int v_running, .int v_begun, .ref q_held, .ref q_marks, .int v_markMany, .ref q_trace, .int v_traced, .ref q_keptBalances, .ref q_keptFees, .int v_deep, .ref q_way, .ref q_sorts, .ref q_rowMany, .ref q_items, .ref q_moved], eI q_s k_s 125 f_s])) (va_Ql (fun (r : Int64) (_ : Unit) => True) (fun (_ : Unit) (t : State) => va_P (dC, dI) vwCl [eO h0 9 [.ref q_s, .long v_fees, .ref q_thought, .long v_thoughtFees, .ref q_image, .long v_imageFees, .int v_hasImage, .ref q_tape, .int v_taped, .ref q_texts, .ref q_sizes, .int v_programs, .ref q_imageTexts, .ref q_imageSizes, .int v_imagePrograms, .int v_here, .int v_open, .int v_running, .int v_begun, .ref q_held, .ref q_marks, .int v_markMany, .ref q_trace, .int v_traced, .ref q_keptBalances, .ref q_keptFees, .int v_deep, .ref q_way, .ref q_sorts, .ref q_rowMany, .ref q_items, .ref q_moved], eI q_s k_s 125 f_s] t.heap ∧ va_K (dC, dI) vwCl [(k_s, .int)] t ∧ va_D (va_A [eO h0 9 [.ref q_s, .long v_fees, .ref q_thought, .long v_thoughtFees, .ref q_image, .long v_imageFees, .int v_hasImage, .ref q_tape, .int v_taped, .ref q_texts, .ref q_sizes, .int v_programs, .ref q_imageTexts, .ref q_imageSizes, .int v_imagePrograms, .int v_here, .int v_open, .int v_running, .int v_begun, .ref q_held, .ref q_marks, .int v_markMany, .ref q_trace, .int v_traced, .ref q_keptBalances, .ref q_keptFees, .int v_deep, .ref q_way, .ref q_sorts, .ref q_rowMany, .ref q_items, .ref q_moved], eI q_s k_s 125 f_s] sz) [eO h0 9 [.ref q_s, .long v_fees, .ref q_thought, .long v_thoughtFees, .ref q_image, .long v_imageFees, .int v_hasImage, .ref q_tape, .int v_taped, .ref q_texts, .ref q_sizes, .int v_programs, .ref q_imageTexts, .ref q_imageSizes, .int v_imagePrograms, .int v_here, .int v_open, .int v_running, .int v_begun, .ref q_held, .ref q_marks, .int v_markMany, .ref q_trace, .int v_traced, .ref q_keptBalances, .ref q_keptFees, .int v_deep, .ref q_way, .ref q_sorts, .ref q_rowMany, .ref q_items, .ref q_moved], eI q_s k_s 125 f_s]) (va_A [eO h0 9 [.ref q_s, .long v_fees, .ref q_thought, .long v_thoughtFees, .ref q_image, .long v_imageFees, .int v_hasImage, .ref q_tape, .int v_taped, .ref q_texts, .ref q_sizes, .int v_programs, .ref q_imageTexts, .ref q_imageSizes, .int v_imagePrograms, .int v_here, .int v_open, .int v_running, .int v_begun, .ref q_held, .ref q_marks, .int v_markMany, .ref q_trace, .int v_traced, .ref q_keptBalances, .ref q_keptFees, .int v_deep, .ref q_way, .ref q_sorts, .ref q_rowMany, .ref q_items, .ref q_moved], eI q_s k_s 125 f_s] sz)) 0 0 (va_A [eO h0 9 [.ref q_s, .long v_fees, .ref q_thought, .long v_thoughtFees, .ref q_image, .long v_imageFees, .int v_hasImage, .ref q_tape, .int v_taped, .ref q_texts, .ref q_sizes, .int v_programs, .ref q_imageTexts, .ref q_imageSizes, .int v_imagePrograms, .int v_here, .int v_open, .int v_running, .int v_begun, .ref q_held, .ref q_marks, .int v_markMany, .ref q_trace, .int v_traced, .ref q_keptBalances, .ref q_keptFees, .int v_deep, .ref q_way, .ref q_sorts, .ref q_rowMany, .ref q_items, .ref q_moved], eI q_s k_s 125 f_s] sz) := by
  refine Met.ofW (cc := cX10_entries) (maxL := 4) (ret := (some .long)) (by decide) rfl ?_
  intro p e s m args below meth c s₁ B hml hv
  obtain ⟨rfl, hsz, hP, hK, hD0⟩ := hv
  have hx := B.exec
  have hb := B.bytes
  have hr := B.returns
  have hts := atoms_spec (ws := wsX10_entries) B.pre
  have hown : s.vm.findClass RX10 = some m.cls := findClass_of_methodNamed B.named
  have hlocks := B.notSynchronized
  subst hsz
  have hD := hD0.self (sz := s.heap.size)
  generalize hAe : va_A [eO h0 9 [.ref q_s, .long v_fees, .ref q_thought, .long v_thoughtFees, .ref q_image, .long v_imageFees, .int v_hasImage, .ref q_tape, .int v_taped, .ref q_texts, .ref q_sizes, .int v_programs, .ref q_imageTexts, .ref q_imageSizes, .int v_imagePrograms, .int v_here, .int v_open, .int v_running, .int v_begun, .ref q_held, .ref q_marks, .int v_markMany, .ref q_trace, .int v_traced, .ref q_keptBalances, .ref q_keptFees, .int v_deep, .ref q_way, .ref q_sorts, .ref q_rowMany, .ref q_items, .ref q_moved], eI q_s k_s 125 f_s] s.heap.size = A at hD ⊢
  have hA : ∀ q : Nat, s.heap.size ≤ q → A q := fun q h => by rw [← hAe]; exact Or.inr h
  have hS : va_S A s.heap s.heap [] := va_S.rf
  have hP : va_P (dC, dI) vwCl [eO h0 9 [.ref q_s, .long v_fees, .ref q_thought, .long v_thoughtFees, .ref q_image, .long v_imageFees, .int v_hasImage, .ref q_tape, .int v_taped, .ref q_texts, .ref q_sizes, .int v_programs, .ref q_imageTexts, .ref q_imageSizes, .int v_imagePrograms, .int v_here, .int v_open, .int v_running, .int v_begun, .ref q_held, .ref q_marks, .int v_markMany, .ref q_trace, .int v_traced, .ref q_keptBalances, .ref q_keptFees, .int v_deep, .ref q_way, .ref q_sorts, .ref q_rowMany, .ref q_items, .ref q_moved], eI q_s k_s 125 f_s] s.heap := hP
  have hl := lv_entry ([.ref h0]) (n := 4) (Nat.le_of_ble_eq_true rfl)
  rw [lg_entry_eq]
  generalize (lg_sl ([.ref h0]) ++ List.replicate (4 - (lg_sl ([.ref h0])).length) Slot.unset).toArray = ls at hl ⊢
  have hl : lv_has ls 4 [(0, .ref h0)] := hl
  suffices key9 : ∀ Q9 : State → Prop, Q9 = (MQ below (va_Ql (fun (r : Int64) (_ : Unit) => True) (fun (_ : Unit) (t : State) => va_P (dC, dI) vwCl [eO h0 9 [.ref q_s, .long v_fees, .ref q_thought, .long v_thoughtFees, .ref q_image, .long v_imageFees, .int v_hasImage, .ref q_tape, .int v_taped, .ref q_texts, .ref q_sizes, .int v_programs, .ref q_imageTexts, .ref q_imageSizes, .int v_imagePrograms, .int v_here, .int v_open, .int v_running, .int v_begun, .ref q_held, .ref q_marks, .int v_markMany, .ref q_trace, .int v_traced, .ref q_keptBalances, .ref q_keptFees, .int v_deep, .ref q_way, .ref q_sorts, .ref q_rowMany, .ref q_items, .ref q_moved], eI q_s k_s 125 f_s] t.heap ∧ va_K (dC, dI) vwCl [(k_s, .int)] t ∧ va_D A [eO h0 9 [.ref q_s, .long v_fees, .ref q_thought, .long v_thoughtFees, .ref q_image, .long v_imageFees, .int v_hasImage, .ref q_tape, .int v_taped, .ref q_texts, .ref q_sizes, .int v_programs, .ref q_imageTexts, .ref q_imageSizes, .int v_imagePrograms, .int v_here, .int v_open, .int v_running, .int v_begun, .ref q_held, .ref q_marks, .int v_markMany, .ref q_trace, .int v_traced, .ref q_keptBalances, .ref q_keptFees, .int v_deep, .ref q_way, .ref q_sorts, .ref q_rowMany, .ref q_items, .ref q_moved], eI q_s k_s 125 f_s]) A) (([.ref h0] : List Value).toArray) s 0 0 A) → W p l e ({ frames := 0, cells := 0, slots := 0, locals := 0 }) s m (([.ref h0] : List Value).toArray) below meth c s.heap [] 0 0 Q9 (F0 m 0 ls []) from key9 _ rfl
  intro Q9 hQ9
  have k_1 : (1 : Int32).toInt = 1 := by decide
  have k_32 : (32 : Int32).toInt = 32 := by decide
  refine lv_lconst (v := 0) hx hb dX10_entries_0 (by decide) ?_
  refine lv_lstore_n (lv' := [(1, .long 0), (0, .ref h0)]) hx hb dX10_entries_1 rfl hl (by decide) rfl (fun ls hl => ?_)
  refine lv_iconst (v := 0) hx hb dX10_entries_2 (by decide) ?_
  refine lv_istore_n (lv' := [(3, .int 0), (1, .long 0), (0, .ref h0)]) hx hb dX10_entries_3 rfl hl (by decide) rfl (fun ls hl => ?_)
  have loop_4 : ∀ (n i_4 : Nat) (x_4 : Int32), i_4 ≤ 8 → 8 < i_4 + n → x_4 = nI i_4 → ∀ (al : Int64), ∀ (H : Heap) (locs : List Loc), va_K (dC, dI) vwCl [(k_s, .int)] s → va_P (dC, dI) vwCl [eO h0 9 [.ref q_s, .long v_fees, .ref q_thought, .long v_thoughtFees, .ref q_image, .long v_imageFees, .int v_hasImage, .ref q_tape, .int v_taped, .ref q_texts, .ref q_sizes, .int v_programs, .ref q_imageTexts, .ref q_imageSizes, .int v_imagePrograms, .int v_here, .int v_open, .int v_running, .int v_begun, .ref q_held, .ref q_marks, .int v_markMany, .ref q_trace, .int v_traced, .ref q_keptBalances, .ref q_keptFees, .int v_deep, .ref q_way, .ref q_sorts, .ref q_rowMany, .ref q_items, .ref q_moved], eI q_s k_s 125 f_s] H → va_D A [eO h0 9 [.ref q_s, .long v_fees, .ref q_thought, .long v_thoughtFees, .ref q_image, .long v_imageFees, .int v_hasImage, .ref q_tape, .int v_taped, .ref q_texts, .ref q_sizes, .int v_programs, .ref q_imageTexts, .ref q_imageSizes, .int v_imagePrograms, .int v_here, .int v_open, .int v_running, .int v_begun, .ref q_held, .ref q_marks, .int v_markMany, .ref q_trace, .int v_traced, .ref q_keptBalances, .ref q_keptFees, .int v_deep, .ref q_way, .ref q_sorts, .ref q_rowMany, .ref q_items, .ref q_moved], eI q_s k_s 125 f_s] → va_S A s.heap H locs → ∀ (ls : Array Slot), lv_has ls 4 [(3, .int x_4), (1, .long al), (0, .ref h0)] → W p l e ({ frames := 0, cells := 0, slots := 0, locals := 0 }) s m (([.ref h0] : List Value).toArray) below meth c H locs 0 0 Q9 (F0 m 4 ls []) := by
    intro n
    induction n with
    | zero => intro i_4 x_4 h1 h2; exact absurd h2 (by omega)
    | succ n ih_4 =>
      intro i_4 x_4 hi_4 hn_4 e_x_4 al H locs hK hP hD hS ls hl
      have t_x_4 : x_4.toInt = (i_4 : Int) := by rw [e_x_4]; exact nI_toInt (by omega)
      refine lv_iload_n hx hb dX10_entries_4 rfl (lv_at hl 0 rfl) ?_
      refine lv_aload_n hx hb dX10_entries_5 rfl (lv_at hl 2 rfl) ?_
      refine va_get (D := (dC, dI)) (ci := 9) (v := .ref q_s) (C := RX10) (T := TX10) (N := 32) hx hb hts (fun w h => List.mem_cons_of_mem _ (inlX10 w h)) hown hK hP 0 rfl rfl 0 (by decide) (hts (.fieldLink RX10 11 "ClearingGatesModel" "s" "[I") (List.mem_cons_of_mem _ mw_609)) (fun _ h9 => h9) rfl dX10_entries_6 ?_
      refine lv_bipush (v := 60) hx hb dX10_entries_9 (by decide) ?_
      refine va_iald (D := (dC, dI)) hx hb hK hP 1 0 rfl rfl (vp_in_iff.mpr ⟨by decide, by decide⟩) dX10_entries_11 ?_
      refine lv_topi (fun z1 e_z1 => ?_)
      have a_z1 : z1.toInt = (f_s 60).toInt := by rw [e_z1]; rfl
      refine lv_icmp_ge (tgt := 34) hx hb dX10_entries_12 (by decide) (fun c2 => ?_) (fun c2 => ?_)
      · skip
        have f_c2 := i_le c2
        refine lv_lload_n hx hb dX10_entries_34 rfl (lv_at hl 1 rfl) ?_
        rw [hQ9]
        exact W.lret (v := al) hx hb hr (fun t ht hW => ⟨⟨al, (), rfl, (by first | rfl | trivial), by rw [ht]; exact hP, va_K.moved hW.alike hK, hD⟩, hS.F ht⟩) hS.2.2 dX10_entries_35
      · skip
        have f_c2 := i_nle c2
        refine lv_lload_n hx hb dX10_entries_15 rfl (lv_at hl 1 rfl) ?_
        refine lv_aload_n hx hb dX10_entries_16 rfl (lv_at hl 2 rfl) ?_
        refine va_get (D := (dC, dI)) (ci := 9) (v := .ref q_s) (C := RX10) (T := TX10) (N := 32) hx hb hts (fun w h => List.mem_cons_of_mem _ (inlX10 w h)) hown hK hP 0 rfl rfl 0 (by decide) (hts (.fieldLink RX10 11 "ClearingGatesModel" "s" "[I") (List.mem_cons_of_mem _ mw_609)) (fun _ h9 => h9) rfl dX10_entries_17 ?_
        refine lv_bipush (v := 32) hx hb dX10_entries_20 (by decide) ?_
        refine lv_iload_n hx hb dX10_entries_22 rfl (lv_at hl 0 rfl) ?_
        refine lv_iadd hx hb dX10_entries_23 ?_
        refine lv_topi (fun z3 e_z3 => ?_)
        (first | have t_z3 := i_add e_z3 (by omega) (by omega) | skip)
        refine va_iald (D := (dC, dI)) hx hb hK hP 1 0 rfl rfl (vp_in_iff.mpr ⟨by omega, by omega⟩) dX10_entries_24 ?_
        refine lv_topi (fun z4 e_z4 => ?_)
        refine lv_i2l (v := z4.toInt64) hx hb dX10_entries_25 rfl ?_
        have t_t5 := Int32.toInt_toInt64 z4
        refine lv_ladd hx hb dX10_entries_26 ?_
        refine lv_topl (fun z6 e_z6 => ?_)
        refine lv_lstore_n (lv' := [(1, .long z6), (3, .int x_4), (0, .ref h0)]) hx hb dX10_entries_27 rfl hl (by decide) rfl (fun ls hl => ?_)
        obtain ⟨x7, e_x7⟩ : ∃ yy : Int32, yy = x_4 + 1 := ⟨_, rfl⟩
        refine lv_iinc (v := x7) (lv' := [(3, .int x7), (1, .long z6), (0, .ref h0)]) hx hb dX10_entries_28 hl (k := 1) rfl (by rw [e_x7]; rfl) (by decide) rfl (fun ls hl => ?_)
        (first | have t_x7 := i_add e_x7 (by omega) (by omega) | skip)
        refine lv_goto (tgt := 4) hx hb dX10_entries_31 (by decide) ?_
        exact ih_4 (i_4 + 1) x7 (by omega) (by omega) (by rw [e_x7, e_x_4]; exact nI_1 i_4) z6  _ _ (K_s hK [(0, 1)] rfl) (P_s hP [(0, 2)] rfl) (D_s hD [(0, 2)] 2 rfl (by decide +kernel) rfl) hS ls (lv_sub hl [0, 1, 2] rfl)
  exact loop_4 (8 + 1) 0 0 (by omega) (by omega) rfl 0  _ _ hK hP hD hS ls hl

set_option maxRecDepth 100000 in
set_option maxHeartbeats 4000000 in
/-- account of the reference -/
theorem c_X10_account (l : Launch) (dC : Nat → ClassId) (dI : Nat → Nat → Nat) (h0 : Nat) (p0 : Int32) (p1 : Int32) (q_s : Nat) (v_fees : Int64) (q_thought : Nat) (v_thoughtFees : Int64) (q_image : Nat) (v_imageFees : Int64) (v_hasImage : Int32) (q_tape : Nat) (v_taped : Int32) (q_texts : Nat) (q_sizes : Nat) (v_programs : Int32) (q_imageTexts : Nat) (q_imageSizes : Nat) (v_imagePrograms : Int32) (v_here : Int32) (v_open : Int32) (v_running : Int32) (v_begun : Int32) (q_held : Nat) (q_marks : Nat) (v_markMany : Int32) (q_trace : Nat) (v_traced : Int32) (q_keptBalances : Nat) (q_keptFees : Nat) (v_deep : Int32) (q_way : Nat) (q_sorts : Nat) (q_rowMany : Nat) (q_items : Nat) (q_moved : Nat) (k_s : ClassId) (f_s : Nat → Int32) (sz : Nat) (hms : ms f_s) : Met l yX10_account wsX10_account ({ frames := 1, cells := 0, slots := 0, locals := 25 }) (va_Pc [.ref h0, .int p0, .int p1] (fun U => U.heap.size = sz ∧ va_P (dC, dI) vwCl [eO h0 9 [.ref q_s, .long v_fees, .ref q_thought, .long v_thoughtFees, .ref q_image, .long v_imageFees, .int v_hasImage, .ref q_tape, .int v_taped, .ref q_texts, .ref q_sizes, .int v_programs, .ref q_imageTexts, .ref q_imageSizes, .int v_imagePrograms, .int v_here, .int v_open, .int v_running, .int v_begun, .ref q_held, .ref q_marks, .int v_markMany, .ref q_trace, .int v_traced, .ref q_keptBalances, .ref q_keptFees, .int v_deep, .ref q_way, .ref q_sorts, .ref q_rowMany, .ref q_items, .ref q_moved], eI q_s k_s 125 f_s] U.heap ∧ va_K (dC, dI) vwCl [(k_s, .int)] U ∧ va_D (fun _ => True) [eO h0 9 [.ref q_s, .long v_fees, .ref q_thought, .long v_thoughtFees, .ref q_image, .long v_imageFees, .int v_hasImage, .ref q_tape, .int v_taped, .ref q_texts, .ref q_sizes, .int v_programs, .ref q_imageTexts, .ref q_imageSizes, .int v_imagePrograms, .int v_here, .int v_open, .int v_running, .int v_begun, .ref q_held, .ref q_marks, .int v_markMany, .ref q_trace, .int v_traced, .ref q_keptBalances, .ref q_keptFees, .int v_deep, .ref q_way, .ref q_sorts, .ref q_rowMany, .ref q_items, .ref q_moved], eI q_s k_s 125 f_s])) (va_Qi (fun (r : Int32) (_ : Unit) => (r.toInt = -2 ∧ ¬(0 ≤ p0.toInt ∧ p0.toInt < 5 ∧ 0 ≤ p1.toInt ∧ p1.toInt ≤ 1000000000)) ∨ ((0 ≤ p0.toInt ∧ p0.toInt < 5 ∧ 0 ≤ p1.toInt ∧ p1.toInt ≤ 1000000000) ∧ r.toInt = -4 ∧ (f_s 60).toInt = 8) ∨ ((0 ≤ p0.toInt ∧ p0.toInt < 5 ∧ 0 ≤ p1.toInt ∧ p1.toInt ≤ 1000000000) ∧ r.toInt = (f_s 60).toInt ∧ (f_s 60).toInt < 8)) (fun (_ : Unit) (t : State) => ∃ (f_s' : Nat → Int32), (ms f_s') ∧ (((0 ≤ p0.toInt ∧ p0.toInt < 5 ∧ 0 ≤ p1.toInt ∧ p1.toInt ≤ 1000000000) ∧ (f_s 60).toInt < 8 ∧ (f_s' 60).toInt = (f_s 60).toInt + 1) ∨ (¬((0 ≤ p0.toInt ∧ p0.toInt < 5 ∧ 0 ≤ p1.toInt ∧ p1.toInt ≤ 1000000000) ∧ (f_s 60).toInt < 8) ∧ (f_s' 60).toInt = (f_s 60).toInt)) ∧ (f_s' = pacc f_s p0 p1) ∧ va_P (dC, dI) vwCl [eO h0 9 [.ref q_s, .long v_fees, .ref q_thought, .long v_thoughtFees, .ref q_image, .long v_imageFees, .int v_hasImage, .ref q_tape, .int v_taped, .ref q_texts, .ref q_sizes, .int v_programs, .ref q_imageTexts, .ref q_imageSizes, .int v_imagePrograms, .int v_here, .int v_open, .int v_running, .int v_begun, .ref q_held, .ref q_marks, .int v_markMany, .ref q_trace, .int v_traced, .ref q_keptBalances, .ref q_keptFees, .int v_deep, .ref q_way, .ref q_sorts, .ref q_rowMany, .ref q_items, .ref q_moved], eI q_s k_s 125 (f_s')] t.heap ∧ va_K (dC, dI) vwCl [(k_s, .int)] t ∧ va_D (va_A [eO h0 9 [.ref q_s, .long v_fees, .ref q_thought, .long v_thoughtFees, .ref q_image, .long v_imageFees, .int v_hasImage, .ref q_tape, .int v_taped, .ref q_texts, .ref q_sizes, .int v_programs, .ref q_imageTexts, .ref q_imageSizes, .int v_imagePrograms, .int v_here, .int v_open, .int v_running, .int v_begun, .ref q_held, .ref q_marks, .int v_markMany, .ref q_trace, .int v_traced, .ref q_keptBalances, .ref q_keptFees, .int v_deep, .ref q_way, .ref q_sorts, .ref q_rowMany, .ref q_items, .ref q_moved], eI q_s k_s 125 f_s] sz) [eO h0 9 [.ref q_s, .long v_fees, .ref q_thought, .long v_thoughtFees, .ref q_image, .long v_imageFees, .int v_hasImage, .ref q_tape, .int v_taped, .ref q_texts, .ref q_sizes, .int v_programs, .ref q_imageTexts, .ref q_imageSizes, .int v_imagePrograms, .int v_here, .int v_open, .int v_running, .int v_begun, .ref q_held, .ref q_marks, .int v_markMany, .ref q_trace, .int v_traced, .ref q_keptBalances, .ref q_keptFees, .int v_deep, .ref q_way, .ref q_sorts, .ref q_rowMany, .ref q_items, .ref q_moved], eI q_s k_s 125 (f_s')]) (va_A [eO h0 9 [.ref q_s, .long v_fees, .ref q_thought, .long v_thoughtFees, .ref q_image, .long v_imageFees, .int v_hasImage, .ref q_tape, .int v_taped, .ref q_texts, .ref q_sizes, .int v_programs, .ref q_imageTexts, .ref q_imageSizes, .int v_imagePrograms, .int v_here, .int v_open, .int v_running, .int v_begun, .ref q_held, .ref q_marks, .int v_markMany, .ref q_trace, .int v_traced, .ref q_keptBalances, .ref q_keptFees, .int v_deep, .ref q_way, .ref q_sorts, .ref q_rowMany, .ref q_items, .ref q_moved], eI q_s k_s 125 f_s] sz)) 0 0 (va_A [eO h0 9 [.ref q_s, .long v_fees, .ref q_thought, .long v_thoughtFees, .ref q_image, .long v_imageFees, .int v_hasImage, .ref q_tape, .int v_taped, .ref q_texts, .ref q_sizes, .int v_programs, .ref q_imageTexts, .ref q_imageSizes, .int v_imagePrograms, .int v_here, .int v_open, .int v_running, .int v_begun, .ref q_held, .ref q_marks, .int v_markMany, .ref q_trace, .int v_traced, .ref q_keptBalances, .ref q_keptFees, .int v_deep, .ref q_way, .ref q_sorts, .ref q_rowMany, .ref q_items, .ref q_moved], eI q_s k_s 125 f_s] sz) := by
  refine Met.ofW (cc := cX10_account) (maxL := 4) (ret := (some .int)) (by decide) rfl ?_
  intro p e s m args below meth c s₁ B hml hv
  obtain ⟨rfl, hsz, hP, hK, hD0⟩ := hv
  have hx := B.exec
  have hb := B.bytes
  have hr := B.returns
  have hts := atoms_spec (ws := wsX10_account) B.pre
  have hown : s.vm.findClass RX10 = some m.cls := findClass_of_methodNamed B.named
  have hlocks := B.notSynchronized
  subst hsz
  have hD := hD0.self (sz := s.heap.size)
  generalize hAe : va_A [eO h0 9 [.ref q_s, .long v_fees, .ref q_thought, .long v_thoughtFees, .ref q_image, .long v_imageFees, .int v_hasImage, .ref q_tape, .int v_taped, .ref q_texts, .ref q_sizes, .int v_programs, .ref q_imageTexts, .ref q_imageSizes, .int v_imagePrograms, .int v_here, .int v_open, .int v_running, .int v_begun, .ref q_held, .ref q_marks, .int v_markMany, .ref q_trace, .int v_traced, .ref q_keptBalances, .ref q_keptFees, .int v_deep, .ref q_way, .ref q_sorts, .ref q_rowMany, .ref q_items, .ref q_moved], eI q_s k_s 125 f_s] s.heap.size = A at hD ⊢
  have hA : ∀ q : Nat, s.heap.size ≤ q → A q := fun q h => by rw [← hAe]; exact Or.inr h
  have hS : va_S A s.heap s.heap [] := va_S.rf
  have hP : va_P (dC, dI) vwCl [eO h0 9 [.ref q_s, .long v_fees, .ref q_thought, .long v_thoughtFees, .ref q_image, .long v_imageFees, .int v_hasImage, .ref q_tape, .int v_taped, .ref q_texts, .ref q_sizes, .int v_programs, .ref q_imageTexts, .ref q_imageSizes, .int v_imagePrograms, .int v_here, .int v_open, .int v_running, .int v_begun, .ref q_held, .ref q_marks, .int v_markMany, .ref q_trace, .int v_traced, .ref q_keptBalances, .ref q_keptFees, .int v_deep, .ref q_way, .ref q_sorts, .ref q_rowMany, .ref q_items, .ref q_moved], eI q_s k_s 125 f_s] s.heap := hP
  have hl := lv_entry ([.ref h0, .int p0, .int p1]) (n := 4) (Nat.le_of_ble_eq_true rfl)
  rw [lg_entry_eq]
  generalize (lg_sl ([.ref h0, .int p0, .int p1]) ++ List.replicate (4 - (lg_sl ([.ref h0, .int p0, .int p1])).length) Slot.unset).toArray = ls at hl ⊢
  have hl : lv_has ls 4 [(0, .ref h0), (1, .int p0), (2, .int p1)] := hl
  suffices key9 : ∀ Q9 : State → Prop, Q9 = (MQ below (va_Qi (fun (r : Int32) (_ : Unit) => (r.toInt = -2 ∧ ¬(0 ≤ p0.toInt ∧ p0.toInt < 5 ∧ 0 ≤ p1.toInt ∧ p1.toInt ≤ 1000000000)) ∨ ((0 ≤ p0.toInt ∧ p0.toInt < 5 ∧ 0 ≤ p1.toInt ∧ p1.toInt ≤ 1000000000) ∧ r.toInt = -4 ∧ (f_s 60).toInt = 8) ∨ ((0 ≤ p0.toInt ∧ p0.toInt < 5 ∧ 0 ≤ p1.toInt ∧ p1.toInt ≤ 1000000000) ∧ r.toInt = (f_s 60).toInt ∧ (f_s 60).toInt < 8)) (fun (_ : Unit) (t : State) => ∃ (f_s' : Nat → Int32), (ms f_s') ∧ (((0 ≤ p0.toInt ∧ p0.toInt < 5 ∧ 0 ≤ p1.toInt ∧ p1.toInt ≤ 1000000000) ∧ (f_s 60).toInt < 8 ∧ (f_s' 60).toInt = (f_s 60).toInt + 1) ∨ (¬((0 ≤ p0.toInt ∧ p0.toInt < 5 ∧ 0 ≤ p1.toInt ∧ p1.toInt ≤ 1000000000) ∧ (f_s 60).toInt < 8) ∧ (f_s' 60).toInt = (f_s 60).toInt)) ∧ (f_s' = pacc f_s p0 p1) ∧ va_P (dC, dI) vwCl [eO h0 9 [.ref q_s, .long v_fees, .ref q_thought, .long v_thoughtFees, .ref q_image, .long v_imageFees, .int v_hasImage, .ref q_tape, .int v_taped, .ref q_texts, .ref q_sizes, .int v_programs, .ref q_imageTexts, .ref q_imageSizes, .int v_imagePrograms, .int v_here, .int v_open, .int v_running, .int v_begun, .ref q_held, .ref q_marks, .int v_markMany, .ref q_trace, .int v_traced, .ref q_keptBalances, .ref q_keptFees, .int v_deep, .ref q_way, .ref q_sorts, .ref q_rowMany, .ref q_items, .ref q_moved], eI q_s k_s 125 (f_s')] t.heap ∧ va_K (dC, dI) vwCl [(k_s, .int)] t ∧ va_D A [eO h0 9 [.ref q_s, .long v_fees, .ref q_thought, .long v_thoughtFees, .ref q_image, .long v_imageFees, .int v_hasImage, .ref q_tape, .int v_taped, .ref q_texts, .ref q_sizes, .int v_programs, .ref q_imageTexts, .ref q_imageSizes, .int v_imagePrograms, .int v_here, .int v_open, .int v_running, .int v_begun, .ref q_held, .ref q_marks, .int v_markMany, .ref q_trace, .int v_traced, .ref q_keptBalances, .ref q_keptFees, .int v_deep, .ref q_way, .ref q_sorts, .ref q_rowMany, .ref q_items, .ref q_moved], eI q_s k_s 125 (f_s')]) A) (([.ref h0, .int p0, .int p1] : List Value).toArray) s 0 0 A) → W p l e ({ frames := 1, cells := 0, slots := 0, locals := 25 }) s m (([.ref h0, .int p0, .int p1] : List Value).toArray) below meth c s.heap [] 0 0 Q9 (F0 m 0 ls []) from key9 _ rfl
  intro Q9 hQ9
  have k_m4 : ((-4) : Int32).toInt = (-4) := by decide
  have k_m2 : ((-2) : Int32).toInt = (-2) := by decide
  have k_0 : (0 : Int32).toInt = 0 := by decide
  have k_1 : (1 : Int32).toInt = 1 := by decide
  have k_8 : (8 : Int32).toInt = 8 := by decide
  have k_16 : (16 : Int32).toInt = 16 := by decide
  have k_24 : (24 : Int32).toInt = 24 := by decide
  have k_60 : (60 : Int32).toInt = 60 := by decide
  have kl_0 : (0 : Int64).toInt = 0 := by decide
  have kl_4 : (4 : Int64).toInt = 4 := by decide
  have kl_1000000000 : (1000000000 : Int64).toInt = 1000000000 := by decide
  obtain ⟨ha1, ha2, hown9⟩ := id hms
  refine lv_iload_n hx hb dX10_account_0 rfl (lv_at hl 1 rfl) ?_
  refine lv_i2l (v := p0.toInt64) hx hb dX10_account_1 rfl ?_
  have t_t1 := Int32.toInt_toInt64 p0
  refine lv_lconst (v := 0) hx hb dX10_account_2 (by decide) ?_
  refine lv_ldc2 hx hb hown (hts (.constantLong RX10 71 (4)) (List.mem_cons_of_mem _ mw_645)) dX10_account_3 ?_
  obtain ⟨hPc, hDc, hFc, hCm, hNw⟩ := C_s (wc := []) hP hD hS hA [] 2 rfl (by decide +kernel) rfl
  have hKc := K_s (tys' := []) hK [] rfl
  refine va_calli (va_runS (As := [.long p0.toInt64, .long 0, .long 4]) (rest := []) ⟨hx, hb, hml, hown, hts⟩ (c_X10_isIn l dC dI (p0.toInt64) 0 4 s.heap.size) (va_cwS 3 hts gX10_account_X10_isIn rfl rfl rfl (by decide +kernel) ⟨Nat.le_of_ble_eq_true rfl, Nat.le_of_ble_eq_true rfl⟩) ⟨fun a U g mk q => by obtain ⟨q0, q1, qP, qK, qD⟩ := q; exact ⟨q0, q1, qP, va_K.moved (u := U) (U := U.calling g mk a) (Vm.Alike.refl U.vm) qK, qD⟩, fun U hU hW => ⟨rfl, by rw [hU], by rw [hU]; exact hPc, va_K.moved hW.alike hKc, hDc.weaken (fun _ _ _ _ => trivial)⟩⟩ rfl rfl hl.1 rfl (lv_room (Nat.le_of_ble_eq_true rfl)) dX10_account_6 ⟨Nat.le_of_ble_eq_true rfl, Nat.le_of_ble_eq_true rfl⟩) hS (fun q _ h => hFc q h) hFc (fun r2 u t H1 locs ht hvm hw hB hz1 hk1 hS => ?_)
  obtain ⟨hP1, hK1, hD1⟩ := hB
  rw [ht] at hP1
  have hK1 := va_K.moved hvm.symm hK1
  try dsimp only at hw
  obtain ⟨hP, hD⟩ := J_s (wL := [eO h0 9 [.ref q_s, .long v_fees, .ref q_thought, .long v_thoughtFees, .ref q_image, .long v_imageFees, .int v_hasImage, .ref q_tape, .int v_taped, .ref q_texts, .ref q_sizes, .int v_programs, .ref q_imageTexts, .ref q_imageSizes, .int v_imagePrograms, .int v_here, .int v_open, .int v_running, .int v_begun, .ref q_held, .ref q_marks, .int v_markMany, .ref q_trace, .int v_traced, .ref q_keptBalances, .ref q_keptFees, .int v_deep, .ref q_way, .ref q_sorts, .ref q_rowMany, .ref q_items, .ref q_moved], eI q_s k_s 125 f_s]) hP hD [] [(0, 2)] hCm hNw (by decide +kernel) hk1 hFc hP1 hD1 rfl
  have hK := KJ_s (tys' := [(k_s, .int)]) hK hK1 [(0, 1)] rfl
  generalize H1 = H at hP hS ⊢
  rcases hw with ⟨e_r2, f_r2⟩ | ⟨e_r2, f_r2⟩
  · subst e_r2
    refine lv_if_eq (tgt := 24) hx hb dX10_account_9 (by decide) (fun c3 => absurd c3 (by decide)) (fun c3 => ?_)
    refine lv_iload_n hx hb dX10_account_12 rfl (lv_at hl 2 rfl) ?_
    refine lv_i2l (v := p1.toInt64) hx hb dX10_account_13 rfl ?_
    have t_t4 := Int32.toInt_toInt64 p1
    refine lv_lconst (v := 0) hx hb dX10_account_14 (by decide) ?_
    refine lv_ldc2 hx hb hown (hts (.constantLong RX10 73 (1000000000)) (List.mem_cons_of_mem _ mw_649)) dX10_account_15 ?_
    obtain ⟨hPc, hDc, hFc, hCm, hNw⟩ := C_s (wc := []) hP hD hS hA [] 2 rfl (by decide +kernel) rfl
    have hKc := K_s (tys' := []) hK [] rfl
    refine va_calli (va_runS (As := [.long p1.toInt64, .long 0, .long 1000000000]) (rest := []) ⟨hx, hb, hml, hown, hts⟩ (c_X10_isIn l dC dI (p1.toInt64) 0 1000000000 H.size) (va_cwS 3 hts gX10_account_X10_isIn rfl rfl rfl (by decide +kernel) ⟨Nat.le_of_ble_eq_true rfl, Nat.le_of_ble_eq_true rfl⟩) ⟨fun a U g mk q => by obtain ⟨q0, q1, qP, qK, qD⟩ := q; exact ⟨q0, q1, qP, va_K.moved (u := U) (U := U.calling g mk a) (Vm.Alike.refl U.vm) qK, qD⟩, fun U hU hW => ⟨rfl, by rw [hU], by rw [hU]; exact hPc, va_K.moved hW.alike hKc, hDc.weaken (fun _ _ _ _ => trivial)⟩⟩ rfl rfl hl.1 rfl (lv_room (Nat.le_of_ble_eq_true rfl)) dX10_account_18 ⟨Nat.le_of_ble_eq_true rfl, Nat.le_of_ble_eq_true rfl⟩) hS (fun q _ h => hFc q h) hFc (fun r5 u t H1 locs ht hvm hw hB hz1 hk1 hS => ?_)
    obtain ⟨hP1, hK1, hD1⟩ := hB
    rw [ht] at hP1
    have hK1 := va_K.moved hvm.symm hK1
    try dsimp only at hw
    obtain ⟨hP, hD⟩ := J_s (wL := [eO h0 9 [.ref q_s, .long v_fees, .ref q_thought, .long v_thoughtFees, .ref q_image, .long v_imageFees, .int v_hasImage, .ref q_tape, .int v_taped, .ref q_texts, .ref q_sizes, .int v_programs, .ref q_imageTexts, .ref q_imageSizes, .int v_imagePrograms, .int v_here, .int v_open, .int v_running, .int v_begun, .ref q_held, .ref q_marks, .int v_markMany, .ref q_trace, .int v_traced, .ref q_keptBalances, .ref q_keptFees, .int v_deep, .ref q_way, .ref q_sorts, .ref q_rowMany, .ref q_items, .ref q_moved], eI q_s k_s 125 f_s]) hP hD [] [(0, 2)] hCm hNw (by decide +kernel) hk1 hFc hP1 hD1 rfl
    have hK := KJ_s (tys' := [(k_s, .int)]) hK hK1 [(0, 1)] rfl
    generalize H1 = H at hP hS ⊢
    rcases hw with ⟨e_r5, f_r5⟩ | ⟨e_r5, f_r5⟩
    · subst e_r5
      refine lv_if_ne (tgt := 27) hx hb dX10_account_21 (by decide) (fun c6 => ?_) (fun c6 => absurd c6 (by decide))
      refine lv_aload_n hx hb dX10_account_27 rfl (lv_at hl 0 rfl) ?_
      refine va_get (D := (dC, dI)) (ci := 9) (v := .ref q_s) (C := RX10) (T := TX10) (N := 32) hx hb hts (fun w h => List.mem_cons_of_mem _ (inlX10 w h)) hown hK hP 0 rfl rfl 0 (by decide) (hts (.fieldLink RX10 11 "ClearingGatesModel" "s" "[I") (List.mem_cons_of_mem _ mw_609)) (fun _ h9 => h9) rfl dX10_account_28 ?_
      refine lv_bipush (v := 60) hx hb dX10_account_31 (by decide) ?_
      refine va_iald (D := (dC, dI)) hx hb hK hP 1 0 rfl rfl (vp_in_iff.mpr ⟨by decide, by decide⟩) dX10_account_33 ?_
      refine lv_topi (fun z7 e_z7 => ?_)
      have a_z7 : z7.toInt = (f_s 60).toInt := by rw [e_z7]; rfl
      refine lv_bipush (v := 8) hx hb dX10_account_34 (by decide) ?_
      refine lv_icmp_ne (tgt := 42) hx hb dX10_account_36 (by decide) (fun c8 => ?_) (fun c8 => ?_)
      · skip
        have f_c8 := i_ne c8
        refine lv_aload_n hx hb dX10_account_42 rfl (lv_at hl 0 rfl) ?_
        refine va_get (D := (dC, dI)) (ci := 9) (v := .ref q_s) (C := RX10) (T := TX10) (N := 32) hx hb hts (fun w h => List.mem_cons_of_mem _ (inlX10 w h)) hown hK hP 0 rfl rfl 0 (by decide) (hts (.fieldLink RX10 11 "ClearingGatesModel" "s" "[I") (List.mem_cons_of_mem _ mw_609)) (fun _ h9 => h9) rfl dX10_account_43 ?_
        refine lv_bipush (v := 60) hx hb dX10_account_46 (by decide) ?_
        refine va_iald (D := (dC, dI)) hx hb hK hP 1 0 rfl rfl (vp_in_iff.mpr ⟨by decide, by decide⟩) dX10_account_48 ?_
        refine lv_topi (fun z9 e_z9 => ?_)
        have a_z9 : z9.toInt = (f_s 60).toInt := by rw [e_z9]; rfl
        refine lv_istore_n (lv' := [(3, .int z9), (0, .ref h0), (1, .int p0), (2, .int p1)]) hx hb dX10_account_49 rfl hl (by decide) rfl (fun ls hl => ?_)
        refine lv_aload_n hx hb dX10_account_50 rfl (lv_at hl 1 rfl) ?_
        refine va_get (D := (dC, dI)) (ci := 9) (v := .ref q_s) (C := RX10) (T := TX10) (N := 32) hx hb hts (fun w h => List.mem_cons_of_mem _ (inlX10 w h)) hown hK hP 0 rfl rfl 0 (by decide) (hts (.fieldLink RX10 11 "ClearingGatesModel" "s" "[I") (List.mem_cons_of_mem _ mw_609)) (fun _ h9 => h9) rfl dX10_account_51 ?_
        refine lv_iconst (v := 0) hx hb dX10_account_54 (by decide) ?_
        refine lv_iload_n hx hb dX10_account_55 rfl (lv_at hl 0 rfl) ?_
        refine lv_iadd hx hb dX10_account_56 ?_
        refine lv_topi (fun z10 e_z10 => ?_)
        (first | have t_z10 := i_add e_z10 (by omega) (by omega) | skip)
        refine lv_iload_n hx hb dX10_account_57 rfl (lv_at hl 2 rfl) ?_
        refine va_iast (D := (dC, dI)) hx hb hK hP hD hS 1 0 rfl rfl (vp_in_iff.mpr ⟨by omega, by omega⟩) dX10_account_58 (fun H locs hP hD hS => ?_)
        generalize e_g11 : (upd f_s (z10).toNatClampNeg p0) = g11 at hP hD
        obtain ⟨hP, hD⟩ := X_s (ws' := [eO h0 9 [.ref q_s, .long v_fees, .ref q_thought, .long v_thoughtFees, .ref q_image, .long v_imageFees, .int v_hasImage, .ref q_tape, .int v_taped, .ref q_texts, .ref q_sizes, .int v_programs, .ref q_imageTexts, .ref q_imageSizes, .int v_imagePrograms, .int v_here, .int v_open, .int v_running, .int v_begun, .ref q_held, .ref q_marks, .int v_markMany, .ref q_trace, .int v_traced, .ref q_keptBalances, .ref q_keptFees, .int v_deep, .ref q_way, .ref q_sorts, .ref q_rowMany, .ref q_items, .ref q_moved], eI q_s k_s 125 g11]) hP hD rfl
        have m_g11 : ms g11 := by rw [← e_g11]; first | exact ms_up (by assumption) (by omega) (by omega) | exact ms_60 (by assumption) (by omega) (by omega) (by omega) | exact ms_upo (by assumption) (by omega) (by omega) (by omega)
        have a_g11 : (g11 60).toInt = (f_s 60).toInt := by rw [← e_g11]; exact up_60 (by omega) (by omega)
        obtain ⟨b_g11, c_g11, o_g11⟩ := id m_g11
        refine lv_aload_n hx hb dX10_account_59 rfl (lv_at hl 1 rfl) ?_
        refine va_get (D := (dC, dI)) (ci := 9) (v := .ref q_s) (C := RX10) (T := TX10) (N := 32) hx hb hts (fun w h => List.mem_cons_of_mem _ (inlX10 w h)) hown hK hP 0 rfl rfl 0 (by decide) (hts (.fieldLink RX10 11 "ClearingGatesModel" "s" "[I") (List.mem_cons_of_mem _ mw_609)) (fun _ h9 => h9) rfl dX10_account_60 ?_
        refine lv_bipush (v := 8) hx hb dX10_account_63 (by decide) ?_
        refine lv_iload_n hx hb dX10_account_65 rfl (lv_at hl 0 rfl) ?_
        refine lv_iadd hx hb dX10_account_66 ?_
        refine lv_topi (fun z12 e_z12 => ?_)
        (first | have t_z12 := i_add e_z12 (by omega) (by omega) | skip)
        refine lv_iload_n hx hb dX10_account_67 rfl (lv_at hl 3 rfl) ?_
        refine va_iast (D := (dC, dI)) hx hb hK hP hD hS 1 0 rfl rfl (vp_in_iff.mpr ⟨by omega, by omega⟩) dX10_account_68 (fun H locs hP hD hS => ?_)
        generalize e_g13 : (upd g11 (z12).toNatClampNeg p1) = g13 at hP hD
        obtain ⟨hP, hD⟩ := X_s (ws' := [eO h0 9 [.ref q_s, .long v_fees, .ref q_thought, .long v_thoughtFees, .ref q_image, .long v_imageFees, .int v_hasImage, .ref q_tape, .int v_taped, .ref q_texts, .ref q_sizes, .int v_programs, .ref q_imageTexts, .ref q_imageSizes, .int v_imagePrograms, .int v_here, .int v_open, .int v_running, .int v_begun, .ref q_held, .ref q_marks, .int v_markMany, .ref q_trace, .int v_traced, .ref q_keptBalances, .ref q_keptFees, .int v_deep, .ref q_way, .ref q_sorts, .ref q_rowMany, .ref q_items, .ref q_moved], eI q_s k_s 125 g13]) hP hD rfl
        have m_g13 : ms g13 := by rw [← e_g13]; first | exact ms_up (by assumption) (by omega) (by omega) | exact ms_60 (by assumption) (by omega) (by omega) (by omega) | exact ms_upo (by assumption) (by omega) (by omega) (by omega)
        have a_g13 : (g13 60).toInt = (g11 60).toInt := by rw [← e_g13]; exact up_60 (by omega) (by omega)
        obtain ⟨b_g13, c_g13, o_g13⟩ := id m_g13
        refine lv_aload_n hx hb dX10_account_69 rfl (lv_at hl 1 rfl) ?_
        refine va_get (D := (dC, dI)) (ci := 9) (v := .ref q_s) (C := RX10) (T := TX10) (N := 32) hx hb hts (fun w h => List.mem_cons_of_mem _ (inlX10 w h)) hown hK hP 0 rfl rfl 0 (by decide) (hts (.fieldLink RX10 11 "ClearingGatesModel" "s" "[I") (List.mem_cons_of_mem _ mw_609)) (fun _ h9 => h9) rfl dX10_account_70 ?_
        refine lv_bipush (v := 16) hx hb dX10_account_73 (by decide) ?_
        refine lv_iload_n hx hb dX10_account_75 rfl (lv_at hl 0 rfl) ?_
        refine lv_iadd hx hb dX10_account_76 ?_
        refine lv_topi (fun z14 e_z14 => ?_)
        (first | have t_z14 := i_add e_z14 (by omega) (by omega) | skip)
        refine lv_iconst (v := 0) hx hb dX10_account_77 (by decide) ?_
        refine va_iast (D := (dC, dI)) hx hb hK hP hD hS 1 0 rfl rfl (vp_in_iff.mpr ⟨by omega, by omega⟩) dX10_account_78 (fun H locs hP hD hS => ?_)
        generalize e_g15 : (upd g13 (z14).toNatClampNeg 0) = g15 at hP hD
        obtain ⟨hP, hD⟩ := X_s (ws' := [eO h0 9 [.ref q_s, .long v_fees, .ref q_thought, .long v_thoughtFees, .ref q_image, .long v_imageFees, .int v_hasImage, .ref q_tape, .int v_taped, .ref q_texts, .ref q_sizes, .int v_programs, .ref q_imageTexts, .ref q_imageSizes, .int v_imagePrograms, .int v_here, .int v_open, .int v_running, .int v_begun, .ref q_held, .ref q_marks, .int v_markMany, .ref q_trace, .int v_traced, .ref q_keptBalances, .ref q_keptFees, .int v_deep, .ref q_way, .ref q_sorts, .ref q_rowMany, .ref q_items, .ref q_moved], eI q_s k_s 125 g15]) hP hD rfl
        have m_g15 : ms g15 := by rw [← e_g15]; first | exact ms_up (by assumption) (by omega) (by omega) | exact ms_60 (by assumption) (by omega) (by omega) (by omega) | exact ms_upo (by assumption) (by omega) (by omega) (by omega)
        have a_g15 : (g15 60).toInt = (g13 60).toInt := by rw [← e_g15]; exact up_60 (by omega) (by omega)
        obtain ⟨b_g15, c_g15, o_g15⟩ := id m_g15
        refine lv_aload_n hx hb dX10_account_79 rfl (lv_at hl 1 rfl) ?_
        refine va_get (D := (dC, dI)) (ci := 9) (v := .ref q_s) (C := RX10) (T := TX10) (N := 32) hx hb hts (fun w h => List.mem_cons_of_mem _ (inlX10 w h)) hown hK hP 0 rfl rfl 0 (by decide) (hts (.fieldLink RX10 11 "ClearingGatesModel" "s" "[I") (List.mem_cons_of_mem _ mw_609)) (fun _ h9 => h9) rfl dX10_account_80 ?_
        refine lv_bipush (v := 24) hx hb dX10_account_83 (by decide) ?_
        refine lv_iload_n hx hb dX10_account_85 rfl (lv_at hl 0 rfl) ?_
        refine lv_iadd hx hb dX10_account_86 ?_
        refine lv_topi (fun z16 e_z16 => ?_)
        (first | have t_z16 := i_add e_z16 (by omega) (by omega) | skip)
        refine lv_iconst (v := 1) hx hb dX10_account_87 (by decide) ?_
        refine va_iast (D := (dC, dI)) hx hb hK hP hD hS 1 0 rfl rfl (vp_in_iff.mpr ⟨by omega, by omega⟩) dX10_account_88 (fun H locs hP hD hS => ?_)
        generalize e_g17 : (upd g15 (z16).toNatClampNeg 1) = g17 at hP hD
        obtain ⟨hP, hD⟩ := X_s (ws' := [eO h0 9 [.ref q_s, .long v_fees, .ref q_thought, .long v_thoughtFees, .ref q_image, .long v_imageFees, .int v_hasImage, .ref q_tape, .int v_taped, .ref q_texts, .ref q_sizes, .int v_programs, .ref q_imageTexts, .ref q_imageSizes, .int v_imagePrograms, .int v_here, .int v_open, .int v_running, .int v_begun, .ref q_held, .ref q_marks, .int v_markMany, .ref q_trace, .int v_traced, .ref q_keptBalances, .ref q_keptFees, .int v_deep, .ref q_way, .ref q_sorts, .ref q_rowMany, .ref q_items, .ref q_moved], eI q_s k_s 125 g17]) hP hD rfl
        have m_g17 : ms g17 := by rw [← e_g17]; first | exact ms_up (by assumption) (by omega) (by omega) | exact ms_60 (by assumption) (by omega) (by omega) (by omega) | exact ms_upo (by assumption) (by omega) (by omega) (by omega)
        have a_g17 : (g17 60).toInt = (g15 60).toInt := by rw [← e_g17]; exact up_60 (by omega) (by omega)
        obtain ⟨b_g17, c_g17, o_g17⟩ := id m_g17
        refine lv_aload_n hx hb dX10_account_89 rfl (lv_at hl 1 rfl) ?_
        refine va_get (D := (dC, dI)) (ci := 9) (v := .ref q_s) (C := RX10) (T := TX10) (N := 32) hx hb hts (fun w h => List.mem_cons_of_mem _ (inlX10 w h)) hown hK hP 0 rfl rfl 0 (by decide) (hts (.fieldLink RX10 11 "ClearingGatesModel" "s" "[I") (List.mem_cons_of_mem _ mw_609)) (fun _ h9 => h9) rfl dX10_account_90 ?_
        refine lv_bipush (v := 60) hx hb dX10_account_93 (by decide) ?_
        refine lv_dup2_11 hx hb dX10_account_95 rfl rfl ?_
        refine va_iald (D := (dC, dI)) hx hb hK hP 1 0 rfl rfl (vp_in_iff.mpr ⟨by decide, by decide⟩) dX10_account_96 ?_
        refine lv_topi (fun z18 e_z18 => ?_)
        have a_z18 : z18.toInt = (g17 60).toInt := by rw [e_z18]; rfl
        refine lv_iconst (v := 1) hx hb dX10_account_97 (by decide) ?_
        refine lv_iadd hx hb dX10_account_98 ?_
        refine lv_topi (fun z19 e_z19 => ?_)
        (first | have t_z19 := i_add e_z19 (by omega) (by omega) | skip)
        refine va_iast (D := (dC, dI)) hx hb hK hP hD hS 1 0 rfl rfl (vp_in_iff.mpr ⟨by decide, by decide⟩) dX10_account_99 (fun H locs hP hD hS => ?_)
        generalize e_g20 : (upd g17 ((60 : Int32)).toNatClampNeg z19) = g20 at hP hD
        obtain ⟨hP, hD⟩ := X_s (ws' := [eO h0 9 [.ref q_s, .long v_fees, .ref q_thought, .long v_thoughtFees, .ref q_image, .long v_imageFees, .int v_hasImage, .ref q_tape, .int v_taped, .ref q_texts, .ref q_sizes, .int v_programs, .ref q_imageTexts, .ref q_imageSizes, .int v_imagePrograms, .int v_here, .int v_open, .int v_running, .int v_begun, .ref q_held, .ref q_marks, .int v_markMany, .ref q_trace, .int v_traced, .ref q_keptBalances, .ref q_keptFees, .int v_deep, .ref q_way, .ref q_sorts, .ref q_rowMany, .ref q_items, .ref q_moved], eI q_s k_s 125 g20]) hP hD rfl
        have m_g20 : ms g20 := by rw [← e_g20]; first | exact ms_up (by assumption) (by omega) (by omega) | exact ms_60 (by assumption) (by omega) (by omega) (by omega) | exact ms_upo (by assumption) (by omega) (by omega) (by omega)
        have a_g20 : (g20 60).toInt = z19.toInt := by rw [← e_g20]; rfl
        obtain ⟨b_g20, c_g20, o_g20⟩ := id m_g20
        refine lv_iload_n hx hb dX10_account_100 rfl (lv_at hl 0 rfl) ?_
        rw [hQ9]
        exact W.iret (v := z9) hx hb hr (fun t ht hW => ⟨⟨z9, (), rfl, (by omega), g20, (by first | assumption | omega | exact fz_rf _ | exact fb_rf _ | exact (fun _ _ _ => rfl)), (by first | assumption | omega | exact fz_rf _ | exact fb_rf _ | exact (fun _ _ _ => rfl)), (by rw [pacc_p (by unfold cac; omega), ← e_g20, ← e_g17, ← e_g15, ← e_g13, ← e_g11, i_nat (x := z10) (k := (f_s 60).toInt.toNat) (by omega), i_nat (x := z12) (k := 8 + (f_s 60).toInt.toNat) (by omega), i_nat (x := z14) (k := 16 + (f_s 60).toInt.toNat) (by omega), i_nat (x := z16) (k := 24 + (f_s 60).toInt.toNat) (by omega), e_z19, show z18 = f_s 60 from i_inj (by omega)]; rfl), by rw [ht]; exact hP, va_K.moved hW.alike hK, hD⟩, hS.F ht⟩) hS.2.2 dX10_account_101
      · skip
        have f_c8 := i_eq c8
        refine lv_bipush (v := -4) hx hb dX10_account_39 (by decide) ?_
        rw [hQ9]
        exact W.iret (v := (-4)) hx hb hr (fun t ht hW => ⟨⟨(-4), (), rfl, (by omega), f_s, (by first | assumption | omega | exact fz_rf _ | exact fb_rf _ | exact (fun _ _ _ => rfl)), (by first | assumption | omega | exact fz_rf _ | exact fb_rf _ | exact (fun _ _ _ => rfl)), (by rw [pacc_n (by unfold cac; omega)]), by rw [ht]; exact hP, va_K.moved hW.alike hK, hD⟩, hS.F ht⟩) hS.2.2 dX10_account_41
    · subst e_r5
      refine lv_if_ne (tgt := 27) hx hb dX10_account_21 (by decide) (fun c21 => absurd (by decide) c21) (fun c21 => ?_)
      refine lv_bipush (v := -2) hx hb dX10_account_24 (by decide) ?_
      rw [hQ9]
      exact W.iret (v := (-2)) hx hb hr (fun t ht hW => ⟨⟨(-2), (), rfl, (by omega), f_s, (by first | assumption | omega | exact fz_rf _ | exact fb_rf _ | exact (fun _ _ _ => rfl)), (by first | assumption | omega | exact fz_rf _ | exact fb_rf _ | exact (fun _ _ _ => rfl)), (by rw [pacc_n (by unfold cac; omega)]), by rw [ht]; exact hP, va_K.moved hW.alike hK, hD⟩, hS.F ht⟩) hS.2.2 dX10_account_26
  · subst e_r2
    refine lv_if_eq (tgt := 24) hx hb dX10_account_9 (by decide) (fun c22 => ?_) (fun c22 => absurd (by decide) c22)
    refine lv_bipush (v := -2) hx hb dX10_account_24 (by decide) ?_
    rw [hQ9]
    exact W.iret (v := (-2)) hx hb hr (fun t ht hW => ⟨⟨(-2), (), rfl, (by omega), f_s, (by first | assumption | omega | exact fz_rf _ | exact fb_rf _ | exact (fun _ _ _ => rfl)), (by first | assumption | omega | exact fz_rf _ | exact fb_rf _ | exact (fun _ _ _ => rfl)), (by rw [pacc_n (by unfold cac; omega)]), by rw [ht]; exact hP, va_K.moved hW.alike hK, hD⟩, hS.F ht⟩) hS.2.2 dX10_account_26

set_option maxRecDepth 100000 in
set_option maxHeartbeats 4000000 in
/-- set of the reference -/
theorem c_X10_set (l : Launch) (dC : Nat → ClassId) (dI : Nat → Nat → Nat) (h0 : Nat) (p0 : Int32) (p1 : Int32) (p2 : Int32) (q_s : Nat) (v_fees : Int64) (q_thought : Nat) (v_thoughtFees : Int64) (q_image : Nat) (v_imageFees : Int64) (v_hasImage : Int32) (q_tape : Nat) (v_taped : Int32) (q_texts : Nat) (q_sizes : Nat) (v_programs : Int32) (q_imageTexts : Nat) (q_imageSizes : Nat) (v_imagePrograms : Int32) (v_here : Int32) (v_open : Int32) (v_running : Int32) (v_begun : Int32) (q_held : Nat) (q_marks : Nat) (v_markMany : Int32) (q_trace : Nat) (v_traced : Int32) (q_keptBalances : Nat) (q_keptFees : Nat) (v_deep : Int32) (q_way : Nat) (q_sorts : Nat) (q_rowMany : Nat) (q_items : Nat) (q_moved : Nat) (k_s : ClassId) (f_s : Nat → Int32) (sz : Nat) (hms : ms f_s) : Met l yX10_set wsX10_set ({ frames := 2, cells := 0, slots := 0, locals := 46 }) (va_Pc [.ref h0, .int p0, .int p1, .int p2] (fun U => U.heap.size = sz ∧ va_P (dC, dI) vwCl [eO h0 9 [.ref q_s, .long v_fees, .ref q_thought, .long v_thoughtFees, .ref q_image, .long v_imageFees, .int v_hasImage, .ref q_tape, .int v_taped, .ref q_texts, .ref q_sizes, .int v_programs, .ref q_imageTexts, .ref q_imageSizes, .int v_imagePrograms, .int v_here, .int v_open, .int v_running, .int v_begun, .ref q_held, .ref q_marks, .int v_markMany, .ref q_trace, .int v_traced, .ref q_keptBalances, .ref q_keptFees, .int v_deep, .ref q_way, .ref q_sorts, .ref q_rowMany, .ref q_items, .ref q_moved], eI q_s k_s 125 f_s] U.heap ∧ va_K (dC, dI) vwCl [(k_s, .int)] U ∧ va_D (fun _ => True) [eO h0 9 [.ref q_s, .long v_fees, .ref q_thought, .long v_thoughtFees, .ref q_image, .long v_imageFees, .int v_hasImage, .ref q_tape, .int v_taped, .ref q_texts, .ref q_sizes, .int v_programs, .ref q_imageTexts, .ref q_imageSizes, .int v_imagePrograms, .int v_here, .int v_open, .int v_running, .int v_begun, .ref q_held, .ref q_marks, .int v_markMany, .ref q_trace, .int v_traced, .ref q_keptBalances, .ref q_keptFees, .int v_deep, .ref q_way, .ref q_sorts, .ref q_rowMany, .ref q_items, .ref q_moved], eI q_s k_s 125 f_s])) (va_Ql (fun (r : Int64) (_ : Unit) => True) (fun (_ : Unit) (t : State) => ∃ (f_s' : Nat → Int32), (ms f_s') ∧ ((f_s' 60).toInt = (f_s 60).toInt) ∧ (f_s' = pset f_s p0 p1 p2) ∧ va_P (dC, dI) vwCl [eO h0 9 [.ref q_s, .long v_fees, .ref q_thought, .long v_thoughtFees, .ref q_image, .long v_imageFees, .int v_hasImage, .ref q_tape, .int v_taped, .ref q_texts, .ref q_sizes, .int v_programs, .ref q_imageTexts, .ref q_imageSizes, .int v_imagePrograms, .int v_here, .int v_open, .int v_running, .int v_begun, .ref q_held, .ref q_marks, .int v_markMany, .ref q_trace, .int v_traced, .ref q_keptBalances, .ref q_keptFees, .int v_deep, .ref q_way, .ref q_sorts, .ref q_rowMany, .ref q_items, .ref q_moved], eI q_s k_s 125 (f_s')] t.heap ∧ va_K (dC, dI) vwCl [(k_s, .int)] t ∧ va_D (va_A [eO h0 9 [.ref q_s, .long v_fees, .ref q_thought, .long v_thoughtFees, .ref q_image, .long v_imageFees, .int v_hasImage, .ref q_tape, .int v_taped, .ref q_texts, .ref q_sizes, .int v_programs, .ref q_imageTexts, .ref q_imageSizes, .int v_imagePrograms, .int v_here, .int v_open, .int v_running, .int v_begun, .ref q_held, .ref q_marks, .int v_markMany, .ref q_trace, .int v_traced, .ref q_keptBalances, .ref q_keptFees, .int v_deep, .ref q_way, .ref q_sorts, .ref q_rowMany, .ref q_items, .ref q_moved], eI q_s k_s 125 f_s] sz) [eO h0 9 [.ref q_s, .long v_fees, .ref q_thought, .long v_thoughtFees, .ref q_image, .long v_imageFees, .int v_hasImage, .ref q_tape, .int v_taped, .ref q_texts, .ref q_sizes, .int v_programs, .ref q_imageTexts, .ref q_imageSizes, .int v_imagePrograms, .int v_here, .int v_open, .int v_running, .int v_begun, .ref q_held, .ref q_marks, .int v_markMany, .ref q_trace, .int v_traced, .ref q_keptBalances, .ref q_keptFees, .int v_deep, .ref q_way, .ref q_sorts, .ref q_rowMany, .ref q_items, .ref q_moved], eI q_s k_s 125 (f_s')]) (va_A [eO h0 9 [.ref q_s, .long v_fees, .ref q_thought, .long v_thoughtFees, .ref q_image, .long v_imageFees, .int v_hasImage, .ref q_tape, .int v_taped, .ref q_texts, .ref q_sizes, .int v_programs, .ref q_imageTexts, .ref q_imageSizes, .int v_imagePrograms, .int v_here, .int v_open, .int v_running, .int v_begun, .ref q_held, .ref q_marks, .int v_markMany, .ref q_trace, .int v_traced, .ref q_keptBalances, .ref q_keptFees, .int v_deep, .ref q_way, .ref q_sorts, .ref q_rowMany, .ref q_items, .ref q_moved], eI q_s k_s 125 f_s] sz)) 0 0 (va_A [eO h0 9 [.ref q_s, .long v_fees, .ref q_thought, .long v_thoughtFees, .ref q_image, .long v_imageFees, .int v_hasImage, .ref q_tape, .int v_taped, .ref q_texts, .ref q_sizes, .int v_programs, .ref q_imageTexts, .ref q_imageSizes, .int v_imagePrograms, .int v_here, .int v_open, .int v_running, .int v_begun, .ref q_held, .ref q_marks, .int v_markMany, .ref q_trace, .int v_traced, .ref q_keptBalances, .ref q_keptFees, .int v_deep, .ref q_way, .ref q_sorts, .ref q_rowMany, .ref q_items, .ref q_moved], eI q_s k_s 125 f_s] sz) := by
  refine Met.ofW (cc := cX10_set) (maxL := 6) (ret := (some .long)) (by decide) rfl ?_
  intro p e s m args below meth c s₁ B hml hv
  obtain ⟨rfl, hsz, hP, hK, hD0⟩ := hv
  have hx := B.exec
  have hb := B.bytes
  have hr := B.returns
  have hts := atoms_spec (ws := wsX10_set) B.pre
  have hown : s.vm.findClass RX10 = some m.cls := findClass_of_methodNamed B.named
  have hlocks := B.notSynchronized
  subst hsz
  have hD := hD0.self (sz := s.heap.size)
  generalize hAe : va_A [eO h0 9 [.ref q_s, .long v_fees, .ref q_thought, .long v_thoughtFees, .ref q_image, .long v_imageFees, .int v_hasImage, .ref q_tape, .int v_taped, .ref q_texts, .ref q_sizes, .int v_programs, .ref q_imageTexts, .ref q_imageSizes, .int v_imagePrograms, .int v_here, .int v_open, .int v_running, .int v_begun, .ref q_held, .ref q_marks, .int v_markMany, .ref q_trace, .int v_traced, .ref q_keptBalances, .ref q_keptFees, .int v_deep, .ref q_way, .ref q_sorts, .ref q_rowMany, .ref q_items, .ref q_moved], eI q_s k_s 125 f_s] s.heap.size = A at hD ⊢
  have hA : ∀ q : Nat, s.heap.size ≤ q → A q := fun q h => by rw [← hAe]; exact Or.inr h
  have hS : va_S A s.heap s.heap [] := va_S.rf
  have hP : va_P (dC, dI) vwCl [eO h0 9 [.ref q_s, .long v_fees, .ref q_thought, .long v_thoughtFees, .ref q_image, .long v_imageFees, .int v_hasImage, .ref q_tape, .int v_taped, .ref q_texts, .ref q_sizes, .int v_programs, .ref q_imageTexts, .ref q_imageSizes, .int v_imagePrograms, .int v_here, .int v_open, .int v_running, .int v_begun, .ref q_held, .ref q_marks, .int v_markMany, .ref q_trace, .int v_traced, .ref q_keptBalances, .ref q_keptFees, .int v_deep, .ref q_way, .ref q_sorts, .ref q_rowMany, .ref q_items, .ref q_moved], eI q_s k_s 125 f_s] s.heap := hP
  have hl := lv_entry ([.ref h0, .int p0, .int p1, .int p2]) (n := 6) (Nat.le_of_ble_eq_true rfl)
  rw [lg_entry_eq]
  generalize (lg_sl ([.ref h0, .int p0, .int p1, .int p2]) ++ List.replicate (6 - (lg_sl ([.ref h0, .int p0, .int p1, .int p2])).length) Slot.unset).toArray = ls at hl ⊢
  have hl : lv_has ls 6 [(0, .ref h0), (1, .int p0), (2, .int p1), (3, .int p2)] := hl
  suffices key9 : ∀ Q9 : State → Prop, Q9 = (MQ below (va_Ql (fun (r : Int64) (_ : Unit) => True) (fun (_ : Unit) (t : State) => ∃ (f_s' : Nat → Int32), (ms f_s') ∧ ((f_s' 60).toInt = (f_s 60).toInt) ∧ (f_s' = pset f_s p0 p1 p2) ∧ va_P (dC, dI) vwCl [eO h0 9 [.ref q_s, .long v_fees, .ref q_thought, .long v_thoughtFees, .ref q_image, .long v_imageFees, .int v_hasImage, .ref q_tape, .int v_taped, .ref q_texts, .ref q_sizes, .int v_programs, .ref q_imageTexts, .ref q_imageSizes, .int v_imagePrograms, .int v_here, .int v_open, .int v_running, .int v_begun, .ref q_held, .ref q_marks, .int v_markMany, .ref q_trace, .int v_traced, .ref q_keptBalances, .ref q_keptFees, .int v_deep, .ref q_way, .ref q_sorts, .ref q_rowMany, .ref q_items, .ref q_moved], eI q_s k_s 125 (f_s')] t.heap ∧ va_K (dC, dI) vwCl [(k_s, .int)] t ∧ va_D A [eO h0 9 [.ref q_s, .long v_fees, .ref q_thought, .long v_thoughtFees, .ref q_image, .long v_imageFees, .int v_hasImage, .ref q_tape, .int v_taped, .ref q_texts, .ref q_sizes, .int v_programs, .ref q_imageTexts, .ref q_imageSizes, .int v_imagePrograms, .int v_here, .int v_open, .int v_running, .int v_begun, .ref q_held, .ref q_marks, .int v_markMany, .ref q_trace, .int v_traced, .ref q_keptBalances, .ref q_keptFees, .int v_deep, .ref q_way, .ref q_sorts, .ref q_rowMany, .ref q_items, .ref q_moved], eI q_s k_s 125 (f_s')]) A) (([.ref h0, .int p0, .int p1, .int p2] : List Value).toArray) s 0 0 A) → W p l e ({ frames := 2, cells := 0, slots := 0, locals := 46 }) s m (([.ref h0, .int p0, .int p1, .int p2] : List Value).toArray) below meth c s.heap [] 0 0 Q9 (F0 m 0 ls []) from key9 _ rfl
  intro Q9 hQ9
  have k_0 : (0 : Int32).toInt = 0 := by decide
  have k_8 : (8 : Int32).toInt = 8 := by decide
  have k_16 : (16 : Int32).toInt = 16 := by decide
  have kl_0 : (0 : Int64).toInt = 0 := by decide
  have kl_1 : (1 : Int64).toInt = 1 := by decide
  have kl_9999 : (9999 : Int64).toInt = 9999 := by decide
  have kl_1000000000 : (1000000000 : Int64).toInt = 1000000000 := by decide
  obtain ⟨ha1, ha2, hown9⟩ := id hms
  refine lv_aload_n hx hb dX10_set_0 rfl (lv_at hl 0 rfl) ?_
  refine lv_iload_n hx hb dX10_set_1 rfl (lv_at hl 1 rfl) ?_
  obtain ⟨hPc, hDc, hFc, hCm, hNw⟩ := C_s (wc := [eO h0 9 [.ref q_s, .long v_fees, .ref q_thought, .long v_thoughtFees, .ref q_image, .long v_imageFees, .int v_hasImage, .ref q_tape, .int v_taped, .ref q_texts, .ref q_sizes, .int v_programs, .ref q_imageTexts, .ref q_imageSizes, .int v_imagePrograms, .int v_here, .int v_open, .int v_running, .int v_begun, .ref q_held, .ref q_marks, .int v_markMany, .ref q_trace, .int v_traced, .ref q_keptBalances, .ref q_keptFees, .int v_deep, .ref q_way, .ref q_sorts, .ref q_rowMany, .ref q_items, .ref q_moved], eI q_s k_s 125 f_s]) hP hD hS hA [(0, 2)] 2 rfl (by decide +kernel) rfl
  have hKc := K_s (tys' := [(k_s, .int)]) hK [(0, 1)] rfl
  refine va_calli (va_runV (As := [.int p0]) (rest := []) ⟨hx, hb, hml, hown, hts⟩ (c_X10_isAccount l dC dI h0 p0 q_s v_fees q_thought v_thoughtFees q_image v_imageFees v_hasImage q_tape v_taped q_texts q_sizes v_programs q_imageTexts q_imageSizes v_imagePrograms v_here v_open v_running v_begun q_held q_marks v_markMany q_trace v_traced q_keptBalances q_keptFees v_deep q_way q_sorts q_rowMany q_items q_moved k_s f_s s.heap.size (by first | assumption | omega) (by first | assumption | omega)) (cwV 1 hts gX10_set_X10_isAccount rfl rfl rfl (by decide +kernel) ⟨Nat.le_of_ble_eq_true rfl, Nat.le_of_ble_eq_true rfl⟩) ⟨fun a U g mk q => by obtain ⟨q0, q1, qP, qK, qD⟩ := q; exact ⟨q0, q1, qP, va_K.moved (u := U) (U := U.calling g mk a) (Vm.Alike.refl U.vm) qK, qD⟩, va_recv (s := s) (q := (RX10, TX10, 32)) hKc hPc (ci := 9) (q0 := 0) rfl rfl, fun U hU hW => ⟨rfl, by rw [hU], by rw [hU]; exact hPc, va_K.moved hW.alike hKc, hDc.weaken (fun _ _ _ _ => trivial)⟩⟩ rfl rfl hl.1 rfl (lv_room (Nat.le_of_ble_eq_true rfl)) dX10_set_2 ⟨Nat.le_of_ble_eq_true rfl, Nat.le_of_ble_eq_true rfl⟩) hS (fun q _ h => hFc q h) hFc (fun r1 u t H1 locs ht hvm hw hB hz1 hk1 hS => ?_)
  obtain ⟨hP1, hK1, hD1⟩ := hB
  rw [ht] at hP1
  have hK1 := va_K.moved hvm.symm hK1
  try dsimp only at hw
  obtain ⟨hP, hD⟩ := J_s (wL := [eO h0 9 [.ref q_s, .long v_fees, .ref q_thought, .long v_thoughtFees, .ref q_image, .long v_imageFees, .int v_hasImage, .ref q_tape, .int v_taped, .ref q_texts, .ref q_sizes, .int v_programs, .ref q_imageTexts, .ref q_imageSizes, .int v_imagePrograms, .int v_here, .int v_open, .int v_running, .int v_begun, .ref q_held, .ref q_marks, .int v_markMany, .ref q_trace, .int v_traced, .ref q_keptBalances, .ref q_keptFees, .int v_deep, .ref q_way, .ref q_sorts, .ref q_rowMany, .ref q_items, .ref q_moved], eI q_s k_s 125 f_s]) hP hD [(0, 2)] [] hCm hNw (by decide +kernel) hk1 hFc hP1 hD1 rfl
  have hK := KJ_s (tys' := [(k_s, .int)]) hK hK1 [] rfl
  generalize H1 = H at hP hS ⊢
  rcases hw with ⟨e_r1, f_r1⟩ | ⟨e_r1, f_r1⟩
  · subst e_r1
    refine lv_if_eq (tgt := 40) hx hb dX10_set_5 (by decide) (fun c2 => absurd c2 (by decide)) (fun c2 => ?_)
    refine lv_iload_n hx hb dX10_set_8 rfl (lv_at hl 2 rfl) ?_
    refine lv_i2l (v := p1.toInt64) hx hb dX10_set_9 rfl ?_
    have t_t3 := Int32.toInt_toInt64 p1
    refine lv_lconst (v := 0) hx hb dX10_set_10 (by decide) ?_
    refine lv_lconst (v := 1) hx hb dX10_set_11 (by decide) ?_
    obtain ⟨hPc, hDc, hFc, hCm, hNw⟩ := C_s (wc := []) hP hD hS hA [] 2 rfl (by decide +kernel) rfl
    have hKc := K_s (tys' := []) hK [] rfl
    refine va_calli (va_runS (As := [.long p1.toInt64, .long 0, .long 1]) (rest := []) ⟨hx, hb, hml, hown, hts⟩ (c_X10_isIn l dC dI (p1.toInt64) 0 1 H.size) (va_cwS 3 hts gX10_set_X10_isIn rfl rfl rfl (by decide +kernel) ⟨Nat.le_of_ble_eq_true rfl, Nat.le_of_ble_eq_true rfl⟩) ⟨fun a U g mk q => by obtain ⟨q0, q1, qP, qK, qD⟩ := q; exact ⟨q0, q1, qP, va_K.moved (u := U) (U := U.calling g mk a) (Vm.Alike.refl U.vm) qK, qD⟩, fun U hU hW => ⟨rfl, by rw [hU], by rw [hU]; exact hPc, va_K.moved hW.alike hKc, hDc.weaken (fun _ _ _ _ => trivial)⟩⟩ rfl rfl hl.1 rfl (lv_room (Nat.le_of_ble_eq_true rfl)) dX10_set_12 ⟨Nat.le_of_ble_eq_true rfl, Nat.le_of_ble_eq_true rfl⟩) hS (fun q _ h => hFc q h) hFc (fun r4 u t H1 locs ht hvm hw hB hz1 hk1 hS => ?_)
    obtain ⟨hP1, hK1, hD1⟩ := hB
    rw [ht] at hP1
    have hK1 := va_K.moved hvm.symm hK1
    try dsimp only at hw
    obtain ⟨hP, hD⟩ := J_s (wL := [eO h0 9 [.ref q_s, .long v_fees, .ref q_thought, .long v_thoughtFees, .ref q_image, .long v_imageFees, .int v_hasImage, .ref q_tape, .int v_taped, .ref q_texts, .ref q_sizes, .int v_programs, .ref q_imageTexts, .ref q_imageSizes, .int v_imagePrograms, .int v_here, .int v_open, .int v_running, .int v_begun, .ref q_held, .ref q_marks, .int v_markMany, .ref q_trace, .int v_traced, .ref q_keptBalances, .ref q_keptFees, .int v_deep, .ref q_way, .ref q_sorts, .ref q_rowMany, .ref q_items, .ref q_moved], eI q_s k_s 125 f_s]) hP hD [] [(0, 2)] hCm hNw (by decide +kernel) hk1 hFc hP1 hD1 rfl
    have hK := KJ_s (tys' := [(k_s, .int)]) hK hK1 [(0, 1)] rfl
    generalize H1 = H at hP hS ⊢
    rcases hw with ⟨e_r4, f_r4⟩ | ⟨e_r4, f_r4⟩
    · subst e_r4
      refine lv_if_eq (tgt := 40) hx hb dX10_set_15 (by decide) (fun c5 => absurd c5 (by decide)) (fun c5 => ?_)
      refine lv_iload_n hx hb dX10_set_18 rfl (lv_at hl 3 rfl) ?_
      refine lv_i2l (v := p2.toInt64) hx hb dX10_set_19 rfl ?_
      have t_t6 := Int32.toInt_toInt64 p2
      refine lv_lconst (v := 0) hx hb dX10_set_20 (by decide) ?_
      refine lv_iload_n hx hb dX10_set_21 rfl (lv_at hl 2 rfl) ?_
      refine lv_if_ne (tgt := 31) hx hb dX10_set_22 (by decide) (fun c7 => ?_) (fun c7 => ?_)
      · skip
        have f_c7 := i_ne c7
        refine lv_ldc2 hx hb hown (hts (.constantLong RX10 79 (9999)) (List.mem_cons_of_mem _ mw_657)) dX10_set_31 ?_
        obtain ⟨hPc, hDc, hFc, hCm, hNw⟩ := C_s (wc := []) hP hD hS hA [] 2 rfl (by decide +kernel) rfl
        have hKc := K_s (tys' := []) hK [] rfl
        refine va_calli (va_runS (As := [.long p2.toInt64, .long 0, .long 9999]) (rest := []) ⟨hx, hb, hml, hown, hts⟩ (c_X10_isIn l dC dI (p2.toInt64) 0 9999 H.size) (va_cwS 3 hts gX10_set_X10_isIn rfl rfl rfl (by decide +kernel) ⟨Nat.le_of_ble_eq_true rfl, Nat.le_of_ble_eq_true rfl⟩) ⟨fun a U g mk q => by obtain ⟨q0, q1, qP, qK, qD⟩ := q; exact ⟨q0, q1, qP, va_K.moved (u := U) (U := U.calling g mk a) (Vm.Alike.refl U.vm) qK, qD⟩, fun U hU hW => ⟨rfl, by rw [hU], by rw [hU]; exact hPc, va_K.moved hW.alike hKc, hDc.weaken (fun _ _ _ _ => trivial)⟩⟩ rfl rfl hl.1 rfl (lv_room (Nat.le_of_ble_eq_true rfl)) dX10_set_34 ⟨Nat.le_of_ble_eq_true rfl, Nat.le_of_ble_eq_true rfl⟩) hS (fun q _ h => hFc q h) hFc (fun r8 u t H1 locs ht hvm hw hB hz1 hk1 hS => ?_)
        obtain ⟨hP1, hK1, hD1⟩ := hB
        rw [ht] at hP1
        have hK1 := va_K.moved hvm.symm hK1
        try dsimp only at hw
        obtain ⟨hP, hD⟩ := J_s (wL := [eO h0 9 [.ref q_s, .long v_fees, .ref q_thought, .long v_thoughtFees, .ref q_image, .long v_imageFees, .int v_hasImage, .ref q_tape, .int v_taped, .ref q_texts, .ref q_sizes, .int v_programs, .ref q_imageTexts, .ref q_imageSizes, .int v_imagePrograms, .int v_here, .int v_open, .int v_running, .int v_begun, .ref q_held, .ref q_marks, .int v_markMany, .ref q_trace, .int v_traced, .ref q_keptBalances, .ref q_keptFees, .int v_deep, .ref q_way, .ref q_sorts, .ref q_rowMany, .ref q_items, .ref q_moved], eI q_s k_s 125 f_s]) hP hD [] [(0, 2)] hCm hNw (by decide +kernel) hk1 hFc hP1 hD1 rfl
        have hK := KJ_s (tys' := [(k_s, .int)]) hK hK1 [(0, 1)] rfl
        generalize H1 = H at hP hS ⊢
        rcases hw with ⟨e_r8, f_r8⟩ | ⟨e_r8, f_r8⟩
        · subst e_r8
          refine lv_if_ne (tgt := 44) hx hb dX10_set_37 (by decide) (fun c9 => ?_) (fun c9 => absurd c9 (by decide))
          refine lv_iload_n hx hb dX10_set_44 rfl (lv_at hl 2 rfl) ?_
          refine lv_if_ne (tgt := 53) hx hb dX10_set_45 (by decide) (fun c10 => ?_) (fun c10 => ?_)
          · skip
            have f_c10 := i_ne c10
            refine lv_bipush (v := 16) hx hb dX10_set_53 (by decide) ?_
            refine lv_iload_n hx hb dX10_set_55 rfl (lv_at hl 1 rfl) ?_
            refine lv_iadd hx hb dX10_set_56 ?_
            refine lv_topi (fun z11 e_z11 => ?_)
            (first | have t_z11 := i_add e_z11 (by omega) (by omega) | skip)
            refine lv_istore (lv' := [(4, .int z11), (0, .ref h0), (1, .int p0), (2, .int p1), (3, .int p2)]) hx hb dX10_set_57 hl (by decide) rfl (fun ls hl => ?_)
            refine lv_aload_n hx hb dX10_set_59 rfl (lv_at hl 1 rfl) ?_
            refine va_get (D := (dC, dI)) (ci := 9) (v := .ref q_s) (C := RX10) (T := TX10) (N := 32) hx hb hts (fun w h => List.mem_cons_of_mem _ (inlX10 w h)) hown hK hP 0 rfl rfl 0 (by decide) (hts (.fieldLink RX10 11 "ClearingGatesModel" "s" "[I") (List.mem_cons_of_mem _ mw_609)) (fun _ h9 => h9) rfl dX10_set_60 ?_
            refine lv_iload hx hb dX10_set_63 (lv_at hl 0 rfl) ?_
            refine va_iald (D := (dC, dI)) hx hb hK hP 1 0 rfl rfl (vp_in_iff.mpr ⟨by omega, by omega⟩) dX10_set_65 ?_
            refine lv_topi (fun z12 e_z12 => ?_)
            refine lv_istore (lv' := [(5, .int z12), (4, .int z11), (0, .ref h0), (1, .int p0), (2, .int p1), (3, .int p2)]) hx hb dX10_set_66 hl (by decide) rfl (fun ls hl => ?_)
            refine lv_aload_n hx hb dX10_set_68 rfl (lv_at hl 2 rfl) ?_
            refine va_get (D := (dC, dI)) (ci := 9) (v := .ref q_s) (C := RX10) (T := TX10) (N := 32) hx hb hts (fun w h => List.mem_cons_of_mem _ (inlX10 w h)) hown hK hP 0 rfl rfl 0 (by decide) (hts (.fieldLink RX10 11 "ClearingGatesModel" "s" "[I") (List.mem_cons_of_mem _ mw_609)) (fun _ h9 => h9) rfl dX10_set_69 ?_
            refine lv_iload hx hb dX10_set_72 (lv_at hl 1 rfl) ?_
            refine lv_iload_n hx hb dX10_set_74 rfl (lv_at hl 5 rfl) ?_
            refine va_iast (D := (dC, dI)) hx hb hK hP hD hS 1 0 rfl rfl (vp_in_iff.mpr ⟨by omega, by omega⟩) dX10_set_75 (fun H locs hP hD hS => ?_)
            generalize e_g13 : (upd f_s (z11).toNatClampNeg p2) = g13 at hP hD
            obtain ⟨hP, hD⟩ := X_s (ws' := [eO h0 9 [.ref q_s, .long v_fees, .ref q_thought, .long v_thoughtFees, .ref q_image, .long v_imageFees, .int v_hasImage, .ref q_tape, .int v_taped, .ref q_texts, .ref q_sizes, .int v_programs, .ref q_imageTexts, .ref q_imageSizes, .int v_imagePrograms, .int v_here, .int v_open, .int v_running, .int v_begun, .ref q_held, .ref q_marks, .int v_markMany, .ref q_trace, .int v_traced, .ref q_keptBalances, .ref q_keptFees, .int v_deep, .ref q_way, .ref q_sorts, .ref q_rowMany, .ref q_items, .ref q_moved], eI q_s k_s 125 g13]) hP hD rfl
            have m_g13 : ms g13 := by rw [← e_g13]; first | exact ms_up (by assumption) (by omega) (by omega) | exact ms_60 (by assumption) (by omega) (by omega) (by omega) | exact ms_upo (by assumption) (by omega) (by omega) (by omega)
            have a_g13 : (g13 60).toInt = (f_s 60).toInt := by rw [← e_g13]; exact up_60 (by omega) (by omega)
            obtain ⟨b_g13, c_g13, o_g13⟩ := id m_g13
            refine lv_iload hx hb dX10_set_76 (lv_at hl 0 rfl) ?_
            refine lv_i2l (v := z12.toInt64) hx hb dX10_set_78 rfl ?_
            have t_t14 := Int32.toInt_toInt64 z12
            rw [hQ9]
            exact W.lret (v := z12.toInt64) hx hb hr (fun t ht hW => ⟨⟨z12.toInt64, (), rfl, (by first | rfl | trivial), g13, (by first | assumption | omega | exact fz_rf _ | exact fb_rf _ | exact (fun _ _ _ => rfl)), (by first | assumption | omega | exact fz_rf _ | exact fb_rf _ | exact (fun _ _ _ => rfl)), (by first | (exfalso; omega) | rw [pset_0 (by unfold cse; omega), ← e_g13, i_nat (x := z11) (k := 8 + p0.toInt.toNat) (by omega)] | rw [pset_1 (by unfold cse; omega), ← e_g13, i_nat (x := z11) (k := 16 + p0.toInt.toNat) (by omega)]), by rw [ht]; exact hP, va_K.moved hW.alike hK, hD⟩, hS.F ht⟩) hS.2.2 dX10_set_79
          · skip
            have f_c10 := i_eq c10
            exfalso; omega
        · subst e_r8
          refine lv_if_ne (tgt := 44) hx hb dX10_set_37 (by decide) (fun c15 => absurd (by decide) c15) (fun c15 => ?_)
          refine lv_ldc2 hx hb hown (hts (.constantLong RX10 81 (-9223372036854775808)) (List.mem_cons_of_mem _ mw_658)) dX10_set_40 ?_
          rw [hQ9]
          exact W.lret (v := (-9223372036854775808)) hx hb hr (fun t ht hW => ⟨⟨(-9223372036854775808), (), rfl, (by first | rfl | trivial), f_s, (by first | assumption | omega | exact fz_rf _ | exact fb_rf _ | exact (fun _ _ _ => rfl)), (by first | assumption | omega | exact fz_rf _ | exact fb_rf _ | exact (fun _ _ _ => rfl)), (by first | (exfalso; omega) | rw [pset_n (by unfold cse; omega) (by unfold cse; omega)]), by rw [ht]; exact hP, va_K.moved hW.alike hK, hD⟩, hS.F ht⟩) hS.2.2 dX10_set_43
      · skip
        have f_c7 := i_eq c7
        refine lv_ldc2 hx hb hown (hts (.constantLong RX10 73 (1000000000)) (List.mem_cons_of_mem _ mw_649)) dX10_set_25 ?_
        refine lv_goto (tgt := 34) hx hb dX10_set_28 (by decide) ?_
        obtain ⟨hPc, hDc, hFc, hCm, hNw⟩ := C_s (wc := []) hP hD hS hA [] 2 rfl (by decide +kernel) rfl
        have hKc := K_s (tys' := []) hK [] rfl
        refine va_calli (va_runS (As := [.long p2.toInt64, .long 0, .long 1000000000]) (rest := []) ⟨hx, hb, hml, hown, hts⟩ (c_X10_isIn l dC dI (p2.toInt64) 0 1000000000 H.size) (va_cwS 3 hts gX10_set_X10_isIn rfl rfl rfl (by decide +kernel) ⟨Nat.le_of_ble_eq_true rfl, Nat.le_of_ble_eq_true rfl⟩) ⟨fun a U g mk q => by obtain ⟨q0, q1, qP, qK, qD⟩ := q; exact ⟨q0, q1, qP, va_K.moved (u := U) (U := U.calling g mk a) (Vm.Alike.refl U.vm) qK, qD⟩, fun U hU hW => ⟨rfl, by rw [hU], by rw [hU]; exact hPc, va_K.moved hW.alike hKc, hDc.weaken (fun _ _ _ _ => trivial)⟩⟩ rfl rfl hl.1 rfl (lv_room (Nat.le_of_ble_eq_true rfl)) dX10_set_34 ⟨Nat.le_of_ble_eq_true rfl, Nat.le_of_ble_eq_true rfl⟩) hS (fun q _ h => hFc q h) hFc (fun r16 u t H1 locs ht hvm hw hB hz1 hk1 hS => ?_)
        obtain ⟨hP1, hK1, hD1⟩ := hB
        rw [ht] at hP1
        have hK1 := va_K.moved hvm.symm hK1
        try dsimp only at hw
        obtain ⟨hP, hD⟩ := J_s (wL := [eO h0 9 [.ref q_s, .long v_fees, .ref q_thought, .long v_thoughtFees, .ref q_image, .long v_imageFees, .int v_hasImage, .ref q_tape, .int v_taped, .ref q_texts, .ref q_sizes, .int v_programs, .ref q_imageTexts, .ref q_imageSizes, .int v_imagePrograms, .int v_here, .int v_open, .int v_running, .int v_begun, .ref q_held, .ref q_marks, .int v_markMany, .ref q_trace, .int v_traced, .ref q_keptBalances, .ref q_keptFees, .int v_deep, .ref q_way, .ref q_sorts, .ref q_rowMany, .ref q_items, .ref q_moved], eI q_s k_s 125 f_s]) hP hD [] [(0, 2)] hCm hNw (by decide +kernel) hk1 hFc hP1 hD1 rfl
        have hK := KJ_s (tys' := [(k_s, .int)]) hK hK1 [(0, 1)] rfl
        generalize H1 = H at hP hS ⊢
        rcases hw with ⟨e_r16, f_r16⟩ | ⟨e_r16, f_r16⟩
        · subst e_r16
          refine lv_if_ne (tgt := 44) hx hb dX10_set_37 (by decide) (fun c17 => ?_) (fun c17 => absurd c17 (by decide))
          refine lv_iload_n hx hb dX10_set_44 rfl (lv_at hl 2 rfl) ?_
          refine lv_if_ne (tgt := 53) hx hb dX10_set_45 (by decide) (fun c18 => ?_) (fun c18 => ?_)
          · skip
            have f_c18 := i_ne c18
            exfalso; omega
          · skip
            have f_c18 := i_eq c18
            refine lv_bipush (v := 8) hx hb dX10_set_48 (by decide) ?_
            refine lv_goto (tgt := 55) hx hb dX10_set_50 (by decide) ?_
            refine lv_iload_n hx hb dX10_set_55 rfl (lv_at hl 1 rfl) ?_
            refine lv_iadd hx hb dX10_set_56 ?_
            refine lv_topi (fun z19 e_z19 => ?_)
            (first | have t_z19 := i_add e_z19 (by omega) (by omega) | skip)
            refine lv_istore (lv' := [(4, .int z19), (0, .ref h0), (1, .int p0), (2, .int p1), (3, .int p2)]) hx hb dX10_set_57 hl (by decide) rfl (fun ls hl => ?_)
            refine lv_aload_n hx hb dX10_set_59 rfl (lv_at hl 1 rfl) ?_
            refine va_get (D := (dC, dI)) (ci := 9) (v := .ref q_s) (C := RX10) (T := TX10) (N := 32) hx hb hts (fun w h => List.mem_cons_of_mem _ (inlX10 w h)) hown hK hP 0 rfl rfl 0 (by decide) (hts (.fieldLink RX10 11 "ClearingGatesModel" "s" "[I") (List.mem_cons_of_mem _ mw_609)) (fun _ h9 => h9) rfl dX10_set_60 ?_
            refine lv_iload hx hb dX10_set_63 (lv_at hl 0 rfl) ?_
            refine va_iald (D := (dC, dI)) hx hb hK hP 1 0 rfl rfl (vp_in_iff.mpr ⟨by omega, by omega⟩) dX10_set_65 ?_
            refine lv_topi (fun z20 e_z20 => ?_)
            refine lv_istore (lv' := [(5, .int z20), (4, .int z19), (0, .ref h0), (1, .int p0), (2, .int p1), (3, .int p2)]) hx hb dX10_set_66 hl (by decide) rfl (fun ls hl => ?_)
            refine lv_aload_n hx hb dX10_set_68 rfl (lv_at hl 2 rfl) ?_
            refine va_get (D := (dC, dI)) (ci := 9) (v := .ref q_s) (C := RX10) (T := TX10) (N := 32) hx hb hts (fun w h => List.mem_cons_of_mem _ (inlX10 w h)) hown hK hP 0 rfl rfl 0 (by decide) (hts (.fieldLink RX10 11 "ClearingGatesModel" "s" "[I") (List.mem_cons_of_mem _ mw_609)) (fun _ h9 => h9) rfl dX10_set_69 ?_
            refine lv_iload hx hb dX10_set_72 (lv_at hl 1 rfl) ?_
            refine lv_iload_n hx hb dX10_set_74 rfl (lv_at hl 5 rfl) ?_
            refine va_iast (D := (dC, dI)) hx hb hK hP hD hS 1 0 rfl rfl (vp_in_iff.mpr ⟨by omega, by omega⟩) dX10_set_75 (fun H locs hP hD hS => ?_)
            generalize e_g21 : (upd f_s (z19).toNatClampNeg p2) = g21 at hP hD
            obtain ⟨hP, hD⟩ := X_s (ws' := [eO h0 9 [.ref q_s, .long v_fees, .ref q_thought, .long v_thoughtFees, .ref q_image, .long v_imageFees, .int v_hasImage, .ref q_tape, .int v_taped, .ref q_texts, .ref q_sizes, .int v_programs, .ref q_imageTexts, .ref q_imageSizes, .int v_imagePrograms, .int v_here, .int v_open, .int v_running, .int v_begun, .ref q_held, .ref q_marks, .int v_markMany, .ref q_trace, .int v_traced, .ref q_keptBalances, .ref q_keptFees, .int v_deep, .ref q_way, .ref q_sorts, .ref q_rowMany, .ref q_items, .ref q_moved], eI q_s k_s 125 g21]) hP hD rfl
            have m_g21 : ms g21 := by rw [← e_g21]; first | exact ms_up (by assumption) (by omega) (by omega) | exact ms_60 (by assumption) (by omega) (by omega) (by omega) | exact ms_upo (by assumption) (by omega) (by omega) (by omega)
            have a_g21 : (g21 60).toInt = (f_s 60).toInt := by rw [← e_g21]; exact up_60 (by omega) (by omega)
            obtain ⟨b_g21, c_g21, o_g21⟩ := id m_g21
            refine lv_iload hx hb dX10_set_76 (lv_at hl 0 rfl) ?_
            refine lv_i2l (v := z20.toInt64) hx hb dX10_set_78 rfl ?_
            have t_t22 := Int32.toInt_toInt64 z20
            rw [hQ9]
            exact W.lret (v := z20.toInt64) hx hb hr (fun t ht hW => ⟨⟨z20.toInt64, (), rfl, (by first | rfl | trivial), g21, (by first | assumption | omega | exact fz_rf _ | exact fb_rf _ | exact (fun _ _ _ => rfl)), (by first | assumption | omega | exact fz_rf _ | exact fb_rf _ | exact (fun _ _ _ => rfl)), (by first | (exfalso; omega) | rw [pset_0 (by unfold cse; omega), ← e_g21, i_nat (x := z19) (k := 8 + p0.toInt.toNat) (by omega)] | rw [pset_1 (by unfold cse; omega), ← e_g21, i_nat (x := z19) (k := 16 + p0.toInt.toNat) (by omega)]), by rw [ht]; exact hP, va_K.moved hW.alike hK, hD⟩, hS.F ht⟩) hS.2.2 dX10_set_79
        · subst e_r16
          refine lv_if_ne (tgt := 44) hx hb dX10_set_37 (by decide) (fun c23 => absurd (by decide) c23) (fun c23 => ?_)
          refine lv_ldc2 hx hb hown (hts (.constantLong RX10 81 (-9223372036854775808)) (List.mem_cons_of_mem _ mw_658)) dX10_set_40 ?_
          rw [hQ9]
          exact W.lret (v := (-9223372036854775808)) hx hb hr (fun t ht hW => ⟨⟨(-9223372036854775808), (), rfl, (by first | rfl | trivial), f_s, (by first | assumption | omega | exact fz_rf _ | exact fb_rf _ | exact (fun _ _ _ => rfl)), (by first | assumption | omega | exact fz_rf _ | exact fb_rf _ | exact (fun _ _ _ => rfl)), (by first | (exfalso; omega) | rw [pset_n (by unfold cse; omega) (by unfold cse; omega)]), by rw [ht]; exact hP, va_K.moved hW.alike hK, hD⟩, hS.F ht⟩) hS.2.2 dX10_set_43
    · subst e_r4
      refine lv_if_eq (tgt := 40) hx hb dX10_set_15 (by decide) (fun c24 => ?_) (fun c24 => absurd (by decide) c24)
      refine lv_ldc2 hx hb hown (hts (.constantLong RX10 81 (-9223372036854775808)) (List.mem_cons_of_mem _ mw_658)) dX10_set_40 ?_
      rw [hQ9]
      exact W.lret (v := (-9223372036854775808)) hx hb hr (fun t ht hW => ⟨⟨(-9223372036854775808), (), rfl, (by first | rfl | trivial), f_s, (by first | assumption | omega | exact fz_rf _ | exact fb_rf _ | exact (fun _ _ _ => rfl)), (by first | assumption | omega | exact fz_rf _ | exact fb_rf _ | exact (fun _ _ _ => rfl)), (by first | (exfalso; omega) | rw [pset_n (by unfold cse; omega) (by unfold cse; omega)]), by rw [ht]; exact hP, va_K.moved hW.alike hK, hD⟩, hS.F ht⟩) hS.2.2 dX10_set_43
  · subst e_r1
    refine lv_if_eq (tgt := 40) hx hb dX10_set_5 (by decide) (fun c25 => ?_) (fun c25 => absurd (by decide) c25)
    refine lv_ldc2 hx hb hown (hts (.constantLong RX10 81 (-9223372036854775808)) (List.mem_cons_of_mem _ mw_658)) dX10_set_40 ?_
    rw [hQ9]
    exact W.lret (v := (-9223372036854775808)) hx hb hr (fun t ht hW => ⟨⟨(-9223372036854775808), (), rfl, (by first | rfl | trivial), f_s, (by first | assumption | omega | exact fz_rf _ | exact fb_rf _ | exact (fun _ _ _ => rfl)), (by first | assumption | omega | exact fz_rf _ | exact fb_rf _ | exact (fun _ _ _ => rfl)), (by first | (exfalso; omega) | rw [pset_n (by unfold cse; omega) (by unfold cse; omega)]), by rw [ht]; exact hP, va_K.moved hW.alike hK, hD⟩, hS.F ht⟩) hS.2.2 dX10_set_43

set_option maxRecDepth 100000 in
set_option maxHeartbeats 4000000 in
/-- gate of the reference -/
theorem c_X10_gate (l : Launch) (dC : Nat → ClassId) (dI : Nat → Nat → Nat) (h0 : Nat) (p0 : Int32) (p1 : Int32) (q_s : Nat) (v_fees : Int64) (q_thought : Nat) (v_thoughtFees : Int64) (q_image : Nat) (v_imageFees : Int64) (v_hasImage : Int32) (q_tape : Nat) (v_taped : Int32) (q_texts : Nat) (q_sizes : Nat) (v_programs : Int32) (q_imageTexts : Nat) (q_imageSizes : Nat) (v_imagePrograms : Int32) (v_here : Int32) (v_open : Int32) (v_running : Int32) (v_begun : Int32) (q_held : Nat) (q_marks : Nat) (v_markMany : Int32) (q_trace : Nat) (v_traced : Int32) (q_keptBalances : Nat) (q_keptFees : Nat) (v_deep : Int32) (q_way : Nat) (q_sorts : Nat) (q_rowMany : Nat) (q_items : Nat) (q_moved : Nat) (k_s : ClassId) (f_s : Nat → Int32) (sz : Nat) (hms : ms f_s) (hb1 : p1.toInt = 0 ∨ p1.toInt = 1) : Met l yX10_gate wsX10_gate ({ frames := 2, cells := 0, slots := 0, locals := 46 }) (va_Pc [.ref h0, .int p0, .int p1] (fun U => U.heap.size = sz ∧ va_P (dC, dI) vwCl [eO h0 9 [.ref q_s, .long v_fees, .ref q_thought, .long v_thoughtFees, .ref q_image, .long v_imageFees, .int v_hasImage, .ref q_tape, .int v_taped, .ref q_texts, .ref q_sizes, .int v_programs, .ref q_imageTexts, .ref q_imageSizes, .int v_imagePrograms, .int v_here, .int v_open, .int v_running, .int v_begun, .ref q_held, .ref q_marks, .int v_markMany, .ref q_trace, .int v_traced, .ref q_keptBalances, .ref q_keptFees, .int v_deep, .ref q_way, .ref q_sorts, .ref q_rowMany, .ref q_items, .ref q_moved], eI q_s k_s 125 f_s] U.heap ∧ va_K (dC, dI) vwCl [(k_s, .int)] U ∧ va_D (fun _ => True) [eO h0 9 [.ref q_s, .long v_fees, .ref q_thought, .long v_thoughtFees, .ref q_image, .long v_imageFees, .int v_hasImage, .ref q_tape, .int v_taped, .ref q_texts, .ref q_sizes, .int v_programs, .ref q_imageTexts, .ref q_imageSizes, .int v_imagePrograms, .int v_here, .int v_open, .int v_running, .int v_begun, .ref q_held, .ref q_marks, .int v_markMany, .ref q_trace, .int v_traced, .ref q_keptBalances, .ref q_keptFees, .int v_deep, .ref q_way, .ref q_sorts, .ref q_rowMany, .ref q_items, .ref q_moved], eI q_s k_s 125 f_s])) (va_Qi (fun (r : Int32) (_ : Unit) => (r.toInt = -2 ∧ ¬(0 ≤ p0.toInt ∧ p0.toInt < (f_s 60).toInt)) ∨ ((0 ≤ p0.toInt ∧ p0.toInt < (f_s 60).toInt) ∧ r.toInt = (f_s (24 + p0.toInt.toNat)).toInt)) (fun (_ : Unit) (t : State) => ∃ (f_s' : Nat → Int32), (ms f_s') ∧ ((f_s' 60).toInt = (f_s 60).toInt) ∧ (f_s' = pgate f_s p0 p1) ∧ va_P (dC, dI) vwCl [eO h0 9 [.ref q_s, .long v_fees, .ref q_thought, .long v_thoughtFees, .ref q_image, .long v_imageFees, .int v_hasImage, .ref q_tape, .int v_taped, .ref q_texts, .ref q_sizes, .int v_programs, .ref q_imageTexts, .ref q_imageSizes, .int v_imagePrograms, .int v_here, .int v_open, .int v_running, .int v_begun, .ref q_held, .ref q_marks, .int v_markMany, .ref q_trace, .int v_traced, .ref q_keptBalances, .ref q_keptFees, .int v_deep, .ref q_way, .ref q_sorts, .ref q_rowMany, .ref q_items, .ref q_moved], eI q_s k_s 125 (f_s')] t.heap ∧ va_K (dC, dI) vwCl [(k_s, .int)] t ∧ va_D (va_A [eO h0 9 [.ref q_s, .long v_fees, .ref q_thought, .long v_thoughtFees, .ref q_image, .long v_imageFees, .int v_hasImage, .ref q_tape, .int v_taped, .ref q_texts, .ref q_sizes, .int v_programs, .ref q_imageTexts, .ref q_imageSizes, .int v_imagePrograms, .int v_here, .int v_open, .int v_running, .int v_begun, .ref q_held, .ref q_marks, .int v_markMany, .ref q_trace, .int v_traced, .ref q_keptBalances, .ref q_keptFees, .int v_deep, .ref q_way, .ref q_sorts, .ref q_rowMany, .ref q_items, .ref q_moved], eI q_s k_s 125 f_s] sz) [eO h0 9 [.ref q_s, .long v_fees, .ref q_thought, .long v_thoughtFees, .ref q_image, .long v_imageFees, .int v_hasImage, .ref q_tape, .int v_taped, .ref q_texts, .ref q_sizes, .int v_programs, .ref q_imageTexts, .ref q_imageSizes, .int v_imagePrograms, .int v_here, .int v_open, .int v_running, .int v_begun, .ref q_held, .ref q_marks, .int v_markMany, .ref q_trace, .int v_traced, .ref q_keptBalances, .ref q_keptFees, .int v_deep, .ref q_way, .ref q_sorts, .ref q_rowMany, .ref q_items, .ref q_moved], eI q_s k_s 125 (f_s')]) (va_A [eO h0 9 [.ref q_s, .long v_fees, .ref q_thought, .long v_thoughtFees, .ref q_image, .long v_imageFees, .int v_hasImage, .ref q_tape, .int v_taped, .ref q_texts, .ref q_sizes, .int v_programs, .ref q_imageTexts, .ref q_imageSizes, .int v_imagePrograms, .int v_here, .int v_open, .int v_running, .int v_begun, .ref q_held, .ref q_marks, .int v_markMany, .ref q_trace, .int v_traced, .ref q_keptBalances, .ref q_keptFees, .int v_deep, .ref q_way, .ref q_sorts, .ref q_rowMany, .ref q_items, .ref q_moved], eI q_s k_s 125 f_s] sz)) 0 0 (va_A [eO h0 9 [.ref q_s, .long v_fees, .ref q_thought, .long v_thoughtFees, .ref q_image, .long v_imageFees, .int v_hasImage, .ref q_tape, .int v_taped, .ref q_texts, .ref q_sizes, .int v_programs, .ref q_imageTexts, .ref q_imageSizes, .int v_imagePrograms, .int v_here, .int v_open, .int v_running, .int v_begun, .ref q_held, .ref q_marks, .int v_markMany, .ref q_trace, .int v_traced, .ref q_keptBalances, .ref q_keptFees, .int v_deep, .ref q_way, .ref q_sorts, .ref q_rowMany, .ref q_items, .ref q_moved], eI q_s k_s 125 f_s] sz) := by
  refine Met.ofW (cc := cX10_gate) (maxL := 4) (ret := (some .int)) (by decide) rfl ?_
  intro p e s m args below meth c s₁ B hml hv
  obtain ⟨rfl, hsz, hP, hK, hD0⟩ := hv
  have hx := B.exec
  have hb := B.bytes
  have hr := B.returns
  have hts := atoms_spec (ws := wsX10_gate) B.pre
  have hown : s.vm.findClass RX10 = some m.cls := findClass_of_methodNamed B.named
  have hlocks := B.notSynchronized
  subst hsz
  have hD := hD0.self (sz := s.heap.size)
  generalize hAe : va_A [eO h0 9 [.ref q_s, .long v_fees, .ref q_thought, .long v_thoughtFees, .ref q_image, .long v_imageFees, .int v_hasImage, .ref q_tape, .int v_taped, .ref q_texts, .ref q_sizes, .int v_programs, .ref q_imageTexts, .ref q_imageSizes, .int v_imagePrograms, .int v_here, .int v_open, .int v_running, .int v_begun, .ref q_held, .ref q_marks, .int v_markMany, .ref q_trace, .int v_traced, .ref q_keptBalances, .ref q_keptFees, .int v_deep, .ref q_way, .ref q_sorts, .ref q_rowMany, .ref q_items, .ref q_moved], eI q_s k_s 125 f_s] s.heap.size = A at hD ⊢
  have hA : ∀ q : Nat, s.heap.size ≤ q → A q := fun q h => by rw [← hAe]; exact Or.inr h
  have hS : va_S A s.heap s.heap [] := va_S.rf
  have hP : va_P (dC, dI) vwCl [eO h0 9 [.ref q_s, .long v_fees, .ref q_thought, .long v_thoughtFees, .ref q_image, .long v_imageFees, .int v_hasImage, .ref q_tape, .int v_taped, .ref q_texts, .ref q_sizes, .int v_programs, .ref q_imageTexts, .ref q_imageSizes, .int v_imagePrograms, .int v_here, .int v_open, .int v_running, .int v_begun, .ref q_held, .ref q_marks, .int v_markMany, .ref q_trace, .int v_traced, .ref q_keptBalances, .ref q_keptFees, .int v_deep, .ref q_way, .ref q_sorts, .ref q_rowMany, .ref q_items, .ref q_moved], eI q_s k_s 125 f_s] s.heap := hP
  have hl := lv_entry ([.ref h0, .int p0, .int p1]) (n := 4) (Nat.le_of_ble_eq_true rfl)
  rw [lg_entry_eq]
  generalize (lg_sl ([.ref h0, .int p0, .int p1]) ++ List.replicate (4 - (lg_sl ([.ref h0, .int p0, .int p1])).length) Slot.unset).toArray = ls at hl ⊢
  have hl : lv_has ls 4 [(0, .ref h0), (1, .int p0), (2, .int p1)] := hl
  suffices key9 : ∀ Q9 : State → Prop, Q9 = (MQ below (va_Qi (fun (r : Int32) (_ : Unit) => (r.toInt = -2 ∧ ¬(0 ≤ p0.toInt ∧ p0.toInt < (f_s 60).toInt)) ∨ ((0 ≤ p0.toInt ∧ p0.toInt < (f_s 60).toInt) ∧ r.toInt = (f_s (24 + p0.toInt.toNat)).toInt)) (fun (_ : Unit) (t : State) => ∃ (f_s' : Nat → Int32), (ms f_s') ∧ ((f_s' 60).toInt = (f_s 60).toInt) ∧ (f_s' = pgate f_s p0 p1) ∧ va_P (dC, dI) vwCl [eO h0 9 [.ref q_s, .long v_fees, .ref q_thought, .long v_thoughtFees, .ref q_image, .long v_imageFees, .int v_hasImage, .ref q_tape, .int v_taped, .ref q_texts, .ref q_sizes, .int v_programs, .ref q_imageTexts, .ref q_imageSizes, .int v_imagePrograms, .int v_here, .int v_open, .int v_running, .int v_begun, .ref q_held, .ref q_marks, .int v_markMany, .ref q_trace, .int v_traced, .ref q_keptBalances, .ref q_keptFees, .int v_deep, .ref q_way, .ref q_sorts, .ref q_rowMany, .ref q_items, .ref q_moved], eI q_s k_s 125 (f_s')] t.heap ∧ va_K (dC, dI) vwCl [(k_s, .int)] t ∧ va_D A [eO h0 9 [.ref q_s, .long v_fees, .ref q_thought, .long v_thoughtFees, .ref q_image, .long v_imageFees, .int v_hasImage, .ref q_tape, .int v_taped, .ref q_texts, .ref q_sizes, .int v_programs, .ref q_imageTexts, .ref q_imageSizes, .int v_imagePrograms, .int v_here, .int v_open, .int v_running, .int v_begun, .ref q_held, .ref q_marks, .int v_markMany, .ref q_trace, .int v_traced, .ref q_keptBalances, .ref q_keptFees, .int v_deep, .ref q_way, .ref q_sorts, .ref q_rowMany, .ref q_items, .ref q_moved], eI q_s k_s 125 (f_s')]) A) (([.ref h0, .int p0, .int p1] : List Value).toArray) s 0 0 A) → W p l e ({ frames := 2, cells := 0, slots := 0, locals := 46 }) s m (([.ref h0, .int p0, .int p1] : List Value).toArray) below meth c s.heap [] 0 0 Q9 (F0 m 0 ls []) from key9 _ rfl
  intro Q9 hQ9
  have k_m2 : ((-2) : Int32).toInt = (-2) := by decide
  have k_0 : (0 : Int32).toInt = 0 := by decide
  have k_1 : (1 : Int32).toInt = 1 := by decide
  have k_24 : (24 : Int32).toInt = 24 := by decide
  obtain ⟨ha1, ha2, hown9⟩ := id hms
  refine lv_aload_n hx hb dX10_gate_0 rfl (lv_at hl 0 rfl) ?_
  refine lv_iload_n hx hb dX10_gate_1 rfl (lv_at hl 1 rfl) ?_
  obtain ⟨hPc, hDc, hFc, hCm, hNw⟩ := C_s (wc := [eO h0 9 [.ref q_s, .long v_fees, .ref q_thought, .long v_thoughtFees, .ref q_image, .long v_imageFees, .int v_hasImage, .ref q_tape, .int v_taped, .ref q_texts, .ref q_sizes, .int v_programs, .ref q_imageTexts, .ref q_imageSizes, .int v_imagePrograms, .int v_here, .int v_open, .int v_running, .int v_begun, .ref q_held, .ref q_marks, .int v_markMany, .ref q_trace, .int v_traced, .ref q_keptBalances, .ref q_keptFees, .int v_deep, .ref q_way, .ref q_sorts, .ref q_rowMany, .ref q_items, .ref q_moved], eI q_s k_s 125 f_s]) hP hD hS hA [(0, 2)] 2 rfl (by decide +kernel) rfl
  have hKc := K_s (tys' := [(k_s, .int)]) hK [(0, 1)] rfl
  refine va_calli (va_runV (As := [.int p0]) (rest := []) ⟨hx, hb, hml, hown, hts⟩ (c_X10_isAccount l dC dI h0 p0 q_s v_fees q_thought v_thoughtFees q_image v_imageFees v_hasImage q_tape v_taped q_texts q_sizes v_programs q_imageTexts q_imageSizes v_imagePrograms v_here v_open v_running v_begun q_held q_marks v_markMany q_trace v_traced q_keptBalances q_keptFees v_deep q_way q_sorts q_rowMany q_items q_moved k_s f_s s.heap.size (by first | assumption | omega) (by first | assumption | omega)) (cwV 1 hts gX10_gate_X10_isAccount rfl rfl rfl (by decide +kernel) ⟨Nat.le_of_ble_eq_true rfl, Nat.le_of_ble_eq_true rfl⟩) ⟨fun a U g mk q => by obtain ⟨q0, q1, qP, qK, qD⟩ := q; exact ⟨q0, q1, qP, va_K.moved (u := U) (U := U.calling g mk a) (Vm.Alike.refl U.vm) qK, qD⟩, va_recv (s := s) (q := (RX10, TX10, 32)) hKc hPc (ci := 9) (q0 := 0) rfl rfl, fun U hU hW => ⟨rfl, by rw [hU], by rw [hU]; exact hPc, va_K.moved hW.alike hKc, hDc.weaken (fun _ _ _ _ => trivial)⟩⟩ rfl rfl hl.1 rfl (lv_room (Nat.le_of_ble_eq_true rfl)) dX10_gate_2 ⟨Nat.le_of_ble_eq_true rfl, Nat.le_of_ble_eq_true rfl⟩) hS (fun q _ h => hFc q h) hFc (fun r1 u t H1 locs ht hvm hw hB hz1 hk1 hS => ?_)
  obtain ⟨hP1, hK1, hD1⟩ := hB
  rw [ht] at hP1
  have hK1 := va_K.moved hvm.symm hK1
  try dsimp only at hw
  obtain ⟨hP, hD⟩ := J_s (wL := [eO h0 9 [.ref q_s, .long v_fees, .ref q_thought, .long v_thoughtFees, .ref q_image, .long v_imageFees, .int v_hasImage, .ref q_tape, .int v_taped, .ref q_texts, .ref q_sizes, .int v_programs, .ref q_imageTexts, .ref q_imageSizes, .int v_imagePrograms, .int v_here, .int v_open, .int v_running, .int v_begun, .ref q_held, .ref q_marks, .int v_markMany, .ref q_trace, .int v_traced, .ref q_keptBalances, .ref q_keptFees, .int v_deep, .ref q_way, .ref q_sorts, .ref q_rowMany, .ref q_items, .ref q_moved], eI q_s k_s 125 f_s]) hP hD [(0, 2)] [] hCm hNw (by decide +kernel) hk1 hFc hP1 hD1 rfl
  have hK := KJ_s (tys' := [(k_s, .int)]) hK hK1 [] rfl
  generalize H1 = H at hP hS ⊢
  rcases hw with ⟨e_r1, f_r1⟩ | ⟨e_r1, f_r1⟩
  · subst e_r1
    refine lv_if_ne (tgt := 11) hx hb dX10_gate_5 (by decide) (fun c2 => ?_) (fun c2 => absurd c2 (by decide))
    refine lv_aload_n hx hb dX10_gate_11 rfl (lv_at hl 0 rfl) ?_
    refine va_get (D := (dC, dI)) (ci := 9) (v := .ref q_s) (C := RX10) (T := TX10) (N := 32) hx hb hts (fun w h => List.mem_cons_of_mem _ (inlX10 w h)) hown hK hP 0 rfl rfl 0 (by decide) (hts (.fieldLink RX10 11 "ClearingGatesModel" "s" "[I") (List.mem_cons_of_mem _ mw_609)) (fun _ h9 => h9) rfl dX10_gate_12 ?_
    refine lv_bipush (v := 24) hx hb dX10_gate_15 (by decide) ?_
    refine lv_iload_n hx hb dX10_gate_17 rfl (lv_at hl 1 rfl) ?_
    refine lv_iadd hx hb dX10_gate_18 ?_
    refine lv_topi (fun z3 e_z3 => ?_)
    (first | have t_z3 := i_add e_z3 (by omega) (by omega) | skip)
    refine va_iald (D := (dC, dI)) hx hb hK hP 1 0 rfl rfl (vp_in_iff.mpr ⟨by omega, by omega⟩) dX10_gate_19 ?_
    refine lv_topi (fun z4 e_z4 => ?_)
    have u_z4 : z4.toInt = (f_s (24 + p0.toInt.toNat)).toInt := by rw [e_z4, i_nat (k := 24 + p0.toInt.toNat) (by omega)]
    refine lv_istore_n (lv' := [(3, .int z4), (0, .ref h0), (1, .int p0), (2, .int p1)]) hx hb dX10_gate_20 rfl hl (by decide) rfl (fun ls hl => ?_)
    refine lv_aload_n hx hb dX10_gate_21 rfl (lv_at hl 1 rfl) ?_
    refine va_get (D := (dC, dI)) (ci := 9) (v := .ref q_s) (C := RX10) (T := TX10) (N := 32) hx hb hts (fun w h => List.mem_cons_of_mem _ (inlX10 w h)) hown hK hP 0 rfl rfl 0 (by decide) (hts (.fieldLink RX10 11 "ClearingGatesModel" "s" "[I") (List.mem_cons_of_mem _ mw_609)) (fun _ h9 => h9) rfl dX10_gate_22 ?_
    refine lv_bipush (v := 24) hx hb dX10_gate_25 (by decide) ?_
    refine lv_iload_n hx hb dX10_gate_27 rfl (lv_at hl 2 rfl) ?_
    refine lv_iadd hx hb dX10_gate_28 ?_
    refine lv_topi (fun z5 e_z5 => ?_)
    (first | have t_z5 := i_add e_z5 (by omega) (by omega) | skip)
    refine lv_iload_n hx hb dX10_gate_29 rfl (lv_at hl 3 rfl) ?_
    refine lv_if_eq (tgt := 37) hx hb dX10_gate_30 (by decide) (fun c6 => ?_) (fun c6 => ?_)
    · skip
      have f_c6 := i_eq c6
      refine lv_iconst (v := 0) hx hb dX10_gate_37 (by decide) ?_
      refine va_iast (D := (dC, dI)) hx hb hK hP hD hS 1 0 rfl rfl (vp_in_iff.mpr ⟨by omega, by omega⟩) dX10_gate_38 (fun H locs hP hD hS => ?_)
      generalize e_g7 : (upd f_s (z5).toNatClampNeg 0) = g7 at hP hD
      obtain ⟨hP, hD⟩ := X_s (ws' := [eO h0 9 [.ref q_s, .long v_fees, .ref q_thought, .long v_thoughtFees, .ref q_image, .long v_imageFees, .int v_hasImage, .ref q_tape, .int v_taped, .ref q_texts, .ref q_sizes, .int v_programs, .ref q_imageTexts, .ref q_imageSizes, .int v_imagePrograms, .int v_here, .int v_open, .int v_running, .int v_begun, .ref q_held, .ref q_marks, .int v_markMany, .ref q_trace, .int v_traced, .ref q_keptBalances, .ref q_keptFees, .int v_deep, .ref q_way, .ref q_sorts, .ref q_rowMany, .ref q_items, .ref q_moved], eI q_s k_s 125 g7]) hP hD rfl
      have m_g7 : ms g7 := by rw [← e_g7]; first | exact ms_up (by assumption) (by omega) (by omega) | exact ms_60 (by assumption) (by omega) (by omega) (by omega) | exact ms_upo (by assumption) (by omega) (by omega) (by omega)
      have a_g7 : (g7 60).toInt = (f_s 60).toInt := by rw [← e_g7]; exact up_60 (by omega) (by omega)
      obtain ⟨b_g7, c_g7, o_g7⟩ := id m_g7
      refine lv_iload_n hx hb dX10_gate_39 rfl (lv_at hl 0 rfl) ?_
      rw [hQ9]
      exact W.iret (v := z4) hx hb hr (fun t ht hW => ⟨⟨z4, (), rfl, (by omega), g7, (by first | assumption | omega | exact fz_rf _ | exact fb_rf _ | exact (fun _ _ _ => rfl)), (by first | assumption | omega | exact fz_rf _ | exact fb_rf _ | exact (fun _ _ _ => rfl)), (by rw [pgate_p (by omega), ← e_g7, i_nat (x := z5) (k := 24 + p0.toInt.toNat) (by omega), show p1 = 0 from i_inj (by omega)]), by rw [ht]; exact hP, va_K.moved hW.alike hK, hD⟩, hS.F ht⟩) hS.2.2 dX10_gate_40
    · skip
      have f_c6 := i_ne c6
      refine lv_iconst (v := 1) hx hb dX10_gate_33 (by decide) ?_
      refine lv_goto (tgt := 38) hx hb dX10_gate_34 (by decide) ?_
      refine va_iast (D := (dC, dI)) hx hb hK hP hD hS 1 0 rfl rfl (vp_in_iff.mpr ⟨by omega, by omega⟩) dX10_gate_38 (fun H locs hP hD hS => ?_)
      generalize e_g8 : (upd f_s (z5).toNatClampNeg 1) = g8 at hP hD
      obtain ⟨hP, hD⟩ := X_s (ws' := [eO h0 9 [.ref q_s, .long v_fees, .ref q_thought, .long v_thoughtFees, .ref q_image, .long v_imageFees, .int v_hasImage, .ref q_tape, .int v_taped, .ref q_texts, .ref q_sizes, .int v_programs, .ref q_imageTexts, .ref q_imageSizes, .int v_imagePrograms, .int v_here, .int v_open, .int v_running, .int v_begun, .ref q_held, .ref q_marks, .int v_markMany, .ref q_trace, .int v_traced, .ref q_keptBalances, .ref q_keptFees, .int v_deep, .ref q_way, .ref q_sorts, .ref q_rowMany, .ref q_items, .ref q_moved], eI q_s k_s 125 g8]) hP hD rfl
      have m_g8 : ms g8 := by rw [← e_g8]; first | exact ms_up (by assumption) (by omega) (by omega) | exact ms_60 (by assumption) (by omega) (by omega) (by omega) | exact ms_upo (by assumption) (by omega) (by omega) (by omega)
      have a_g8 : (g8 60).toInt = (f_s 60).toInt := by rw [← e_g8]; exact up_60 (by omega) (by omega)
      obtain ⟨b_g8, c_g8, o_g8⟩ := id m_g8
      refine lv_iload_n hx hb dX10_gate_39 rfl (lv_at hl 0 rfl) ?_
      rw [hQ9]
      exact W.iret (v := z4) hx hb hr (fun t ht hW => ⟨⟨z4, (), rfl, (by omega), g8, (by first | assumption | omega | exact fz_rf _ | exact fb_rf _ | exact (fun _ _ _ => rfl)), (by first | assumption | omega | exact fz_rf _ | exact fb_rf _ | exact (fun _ _ _ => rfl)), (by rw [pgate_p (by omega), ← e_g8, i_nat (x := z5) (k := 24 + p0.toInt.toNat) (by omega), show p1 = 1 from i_inj (by omega)]), by rw [ht]; exact hP, va_K.moved hW.alike hK, hD⟩, hS.F ht⟩) hS.2.2 dX10_gate_40
  · subst e_r1
    refine lv_if_ne (tgt := 11) hx hb dX10_gate_5 (by decide) (fun c9 => absurd (by decide) c9) (fun c9 => ?_)
    refine lv_bipush (v := -2) hx hb dX10_gate_8 (by decide) ?_
    rw [hQ9]
    exact W.iret (v := (-2)) hx hb hr (fun t ht hW => ⟨⟨(-2), (), rfl, (by omega), f_s, (by first | assumption | omega | exact fz_rf _ | exact fb_rf _ | exact (fun _ _ _ => rfl)), (by first | assumption | omega | exact fz_rf _ | exact fb_rf _ | exact (fun _ _ _ => rfl)), (by rw [pgate_n (by omega)]), by rw [ht]; exact hP, va_K.moved hW.alike hK, hD⟩, hS.F ht⟩) hS.2.2 dX10_gate_10

set_option maxRecDepth 100000 in
set_option maxHeartbeats 4000000 in
/-- told of the reference -/
theorem c_X10_told (l : Launch) (dC : Nat → ClassId) (dI : Nat → Nat → Nat) (h0 : Nat) (p0 : Int32) (p1 : Int32) (q_s : Nat) (v_fees : Int64) (q_thought : Nat) (v_thoughtFees : Int64) (q_image : Nat) (v_imageFees : Int64) (v_hasImage : Int32) (q_tape : Nat) (v_taped : Int32) (q_texts : Nat) (q_sizes : Nat) (v_programs : Int32) (q_imageTexts : Nat) (q_imageSizes : Nat) (v_imagePrograms : Int32) (v_here : Int32) (v_open : Int32) (v_running : Int32) (v_begun : Int32) (q_held : Nat) (q_marks : Nat) (v_markMany : Int32) (q_trace : Nat) (v_traced : Int32) (q_keptBalances : Nat) (q_keptFees : Nat) (v_deep : Int32) (q_way : Nat) (q_sorts : Nat) (q_rowMany : Nat) (q_items : Nat) (q_moved : Nat) (k_s : ClassId) (f_s : Nat → Int32) (sz : Nat) (hms : ms f_s) : Met l yX10_told wsX10_told ({ frames := 2, cells := 0, slots := 0, locals := 46 }) (va_Pc [.ref h0, .int p0, .int p1] (fun U => U.heap.size = sz ∧ va_P (dC, dI) vwCl [eO h0 9 [.ref q_s, .long v_fees, .ref q_thought, .long v_thoughtFees, .ref q_image, .long v_imageFees, .int v_hasImage, .ref q_tape, .int v_taped, .ref q_texts, .ref q_sizes, .int v_programs, .ref q_imageTexts, .ref q_imageSizes, .int v_imagePrograms, .int v_here, .int v_open, .int v_running, .int v_begun, .ref q_held, .ref q_marks, .int v_markMany, .ref q_trace, .int v_traced, .ref q_keptBalances, .ref q_keptFees, .int v_deep, .ref q_way, .ref q_sorts, .ref q_rowMany, .ref q_items, .ref q_moved], eI q_s k_s 125 f_s] U.heap ∧ va_K (dC, dI) vwCl [(k_s, .int)] U ∧ va_D (fun _ => True) [eO h0 9 [.ref q_s, .long v_fees, .ref q_thought, .long v_thoughtFees, .ref q_image, .long v_imageFees, .int v_hasImage, .ref q_tape, .int v_taped, .ref q_texts, .ref q_sizes, .int v_programs, .ref q_imageTexts, .ref q_imageSizes, .int v_imagePrograms, .int v_here, .int v_open, .int v_running, .int v_begun, .ref q_held, .ref q_marks, .int v_markMany, .ref q_trace, .int v_traced, .ref q_keptBalances, .ref q_keptFees, .int v_deep, .ref q_way, .ref q_sorts, .ref q_rowMany, .ref q_items, .ref q_moved], eI q_s k_s 125 f_s])) (va_Qi (fun (r : Int32) (_ : Unit) => True) (fun (_ : Unit) (t : State) => va_P (dC, dI) vwCl [eO h0 9 [.ref q_s, .long v_fees, .ref q_thought, .long v_thoughtFees, .ref q_image, .long v_imageFees, .int v_hasImage, .ref q_tape, .int v_taped, .ref q_texts, .ref q_sizes, .int v_programs, .ref q_imageTexts, .ref q_imageSizes, .int v_imagePrograms, .int v_here, .int v_open, .int v_running, .int v_begun, .ref q_held, .ref q_marks, .int v_markMany, .ref q_trace, .int v_traced, .ref q_keptBalances, .ref q_keptFees, .int v_deep, .ref q_way, .ref q_sorts, .ref q_rowMany, .ref q_items, .ref q_moved], eI q_s k_s 125 f_s] t.heap ∧ va_K (dC, dI) vwCl [(k_s, .int)] t ∧ va_D (va_A [eO h0 9 [.ref q_s, .long v_fees, .ref q_thought, .long v_thoughtFees, .ref q_image, .long v_imageFees, .int v_hasImage, .ref q_tape, .int v_taped, .ref q_texts, .ref q_sizes, .int v_programs, .ref q_imageTexts, .ref q_imageSizes, .int v_imagePrograms, .int v_here, .int v_open, .int v_running, .int v_begun, .ref q_held, .ref q_marks, .int v_markMany, .ref q_trace, .int v_traced, .ref q_keptBalances, .ref q_keptFees, .int v_deep, .ref q_way, .ref q_sorts, .ref q_rowMany, .ref q_items, .ref q_moved], eI q_s k_s 125 f_s] sz) [eO h0 9 [.ref q_s, .long v_fees, .ref q_thought, .long v_thoughtFees, .ref q_image, .long v_imageFees, .int v_hasImage, .ref q_tape, .int v_taped, .ref q_texts, .ref q_sizes, .int v_programs, .ref q_imageTexts, .ref q_imageSizes, .int v_imagePrograms, .int v_here, .int v_open, .int v_running, .int v_begun, .ref q_held, .ref q_marks, .int v_markMany, .ref q_trace, .int v_traced, .ref q_keptBalances, .ref q_keptFees, .int v_deep, .ref q_way, .ref q_sorts, .ref q_rowMany, .ref q_items, .ref q_moved], eI q_s k_s 125 f_s]) (va_A [eO h0 9 [.ref q_s, .long v_fees, .ref q_thought, .long v_thoughtFees, .ref q_image, .long v_imageFees, .int v_hasImage, .ref q_tape, .int v_taped, .ref q_texts, .ref q_sizes, .int v_programs, .ref q_imageTexts, .ref q_imageSizes, .int v_imagePrograms, .int v_here, .int v_open, .int v_running, .int v_begun, .ref q_held, .ref q_marks, .int v_markMany, .ref q_trace, .int v_traced, .ref q_keptBalances, .ref q_keptFees, .int v_deep, .ref q_way, .ref q_sorts, .ref q_rowMany, .ref q_items, .ref q_moved], eI q_s k_s 125 f_s] sz)) 0 0 (va_A [eO h0 9 [.ref q_s, .long v_fees, .ref q_thought, .long v_thoughtFees, .ref q_image, .long v_imageFees, .int v_hasImage, .ref q_tape, .int v_taped, .ref q_texts, .ref q_sizes, .int v_programs, .ref q_imageTexts, .ref q_imageSizes, .int v_imagePrograms, .int v_here, .int v_open, .int v_running, .int v_begun, .ref q_held, .ref q_marks, .int v_markMany, .ref q_trace, .int v_traced, .ref q_keptBalances, .ref q_keptFees, .int v_deep, .ref q_way, .ref q_sorts, .ref q_rowMany, .ref q_items, .ref q_moved], eI q_s k_s 125 f_s] sz) := by
  refine Met.ofW (cc := cX10_told) (maxL := 3) (ret := (some .int)) (by decide) rfl ?_
  intro p e s m args below meth c s₁ B hml hv
  obtain ⟨rfl, hsz, hP, hK, hD0⟩ := hv
  have hx := B.exec
  have hb := B.bytes
  have hr := B.returns
  have hts := atoms_spec (ws := wsX10_told) B.pre
  have hown : s.vm.findClass RX10 = some m.cls := findClass_of_methodNamed B.named
  have hlocks := B.notSynchronized
  subst hsz
  have hD := hD0.self (sz := s.heap.size)
  generalize hAe : va_A [eO h0 9 [.ref q_s, .long v_fees, .ref q_thought, .long v_thoughtFees, .ref q_image, .long v_imageFees, .int v_hasImage, .ref q_tape, .int v_taped, .ref q_texts, .ref q_sizes, .int v_programs, .ref q_imageTexts, .ref q_imageSizes, .int v_imagePrograms, .int v_here, .int v_open, .int v_running, .int v_begun, .ref q_held, .ref q_marks, .int v_markMany, .ref q_trace, .int v_traced, .ref q_keptBalances, .ref q_keptFees, .int v_deep, .ref q_way, .ref q_sorts, .ref q_rowMany, .ref q_items, .ref q_moved], eI q_s k_s 125 f_s] s.heap.size = A at hD ⊢
  have hA : ∀ q : Nat, s.heap.size ≤ q → A q := fun q h => by rw [← hAe]; exact Or.inr h
  have hS : va_S A s.heap s.heap [] := va_S.rf
  have hP : va_P (dC, dI) vwCl [eO h0 9 [.ref q_s, .long v_fees, .ref q_thought, .long v_thoughtFees, .ref q_image, .long v_imageFees, .int v_hasImage, .ref q_tape, .int v_taped, .ref q_texts, .ref q_sizes, .int v_programs, .ref q_imageTexts, .ref q_imageSizes, .int v_imagePrograms, .int v_here, .int v_open, .int v_running, .int v_begun, .ref q_held, .ref q_marks, .int v_markMany, .ref q_trace, .int v_traced, .ref q_keptBalances, .ref q_keptFees, .int v_deep, .ref q_way, .ref q_sorts, .ref q_rowMany, .ref q_items, .ref q_moved], eI q_s k_s 125 f_s] s.heap := hP
  have hl := lv_entry ([.ref h0, .int p0, .int p1]) (n := 3) (Nat.le_of_ble_eq_true rfl)
  rw [lg_entry_eq]
  generalize (lg_sl ([.ref h0, .int p0, .int p1]) ++ List.replicate (3 - (lg_sl ([.ref h0, .int p0, .int p1])).length) Slot.unset).toArray = ls at hl ⊢
  have hl : lv_has ls 3 [(0, .ref h0), (1, .int p0), (2, .int p1)] := hl
  suffices key9 : ∀ Q9 : State → Prop, Q9 = (MQ below (va_Qi (fun (r : Int32) (_ : Unit) => True) (fun (_ : Unit) (t : State) => va_P (dC, dI) vwCl [eO h0 9 [.ref q_s, .long v_fees, .ref q_thought, .long v_thoughtFees, .ref q_image, .long v_imageFees, .int v_hasImage, .ref q_tape, .int v_taped, .ref q_texts, .ref q_sizes, .int v_programs, .ref q_imageTexts, .ref q_imageSizes, .int v_imagePrograms, .int v_here, .int v_open, .int v_running, .int v_begun, .ref q_held, .ref q_marks, .int v_markMany, .ref q_trace, .int v_traced, .ref q_keptBalances, .ref q_keptFees, .int v_deep, .ref q_way, .ref q_sorts, .ref q_rowMany, .ref q_items, .ref q_moved], eI q_s k_s 125 f_s] t.heap ∧ va_K (dC, dI) vwCl [(k_s, .int)] t ∧ va_D A [eO h0 9 [.ref q_s, .long v_fees, .ref q_thought, .long v_thoughtFees, .ref q_image, .long v_imageFees, .int v_hasImage, .ref q_tape, .int v_taped, .ref q_texts, .ref q_sizes, .int v_programs, .ref q_imageTexts, .ref q_imageSizes, .int v_imagePrograms, .int v_here, .int v_open, .int v_running, .int v_begun, .ref q_held, .ref q_marks, .int v_markMany, .ref q_trace, .int v_traced, .ref q_keptBalances, .ref q_keptFees, .int v_deep, .ref q_way, .ref q_sorts, .ref q_rowMany, .ref q_items, .ref q_moved], eI q_s k_s 125 f_s]) A) (([.ref h0, .int p0, .int p1] : List Value).toArray) s 0 0 A) → W p l e ({ frames := 2, cells := 0, slots := 0, locals := 46 }) s m (([.ref h0, .int p0, .int p1] : List Value).toArray) below meth c s.heap [] 0 0 Q9 (F0 m 0 ls []) from key9 _ rfl
  intro Q9 hQ9
  have k_m2 : ((-2) : Int32).toInt = (-2) := by decide
  have k_0 : (0 : Int32).toInt = 0 := by decide
  have k_1 : (1 : Int32).toInt = 1 := by decide
  have k_2 : (2 : Int32).toInt = 2 := by decide
  have k_3 : (3 : Int32).toInt = 3 := by decide
  have k_4 : (4 : Int32).toInt = 4 := by decide
  have k_5 : (5 : Int32).toInt = 5 := by decide
  have k_6 : (6 : Int32).toInt = 6 := by decide
  have k_16 : (16 : Int32).toInt = 16 := by decide
  have k_24 : (24 : Int32).toInt = 24 := by decide
  have k_32 : (32 : Int32).toInt = 32 := by decide
  have k_40 : (40 : Int32).toInt = 40 := by decide
  have k_48 : (48 : Int32).toInt = 48 := by decide
  have k_100 : (100 : Int32).toInt = 100 := by decide
  obtain ⟨ha1, ha2, hown9⟩ := id hms
  refine lv_aload_n hx hb dX10_told_0 rfl (lv_at hl 0 rfl) ?_
  refine lv_iload_n hx hb dX10_told_1 rfl (lv_at hl 1 rfl) ?_
  obtain ⟨hPc, hDc, hFc, hCm, hNw⟩ := C_s (wc := [eO h0 9 [.ref q_s, .long v_fees, .ref q_thought, .long v_thoughtFees, .ref q_image, .long v_imageFees, .int v_hasImage, .ref q_tape, .int v_taped, .ref q_texts, .ref q_sizes, .int v_programs, .ref q_imageTexts, .ref q_imageSizes, .int v_imagePrograms, .int v_here, .int v_open, .int v_running, .int v_begun, .ref q_held, .ref q_marks, .int v_markMany, .ref q_trace, .int v_traced, .ref q_keptBalances, .ref q_keptFees, .int v_deep, .ref q_way, .ref q_sorts, .ref q_rowMany, .ref q_items, .ref q_moved], eI q_s k_s 125 f_s]) hP hD hS hA [(0, 2)] 2 rfl (by decide +kernel) rfl
  have hKc := K_s (tys' := [(k_s, .int)]) hK [(0, 1)] rfl
  refine va_calli (va_runV (As := [.int p0]) (rest := []) ⟨hx, hb, hml, hown, hts⟩ (c_X10_isAccount l dC dI h0 p0 q_s v_fees q_thought v_thoughtFees q_image v_imageFees v_hasImage q_tape v_taped q_texts q_sizes v_programs q_imageTexts q_imageSizes v_imagePrograms v_here v_open v_running v_begun q_held q_marks v_markMany q_trace v_traced q_keptBalances q_keptFees v_deep q_way q_sorts q_rowMany q_items q_moved k_s f_s s.heap.size (by first | assumption | omega) (by first | assumption | omega)) (cwV 1 hts gX10_told_X10_isAccount rfl rfl rfl (by decide +kernel) ⟨Nat.le_of_ble_eq_true rfl, Nat.le_of_ble_eq_true rfl⟩) ⟨fun a U g mk q => by obtain ⟨q0, q1, qP, qK, qD⟩ := q; exact ⟨q0, q1, qP, va_K.moved (u := U) (U := U.calling g mk a) (Vm.Alike.refl U.vm) qK, qD⟩, va_recv (s := s) (q := (RX10, TX10, 32)) hKc hPc (ci := 9) (q0 := 0) rfl rfl, fun U hU hW => ⟨rfl, by rw [hU], by rw [hU]; exact hPc, va_K.moved hW.alike hKc, hDc.weaken (fun _ _ _ _ => trivial)⟩⟩ rfl rfl hl.1 rfl (lv_room (Nat.le_of_ble_eq_true rfl)) dX10_told_2 ⟨Nat.le_of_ble_eq_true rfl, Nat.le_of_ble_eq_true rfl⟩) hS (fun q _ h => hFc q h) hFc (fun r1 u t H1 locs ht hvm hw hB hz1 hk1 hS => ?_)
  obtain ⟨hP1, hK1, hD1⟩ := hB
  rw [ht] at hP1
  have hK1 := va_K.moved hvm.symm hK1
  try dsimp only at hw
  obtain ⟨hP, hD⟩ := J_s (wL := [eO h0 9 [.ref q_s, .long v_fees, .ref q_thought, .long v_thoughtFees, .ref q_image, .long v_imageFees, .int v_hasImage, .ref q_tape, .int v_taped, .ref q_texts, .ref q_sizes, .int v_programs, .ref q_imageTexts, .ref q_imageSizes, .int v_imagePrograms, .int v_here, .int v_open, .int v_running, .int v_begun, .ref q_held, .ref q_marks, .int v_markMany, .ref q_trace, .int v_traced, .ref q_keptBalances, .ref q_keptFees, .int v_deep, .ref q_way, .ref q_sorts, .ref q_rowMany, .ref q_items, .ref q_moved], eI q_s k_s 125 f_s]) hP hD [(0, 2)] [] hCm hNw (by decide +kernel) hk1 hFc hP1 hD1 rfl
  have hK := KJ_s (tys' := [(k_s, .int)]) hK hK1 [] rfl
  generalize H1 = H at hP hS ⊢
  rcases hw with ⟨e_r1, f_r1⟩ | ⟨e_r1, f_r1⟩
  · subst e_r1
    refine lv_if_ne (tgt := 11) hx hb dX10_told_5 (by decide) (fun c2 => ?_) (fun c2 => absurd c2 (by decide))
    refine lv_iload_n hx hb dX10_told_11 rfl (lv_at hl 2 rfl) ?_
    rcases Decidable.em (p1 = 0) with c3 | c3
    · refine lv_tableIn (off := 44) (tgt := 56) hx hb dX10_told_12 (by rw [c3]; decide) (by rw [c3]; decide) (by rw [c3]; decide) (by decide) ?_
      have f_c3 := i_eq c3
      refine lv_aload_n hx hb dX10_told_56 rfl (lv_at hl 0 rfl) ?_
      refine va_get (D := (dC, dI)) (ci := 9) (v := .ref q_s) (C := RX10) (T := TX10) (N := 32) hx hb hts (fun w h => List.mem_cons_of_mem _ (inlX10 w h)) hown hK hP 0 rfl rfl 0 (by decide) (hts (.fieldLink RX10 11 "ClearingGatesModel" "s" "[I") (List.mem_cons_of_mem _ mw_609)) (fun _ h9 => h9) rfl dX10_told_57 ?_
      refine lv_iconst (v := 0) hx hb dX10_told_60 (by decide) ?_
      refine lv_iload_n hx hb dX10_told_61 rfl (lv_at hl 1 rfl) ?_
      refine lv_iadd hx hb dX10_told_62 ?_
      refine lv_topi (fun z4 e_z4 => ?_)
      (first | have t_z4 := i_add e_z4 (by omega) (by omega) | skip)
      refine va_iald (D := (dC, dI)) hx hb hK hP 1 0 rfl rfl (vp_in_iff.mpr ⟨by omega, by omega⟩) dX10_told_63 ?_
      refine lv_topi (fun z5 e_z5 => ?_)
      rw [hQ9]
      exact W.iret (v := z5) hx hb hr (fun t ht hW => ⟨⟨z5, (), rfl, (by first | rfl | trivial), by rw [ht]; exact hP, va_K.moved hW.alike hK, hD⟩, hS.F ht⟩) hS.2.2 dX10_told_64
    have f_c3 := i_ne c3
    rcases Decidable.em (p1 = 1) with c6 | c6
    · refine lv_tableIn (off := 53) (tgt := 65) hx hb dX10_told_12 (by rw [c6]; decide) (by rw [c6]; decide) (by rw [c6]; decide) (by decide) ?_
      have f_c6 := i_eq c6
      refine lv_aload_n hx hb dX10_told_65 rfl (lv_at hl 0 rfl) ?_
      refine va_get (D := (dC, dI)) (ci := 9) (v := .ref q_s) (C := RX10) (T := TX10) (N := 32) hx hb hts (fun w h => List.mem_cons_of_mem _ (inlX10 w h)) hown hK hP 0 rfl rfl 0 (by decide) (hts (.fieldLink RX10 11 "ClearingGatesModel" "s" "[I") (List.mem_cons_of_mem _ mw_609)) (fun _ h9 => h9) rfl dX10_told_66 ?_
      refine lv_bipush (v := 16) hx hb dX10_told_69 (by decide) ?_
      refine lv_iload_n hx hb dX10_told_71 rfl (lv_at hl 1 rfl) ?_
      refine lv_iadd hx hb dX10_told_72 ?_
      refine lv_topi (fun z7 e_z7 => ?_)
      (first | have t_z7 := i_add e_z7 (by omega) (by omega) | skip)
      refine va_iald (D := (dC, dI)) hx hb hK hP 1 0 rfl rfl (vp_in_iff.mpr ⟨by omega, by omega⟩) dX10_told_73 ?_
      refine lv_topi (fun z8 e_z8 => ?_)
      rw [hQ9]
      exact W.iret (v := z8) hx hb hr (fun t ht hW => ⟨⟨z8, (), rfl, (by first | rfl | trivial), by rw [ht]; exact hP, va_K.moved hW.alike hK, hD⟩, hS.F ht⟩) hS.2.2 dX10_told_74
    have f_c6 := i_ne c6
    rcases Decidable.em (p1 = 2) with c9 | c9
    · refine lv_tableIn (off := 63) (tgt := 75) hx hb dX10_told_12 (by rw [c9]; decide) (by rw [c9]; decide) (by rw [c9]; decide) (by decide) ?_
      have f_c9 := i_eq c9
      refine lv_aload_n hx hb dX10_told_75 rfl (lv_at hl 0 rfl) ?_
      refine va_get (D := (dC, dI)) (ci := 9) (v := .ref q_s) (C := RX10) (T := TX10) (N := 32) hx hb hts (fun w h => List.mem_cons_of_mem _ (inlX10 w h)) hown hK hP 0 rfl rfl 0 (by decide) (hts (.fieldLink RX10 11 "ClearingGatesModel" "s" "[I") (List.mem_cons_of_mem _ mw_609)) (fun _ h9 => h9) rfl dX10_told_76 ?_
      refine lv_bipush (v := 24) hx hb dX10_told_79 (by decide) ?_
      refine lv_iload_n hx hb dX10_told_81 rfl (lv_at hl 1 rfl) ?_
      refine lv_iadd hx hb dX10_told_82 ?_
      refine lv_topi (fun z10 e_z10 => ?_)
      (first | have t_z10 := i_add e_z10 (by omega) (by omega) | skip)
      refine va_iald (D := (dC, dI)) hx hb hK hP 1 0 rfl rfl (vp_in_iff.mpr ⟨by omega, by omega⟩) dX10_told_83 ?_
      refine lv_topi (fun z11 e_z11 => ?_)
      rw [hQ9]
      exact W.iret (v := z11) hx hb hr (fun t ht hW => ⟨⟨z11, (), rfl, (by first | rfl | trivial), by rw [ht]; exact hP, va_K.moved hW.alike hK, hD⟩, hS.F ht⟩) hS.2.2 dX10_told_84
    have f_c9 := i_ne c9
    rcases Decidable.em (p1 = 3) with c12 | c12
    · refine lv_tableIn (off := 73) (tgt := 85) hx hb dX10_told_12 (by rw [c12]; decide) (by rw [c12]; decide) (by rw [c12]; decide) (by decide) ?_
      have f_c12 := i_eq c12
      refine lv_aload_n hx hb dX10_told_85 rfl (lv_at hl 0 rfl) ?_
      refine va_get (D := (dC, dI)) (ci := 9) (v := .ref q_s) (C := RX10) (T := TX10) (N := 32) hx hb hts (fun w h => List.mem_cons_of_mem _ (inlX10 w h)) hown hK hP 0 rfl rfl 0 (by decide) (hts (.fieldLink RX10 11 "ClearingGatesModel" "s" "[I") (List.mem_cons_of_mem _ mw_609)) (fun _ h9 => h9) rfl dX10_told_86 ?_
      refine lv_bipush (v := 32) hx hb dX10_told_89 (by decide) ?_
      refine lv_iload_n hx hb dX10_told_91 rfl (lv_at hl 1 rfl) ?_
      refine lv_iadd hx hb dX10_told_92 ?_
      refine lv_topi (fun z13 e_z13 => ?_)
      (first | have t_z13 := i_add e_z13 (by omega) (by omega) | skip)
      refine va_iald (D := (dC, dI)) hx hb hK hP 1 0 rfl rfl (vp_in_iff.mpr ⟨by omega, by omega⟩) dX10_told_93 ?_
      refine lv_topi (fun z14 e_z14 => ?_)
      rw [hQ9]
      exact W.iret (v := z14) hx hb hr (fun t ht hW => ⟨⟨z14, (), rfl, (by first | rfl | trivial), by rw [ht]; exact hP, va_K.moved hW.alike hK, hD⟩, hS.F ht⟩) hS.2.2 dX10_told_94
    have f_c12 := i_ne c12
    rcases Decidable.em (p1 = 4) with c15 | c15
    · refine lv_tableIn (off := 83) (tgt := 95) hx hb dX10_told_12 (by rw [c15]; decide) (by rw [c15]; decide) (by rw [c15]; decide) (by decide) ?_
      have f_c15 := i_eq c15
      refine lv_aload_n hx hb dX10_told_95 rfl (lv_at hl 0 rfl) ?_
      refine va_get (D := (dC, dI)) (ci := 9) (v := .ref q_s) (C := RX10) (T := TX10) (N := 32) hx hb hts (fun w h => List.mem_cons_of_mem _ (inlX10 w h)) hown hK hP 0 rfl rfl 0 (by decide) (hts (.fieldLink RX10 11 "ClearingGatesModel" "s" "[I") (List.mem_cons_of_mem _ mw_609)) (fun _ h9 => h9) rfl dX10_told_96 ?_
      refine lv_bipush (v := 40) hx hb dX10_told_99 (by decide) ?_
      refine lv_iload_n hx hb dX10_told_101 rfl (lv_at hl 1 rfl) ?_
      refine lv_iadd hx hb dX10_told_102 ?_
      refine lv_topi (fun z16 e_z16 => ?_)
      (first | have t_z16 := i_add e_z16 (by omega) (by omega) | skip)
      refine va_iald (D := (dC, dI)) hx hb hK hP 1 0 rfl rfl (vp_in_iff.mpr ⟨by omega, by omega⟩) dX10_told_103 ?_
      refine lv_topi (fun z17 e_z17 => ?_)
      rw [hQ9]
      exact W.iret (v := z17) hx hb hr (fun t ht hW => ⟨⟨z17, (), rfl, (by first | rfl | trivial), by rw [ht]; exact hP, va_K.moved hW.alike hK, hD⟩, hS.F ht⟩) hS.2.2 dX10_told_104
    have f_c15 := i_ne c15
    rcases Decidable.em (p1 = 5) with c18 | c18
    · refine lv_tableIn (off := 93) (tgt := 105) hx hb dX10_told_12 (by rw [c18]; decide) (by rw [c18]; decide) (by rw [c18]; decide) (by decide) ?_
      have f_c18 := i_eq c18
      refine lv_aload_n hx hb dX10_told_105 rfl (lv_at hl 0 rfl) ?_
      refine va_get (D := (dC, dI)) (ci := 9) (v := .ref q_s) (C := RX10) (T := TX10) (N := 32) hx hb hts (fun w h => List.mem_cons_of_mem _ (inlX10 w h)) hown hK hP 0 rfl rfl 0 (by decide) (hts (.fieldLink RX10 11 "ClearingGatesModel" "s" "[I") (List.mem_cons_of_mem _ mw_609)) (fun _ h9 => h9) rfl dX10_told_106 ?_
      refine lv_bipush (v := 48) hx hb dX10_told_109 (by decide) ?_
      refine lv_iload_n hx hb dX10_told_111 rfl (lv_at hl 1 rfl) ?_
      refine lv_iadd hx hb dX10_told_112 ?_
      refine lv_topi (fun z19 e_z19 => ?_)
      (first | have t_z19 := i_add e_z19 (by omega) (by omega) | skip)
      refine va_iald (D := (dC, dI)) hx hb hK hP 1 0 rfl rfl (vp_in_iff.mpr ⟨by omega, by omega⟩) dX10_told_113 ?_
      refine lv_topi (fun z20 e_z20 => ?_)
      rw [hQ9]
      exact W.iret (v := z20) hx hb hr (fun t ht hW => ⟨⟨z20, (), rfl, (by first | rfl | trivial), by rw [ht]; exact hP, va_K.moved hW.alike hK, hD⟩, hS.F ht⟩) hS.2.2 dX10_told_114
    have f_c18 := i_ne c18
    rcases Decidable.em (p1 = 6) with c21 | c21
    · refine lv_tableIn (off := 103) (tgt := 115) hx hb dX10_told_12 (by rw [c21]; decide) (by rw [c21]; decide) (by rw [c21]; decide) (by decide) ?_
      have f_c21 := i_eq c21
      refine lv_aload_n hx hb dX10_told_115 rfl (lv_at hl 0 rfl) ?_
      refine lv_iload_n hx hb dX10_told_116 rfl (lv_at hl 1 rfl) ?_
      refine lv_bipush (v := 100) hx hb dX10_told_117 (by decide) ?_
      obtain ⟨hPc, hDc, hFc, hCm, hNw⟩ := C_s (wc := [eO h0 9 [.ref q_s, .long v_fees, .ref q_thought, .long v_thoughtFees, .ref q_image, .long v_imageFees, .int v_hasImage, .ref q_tape, .int v_taped, .ref q_texts, .ref q_sizes, .int v_programs, .ref q_imageTexts, .ref q_imageSizes, .int v_imagePrograms, .int v_here, .int v_open, .int v_running, .int v_begun, .ref q_held, .ref q_marks, .int v_markMany, .ref q_trace, .int v_traced, .ref q_keptBalances, .ref q_keptFees, .int v_deep, .ref q_way, .ref q_sorts, .ref q_rowMany, .ref q_items, .ref q_moved], eI q_s k_s 125 f_s]) hP hD hS hA [(0, 2)] 2 rfl (by decide +kernel) rfl
      have hKc := K_s (tys' := [(k_s, .int)]) hK [(0, 1)] rfl
      refine va_calli (va_runV (As := [.int p0, .int 100]) (rest := []) ⟨hx, hb, hml, hown, hts⟩ (c_X10_feeOf l dC dI h0 p0 100 q_s v_fees q_thought v_thoughtFees q_image v_imageFees v_hasImage q_tape v_taped q_texts q_sizes v_programs q_imageTexts q_imageSizes v_imagePrograms v_here v_open v_running v_begun q_held q_marks v_markMany q_trace v_traced q_keptBalances q_keptFees v_deep q_way q_sorts q_rowMany q_items q_moved k_s f_s H.size (by first | assumption | omega) (by first | assumption | omega)) (cwV 2 hts gX10_told_X10_feeOf rfl rfl rfl (by decide +kernel) ⟨Nat.le_of_ble_eq_true rfl, Nat.le_of_ble_eq_true rfl⟩) ⟨fun a U g mk q => by obtain ⟨q0, q1, qP, qK, qD⟩ := q; exact ⟨q0, q1, qP, va_K.moved (u := U) (U := U.calling g mk a) (Vm.Alike.refl U.vm) qK, qD⟩, va_recv (s := s) (q := (RX10, TX10, 32)) hKc hPc (ci := 9) (q0 := 0) rfl rfl, fun U hU hW => ⟨rfl, by rw [hU], by rw [hU]; exact hPc, va_K.moved hW.alike hKc, hDc.weaken (fun _ _ _ _ => trivial)⟩⟩ rfl rfl hl.1 rfl (lv_room (Nat.le_of_ble_eq_true rfl)) dX10_told_119 ⟨Nat.le_of_ble_eq_true rfl, Nat.le_of_ble_eq_true rfl⟩) hS (fun q _ h => hFc q h) hFc (fun r22 u t H1 locs ht hvm hw hB hz1 hk1 hS => ?_)
      obtain ⟨hP1, hK1, hD1⟩ := hB
      rw [ht] at hP1
      have hK1 := va_K.moved hvm.symm hK1
      try dsimp only at hw
      obtain ⟨hP, hD⟩ := J_s (wL := [eO h0 9 [.ref q_s, .long v_fees, .ref q_thought, .long v_thoughtFees, .ref q_image, .long v_imageFees, .int v_hasImage, .ref q_tape, .int v_taped, .ref q_texts, .ref q_sizes, .int v_programs, .ref q_imageTexts, .ref q_imageSizes, .int v_imagePrograms, .int v_here, .int v_open, .int v_running, .int v_begun, .ref q_held, .ref q_marks, .int v_markMany, .ref q_trace, .int v_traced, .ref q_keptBalances, .ref q_keptFees, .int v_deep, .ref q_way, .ref q_sorts, .ref q_rowMany, .ref q_items, .ref q_moved], eI q_s k_s 125 f_s]) hP hD [(0, 2)] [] hCm hNw (by decide +kernel) hk1 hFc hP1 hD1 rfl
      have hK := KJ_s (tys' := [(k_s, .int)]) hK hK1 [] rfl
      generalize H1 = H at hP hS ⊢
      rw [hQ9]
      exact W.iret (v := r22) hx hb hr (fun t ht hW => ⟨⟨r22, (), rfl, (by first | rfl | trivial), by rw [ht]; exact hP, va_K.moved hW.alike hK, hD⟩, hS.F ht⟩) hS.2.2 dX10_told_122
    have f_c21 := i_ne c21
    refine lv_tableOut (tgt := 123) hx hb dX10_told_12 (by omega) (by decide) ?_
    refine lv_bipush (v := -2) hx hb dX10_told_123 (by decide) ?_
    rw [hQ9]
    exact W.iret (v := (-2)) hx hb hr (fun t ht hW => ⟨⟨(-2), (), rfl, (by first | rfl | trivial), by rw [ht]; exact hP, va_K.moved hW.alike hK, hD⟩, hS.F ht⟩) hS.2.2 dX10_told_125
  · subst e_r1
    refine lv_if_ne (tgt := 11) hx hb dX10_told_5 (by decide) (fun c23 => absurd (by decide) c23) (fun c23 => ?_)
    refine lv_bipush (v := -2) hx hb dX10_told_8 (by decide) ?_
    rw [hQ9]
    exact W.iret (v := (-2)) hx hb hr (fun t ht hW => ⟨⟨(-2), (), rfl, (by first | rfl | trivial), by rw [ht]; exact hP, va_K.moved hW.alike hK, hD⟩, hS.F ht⟩) hS.2.2 dX10_told_10

set_option maxRecDepth 100000 in
set_option maxHeartbeats 4000000 in
/-- of of the reference -/
theorem c_X10_of (l : Launch) (dC : Nat → ClassId) (dI : Nat → Nat → Nat) (h0 : Nat) (p0 : Int32) (p1 : Int32) (q_s : Nat) (v_fees : Int64) (q_thought : Nat) (v_thoughtFees : Int64) (q_image : Nat) (v_imageFees : Int64) (v_hasImage : Int32) (q_tape : Nat) (v_taped : Int32) (q_texts : Nat) (q_sizes : Nat) (v_programs : Int32) (q_imageTexts : Nat) (q_imageSizes : Nat) (v_imagePrograms : Int32) (v_here : Int32) (v_open : Int32) (v_running : Int32) (v_begun : Int32) (q_held : Nat) (q_marks : Nat) (v_markMany : Int32) (q_trace : Nat) (v_traced : Int32) (q_keptBalances : Nat) (q_keptFees : Nat) (v_deep : Int32) (q_way : Nat) (q_sorts : Nat) (q_rowMany : Nat) (q_items : Nat) (q_moved : Nat) (k_s : ClassId) (f_s : Nat → Int32) (sz : Nat) (hms : ms f_s) : Met l yX10_of wsX10_of ({ frames := 2, cells := 0, slots := 0, locals := 46 }) (va_Pc [.ref h0, .int p0, .int p1] (fun U => U.heap.size = sz ∧ va_P (dC, dI) vwCl [eO h0 9 [.ref q_s, .long v_fees, .ref q_thought, .long v_thoughtFees, .ref q_image, .long v_imageFees, .int v_hasImage, .ref q_tape, .int v_taped, .ref q_texts, .ref q_sizes, .int v_programs, .ref q_imageTexts, .ref q_imageSizes, .int v_imagePrograms, .int v_here, .int v_open, .int v_running, .int v_begun, .ref q_held, .ref q_marks, .int v_markMany, .ref q_trace, .int v_traced, .ref q_keptBalances, .ref q_keptFees, .int v_deep, .ref q_way, .ref q_sorts, .ref q_rowMany, .ref q_items, .ref q_moved], eI q_s k_s 125 f_s] U.heap ∧ va_K (dC, dI) vwCl [(k_s, .int)] U ∧ va_D (fun _ => True) [eO h0 9 [.ref q_s, .long v_fees, .ref q_thought, .long v_thoughtFees, .ref q_image, .long v_imageFees, .int v_hasImage, .ref q_tape, .int v_taped, .ref q_texts, .ref q_sizes, .int v_programs, .ref q_imageTexts, .ref q_imageSizes, .int v_imagePrograms, .int v_here, .int v_open, .int v_running, .int v_begun, .ref q_held, .ref q_marks, .int v_markMany, .ref q_trace, .int v_traced, .ref q_keptBalances, .ref q_keptFees, .int v_deep, .ref q_way, .ref q_sorts, .ref q_rowMany, .ref q_items, .ref q_moved], eI q_s k_s 125 f_s])) (va_Ql (fun (r : Int64) (_ : Unit) => True) (fun (_ : Unit) (t : State) => va_P (dC, dI) vwCl [eO h0 9 [.ref q_s, .long v_fees, .ref q_thought, .long v_thoughtFees, .ref q_image, .long v_imageFees, .int v_hasImage, .ref q_tape, .int v_taped, .ref q_texts, .ref q_sizes, .int v_programs, .ref q_imageTexts, .ref q_imageSizes, .int v_imagePrograms, .int v_here, .int v_open, .int v_running, .int v_begun, .ref q_held, .ref q_marks, .int v_markMany, .ref q_trace, .int v_traced, .ref q_keptBalances, .ref q_keptFees, .int v_deep, .ref q_way, .ref q_sorts, .ref q_rowMany, .ref q_items, .ref q_moved], eI q_s k_s 125 f_s] t.heap ∧ va_K (dC, dI) vwCl [(k_s, .int)] t ∧ va_D (va_A [eO h0 9 [.ref q_s, .long v_fees, .ref q_thought, .long v_thoughtFees, .ref q_image, .long v_imageFees, .int v_hasImage, .ref q_tape, .int v_taped, .ref q_texts, .ref q_sizes, .int v_programs, .ref q_imageTexts, .ref q_imageSizes, .int v_imagePrograms, .int v_here, .int v_open, .int v_running, .int v_begun, .ref q_held, .ref q_marks, .int v_markMany, .ref q_trace, .int v_traced, .ref q_keptBalances, .ref q_keptFees, .int v_deep, .ref q_way, .ref q_sorts, .ref q_rowMany, .ref q_items, .ref q_moved], eI q_s k_s 125 f_s] sz) [eO h0 9 [.ref q_s, .long v_fees, .ref q_thought, .long v_thoughtFees, .ref q_image, .long v_imageFees, .int v_hasImage, .ref q_tape, .int v_taped, .ref q_texts, .ref q_sizes, .int v_programs, .ref q_imageTexts, .ref q_imageSizes, .int v_imagePrograms, .int v_here, .int v_open, .int v_running, .int v_begun, .ref q_held, .ref q_marks, .int v_markMany, .ref q_trace, .int v_traced, .ref q_keptBalances, .ref q_keptFees, .int v_deep, .ref q_way, .ref q_sorts, .ref q_rowMany, .ref q_items, .ref q_moved], eI q_s k_s 125 f_s]) (va_A [eO h0 9 [.ref q_s, .long v_fees, .ref q_thought, .long v_thoughtFees, .ref q_image, .long v_imageFees, .int v_hasImage, .ref q_tape, .int v_taped, .ref q_texts, .ref q_sizes, .int v_programs, .ref q_imageTexts, .ref q_imageSizes, .int v_imagePrograms, .int v_here, .int v_open, .int v_running, .int v_begun, .ref q_held, .ref q_marks, .int v_markMany, .ref q_trace, .int v_traced, .ref q_keptBalances, .ref q_keptFees, .int v_deep, .ref q_way, .ref q_sorts, .ref q_rowMany, .ref q_items, .ref q_moved], eI q_s k_s 125 f_s] sz)) 0 0 (va_A [eO h0 9 [.ref q_s, .long v_fees, .ref q_thought, .long v_thoughtFees, .ref q_image, .long v_imageFees, .int v_hasImage, .ref q_tape, .int v_taped, .ref q_texts, .ref q_sizes, .int v_programs, .ref q_imageTexts, .ref q_imageSizes, .int v_imagePrograms, .int v_here, .int v_open, .int v_running, .int v_begun, .ref q_held, .ref q_marks, .int v_markMany, .ref q_trace, .int v_traced, .ref q_keptBalances, .ref q_keptFees, .int v_deep, .ref q_way, .ref q_sorts, .ref q_rowMany, .ref q_items, .ref q_moved], eI q_s k_s 125 f_s] sz) := by
  refine Met.ofW (cc := cX10_of) (maxL := 3) (ret := (some .long)) (by decide) rfl ?_
  intro p e s m args below meth c s₁ B hml hv
  obtain ⟨rfl, hsz, hP, hK, hD0⟩ := hv
  have hx := B.exec
  have hb := B.bytes
  have hr := B.returns
  have hts := atoms_spec (ws := wsX10_of) B.pre
  have hown : s.vm.findClass RX10 = some m.cls := findClass_of_methodNamed B.named
  have hlocks := B.notSynchronized
  subst hsz
  have hD := hD0.self (sz := s.heap.size)
  generalize hAe : va_A [eO h0 9 [.ref q_s, .long v_fees, .ref q_thought, .long v_thoughtFees, .ref q_image, .long v_imageFees, .int v_hasImage, .ref q_tape, .int v_taped, .ref q_texts, .ref q_sizes, .int v_programs, .ref q_imageTexts, .ref q_imageSizes, .int v_imagePrograms, .int v_here, .int v_open, .int v_running, .int v_begun, .ref q_held, .ref q_marks, .int v_markMany, .ref q_trace, .int v_traced, .ref q_keptBalances, .ref q_keptFees, .int v_deep, .ref q_way, .ref q_sorts, .ref q_rowMany, .ref q_items, .ref q_moved], eI q_s k_s 125 f_s] s.heap.size = A at hD ⊢
  have hA : ∀ q : Nat, s.heap.size ≤ q → A q := fun q h => by rw [← hAe]; exact Or.inr h
  have hS : va_S A s.heap s.heap [] := va_S.rf
  have hP : va_P (dC, dI) vwCl [eO h0 9 [.ref q_s, .long v_fees, .ref q_thought, .long v_thoughtFees, .ref q_image, .long v_imageFees, .int v_hasImage, .ref q_tape, .int v_taped, .ref q_texts, .ref q_sizes, .int v_programs, .ref q_imageTexts, .ref q_imageSizes, .int v_imagePrograms, .int v_here, .int v_open, .int v_running, .int v_begun, .ref q_held, .ref q_marks, .int v_markMany, .ref q_trace, .int v_traced, .ref q_keptBalances, .ref q_keptFees, .int v_deep, .ref q_way, .ref q_sorts, .ref q_rowMany, .ref q_items, .ref q_moved], eI q_s k_s 125 f_s] s.heap := hP
  have hl := lv_entry ([.ref h0, .int p0, .int p1]) (n := 3) (Nat.le_of_ble_eq_true rfl)
  rw [lg_entry_eq]
  generalize (lg_sl ([.ref h0, .int p0, .int p1]) ++ List.replicate (3 - (lg_sl ([.ref h0, .int p0, .int p1])).length) Slot.unset).toArray = ls at hl ⊢
  have hl : lv_has ls 3 [(0, .ref h0), (1, .int p0), (2, .int p1)] := hl
  suffices key9 : ∀ Q9 : State → Prop, Q9 = (MQ below (va_Ql (fun (r : Int64) (_ : Unit) => True) (fun (_ : Unit) (t : State) => va_P (dC, dI) vwCl [eO h0 9 [.ref q_s, .long v_fees, .ref q_thought, .long v_thoughtFees, .ref q_image, .long v_imageFees, .int v_hasImage, .ref q_tape, .int v_taped, .ref q_texts, .ref q_sizes, .int v_programs, .ref q_imageTexts, .ref q_imageSizes, .int v_imagePrograms, .int v_here, .int v_open, .int v_running, .int v_begun, .ref q_held, .ref q_marks, .int v_markMany, .ref q_trace, .int v_traced, .ref q_keptBalances, .ref q_keptFees, .int v_deep, .ref q_way, .ref q_sorts, .ref q_rowMany, .ref q_items, .ref q_moved], eI q_s k_s 125 f_s] t.heap ∧ va_K (dC, dI) vwCl [(k_s, .int)] t ∧ va_D A [eO h0 9 [.ref q_s, .long v_fees, .ref q_thought, .long v_thoughtFees, .ref q_image, .long v_imageFees, .int v_hasImage, .ref q_tape, .int v_taped, .ref q_texts, .ref q_sizes, .int v_programs, .ref q_imageTexts, .ref q_imageSizes, .int v_imagePrograms, .int v_here, .int v_open, .int v_running, .int v_begun, .ref q_held, .ref q_marks, .int v_markMany, .ref q_trace, .int v_traced, .ref q_keptBalances, .ref q_keptFees, .int v_deep, .ref q_way, .ref q_sorts, .ref q_rowMany, .ref q_items, .ref q_moved], eI q_s k_s 125 f_s]) A) (([.ref h0, .int p0, .int p1] : List Value).toArray) s 0 0 A) → W p l e ({ frames := 2, cells := 0, slots := 0, locals := 46 }) s m (([.ref h0, .int p0, .int p1] : List Value).toArray) below meth c s.heap [] 0 0 Q9 (F0 m 0 ls []) from key9 _ rfl
  intro Q9 hQ9
  have k_0 : (0 : Int32).toInt = 0 := by decide
  have k_1 : (1 : Int32).toInt = 1 := by decide
  have k_8 : (8 : Int32).toInt = 8 := by decide
  have kl_0 : (0 : Int64).toInt = 0 := by decide
  have kl_2 : (2 : Int64).toInt = 2 := by decide
  obtain ⟨ha1, ha2, hown9⟩ := id hms
  refine lv_aload_n hx hb dX10_of_0 rfl (lv_at hl 0 rfl) ?_
  refine lv_iload_n hx hb dX10_of_1 rfl (lv_at hl 1 rfl) ?_
  obtain ⟨hPc, hDc, hFc, hCm, hNw⟩ := C_s (wc := [eO h0 9 [.ref q_s, .long v_fees, .ref q_thought, .long v_thoughtFees, .ref q_image, .long v_imageFees, .int v_hasImage, .ref q_tape, .int v_taped, .ref q_texts, .ref q_sizes, .int v_programs, .ref q_imageTexts, .ref q_imageSizes, .int v_imagePrograms, .int v_here, .int v_open, .int v_running, .int v_begun, .ref q_held, .ref q_marks, .int v_markMany, .ref q_trace, .int v_traced, .ref q_keptBalances, .ref q_keptFees, .int v_deep, .ref q_way, .ref q_sorts, .ref q_rowMany, .ref q_items, .ref q_moved], eI q_s k_s 125 f_s]) hP hD hS hA [(0, 2)] 2 rfl (by decide +kernel) rfl
  have hKc := K_s (tys' := [(k_s, .int)]) hK [(0, 1)] rfl
  refine va_calli (va_runV (As := [.int p0]) (rest := []) ⟨hx, hb, hml, hown, hts⟩ (c_X10_isAccount l dC dI h0 p0 q_s v_fees q_thought v_thoughtFees q_image v_imageFees v_hasImage q_tape v_taped q_texts q_sizes v_programs q_imageTexts q_imageSizes v_imagePrograms v_here v_open v_running v_begun q_held q_marks v_markMany q_trace v_traced q_keptBalances q_keptFees v_deep q_way q_sorts q_rowMany q_items q_moved k_s f_s s.heap.size (by first | assumption | omega) (by first | assumption | omega)) (cwV 1 hts gX10_of_X10_isAccount rfl rfl rfl (by decide +kernel) ⟨Nat.le_of_ble_eq_true rfl, Nat.le_of_ble_eq_true rfl⟩) ⟨fun a U g mk q => by obtain ⟨q0, q1, qP, qK, qD⟩ := q; exact ⟨q0, q1, qP, va_K.moved (u := U) (U := U.calling g mk a) (Vm.Alike.refl U.vm) qK, qD⟩, va_recv (s := s) (q := (RX10, TX10, 32)) hKc hPc (ci := 9) (q0 := 0) rfl rfl, fun U hU hW => ⟨rfl, by rw [hU], by rw [hU]; exact hPc, va_K.moved hW.alike hKc, hDc.weaken (fun _ _ _ _ => trivial)⟩⟩ rfl rfl hl.1 rfl (lv_room (Nat.le_of_ble_eq_true rfl)) dX10_of_2 ⟨Nat.le_of_ble_eq_true rfl, Nat.le_of_ble_eq_true rfl⟩) hS (fun q _ h => hFc q h) hFc (fun r1 u t H1 locs ht hvm hw hB hz1 hk1 hS => ?_)
  obtain ⟨hP1, hK1, hD1⟩ := hB
  rw [ht] at hP1
  have hK1 := va_K.moved hvm.symm hK1
  try dsimp only at hw
  obtain ⟨hP, hD⟩ := J_s (wL := [eO h0 9 [.ref q_s, .long v_fees, .ref q_thought, .long v_thoughtFees, .ref q_image, .long v_imageFees, .int v_hasImage, .ref q_tape, .int v_taped, .ref q_texts, .ref q_sizes, .int v_programs, .ref q_imageTexts, .ref q_imageSizes, .int v_imagePrograms, .int v_here, .int v_open, .int v_running, .int v_begun, .ref q_held, .ref q_marks, .int v_markMany, .ref q_trace, .int v_traced, .ref q_keptBalances, .ref q_keptFees, .int v_deep, .ref q_way, .ref q_sorts, .ref q_rowMany, .ref q_items, .ref q_moved], eI q_s k_s 125 f_s]) hP hD [(0, 2)] [] hCm hNw (by decide +kernel) hk1 hFc hP1 hD1 rfl
  have hK := KJ_s (tys' := [(k_s, .int)]) hK hK1 [] rfl
  generalize H1 = H at hP hS ⊢
  rcases hw with ⟨e_r1, f_r1⟩ | ⟨e_r1, f_r1⟩
  · subst e_r1
    refine lv_if_eq (tgt := 20) hx hb dX10_of_5 (by decide) (fun c2 => absurd c2 (by decide)) (fun c2 => ?_)
    refine lv_iload_n hx hb dX10_of_8 rfl (lv_at hl 2 rfl) ?_
    refine lv_i2l (v := p1.toInt64) hx hb dX10_of_9 rfl ?_
    have t_t3 := Int32.toInt_toInt64 p1
    refine lv_lconst (v := 0) hx hb dX10_of_10 (by decide) ?_
    refine lv_ldc2 hx hb hown (hts (.constantLong RX10 90 (2)) (List.mem_cons_of_mem _ mw_674)) dX10_of_11 ?_
    obtain ⟨hPc, hDc, hFc, hCm, hNw⟩ := C_s (wc := []) hP hD hS hA [] 2 rfl (by decide +kernel) rfl
    have hKc := K_s (tys' := []) hK [] rfl
    refine va_calli (va_runS (As := [.long p1.toInt64, .long 0, .long 2]) (rest := []) ⟨hx, hb, hml, hown, hts⟩ (c_X10_isIn l dC dI (p1.toInt64) 0 2 H.size) (va_cwS 3 hts gX10_of_X10_isIn rfl rfl rfl (by decide +kernel) ⟨Nat.le_of_ble_eq_true rfl, Nat.le_of_ble_eq_true rfl⟩) ⟨fun a U g mk q => by obtain ⟨q0, q1, qP, qK, qD⟩ := q; exact ⟨q0, q1, qP, va_K.moved (u := U) (U := U.calling g mk a) (Vm.Alike.refl U.vm) qK, qD⟩, fun U hU hW => ⟨rfl, by rw [hU], by rw [hU]; exact hPc, va_K.moved hW.alike hKc, hDc.weaken (fun _ _ _ _ => trivial)⟩⟩ rfl rfl hl.1 rfl (lv_room (Nat.le_of_ble_eq_true rfl)) dX10_of_14 ⟨Nat.le_of_ble_eq_true rfl, Nat.le_of_ble_eq_true rfl⟩) hS (fun q _ h => hFc q h) hFc (fun r4 u t H1 locs ht hvm hw hB hz1 hk1 hS => ?_)
    obtain ⟨hP1, hK1, hD1⟩ := hB
    rw [ht] at hP1
    have hK1 := va_K.moved hvm.symm hK1
    try dsimp only at hw
    obtain ⟨hP, hD⟩ := J_s (wL := [eO h0 9 [.ref q_s, .long v_fees, .ref q_thought, .long v_thoughtFees, .ref q_image, .long v_imageFees, .int v_hasImage, .ref q_tape, .int v_taped, .ref q_texts, .ref q_sizes, .int v_programs, .ref q_imageTexts, .ref q_imageSizes, .int v_imagePrograms, .int v_here, .int v_open, .int v_running, .int v_begun, .ref q_held, .ref q_marks, .int v_markMany, .ref q_trace, .int v_traced, .ref q_keptBalances, .ref q_keptFees, .int v_deep, .ref q_way, .ref q_sorts, .ref q_rowMany, .ref q_items, .ref q_moved], eI q_s k_s 125 f_s]) hP hD [] [(0, 2)] hCm hNw (by decide +kernel) hk1 hFc hP1 hD1 rfl
    have hK := KJ_s (tys' := [(k_s, .int)]) hK hK1 [(0, 1)] rfl
    generalize H1 = H at hP hS ⊢
    rcases hw with ⟨e_r4, f_r4⟩ | ⟨e_r4, f_r4⟩
    · subst e_r4
      refine lv_if_ne (tgt := 24) hx hb dX10_of_17 (by decide) (fun c5 => ?_) (fun c5 => absurd c5 (by decide))
      refine lv_iload_n hx hb dX10_of_24 rfl (lv_at hl 2 rfl) ?_
      refine lv_if_ne (tgt := 41) hx hb dX10_of_25 (by decide) (fun c6 => ?_) (fun c6 => ?_)
      · skip
        have f_c6 := i_ne c6
        refine lv_iload_n hx hb dX10_of_41 rfl (lv_at hl 2 rfl) ?_
        refine lv_iconst (v := 1) hx hb dX10_of_42 (by decide) ?_
        refine lv_icmp_ne (tgt := 55) hx hb dX10_of_43 (by decide) (fun c7 => ?_) (fun c7 => ?_)
        · skip
          have f_c7 := i_ne c7
          refine lv_aload_n hx hb dX10_of_55 rfl (lv_at hl 0 rfl) ?_
          refine lv_iload_n hx hb dX10_of_56 rfl (lv_at hl 1 rfl) ?_
          obtain ⟨hPc, hDc, hFc, hCm, hNw⟩ := C_s (wc := [eO h0 9 [.ref q_s, .long v_fees, .ref q_thought, .long v_thoughtFees, .ref q_image, .long v_imageFees, .int v_hasImage, .ref q_tape, .int v_taped, .ref q_texts, .ref q_sizes, .int v_programs, .ref q_imageTexts, .ref q_imageSizes, .int v_imagePrograms, .int v_here, .int v_open, .int v_running, .int v_begun, .ref q_held, .ref q_marks, .int v_markMany, .ref q_trace, .int v_traced, .ref q_keptBalances, .ref q_keptFees, .int v_deep, .ref q_way, .ref q_sorts, .ref q_rowMany, .ref q_items, .ref q_moved], eI q_s k_s 125 f_s]) hP hD hS hA [(0, 2)] 2 rfl (by decide +kernel) rfl
          have hKc := K_s (tys' := [(k_s, .int)]) hK [(0, 1)] rfl
          refine va_calll (va_runV (As := [.int p0]) (rest := []) ⟨hx, hb, hml, hown, hts⟩ (c_X10_positionOf l dC dI h0 p0 q_s v_fees q_thought v_thoughtFees q_image v_imageFees v_hasImage q_tape v_taped q_texts q_sizes v_programs q_imageTexts q_imageSizes v_imagePrograms v_here v_open v_running v_begun q_held q_marks v_markMany q_trace v_traced q_keptBalances q_keptFees v_deep q_way q_sorts q_rowMany q_items q_moved k_s f_s H.size (by first | assumption | omega) (by first | assumption | omega) (by first | assumption | omega) (by first | assumption | omega)) (cwV 1 hts gX10_of_X10_positionOf rfl rfl rfl (by decide +kernel) ⟨Nat.le_of_ble_eq_true rfl, Nat.le_of_ble_eq_true rfl⟩) ⟨fun a U g mk q => by obtain ⟨q0, q1, qP, qK, qD⟩ := q; exact ⟨q0, q1, qP, va_K.moved (u := U) (U := U.calling g mk a) (Vm.Alike.refl U.vm) qK, qD⟩, va_recv (s := s) (q := (RX10, TX10, 32)) hKc hPc (ci := 9) (q0 := 0) rfl rfl, fun U hU hW => ⟨rfl, by rw [hU], by rw [hU]; exact hPc, va_K.moved hW.alike hKc, hDc.weaken (fun _ _ _ _ => trivial)⟩⟩ rfl rfl hl.1 rfl (lv_room (Nat.le_of_ble_eq_true rfl)) dX10_of_57 ⟨Nat.le_of_ble_eq_true rfl, Nat.le_of_ble_eq_true rfl⟩) hS (fun q _ h => hFc q h) hFc (fun r8 u t H1 locs ht hvm hw hB hz1 hk1 hS => ?_)
          obtain ⟨hP1, hK1, hD1⟩ := hB
          rw [ht] at hP1
          have hK1 := va_K.moved hvm.symm hK1
          try dsimp only at hw
          obtain ⟨hP, hD⟩ := J_s (wL := [eO h0 9 [.ref q_s, .long v_fees, .ref q_thought, .long v_thoughtFees, .ref q_image, .long v_imageFees, .int v_hasImage, .ref q_tape, .int v_taped, .ref q_texts, .ref q_sizes, .int v_programs, .ref q_imageTexts, .ref q_imageSizes, .int v_imagePrograms, .int v_here, .int v_open, .int v_running, .int v_begun, .ref q_held, .ref q_marks, .int v_markMany, .ref q_trace, .int v_traced, .ref q_keptBalances, .ref q_keptFees, .int v_deep, .ref q_way, .ref q_sorts, .ref q_rowMany, .ref q_items, .ref q_moved], eI q_s k_s 125 f_s]) hP hD [(0, 2)] [] hCm hNw (by decide +kernel) hk1 hFc hP1 hD1 rfl
          have hK := KJ_s (tys' := [(k_s, .int)]) hK hK1 [] rfl
          generalize H1 = H at hP hS ⊢
          rw [hQ9]
          exact W.lret (v := r8) hx hb hr (fun t ht hW => ⟨⟨r8, (), rfl, (by first | rfl | trivial), by rw [ht]; exact hP, va_K.moved hW.alike hK, hD⟩, hS.F ht⟩) hS.2.2 dX10_of_60
        · skip
          have f_c7 := i_eq c7
          refine lv_aload_n hx hb dX10_of_46 rfl (lv_at hl 0 rfl) ?_
          refine lv_iload_n hx hb dX10_of_47 rfl (lv_at hl 1 rfl) ?_
          obtain ⟨hPc, hDc, hFc, hCm, hNw⟩ := C_s (wc := [eO h0 9 [.ref q_s, .long v_fees, .ref q_thought, .long v_thoughtFees, .ref q_image, .long v_imageFees, .int v_hasImage, .ref q_tape, .int v_taped, .ref q_texts, .ref q_sizes, .int v_programs, .ref q_imageTexts, .ref q_imageSizes, .int v_imagePrograms, .int v_here, .int v_open, .int v_running, .int v_begun, .ref q_held, .ref q_marks, .int v_markMany, .ref q_trace, .int v_traced, .ref q_keptBalances, .ref q_keptFees, .int v_deep, .ref q_way, .ref q_sorts, .ref q_rowMany, .ref q_items, .ref q_moved], eI q_s k_s 125 f_s]) hP hD hS hA [(0, 2)] 2 rfl (by decide +kernel) rfl
          have hKc := K_s (tys' := [(k_s, .int)]) hK [(0, 1)] rfl
          refine va_calli (va_runV (As := [.int p0]) (rest := []) ⟨hx, hb, hml, hown, hts⟩ (c_X10_floorOf l dC dI h0 p0 q_s v_fees q_thought v_thoughtFees q_image v_imageFees v_hasImage q_tape v_taped q_texts q_sizes v_programs q_imageTexts q_imageSizes v_imagePrograms v_here v_open v_running v_begun q_held q_marks v_markMany q_trace v_traced q_keptBalances q_keptFees v_deep q_way q_sorts q_rowMany q_items q_moved k_s f_s H.size (by first | assumption | omega) (by first | assumption | omega)) (cwV 1 hts gX10_of_X10_floorOf rfl rfl rfl (by decide +kernel) ⟨Nat.le_of_ble_eq_true rfl, Nat.le_of_ble_eq_true rfl⟩) ⟨fun a U g mk q => by obtain ⟨q0, q1, qP, qK, qD⟩ := q; exact ⟨q0, q1, qP, va_K.moved (u := U) (U := U.calling g mk a) (Vm.Alike.refl U.vm) qK, qD⟩, va_recv (s := s) (q := (RX10, TX10, 32)) hKc hPc (ci := 9) (q0 := 0) rfl rfl, fun U hU hW => ⟨rfl, by rw [hU], by rw [hU]; exact hPc, va_K.moved hW.alike hKc, hDc.weaken (fun _ _ _ _ => trivial)⟩⟩ rfl rfl hl.1 rfl (lv_room (Nat.le_of_ble_eq_true rfl)) dX10_of_48 ⟨Nat.le_of_ble_eq_true rfl, Nat.le_of_ble_eq_true rfl⟩) hS (fun q _ h => hFc q h) hFc (fun r9 u t H1 locs ht hvm hw hB hz1 hk1 hS => ?_)
          obtain ⟨hP1, hK1, hD1⟩ := hB
          rw [ht] at hP1
          have hK1 := va_K.moved hvm.symm hK1
          try dsimp only at hw
          obtain ⟨hP, hD⟩ := J_s (wL := [eO h0 9 [.ref q_s, .long v_fees, .ref q_thought, .long v_thoughtFees, .ref q_image, .long v_imageFees, .int v_hasImage, .ref q_tape, .int v_taped, .ref q_texts, .ref q_sizes, .int v_programs, .ref q_imageTexts, .ref q_imageSizes, .int v_imagePrograms, .int v_here, .int v_open, .int v_running, .int v_begun, .ref q_held, .ref q_marks, .int v_markMany, .ref q_trace, .int v_traced, .ref q_keptBalances, .ref q_keptFees, .int v_deep, .ref q_way, .ref q_sorts, .ref q_rowMany, .ref q_items, .ref q_moved], eI q_s k_s 125 f_s]) hP hD [(0, 2)] [] hCm hNw (by decide +kernel) hk1 hFc hP1 hD1 rfl
          have hK := KJ_s (tys' := [(k_s, .int)]) hK hK1 [] rfl
          generalize H1 = H at hP hS ⊢
          refine lv_i2l (v := r9.toInt64) hx hb dX10_of_51 rfl ?_
          have t_t10 := Int32.toInt_toInt64 r9
          refine lv_goto (tgt := 60) hx hb dX10_of_52 (by decide) ?_
          rw [hQ9]
          exact W.lret (v := r9.toInt64) hx hb hr (fun t ht hW => ⟨⟨r9.toInt64, (), rfl, (by first | rfl | trivial), by rw [ht]; exact hP, va_K.moved hW.alike hK, hD⟩, hS.F ht⟩) hS.2.2 dX10_of_60
      · skip
        have f_c6 := i_eq c6
        refine lv_aload_n hx hb dX10_of_28 rfl (lv_at hl 0 rfl) ?_
        refine va_get (D := (dC, dI)) (ci := 9) (v := .ref q_s) (C := RX10) (T := TX10) (N := 32) hx hb hts (fun w h => List.mem_cons_of_mem _ (inlX10 w h)) hown hK hP 0 rfl rfl 0 (by decide) (hts (.fieldLink RX10 11 "ClearingGatesModel" "s" "[I") (List.mem_cons_of_mem _ mw_609)) (fun _ h9 => h9) rfl dX10_of_29 ?_
        refine lv_bipush (v := 8) hx hb dX10_of_32 (by decide) ?_
        refine lv_iload_n hx hb dX10_of_34 rfl (lv_at hl 1 rfl) ?_
        refine lv_iadd hx hb dX10_of_35 ?_
        refine lv_topi (fun z11 e_z11 => ?_)
        (first | have t_z11 := i_add e_z11 (by omega) (by omega) | skip)
        refine va_iald (D := (dC, dI)) hx hb hK hP 1 0 rfl rfl (vp_in_iff.mpr ⟨by omega, by omega⟩) dX10_of_36 ?_
        refine lv_topi (fun z12 e_z12 => ?_)
        refine lv_i2l (v := z12.toInt64) hx hb dX10_of_37 rfl ?_
        have t_t13 := Int32.toInt_toInt64 z12
        refine lv_goto (tgt := 60) hx hb dX10_of_38 (by decide) ?_
        rw [hQ9]
        exact W.lret (v := z12.toInt64) hx hb hr (fun t ht hW => ⟨⟨z12.toInt64, (), rfl, (by first | rfl | trivial), by rw [ht]; exact hP, va_K.moved hW.alike hK, hD⟩, hS.F ht⟩) hS.2.2 dX10_of_60
    · subst e_r4
      refine lv_if_ne (tgt := 24) hx hb dX10_of_17 (by decide) (fun c14 => absurd (by decide) c14) (fun c14 => ?_)
      refine lv_ldc2 hx hb hown (hts (.constantLong RX10 81 (-9223372036854775808)) (List.mem_cons_of_mem _ mw_658)) dX10_of_20 ?_
      rw [hQ9]
      exact W.lret (v := (-9223372036854775808)) hx hb hr (fun t ht hW => ⟨⟨(-9223372036854775808), (), rfl, (by first | rfl | trivial), by rw [ht]; exact hP, va_K.moved hW.alike hK, hD⟩, hS.F ht⟩) hS.2.2 dX10_of_23
  · subst e_r1
    refine lv_if_eq (tgt := 20) hx hb dX10_of_5 (by decide) (fun c15 => ?_) (fun c15 => absurd (by decide) c15)
    refine lv_ldc2 hx hb hown (hts (.constantLong RX10 81 (-9223372036854775808)) (List.mem_cons_of_mem _ mw_658)) dX10_of_20 ?_
    rw [hQ9]
    exact W.lret (v := (-9223372036854775808)) hx hb hr (fun t ht hW => ⟨⟨(-9223372036854775808), (), rfl, (by first | rfl | trivial), by rw [ht]; exact hP, va_K.moved hW.alike hK, hD⟩, hS.F ht⟩) hS.2.2 dX10_of_23

set_option maxRecDepth 100000 in
set_option maxHeartbeats 4000000 in
/-- count of the reference -/
theorem c_X10_count (l : Launch) (dC : Nat → ClassId) (dI : Nat → Nat → Nat) (h0 : Nat) (p0 : Int32) (q_s : Nat) (v_fees : Int64) (q_thought : Nat) (v_thoughtFees : Int64) (q_image : Nat) (v_imageFees : Int64) (v_hasImage : Int32) (q_tape : Nat) (v_taped : Int32) (q_texts : Nat) (q_sizes : Nat) (v_programs : Int32) (q_imageTexts : Nat) (q_imageSizes : Nat) (v_imagePrograms : Int32) (v_here : Int32) (v_open : Int32) (v_running : Int32) (v_begun : Int32) (q_held : Nat) (q_marks : Nat) (v_markMany : Int32) (q_trace : Nat) (v_traced : Int32) (q_keptBalances : Nat) (q_keptFees : Nat) (v_deep : Int32) (q_way : Nat) (q_sorts : Nat) (q_rowMany : Nat) (q_items : Nat) (q_moved : Nat) (k_s : ClassId) (f_s : Nat → Int32) (sz : Nat) : Met l yX10_count wsX10_count ({ frames := 0, cells := 0, slots := 0, locals := 0 }) (va_Pc [.ref h0, .int p0] (fun U => U.heap.size = sz ∧ va_P (dC, dI) vwCl [eO h0 9 [.ref q_s, .long v_fees, .ref q_thought, .long v_thoughtFees, .ref q_image, .long v_imageFees, .int v_hasImage, .ref q_tape, .int v_taped, .ref q_texts, .ref q_sizes, .int v_programs, .ref q_imageTexts, .ref q_imageSizes, .int v_imagePrograms, .int v_here, .int v_open, .int v_running, .int v_begun, .ref q_held, .ref q_marks, .int v_markMany, .ref q_trace, .int v_traced, .ref q_keptBalances, .ref q_keptFees, .int v_deep, .ref q_way, .ref q_sorts, .ref q_rowMany, .ref q_items, .ref q_moved], eI q_s k_s 125 f_s] U.heap ∧ va_K (dC, dI) vwCl [(k_s, .int)] U ∧ va_D (fun _ => True) [eO h0 9 [.ref q_s, .long v_fees, .ref q_thought, .long v_thoughtFees, .ref q_image, .long v_imageFees, .int v_hasImage, .ref q_tape, .int v_taped, .ref q_texts, .ref q_sizes, .int v_programs, .ref q_imageTexts, .ref q_imageSizes, .int v_imagePrograms, .int v_here, .int v_open, .int v_running, .int v_begun, .ref q_held, .ref q_marks, .int v_markMany, .ref q_trace, .int v_traced, .ref q_keptBalances, .ref q_keptFees, .int v_deep, .ref q_way, .ref q_sorts, .ref q_rowMany, .ref q_items, .ref q_moved], eI q_s k_s 125 f_s])) (va_Qi (fun (r : Int32) (_ : Unit) => True) (fun (_ : Unit) (t : State) => va_P (dC, dI) vwCl [eO h0 9 [.ref q_s, .long v_fees, .ref q_thought, .long v_thoughtFees, .ref q_image, .long v_imageFees, .int v_hasImage, .ref q_tape, .int v_taped, .ref q_texts, .ref q_sizes, .int v_programs, .ref q_imageTexts, .ref q_imageSizes, .int v_imagePrograms, .int v_here, .int v_open, .int v_running, .int v_begun, .ref q_held, .ref q_marks, .int v_markMany, .ref q_trace, .int v_traced, .ref q_keptBalances, .ref q_keptFees, .int v_deep, .ref q_way, .ref q_sorts, .ref q_rowMany, .ref q_items, .ref q_moved], eI q_s k_s 125 f_s] t.heap ∧ va_K (dC, dI) vwCl [(k_s, .int)] t ∧ va_D (va_A [eO h0 9 [.ref q_s, .long v_fees, .ref q_thought, .long v_thoughtFees, .ref q_image, .long v_imageFees, .int v_hasImage, .ref q_tape, .int v_taped, .ref q_texts, .ref q_sizes, .int v_programs, .ref q_imageTexts, .ref q_imageSizes, .int v_imagePrograms, .int v_here, .int v_open, .int v_running, .int v_begun, .ref q_held, .ref q_marks, .int v_markMany, .ref q_trace, .int v_traced, .ref q_keptBalances, .ref q_keptFees, .int v_deep, .ref q_way, .ref q_sorts, .ref q_rowMany, .ref q_items, .ref q_moved], eI q_s k_s 125 f_s] sz) [eO h0 9 [.ref q_s, .long v_fees, .ref q_thought, .long v_thoughtFees, .ref q_image, .long v_imageFees, .int v_hasImage, .ref q_tape, .int v_taped, .ref q_texts, .ref q_sizes, .int v_programs, .ref q_imageTexts, .ref q_imageSizes, .int v_imagePrograms, .int v_here, .int v_open, .int v_running, .int v_begun, .ref q_held, .ref q_marks, .int v_markMany, .ref q_trace, .int v_traced, .ref q_keptBalances, .ref q_keptFees, .int v_deep, .ref q_way, .ref q_sorts, .ref q_rowMany, .ref q_items, .ref q_moved], eI q_s k_s 125 f_s]) (va_A [eO h0 9 [.ref q_s, .long v_fees, .ref q_thought, .long v_thoughtFees, .ref q_image, .long v_imageFees, .int v_hasImage, .ref q_tape, .int v_taped, .ref q_texts, .ref q_sizes, .int v_programs, .ref q_imageTexts, .ref q_imageSizes, .int v_imagePrograms, .int v_here, .int v_open, .int v_running, .int v_begun, .ref q_held, .ref q_marks, .int v_markMany, .ref q_trace, .int v_traced, .ref q_keptBalances, .ref q_keptFees, .int v_deep, .ref q_way, .ref q_sorts, .ref q_rowMany, .ref q_items, .ref q_moved], eI q_s k_s 125 f_s] sz)) 0 0 (va_A [eO h0 9 [.ref q_s, .long v_fees, .ref q_thought, .long v_thoughtFees, .ref q_image, .long v_imageFees, .int v_hasImage, .ref q_tape, .int v_taped, .ref q_texts, .ref q_sizes, .int v_programs, .ref q_imageTexts, .ref q_imageSizes, .int v_imagePrograms, .int v_here, .int v_open, .int v_running, .int v_begun, .ref q_held, .ref q_marks, .int v_markMany, .ref q_trace, .int v_traced, .ref q_keptBalances, .ref q_keptFees, .int v_deep, .ref q_way, .ref q_sorts, .ref q_rowMany, .ref q_items, .ref q_moved], eI q_s k_s 125 f_s] sz) := by
  refine Met.ofW (cc := cX10_count) (maxL := 2) (ret := (some .int)) (by decide) rfl ?_
  intro p e s m args below meth c s₁ B hml hv
  obtain ⟨rfl, hsz, hP, hK, hD0⟩ := hv
  have hx := B.exec
  have hb := B.bytes
  have hr := B.returns
  have hts := atoms_spec (ws := wsX10_count) B.pre
  have hown : s.vm.findClass RX10 = some m.cls := findClass_of_methodNamed B.named
  have hlocks := B.notSynchronized
  subst hsz
  have hD := hD0.self (sz := s.heap.size)
  generalize hAe : va_A [eO h0 9 [.ref q_s, .long v_fees, .ref q_thought, .long v_thoughtFees, .ref q_image, .long v_imageFees, .int v_hasImage, .ref q_tape, .int v_taped, .ref q_texts, .ref q_sizes, .int v_programs, .ref q_imageTexts, .ref q_imageSizes, .int v_imagePrograms, .int v_here, .int v_open, .int v_running, .int v_begun, .ref q_held, .ref q_marks, .int v_markMany, .ref q_trace, .int v_traced, .ref q_keptBalances, .ref q_keptFees, .int v_deep, .ref q_way, .ref q_sorts, .ref q_rowMany, .ref q_items, .ref q_moved], eI q_s k_s 125 f_s] s.heap.size = A at hD ⊢
  have hA : ∀ q : Nat, s.heap.size ≤ q → A q := fun q h => by rw [← hAe]; exact Or.inr h
  have hS : va_S A s.heap s.heap [] := va_S.rf
  have hP : va_P (dC, dI) vwCl [eO h0 9 [.ref q_s, .long v_fees, .ref q_thought, .long v_thoughtFees, .ref q_image, .long v_imageFees, .int v_hasImage, .ref q_tape, .int v_taped, .ref q_texts, .ref q_sizes, .int v_programs, .ref q_imageTexts, .ref q_imageSizes, .int v_imagePrograms, .int v_here, .int v_open, .int v_running, .int v_begun, .ref q_held, .ref q_marks, .int v_markMany, .ref q_trace, .int v_traced, .ref q_keptBalances, .ref q_keptFees, .int v_deep, .ref q_way, .ref q_sorts, .ref q_rowMany, .ref q_items, .ref q_moved], eI q_s k_s 125 f_s] s.heap := hP
  have hl := lv_entry ([.ref h0, .int p0]) (n := 2) (Nat.le_of_ble_eq_true rfl)
  rw [lg_entry_eq]
  generalize (lg_sl ([.ref h0, .int p0]) ++ List.replicate (2 - (lg_sl ([.ref h0, .int p0])).length) Slot.unset).toArray = ls at hl ⊢
  have hl : lv_has ls 2 [(0, .ref h0), (1, .int p0)] := hl
  suffices key9 : ∀ Q9 : State → Prop, Q9 = (MQ below (va_Qi (fun (r : Int32) (_ : Unit) => True) (fun (_ : Unit) (t : State) => va_P (dC, dI) vwCl [eO h0 9 [.ref q_s, .long v_fees, .ref q_thought, .long v_thoughtFees, .ref q_image, .long v_imageFees, .int v_hasImage, .ref q_tape, .int v_taped, .ref q_texts, .ref q_sizes, .int v_programs, .ref q_imageTexts, .ref q_imageSizes, .int v_imagePrograms, .int v_here, .int v_open, .int v_running, .int v_begun, .ref q_held, .ref q_marks, .int v_markMany, .ref q_trace, .int v_traced, .ref q_keptBalances, .ref q_keptFees, .int v_deep, .ref q_way, .ref q_sorts, .ref q_rowMany, .ref q_items, .ref q_moved], eI q_s k_s 125 f_s] t.heap ∧ va_K (dC, dI) vwCl [(k_s, .int)] t ∧ va_D A [eO h0 9 [.ref q_s, .long v_fees, .ref q_thought, .long v_thoughtFees, .ref q_image, .long v_imageFees, .int v_hasImage, .ref q_tape, .int v_taped, .ref q_texts, .ref q_sizes, .int v_programs, .ref q_imageTexts, .ref q_imageSizes, .int v_imagePrograms, .int v_here, .int v_open, .int v_running, .int v_begun, .ref q_held, .ref q_marks, .int v_markMany, .ref q_trace, .int v_traced, .ref q_keptBalances, .ref q_keptFees, .int v_deep, .ref q_way, .ref q_sorts, .ref q_rowMany, .ref q_items, .ref q_moved], eI q_s k_s 125 f_s]) A) (([.ref h0, .int p0] : List Value).toArray) s 0 0 A) → W p l e ({ frames := 0, cells := 0, slots := 0, locals := 0 }) s m (([.ref h0, .int p0] : List Value).toArray) below meth c s.heap [] 0 0 Q9 (F0 m 0 ls []) from key9 _ rfl
  intro Q9 hQ9
  have k_m2 : ((-2) : Int32).toInt = (-2) := by decide
  have k_0 : (0 : Int32).toInt = 0 := by decide
  have k_1 : (1 : Int32).toInt = 1 := by decide
  have k_2 : (2 : Int32).toInt = 2 := by decide
  have k_3 : (3 : Int32).toInt = 3 := by decide
  have k_4 : (4 : Int32).toInt = 4 := by decide
  have k_5 : (5 : Int32).toInt = 5 := by decide
  have k_6 : (6 : Int32).toInt = 6 := by decide
  have k_7 : (7 : Int32).toInt = 7 := by decide
  refine lv_iload_n hx hb dX10_count_0 rfl (lv_at hl 1 rfl) ?_
  rcases Decidable.em (p0 = 0) with c1 | c1
  · refine lv_tableIn (off := 47) (tgt := 48) hx hb dX10_count_1 (by rw [c1]; decide) (by rw [c1]; decide) (by rw [c1]; decide) (by decide) ?_
    have f_c1 := i_eq c1
    refine lv_aload_n hx hb dX10_count_48 rfl (lv_at hl 0 rfl) ?_
    refine va_get (D := (dC, dI)) (ci := 9) (v := .ref q_s) (C := RX10) (T := TX10) (N := 32) hx hb hts (fun w h => List.mem_cons_of_mem _ (inlX10 w h)) hown hK hP 0 rfl rfl 0 (by decide) (hts (.fieldLink RX10 11 "ClearingGatesModel" "s" "[I") (List.mem_cons_of_mem _ mw_609)) (fun _ h9 => h9) rfl dX10_count_49 ?_
    refine lv_bipush (v := 60) hx hb dX10_count_52 (by decide) ?_
    refine va_iald (D := (dC, dI)) hx hb hK hP 1 0 rfl rfl (vp_in_iff.mpr ⟨by decide, by decide⟩) dX10_count_54 ?_
    refine lv_topi (fun z2 e_z2 => ?_)
    have a_z2 : z2.toInt = (f_s 60).toInt := by rw [e_z2]; rfl
    rw [hQ9]
    exact W.iret (v := z2) hx hb hr (fun t ht hW => ⟨⟨z2, (), rfl, (by first | rfl | trivial), by rw [ht]; exact hP, va_K.moved hW.alike hK, hD⟩, hS.F ht⟩) hS.2.2 dX10_count_55
  have f_c1 := i_ne c1
  rcases Decidable.em (p0 = 1) with c3 | c3
  · refine lv_tableIn (off := 55) (tgt := 56) hx hb dX10_count_1 (by rw [c3]; decide) (by rw [c3]; decide) (by rw [c3]; decide) (by decide) ?_
    have f_c3 := i_eq c3
    refine lv_aload_n hx hb dX10_count_56 rfl (lv_at hl 0 rfl) ?_
    refine va_get (D := (dC, dI)) (ci := 9) (v := .int v_programs) (C := RX10) (T := TX10) (N := 32) hx hb hts (fun w h => List.mem_cons_of_mem _ (inlX10 w h)) hown hK hP 0 rfl rfl 11 (by decide) (hts (.fieldLink RX10 100 "ClearingGatesModel" "programs" "I") (List.mem_cons_of_mem _ mw_620)) (fun _ h9 => h9) rfl dX10_count_57 ?_
    rw [hQ9]
    exact W.iret (v := v_programs) hx hb hr (fun t ht hW => ⟨⟨v_programs, (), rfl, (by first | rfl | trivial), by rw [ht]; exact hP, va_K.moved hW.alike hK, hD⟩, hS.F ht⟩) hS.2.2 dX10_count_60
  have f_c3 := i_ne c3
  rcases Decidable.em (p0 = 2) with c4 | c4
  · refine lv_tableIn (off := 60) (tgt := 61) hx hb dX10_count_1 (by rw [c4]; decide) (by rw [c4]; decide) (by rw [c4]; decide) (by decide) ?_
    have f_c4 := i_eq c4
    refine lv_aload_n hx hb dX10_count_61 rfl (lv_at hl 0 rfl) ?_
    refine va_get (D := (dC, dI)) (ci := 9) (v := .ref q_s) (C := RX10) (T := TX10) (N := 32) hx hb hts (fun w h => List.mem_cons_of_mem _ (inlX10 w h)) hown hK hP 0 rfl rfl 0 (by decide) (hts (.fieldLink RX10 11 "ClearingGatesModel" "s" "[I") (List.mem_cons_of_mem _ mw_609)) (fun _ h9 => h9) rfl dX10_count_62 ?_
    refine lv_bipush (v := 56) hx hb dX10_count_65 (by decide) ?_
    refine va_iald (D := (dC, dI)) hx hb hK hP 1 0 rfl rfl (vp_in_iff.mpr ⟨by decide, by decide⟩) dX10_count_67 ?_
    refine lv_topi (fun z5 e_z5 => ?_)
    rw [hQ9]
    exact W.iret (v := z5) hx hb hr (fun t ht hW => ⟨⟨z5, (), rfl, (by first | rfl | trivial), by rw [ht]; exact hP, va_K.moved hW.alike hK, hD⟩, hS.F ht⟩) hS.2.2 dX10_count_68
  have f_c4 := i_ne c4
  rcases Decidable.em (p0 = 3) with c6 | c6
  · refine lv_tableIn (off := 68) (tgt := 69) hx hb dX10_count_1 (by rw [c6]; decide) (by rw [c6]; decide) (by rw [c6]; decide) (by decide) ?_
    have f_c6 := i_eq c6
    refine lv_aload_n hx hb dX10_count_69 rfl (lv_at hl 0 rfl) ?_
    refine va_get (D := (dC, dI)) (ci := 9) (v := .ref q_s) (C := RX10) (T := TX10) (N := 32) hx hb hts (fun w h => List.mem_cons_of_mem _ (inlX10 w h)) hown hK hP 0 rfl rfl 0 (by decide) (hts (.fieldLink RX10 11 "ClearingGatesModel" "s" "[I") (List.mem_cons_of_mem _ mw_609)) (fun _ h9 => h9) rfl dX10_count_70 ?_
    refine lv_bipush (v := 57) hx hb dX10_count_73 (by decide) ?_
    refine va_iald (D := (dC, dI)) hx hb hK hP 1 0 rfl rfl (vp_in_iff.mpr ⟨by decide, by decide⟩) dX10_count_75 ?_
    refine lv_topi (fun z7 e_z7 => ?_)
    rw [hQ9]
    exact W.iret (v := z7) hx hb hr (fun t ht hW => ⟨⟨z7, (), rfl, (by first | rfl | trivial), by rw [ht]; exact hP, va_K.moved hW.alike hK, hD⟩, hS.F ht⟩) hS.2.2 dX10_count_76
  have f_c6 := i_ne c6
  rcases Decidable.em (p0 = 4) with c8 | c8
  · refine lv_tableIn (off := 76) (tgt := 77) hx hb dX10_count_1 (by rw [c8]; decide) (by rw [c8]; decide) (by rw [c8]; decide) (by decide) ?_
    have f_c8 := i_eq c8
    refine lv_aload_n hx hb dX10_count_77 rfl (lv_at hl 0 rfl) ?_
    refine va_get (D := (dC, dI)) (ci := 9) (v := .ref q_s) (C := RX10) (T := TX10) (N := 32) hx hb hts (fun w h => List.mem_cons_of_mem _ (inlX10 w h)) hown hK hP 0 rfl rfl 0 (by decide) (hts (.fieldLink RX10 11 "ClearingGatesModel" "s" "[I") (List.mem_cons_of_mem _ mw_609)) (fun _ h9 => h9) rfl dX10_count_78 ?_
    refine lv_bipush (v := 58) hx hb dX10_count_81 (by decide) ?_
    refine va_iald (D := (dC, dI)) hx hb hK hP 1 0 rfl rfl (vp_in_iff.mpr ⟨by decide, by decide⟩) dX10_count_83 ?_
    refine lv_topi (fun z9 e_z9 => ?_)
    rw [hQ9]
    exact W.iret (v := z9) hx hb hr (fun t ht hW => ⟨⟨z9, (), rfl, (by first | rfl | trivial), by rw [ht]; exact hP, va_K.moved hW.alike hK, hD⟩, hS.F ht⟩) hS.2.2 dX10_count_84
  have f_c8 := i_ne c8
  rcases Decidable.em (p0 = 5) with c10 | c10
  · refine lv_tableIn (off := 84) (tgt := 85) hx hb dX10_count_1 (by rw [c10]; decide) (by rw [c10]; decide) (by rw [c10]; decide) (by decide) ?_
    have f_c10 := i_eq c10
    refine lv_aload_n hx hb dX10_count_85 rfl (lv_at hl 0 rfl) ?_
    refine va_get (D := (dC, dI)) (ci := 9) (v := .ref q_s) (C := RX10) (T := TX10) (N := 32) hx hb hts (fun w h => List.mem_cons_of_mem _ (inlX10 w h)) hown hK hP 0 rfl rfl 0 (by decide) (hts (.fieldLink RX10 11 "ClearingGatesModel" "s" "[I") (List.mem_cons_of_mem _ mw_609)) (fun _ h9 => h9) rfl dX10_count_86 ?_
    refine lv_bipush (v := 59) hx hb dX10_count_89 (by decide) ?_
    refine va_iald (D := (dC, dI)) hx hb hK hP 1 0 rfl rfl (vp_in_iff.mpr ⟨by decide, by decide⟩) dX10_count_91 ?_
    refine lv_topi (fun z11 e_z11 => ?_)
    rw [hQ9]
    exact W.iret (v := z11) hx hb hr (fun t ht hW => ⟨⟨z11, (), rfl, (by first | rfl | trivial), by rw [ht]; exact hP, va_K.moved hW.alike hK, hD⟩, hS.F ht⟩) hS.2.2 dX10_count_92
  have f_c10 := i_ne c10
  rcases Decidable.em (p0 = 6) with c12 | c12
  · refine lv_tableIn (off := 92) (tgt := 93) hx hb dX10_count_1 (by rw [c12]; decide) (by rw [c12]; decide) (by rw [c12]; decide) (by decide) ?_
    have f_c12 := i_eq c12
    refine lv_aload_n hx hb dX10_count_93 rfl (lv_at hl 0 rfl) ?_
    refine va_get (D := (dC, dI)) (ci := 9) (v := .int v_traced) (C := RX10) (T := TX10) (N := 32) hx hb hts (fun w h => List.mem_cons_of_mem _ (inlX10 w h)) hown hK hP 0 rfl rfl 23 (by decide) (hts (.fieldLink RX10 104 "ClearingGatesModel" "traced" "I") (List.mem_cons_of_mem _ mw_632)) (fun _ h9 => h9) rfl dX10_count_94 ?_
    rw [hQ9]
    exact W.iret (v := v_traced) hx hb hr (fun t ht hW => ⟨⟨v_traced, (), rfl, (by first | rfl | trivial), by rw [ht]; exact hP, va_K.moved hW.alike hK, hD⟩, hS.F ht⟩) hS.2.2 dX10_count_97
  have f_c12 := i_ne c12
  rcases Decidable.em (p0 = 7) with c13 | c13
  · refine lv_tableIn (off := 97) (tgt := 98) hx hb dX10_count_1 (by rw [c13]; decide) (by rw [c13]; decide) (by rw [c13]; decide) (by decide) ?_
    have f_c13 := i_eq c13
    refine lv_aload_n hx hb dX10_count_98 rfl (lv_at hl 0 rfl) ?_
    refine va_get (D := (dC, dI)) (ci := 9) (v := .int v_taped) (C := RX10) (T := TX10) (N := 32) hx hb hts (fun w h => List.mem_cons_of_mem _ (inlX10 w h)) hown hK hP 0 rfl rfl 8 (by decide) (hts (.fieldLink RX10 107 "ClearingGatesModel" "taped" "I") (List.mem_cons_of_mem _ mw_617)) (fun _ h9 => h9) rfl dX10_count_99 ?_
    rw [hQ9]
    exact W.iret (v := v_taped) hx hb hr (fun t ht hW => ⟨⟨v_taped, (), rfl, (by first | rfl | trivial), by rw [ht]; exact hP, va_K.moved hW.alike hK, hD⟩, hS.F ht⟩) hS.2.2 dX10_count_102
  have f_c13 := i_ne c13
  refine lv_tableOut (tgt := 103) hx hb dX10_count_1 (by omega) (by decide) ?_
  refine lv_bipush (v := -2) hx hb dX10_count_103 (by decide) ?_
  rw [hQ9]
  exact W.iret (v := (-2)) hx hb hr (fun t ht hW => ⟨⟨(-2), (), rfl, (by first | rfl | trivial), by rw [ht]; exact hP, va_K.moved hW.alike hK, hD⟩, hS.F ht⟩) hS.2.2 dX10_count_105

set_option maxRecDepth 100000 in
set_option maxHeartbeats 4000000 in
/-- sum of the reference -/
theorem c_X10_sum (l : Launch) (dC : Nat → ClassId) (dI : Nat → Nat → Nat) (h0 : Nat) (p0 : Int32) (q_s : Nat) (v_fees : Int64) (q_thought : Nat) (v_thoughtFees : Int64) (q_image : Nat) (v_imageFees : Int64) (v_hasImage : Int32) (q_tape : Nat) (v_taped : Int32) (q_texts : Nat) (q_sizes : Nat) (v_programs : Int32) (q_imageTexts : Nat) (q_imageSizes : Nat) (v_imagePrograms : Int32) (v_here : Int32) (v_open : Int32) (v_running : Int32) (v_begun : Int32) (q_held : Nat) (q_marks : Nat) (v_markMany : Int32) (q_trace : Nat) (v_traced : Int32) (q_keptBalances : Nat) (q_keptFees : Nat) (v_deep : Int32) (q_way : Nat) (q_sorts : Nat) (q_rowMany : Nat) (q_items : Nat) (q_moved : Nat) (k_s : ClassId) (f_s : Nat → Int32) (sz : Nat) (hms : ms f_s) : Met l yX10_sum wsX10_sum ({ frames := 1, cells := 0, slots := 0, locals := 25 }) (va_Pc [.ref h0, .int p0] (fun U => U.heap.size = sz ∧ va_P (dC, dI) vwCl [eO h0 9 [.ref q_s, .long v_fees, .ref q_thought, .long v_thoughtFees, .ref q_image, .long v_imageFees, .int v_hasImage, .ref q_tape, .int v_taped, .ref q_texts, .ref q_sizes, .int v_programs, .ref q_imageTexts, .ref q_imageSizes, .int v_imagePrograms, .int v_here, .int v_open, .int v_running, .int v_begun, .ref q_held, .ref q_marks, .int v_markMany, .ref q_trace, .int v_traced, .ref q_keptBalances, .ref q_keptFees, .int v_deep, .ref q_way, .ref q_sorts, .ref q_rowMany, .ref q_items, .ref q_moved], eI q_s k_s 125 f_s] U.heap ∧ va_K (dC, dI) vwCl [(k_s, .int)] U ∧ va_D (fun _ => True) [eO h0 9 [.ref q_s, .long v_fees, .ref q_thought, .long v_thoughtFees, .ref q_image, .long v_imageFees, .int v_hasImage, .ref q_tape, .int v_taped, .ref q_texts, .ref q_sizes, .int v_programs, .ref q_imageTexts, .ref q_imageSizes, .int v_imagePrograms, .int v_here, .int v_open, .int v_running, .int v_begun, .ref q_held, .ref q_marks, .int v_markMany, .ref q_trace, .int v_traced, .ref q_keptBalances, .ref q_keptFees, .int v_deep, .ref q_way, .ref q_sorts, .ref q_rowMany, .ref q_items, .ref q_moved], eI q_s k_s 125 f_s])) (va_Ql (fun (r : Int64) (_ : Unit) => True) (fun (_ : Unit) (t : State) => va_P (dC, dI) vwCl [eO h0 9 [.ref q_s, .long v_fees, .ref q_thought, .long v_thoughtFees, .ref q_image, .long v_imageFees, .int v_hasImage, .ref q_tape, .int v_taped, .ref q_texts, .ref q_sizes, .int v_programs, .ref q_imageTexts, .ref q_imageSizes, .int v_imagePrograms, .int v_here, .int v_open, .int v_running, .int v_begun, .ref q_held, .ref q_marks, .int v_markMany, .ref q_trace, .int v_traced, .ref q_keptBalances, .ref q_keptFees, .int v_deep, .ref q_way, .ref q_sorts, .ref q_rowMany, .ref q_items, .ref q_moved], eI q_s k_s 125 f_s] t.heap ∧ va_K (dC, dI) vwCl [(k_s, .int)] t ∧ va_D (va_A [eO h0 9 [.ref q_s, .long v_fees, .ref q_thought, .long v_thoughtFees, .ref q_image, .long v_imageFees, .int v_hasImage, .ref q_tape, .int v_taped, .ref q_texts, .ref q_sizes, .int v_programs, .ref q_imageTexts, .ref q_imageSizes, .int v_imagePrograms, .int v_here, .int v_open, .int v_running, .int v_begun, .ref q_held, .ref q_marks, .int v_markMany, .ref q_trace, .int v_traced, .ref q_keptBalances, .ref q_keptFees, .int v_deep, .ref q_way, .ref q_sorts, .ref q_rowMany, .ref q_items, .ref q_moved], eI q_s k_s 125 f_s] sz) [eO h0 9 [.ref q_s, .long v_fees, .ref q_thought, .long v_thoughtFees, .ref q_image, .long v_imageFees, .int v_hasImage, .ref q_tape, .int v_taped, .ref q_texts, .ref q_sizes, .int v_programs, .ref q_imageTexts, .ref q_imageSizes, .int v_imagePrograms, .int v_here, .int v_open, .int v_running, .int v_begun, .ref q_held, .ref q_marks, .int v_markMany, .ref q_trace, .int v_traced, .ref q_keptBalances, .ref q_keptFees, .int v_deep, .ref q_way, .ref q_sorts, .ref q_rowMany, .ref q_items, .ref q_moved], eI q_s k_s 125 f_s]) (va_A [eO h0 9 [.ref q_s, .long v_fees, .ref q_thought, .long v_thoughtFees, .ref q_image, .long v_imageFees, .int v_hasImage, .ref q_tape, .int v_taped, .ref q_texts, .ref q_sizes, .int v_programs, .ref q_imageTexts, .ref q_imageSizes, .int v_imagePrograms, .int v_here, .int v_open, .int v_running, .int v_begun, .ref q_held, .ref q_marks, .int v_markMany, .ref q_trace, .int v_traced, .ref q_keptBalances, .ref q_keptFees, .int v_deep, .ref q_way, .ref q_sorts, .ref q_rowMany, .ref q_items, .ref q_moved], eI q_s k_s 125 f_s] sz)) 0 0 (va_A [eO h0 9 [.ref q_s, .long v_fees, .ref q_thought, .long v_thoughtFees, .ref q_image, .long v_imageFees, .int v_hasImage, .ref q_tape, .int v_taped, .ref q_texts, .ref q_sizes, .int v_programs, .ref q_imageTexts, .ref q_imageSizes, .int v_imagePrograms, .int v_here, .int v_open, .int v_running, .int v_begun, .ref q_held, .ref q_marks, .int v_markMany, .ref q_trace, .int v_traced, .ref q_keptBalances, .ref q_keptFees, .int v_deep, .ref q_way, .ref q_sorts, .ref q_rowMany, .ref q_items, .ref q_moved], eI q_s k_s 125 f_s] sz) := by
  refine Met.ofW (cc := cX10_sum) (maxL := 5) (ret := (some .long)) (by decide) rfl ?_
  intro p e s m args below meth c s₁ B hml hv
  obtain ⟨rfl, hsz, hP, hK, hD0⟩ := hv
  have hx := B.exec
  have hb := B.bytes
  have hr := B.returns
  have hts := atoms_spec (ws := wsX10_sum) B.pre
  have hown : s.vm.findClass RX10 = some m.cls := findClass_of_methodNamed B.named
  have hlocks := B.notSynchronized
  subst hsz
  have hD := hD0.self (sz := s.heap.size)
  generalize hAe : va_A [eO h0 9 [.ref q_s, .long v_fees, .ref q_thought, .long v_thoughtFees, .ref q_image, .long v_imageFees, .int v_hasImage, .ref q_tape, .int v_taped, .ref q_texts, .ref q_sizes, .int v_programs, .ref q_imageTexts, .ref q_imageSizes, .int v_imagePrograms, .int v_here, .int v_open, .int v_running, .int v_begun, .ref q_held, .ref q_marks, .int v_markMany, .ref q_trace, .int v_traced, .ref q_keptBalances, .ref q_keptFees, .int v_deep, .ref q_way, .ref q_sorts, .ref q_rowMany, .ref q_items, .ref q_moved], eI q_s k_s 125 f_s] s.heap.size = A at hD ⊢
  have hA : ∀ q : Nat, s.heap.size ≤ q → A q := fun q h => by rw [← hAe]; exact Or.inr h
  have hS : va_S A s.heap s.heap [] := va_S.rf
  have hP : va_P (dC, dI) vwCl [eO h0 9 [.ref q_s, .long v_fees, .ref q_thought, .long v_thoughtFees, .ref q_image, .long v_imageFees, .int v_hasImage, .ref q_tape, .int v_taped, .ref q_texts, .ref q_sizes, .int v_programs, .ref q_imageTexts, .ref q_imageSizes, .int v_imagePrograms, .int v_here, .int v_open, .int v_running, .int v_begun, .ref q_held, .ref q_marks, .int v_markMany, .ref q_trace, .int v_traced, .ref q_keptBalances, .ref q_keptFees, .int v_deep, .ref q_way, .ref q_sorts, .ref q_rowMany, .ref q_items, .ref q_moved], eI q_s k_s 125 f_s] s.heap := hP
  have hl := lv_entry ([.ref h0, .int p0]) (n := 5) (Nat.le_of_ble_eq_true rfl)
  rw [lg_entry_eq]
  generalize (lg_sl ([.ref h0, .int p0]) ++ List.replicate (5 - (lg_sl ([.ref h0, .int p0])).length) Slot.unset).toArray = ls at hl ⊢
  have hl : lv_has ls 5 [(0, .ref h0), (1, .int p0)] := hl
  suffices key9 : ∀ Q9 : State → Prop, Q9 = (MQ below (va_Ql (fun (r : Int64) (_ : Unit) => True) (fun (_ : Unit) (t : State) => va_P (dC, dI) vwCl [eO h0 9 [.ref q_s, .long v_fees, .ref q_thought, .long v_thoughtFees, .ref q_image, .long v_imageFees, .int v_hasImage, .ref q_tape, .int v_taped, .ref q_texts, .ref q_sizes, .int v_programs, .ref q_imageTexts, .ref q_imageSizes, .int v_imagePrograms, .int v_here, .int v_open, .int v_running, .int v_begun, .ref q_held, .ref q_marks, .int v_markMany, .ref q_trace, .int v_traced, .ref q_keptBalances, .ref q_keptFees, .int v_deep, .ref q_way, .ref q_sorts, .ref q_rowMany, .ref q_items, .ref q_moved], eI q_s k_s 125 f_s] t.heap ∧ va_K (dC, dI) vwCl [(k_s, .int)] t ∧ va_D A [eO h0 9 [.ref q_s, .long v_fees, .ref q_thought, .long v_thoughtFees, .ref q_image, .long v_imageFees, .int v_hasImage, .ref q_tape, .int v_taped, .ref q_texts, .ref q_sizes, .int v_programs, .ref q_imageTexts, .ref q_imageSizes, .int v_imagePrograms, .int v_here, .int v_open, .int v_running, .int v_begun, .ref q_held, .ref q_marks, .int v_markMany, .ref q_trace, .int v_traced, .ref q_keptBalances, .ref q_keptFees, .int v_deep, .ref q_way, .ref q_sorts, .ref q_rowMany, .ref q_items, .ref q_moved], eI q_s k_s 125 f_s]) A) (([.ref h0, .int p0] : List Value).toArray) s 0 0 A) → W p l e ({ frames := 1, cells := 0, slots := 0, locals := 25 }) s m (([.ref h0, .int p0] : List Value).toArray) below meth c s.heap [] 0 0 Q9 (F0 m 0 ls []) from key9 _ rfl
  intro Q9 hQ9
  have k_1 : (1 : Int32).toInt = 1 := by decide
  have k_2 : (2 : Int32).toInt = 2 := by decide
  have k_8 : (8 : Int32).toInt = 8 := by decide
  have k_61 : (61 : Int32).toInt = 61 := by decide
  have k_64 : (64 : Int32).toInt = 64 := by decide
  have kl_0 : (0 : Int64).toInt = 0 := by decide
  have kl_2 : (2 : Int64).toInt = 2 := by decide
  obtain ⟨ha1, ha2, hown9⟩ := id hms
  refine lv_iload_n hx hb dX10_sum_0 rfl (lv_at hl 1 rfl) ?_
  refine lv_i2l (v := p0.toInt64) hx hb dX10_sum_1 rfl ?_
  have t_t1 := Int32.toInt_toInt64 p0
  refine lv_lconst (v := 0) hx hb dX10_sum_2 (by decide) ?_
  refine lv_ldc2 hx hb hown (hts (.constantLong RX10 90 (2)) (List.mem_cons_of_mem _ mw_674)) dX10_sum_3 ?_
  obtain ⟨hPc, hDc, hFc, hCm, hNw⟩ := C_s (wc := []) hP hD hS hA [] 2 rfl (by decide +kernel) rfl
  have hKc := K_s (tys' := []) hK [] rfl
  refine va_calli (va_runS (As := [.long p0.toInt64, .long 0, .long 2]) (rest := []) ⟨hx, hb, hml, hown, hts⟩ (c_X10_isIn l dC dI (p0.toInt64) 0 2 s.heap.size) (va_cwS 3 hts gX10_sum_X10_isIn rfl rfl rfl (by decide +kernel) ⟨Nat.le_of_ble_eq_true rfl, Nat.le_of_ble_eq_true rfl⟩) ⟨fun a U g mk q => by obtain ⟨q0, q1, qP, qK, qD⟩ := q; exact ⟨q0, q1, qP, va_K.moved (u := U) (U := U.calling g mk a) (Vm.Alike.refl U.vm) qK, qD⟩, fun U hU hW => ⟨rfl, by rw [hU], by rw [hU]; exact hPc, va_K.moved hW.alike hKc, hDc.weaken (fun _ _ _ _ => trivial)⟩⟩ rfl rfl hl.1 rfl (lv_room (Nat.le_of_ble_eq_true rfl)) dX10_sum_6 ⟨Nat.le_of_ble_eq_true rfl, Nat.le_of_ble_eq_true rfl⟩) hS (fun q _ h => hFc q h) hFc (fun r2 u t H1 locs ht hvm hw hB hz1 hk1 hS => ?_)
  obtain ⟨hP1, hK1, hD1⟩ := hB
  rw [ht] at hP1
  have hK1 := va_K.moved hvm.symm hK1
  try dsimp only at hw
  obtain ⟨hP, hD⟩ := J_s (wL := [eO h0 9 [.ref q_s, .long v_fees, .ref q_thought, .long v_thoughtFees, .ref q_image, .long v_imageFees, .int v_hasImage, .ref q_tape, .int v_taped, .ref q_texts, .ref q_sizes, .int v_programs, .ref q_imageTexts, .ref q_imageSizes, .int v_imagePrograms, .int v_here, .int v_open, .int v_running, .int v_begun, .ref q_held, .ref q_marks, .int v_markMany, .ref q_trace, .int v_traced, .ref q_keptBalances, .ref q_keptFees, .int v_deep, .ref q_way, .ref q_sorts, .ref q_rowMany, .ref q_items, .ref q_moved], eI q_s k_s 125 f_s]) hP hD [] [(0, 2)] hCm hNw (by decide +kernel) hk1 hFc hP1 hD1 rfl
  have hK := KJ_s (tys' := [(k_s, .int)]) hK hK1 [(0, 1)] rfl
  generalize H1 = H at hP hS ⊢
  rcases hw with ⟨e_r2, f_r2⟩ | ⟨e_r2, f_r2⟩
  · subst e_r2
    refine lv_if_ne (tgt := 16) hx hb dX10_sum_9 (by decide) (fun c3 => ?_) (fun c3 => absurd c3 (by decide))
    refine lv_iload_n hx hb dX10_sum_16 rfl (lv_at hl 1 rfl) ?_
    refine lv_iconst (v := 2) hx hb dX10_sum_17 (by decide) ?_
    refine lv_icmp_ne (tgt := 25) hx hb dX10_sum_18 (by decide) (fun c4 => ?_) (fun c4 => ?_)
    · skip
      have f_c4 := i_ne c4
      refine lv_aload_n hx hb dX10_sum_25 rfl (lv_at hl 0 rfl) ?_
      refine va_get (D := (dC, dI)) (ci := 9) (v := .long v_fees) (C := RX10) (T := TX10) (N := 32) hx hb hts (fun w h => List.mem_cons_of_mem _ (inlX10 w h)) hown hK hP 0 rfl rfl 1 (by decide) (hts (.fieldLink RX10 110 "ClearingGatesModel" "fees" "J") (List.mem_cons_of_mem _ mw_610)) (fun _ h9 => h9) rfl dX10_sum_26 ?_
      refine lv_lstore_n (lv' := [(2, .long v_fees), (0, .ref h0), (1, .int p0)]) hx hb dX10_sum_29 rfl hl (by decide) rfl (fun ls hl => ?_)
      refine lv_iconst (v := 0) hx hb dX10_sum_30 (by decide) ?_
      refine lv_istore (lv' := [(4, .int 0), (2, .long v_fees), (0, .ref h0), (1, .int p0)]) hx hb dX10_sum_31 hl (by decide) rfl (fun ls hl => ?_)
      have loop_33 : ∀ (n i_33 : Nat) (x_33 : Int32), i_33 ≤ 8 → 8 < i_33 + n → x_33 = nI i_33 → ∀ (al : Int64), ∀ (H : Heap) (locs : List Loc), va_K (dC, dI) vwCl [(k_s, .int)] s → va_P (dC, dI) vwCl [eO h0 9 [.ref q_s, .long v_fees, .ref q_thought, .long v_thoughtFees, .ref q_image, .long v_imageFees, .int v_hasImage, .ref q_tape, .int v_taped, .ref q_texts, .ref q_sizes, .int v_programs, .ref q_imageTexts, .ref q_imageSizes, .int v_imagePrograms, .int v_here, .int v_open, .int v_running, .int v_begun, .ref q_held, .ref q_marks, .int v_markMany, .ref q_trace, .int v_traced, .ref q_keptBalances, .ref q_keptFees, .int v_deep, .ref q_way, .ref q_sorts, .ref q_rowMany, .ref q_items, .ref q_moved], eI q_s k_s 125 f_s] H → va_D A [eO h0 9 [.ref q_s, .long v_fees, .ref q_thought, .long v_thoughtFees, .ref q_image, .long v_imageFees, .int v_hasImage, .ref q_tape, .int v_taped, .ref q_texts, .ref q_sizes, .int v_programs, .ref q_imageTexts, .ref q_imageSizes, .int v_imagePrograms, .int v_here, .int v_open, .int v_running, .int v_begun, .ref q_held, .ref q_marks, .int v_markMany, .ref q_trace, .int v_traced, .ref q_keptBalances, .ref q_keptFees, .int v_deep, .ref q_way, .ref q_sorts, .ref q_rowMany, .ref q_items, .ref q_moved], eI q_s k_s 125 f_s] → va_S A s.heap H locs → ∀ (ls : Array Slot), lv_has ls 5 [(4, .int x_33), (2, .long al), (0, .ref h0), (1, .int p0)] → W p l e ({ frames := 1, cells := 0, slots := 0, locals := 25 }) s m (([.ref h0, .int p0] : List Value).toArray) below meth c H locs 0 0 Q9 (F0 m 33 ls []) := by
        intro n
        induction n with
        | zero => intro i_33 x_33 h1 h2; exact absurd h2 (by omega)
        | succ n ih_33 =>
          intro i_33 x_33 hi_33 hn_33 e_x_33 al H locs hK hP hD hS ls hl
          have t_x_33 : x_33.toInt = (i_33 : Int) := by rw [e_x_33]; exact nI_toInt (by omega)
          refine lv_iload hx hb dX10_sum_33 (lv_at hl 0 rfl) ?_
          refine lv_aload_n hx hb dX10_sum_35 rfl (lv_at hl 2 rfl) ?_
          refine va_get (D := (dC, dI)) (ci := 9) (v := .ref q_s) (C := RX10) (T := TX10) (N := 32) hx hb hts (fun w h => List.mem_cons_of_mem _ (inlX10 w h)) hown hK hP 0 rfl rfl 0 (by decide) (hts (.fieldLink RX10 11 "ClearingGatesModel" "s" "[I") (List.mem_cons_of_mem _ mw_609)) (fun _ h9 => h9) rfl dX10_sum_36 ?_
          refine lv_bipush (v := 60) hx hb dX10_sum_39 (by decide) ?_
          refine va_iald (D := (dC, dI)) hx hb hK hP 1 0 rfl rfl (vp_in_iff.mpr ⟨by decide, by decide⟩) dX10_sum_41 ?_
          refine lv_topi (fun z5 e_z5 => ?_)
          have a_z5 : z5.toInt = (f_s 60).toInt := by rw [e_z5]; rfl
          refine lv_icmp_ge (tgt := 70) hx hb dX10_sum_42 (by decide) (fun c6 => ?_) (fun c6 => ?_)
          · skip
            have f_c6 := i_le c6
            refine lv_iconst (v := 0) hx hb dX10_sum_70 (by decide) ?_
            refine lv_istore (lv' := [(4, .int 0), (2, .long al), (0, .ref h0), (1, .int p0)]) hx hb dX10_sum_71 hl (by decide) rfl (fun ls hl => ?_)
            have loop_73 : ∀ (n i_73 : Nat) (x_73 : Int32), i_73 ≤ 64 → 64 < i_73 + n → x_73 = nI i_73 → ∀ (al : Int64), ∀ (H : Heap) (locs : List Loc), va_K (dC, dI) vwCl [(k_s, .int)] s → va_P (dC, dI) vwCl [eO h0 9 [.ref q_s, .long v_fees, .ref q_thought, .long v_thoughtFees, .ref q_image, .long v_imageFees, .int v_hasImage, .ref q_tape, .int v_taped, .ref q_texts, .ref q_sizes, .int v_programs, .ref q_imageTexts, .ref q_imageSizes, .int v_imagePrograms, .int v_here, .int v_open, .int v_running, .int v_begun, .ref q_held, .ref q_marks, .int v_markMany, .ref q_trace, .int v_traced, .ref q_keptBalances, .ref q_keptFees, .int v_deep, .ref q_way, .ref q_sorts, .ref q_rowMany, .ref q_items, .ref q_moved], eI q_s k_s 125 f_s] H → va_D A [eO h0 9 [.ref q_s, .long v_fees, .ref q_thought, .long v_thoughtFees, .ref q_image, .long v_imageFees, .int v_hasImage, .ref q_tape, .int v_taped, .ref q_texts, .ref q_sizes, .int v_programs, .ref q_imageTexts, .ref q_imageSizes, .int v_imagePrograms, .int v_here, .int v_open, .int v_running, .int v_begun, .ref q_held, .ref q_marks, .int v_markMany, .ref q_trace, .int v_traced, .ref q_keptBalances, .ref q_keptFees, .int v_deep, .ref q_way, .ref q_sorts, .ref q_rowMany, .ref q_items, .ref q_moved], eI q_s k_s 125 f_s] → va_S A s.heap H locs → ∀ (ls : Array Slot), lv_has ls 5 [(4, .int x_73), (2, .long al), (0, .ref h0), (1, .int p0)] → W p l e ({ frames := 1, cells := 0, slots := 0, locals := 25 }) s m (([.ref h0, .int p0] : List Value).toArray) below meth c H locs 0 0 Q9 (F0 m 73 ls []) := by
              intro n
              induction n with
              | zero => intro i_73 x_73 h1 h2; exact absurd h2 (by omega)
              | succ n ih_73 =>
                intro i_73 x_73 hi_73 hn_73 e_x_73 al H locs hK hP hD hS ls hl
                have t_x_73 : x_73.toInt = (i_73 : Int) := by rw [e_x_73]; exact nI_toInt (by omega)
                refine lv_iload hx hb dX10_sum_73 (lv_at hl 0 rfl) ?_
                refine lv_bipush (v := 64) hx hb dX10_sum_75 (by decide) ?_
                refine lv_icmp_ge (tgt := 105) hx hb dX10_sum_77 (by decide) (fun c7 => ?_) (fun c7 => ?_)
                · skip
                  have f_c7 := i_le c7
                  refine lv_lload_n hx hb dX10_sum_105 rfl (lv_at hl 1 rfl) ?_
                  rw [hQ9]
                  exact W.lret (v := al) hx hb hr (fun t ht hW => ⟨⟨al, (), rfl, (by first | rfl | trivial), by rw [ht]; exact hP, va_K.moved hW.alike hK, hD⟩, hS.F ht⟩) hS.2.2 dX10_sum_106
                · skip
                  have f_c7 := i_nle c7
                  refine lv_iload_n hx hb dX10_sum_80 rfl (lv_at hl 3 rfl) ?_
                  refine lv_iconst (v := 2) hx hb dX10_sum_81 (by decide) ?_
                  refine lv_icmp_ne (tgt := 105) hx hb dX10_sum_82 (by decide) (fun c8 => ?_) (fun c8 => ?_)
                  · skip
                    have f_c8 := i_ne c8
                    refine lv_lload_n hx hb dX10_sum_105 rfl (lv_at hl 1 rfl) ?_
                    rw [hQ9]
                    exact W.lret (v := al) hx hb hr (fun t ht hW => ⟨⟨al, (), rfl, (by first | rfl | trivial), by rw [ht]; exact hP, va_K.moved hW.alike hK, hD⟩, hS.F ht⟩) hS.2.2 dX10_sum_106
                  · skip
                    have f_c8 := i_eq c8
                    exfalso; omega
            exact loop_73 (64 + 1) 0 0 (by omega) (by omega) rfl al  _ _ hK hP hD hS ls hl
          · skip
            have f_c6 := i_nle c6
            refine lv_iload_n hx hb dX10_sum_45 rfl (lv_at hl 3 rfl) ?_
            refine lv_iconst (v := 1) hx hb dX10_sum_46 (by decide) ?_
            refine lv_icmp_ne (tgt := 70) hx hb dX10_sum_47 (by decide) (fun c9 => ?_) (fun c9 => ?_)
            · skip
              have f_c9 := i_ne c9
              refine lv_iconst (v := 0) hx hb dX10_sum_70 (by decide) ?_
              refine lv_istore (lv' := [(4, .int 0), (2, .long al), (0, .ref h0), (1, .int p0)]) hx hb dX10_sum_71 hl (by decide) rfl (fun ls hl => ?_)
              have loop_73 : ∀ (n i_73 : Nat) (x_73 : Int32), i_73 ≤ 64 → 64 < i_73 + n → x_73 = nI i_73 → ∀ (al : Int64), ∀ (H : Heap) (locs : List Loc), va_K (dC, dI) vwCl [(k_s, .int)] s → va_P (dC, dI) vwCl [eO h0 9 [.ref q_s, .long v_fees, .ref q_thought, .long v_thoughtFees, .ref q_image, .long v_imageFees, .int v_hasImage, .ref q_tape, .int v_taped, .ref q_texts, .ref q_sizes, .int v_programs, .ref q_imageTexts, .ref q_imageSizes, .int v_imagePrograms, .int v_here, .int v_open, .int v_running, .int v_begun, .ref q_held, .ref q_marks, .int v_markMany, .ref q_trace, .int v_traced, .ref q_keptBalances, .ref q_keptFees, .int v_deep, .ref q_way, .ref q_sorts, .ref q_rowMany, .ref q_items, .ref q_moved], eI q_s k_s 125 f_s] H → va_D A [eO h0 9 [.ref q_s, .long v_fees, .ref q_thought, .long v_thoughtFees, .ref q_image, .long v_imageFees, .int v_hasImage, .ref q_tape, .int v_taped, .ref q_texts, .ref q_sizes, .int v_programs, .ref q_imageTexts, .ref q_imageSizes, .int v_imagePrograms, .int v_here, .int v_open, .int v_running, .int v_begun, .ref q_held, .ref q_marks, .int v_markMany, .ref q_trace, .int v_traced, .ref q_keptBalances, .ref q_keptFees, .int v_deep, .ref q_way, .ref q_sorts, .ref q_rowMany, .ref q_items, .ref q_moved], eI q_s k_s 125 f_s] → va_S A s.heap H locs → ∀ (ls : Array Slot), lv_has ls 5 [(4, .int x_73), (2, .long al), (0, .ref h0), (1, .int p0)] → W p l e ({ frames := 1, cells := 0, slots := 0, locals := 25 }) s m (([.ref h0, .int p0] : List Value).toArray) below meth c H locs 0 0 Q9 (F0 m 73 ls []) := by
                intro n
                induction n with
                | zero => intro i_73 x_73 h1 h2; exact absurd h2 (by omega)
                | succ n ih_73 =>
                  intro i_73 x_73 hi_73 hn_73 e_x_73 al H locs hK hP hD hS ls hl
                  have t_x_73 : x_73.toInt = (i_73 : Int) := by rw [e_x_73]; exact nI_toInt (by omega)
                  refine lv_iload hx hb dX10_sum_73 (lv_at hl 0 rfl) ?_
                  refine lv_bipush (v := 64) hx hb dX10_sum_75 (by decide) ?_
                  refine lv_icmp_ge (tgt := 105) hx hb dX10_sum_77 (by decide) (fun c10 => ?_) (fun c10 => ?_)
                  · skip
                    have f_c10 := i_le c10
                    refine lv_lload_n hx hb dX10_sum_105 rfl (lv_at hl 1 rfl) ?_
                    rw [hQ9]
                    exact W.lret (v := al) hx hb hr (fun t ht hW => ⟨⟨al, (), rfl, (by first | rfl | trivial), by rw [ht]; exact hP, va_K.moved hW.alike hK, hD⟩, hS.F ht⟩) hS.2.2 dX10_sum_106
                  · skip
                    have f_c10 := i_nle c10
                    refine lv_iload_n hx hb dX10_sum_80 rfl (lv_at hl 3 rfl) ?_
                    refine lv_iconst (v := 2) hx hb dX10_sum_81 (by decide) ?_
                    refine lv_icmp_ne (tgt := 105) hx hb dX10_sum_82 (by decide) (fun c11 => ?_) (fun c11 => ?_)
                    · skip
                      have f_c11 := i_ne c11
                      refine lv_lload_n hx hb dX10_sum_105 rfl (lv_at hl 1 rfl) ?_
                      rw [hQ9]
                      exact W.lret (v := al) hx hb hr (fun t ht hW => ⟨⟨al, (), rfl, (by first | rfl | trivial), by rw [ht]; exact hP, va_K.moved hW.alike hK, hD⟩, hS.F ht⟩) hS.2.2 dX10_sum_106
                    · skip
                      have f_c11 := i_eq c11
                      exfalso; omega
              exact loop_73 (64 + 1) 0 0 (by omega) (by omega) rfl al  _ _ hK hP hD hS ls hl
            · skip
              have f_c9 := i_eq c9
              refine lv_lload_n hx hb dX10_sum_50 rfl (lv_at hl 1 rfl) ?_
              refine lv_aload_n hx hb dX10_sum_51 rfl (lv_at hl 2 rfl) ?_
              refine va_get (D := (dC, dI)) (ci := 9) (v := .ref q_s) (C := RX10) (T := TX10) (N := 32) hx hb hts (fun w h => List.mem_cons_of_mem _ (inlX10 w h)) hown hK hP 0 rfl rfl 0 (by decide) (hts (.fieldLink RX10 11 "ClearingGatesModel" "s" "[I") (List.mem_cons_of_mem _ mw_609)) (fun _ h9 => h9) rfl dX10_sum_52 ?_
              refine lv_bipush (v := 8) hx hb dX10_sum_55 (by decide) ?_
              refine lv_iload hx hb dX10_sum_57 (lv_at hl 0 rfl) ?_
              refine lv_iadd hx hb dX10_sum_59 ?_
              refine lv_topi (fun z12 e_z12 => ?_)
              (first | have t_z12 := i_add e_z12 (by omega) (by omega) | skip)
              refine va_iald (D := (dC, dI)) hx hb hK hP 1 0 rfl rfl (vp_in_iff.mpr ⟨by omega, by omega⟩) dX10_sum_60 ?_
              refine lv_topi (fun z13 e_z13 => ?_)
              refine lv_i2l (v := z13.toInt64) hx hb dX10_sum_61 rfl ?_
              have t_t14 := Int32.toInt_toInt64 z13
              refine lv_ladd hx hb dX10_sum_62 ?_
              refine lv_topl (fun z15 e_z15 => ?_)
              refine lv_lstore_n (lv' := [(2, .long z15), (4, .int x_33), (0, .ref h0), (1, .int p0)]) hx hb dX10_sum_63 rfl hl (by decide) rfl (fun ls hl => ?_)
              obtain ⟨x16, e_x16⟩ : ∃ yy : Int32, yy = x_33 + 1 := ⟨_, rfl⟩
              refine lv_iinc (v := x16) (lv' := [(4, .int x16), (2, .long z15), (0, .ref h0), (1, .int p0)]) hx hb dX10_sum_64 hl (k := 1) rfl (by rw [e_x16]; rfl) (by decide) rfl (fun ls hl => ?_)
              (first | have t_x16 := i_add e_x16 (by omega) (by omega) | skip)
              refine lv_goto (tgt := 33) hx hb dX10_sum_67 (by decide) ?_
              exact ih_33 (i_33 + 1) x16 (by omega) (by omega) (by rw [e_x16, e_x_33]; exact nI_1 i_33) z15  _ _ (K_s hK [(0, 1)] rfl) (P_s hP [(0, 2)] rfl) (D_s hD [(0, 2)] 2 rfl (by decide +kernel) rfl) hS ls (lv_sub hl [0, 1, 2, 3] rfl)
      exact loop_33 (8 + 1) 0 0 (by omega) (by omega) rfl v_fees  _ _ hK hP hD hS ls hl
    · skip
      have f_c4 := i_eq c4
      refine lv_lconst (v := 0) hx hb dX10_sum_21 (by decide) ?_
      refine lv_goto (tgt := 29) hx hb dX10_sum_22 (by decide) ?_
      refine lv_lstore_n (lv' := [(2, .long 0), (0, .ref h0), (1, .int p0)]) hx hb dX10_sum_29 rfl hl (by decide) rfl (fun ls hl => ?_)
      refine lv_iconst (v := 0) hx hb dX10_sum_30 (by decide) ?_
      refine lv_istore (lv' := [(4, .int 0), (2, .long 0), (0, .ref h0), (1, .int p0)]) hx hb dX10_sum_31 hl (by decide) rfl (fun ls hl => ?_)
      have loop_33 : ∀ (n i_33 : Nat) (x_33 : Int32), i_33 ≤ 8 → 8 < i_33 + n → x_33 = nI i_33 → ∀ (al : Int64), ∀ (H : Heap) (locs : List Loc), va_K (dC, dI) vwCl [(k_s, .int)] s → va_P (dC, dI) vwCl [eO h0 9 [.ref q_s, .long v_fees, .ref q_thought, .long v_thoughtFees, .ref q_image, .long v_imageFees, .int v_hasImage, .ref q_tape, .int v_taped, .ref q_texts, .ref q_sizes, .int v_programs, .ref q_imageTexts, .ref q_imageSizes, .int v_imagePrograms, .int v_here, .int v_open, .int v_running, .int v_begun, .ref q_held, .ref q_marks, .int v_markMany, .ref q_trace, .int v_traced, .ref q_keptBalances, .ref q_keptFees, .int v_deep, .ref q_way, .ref q_sorts, .ref q_rowMany, .ref q_items, .ref q_moved], eI q_s k_s 125 f_s] H → va_D A [eO h0 9 [.ref q_s, .long v_fees, .ref q_thought, .long v_thoughtFees, .ref q_image, .long v_imageFees, .int v_hasImage, .ref q_tape, .int v_taped, .ref q_texts, .ref q_sizes, .int v_programs, .ref q_imageTexts, .ref q_imageSizes, .int v_imagePrograms, .int v_here, .int v_open, .int v_running, .int v_begun, .ref q_held, .ref q_marks, .int v_markMany, .ref q_trace, .int v_traced, .ref q_keptBalances, .ref q_keptFees, .int v_deep, .ref q_way, .ref q_sorts, .ref q_rowMany, .ref q_items, .ref q_moved], eI q_s k_s 125 f_s] → va_S A s.heap H locs → ∀ (ls : Array Slot), lv_has ls 5 [(4, .int x_33), (2, .long al), (0, .ref h0), (1, .int p0)] → W p l e ({ frames := 1, cells := 0, slots := 0, locals := 25 }) s m (([.ref h0, .int p0] : List Value).toArray) below meth c H locs 0 0 Q9 (F0 m 33 ls []) := by
        intro n
        induction n with
        | zero => intro i_33 x_33 h1 h2; exact absurd h2 (by omega)
        | succ n ih_33 =>
          intro i_33 x_33 hi_33 hn_33 e_x_33 al H locs hK hP hD hS ls hl
          have t_x_33 : x_33.toInt = (i_33 : Int) := by rw [e_x_33]; exact nI_toInt (by omega)
          refine lv_iload hx hb dX10_sum_33 (lv_at hl 0 rfl) ?_
          refine lv_aload_n hx hb dX10_sum_35 rfl (lv_at hl 2 rfl) ?_
          refine va_get (D := (dC, dI)) (ci := 9) (v := .ref q_s) (C := RX10) (T := TX10) (N := 32) hx hb hts (fun w h => List.mem_cons_of_mem _ (inlX10 w h)) hown hK hP 0 rfl rfl 0 (by decide) (hts (.fieldLink RX10 11 "ClearingGatesModel" "s" "[I") (List.mem_cons_of_mem _ mw_609)) (fun _ h9 => h9) rfl dX10_sum_36 ?_
          refine lv_bipush (v := 60) hx hb dX10_sum_39 (by decide) ?_
          refine va_iald (D := (dC, dI)) hx hb hK hP 1 0 rfl rfl (vp_in_iff.mpr ⟨by decide, by decide⟩) dX10_sum_41 ?_
          refine lv_topi (fun z17 e_z17 => ?_)
          have a_z17 : z17.toInt = (f_s 60).toInt := by rw [e_z17]; rfl
          refine lv_icmp_ge (tgt := 70) hx hb dX10_sum_42 (by decide) (fun c18 => ?_) (fun c18 => ?_)
          · skip
            have f_c18 := i_le c18
            refine lv_iconst (v := 0) hx hb dX10_sum_70 (by decide) ?_
            refine lv_istore (lv' := [(4, .int 0), (2, .long al), (0, .ref h0), (1, .int p0)]) hx hb dX10_sum_71 hl (by decide) rfl (fun ls hl => ?_)
            have loop_73 : ∀ (n i_73 : Nat) (x_73 : Int32), i_73 ≤ 64 → 64 < i_73 + n → x_73 = nI i_73 → ∀ (al : Int64), ∀ (H : Heap) (locs : List Loc), va_K (dC, dI) vwCl [(k_s, .int)] s → va_P (dC, dI) vwCl [eO h0 9 [.ref q_s, .long v_fees, .ref q_thought, .long v_thoughtFees, .ref q_image, .long v_imageFees, .int v_hasImage, .ref q_tape, .int v_taped, .ref q_texts, .ref q_sizes, .int v_programs, .ref q_imageTexts, .ref q_imageSizes, .int v_imagePrograms, .int v_here, .int v_open, .int v_running, .int v_begun, .ref q_held, .ref q_marks, .int v_markMany, .ref q_trace, .int v_traced, .ref q_keptBalances, .ref q_keptFees, .int v_deep, .ref q_way, .ref q_sorts, .ref q_rowMany, .ref q_items, .ref q_moved], eI q_s k_s 125 f_s] H → va_D A [eO h0 9 [.ref q_s, .long v_fees, .ref q_thought, .long v_thoughtFees, .ref q_image, .long v_imageFees, .int v_hasImage, .ref q_tape, .int v_taped, .ref q_texts, .ref q_sizes, .int v_programs, .ref q_imageTexts, .ref q_imageSizes, .int v_imagePrograms, .int v_here, .int v_open, .int v_running, .int v_begun, .ref q_held, .ref q_marks, .int v_markMany, .ref q_trace, .int v_traced, .ref q_keptBalances, .ref q_keptFees, .int v_deep, .ref q_way, .ref q_sorts, .ref q_rowMany, .ref q_items, .ref q_moved], eI q_s k_s 125 f_s] → va_S A s.heap H locs → ∀ (ls : Array Slot), lv_has ls 5 [(4, .int x_73), (2, .long al), (0, .ref h0), (1, .int p0)] → W p l e ({ frames := 1, cells := 0, slots := 0, locals := 25 }) s m (([.ref h0, .int p0] : List Value).toArray) below meth c H locs 0 0 Q9 (F0 m 73 ls []) := by
              intro n
              induction n with
              | zero => intro i_73 x_73 h1 h2; exact absurd h2 (by omega)
              | succ n ih_73 =>
                intro i_73 x_73 hi_73 hn_73 e_x_73 al H locs hK hP hD hS ls hl
                have t_x_73 : x_73.toInt = (i_73 : Int) := by rw [e_x_73]; exact nI_toInt (by omega)
                refine lv_iload hx hb dX10_sum_73 (lv_at hl 0 rfl) ?_
                refine lv_bipush (v := 64) hx hb dX10_sum_75 (by decide) ?_
                refine lv_icmp_ge (tgt := 105) hx hb dX10_sum_77 (by decide) (fun c19 => ?_) (fun c19 => ?_)
                · skip
                  have f_c19 := i_le c19
                  refine lv_lload_n hx hb dX10_sum_105 rfl (lv_at hl 1 rfl) ?_
                  rw [hQ9]
                  exact W.lret (v := al) hx hb hr (fun t ht hW => ⟨⟨al, (), rfl, (by first | rfl | trivial), by rw [ht]; exact hP, va_K.moved hW.alike hK, hD⟩, hS.F ht⟩) hS.2.2 dX10_sum_106
                · skip
                  have f_c19 := i_nle c19
                  refine lv_iload_n hx hb dX10_sum_80 rfl (lv_at hl 3 rfl) ?_
                  refine lv_iconst (v := 2) hx hb dX10_sum_81 (by decide) ?_
                  refine lv_icmp_ne (tgt := 105) hx hb dX10_sum_82 (by decide) (fun c20 => ?_) (fun c20 => ?_)
                  · skip
                    have f_c20 := i_ne c20
                    exfalso; omega
                  · skip
                    have f_c20 := i_eq c20
                    refine lv_lload_n hx hb dX10_sum_85 rfl (lv_at hl 1 rfl) ?_
                    refine lv_aload_n hx hb dX10_sum_86 rfl (lv_at hl 2 rfl) ?_
                    refine va_get (D := (dC, dI)) (ci := 9) (v := .ref q_s) (C := RX10) (T := TX10) (N := 32) hx hb hts (fun w h => List.mem_cons_of_mem _ (inlX10 w h)) hown hK hP 0 rfl rfl 0 (by decide) (hts (.fieldLink RX10 11 "ClearingGatesModel" "s" "[I") (List.mem_cons_of_mem _ mw_609)) (fun _ h9 => h9) rfl dX10_sum_87 ?_
                    refine lv_bipush (v := 61) hx hb dX10_sum_90 (by decide) ?_
                    refine lv_iload hx hb dX10_sum_92 (lv_at hl 0 rfl) ?_
                    refine lv_iadd hx hb dX10_sum_94 ?_
                    refine lv_topi (fun z21 e_z21 => ?_)
                    (first | have t_z21 := i_add e_z21 (by omega) (by omega) | skip)
                    refine va_iald (D := (dC, dI)) hx hb hK hP 1 0 rfl rfl (vp_in_iff.mpr ⟨by omega, by omega⟩) dX10_sum_95 ?_
                    refine lv_topi (fun z22 e_z22 => ?_)
                    refine lv_i2l (v := z22.toInt64) hx hb dX10_sum_96 rfl ?_
                    have t_t23 := Int32.toInt_toInt64 z22
                    refine lv_ladd hx hb dX10_sum_97 ?_
                    refine lv_topl (fun z24 e_z24 => ?_)
                    refine lv_lstore_n (lv' := [(2, .long z24), (4, .int x_73), (0, .ref h0), (1, .int p0)]) hx hb dX10_sum_98 rfl hl (by decide) rfl (fun ls hl => ?_)
                    obtain ⟨x25, e_x25⟩ : ∃ yy : Int32, yy = x_73 + 1 := ⟨_, rfl⟩
                    refine lv_iinc (v := x25) (lv' := [(4, .int x25), (2, .long z24), (0, .ref h0), (1, .int p0)]) hx hb dX10_sum_99 hl (k := 1) rfl (by rw [e_x25]; rfl) (by decide) rfl (fun ls hl => ?_)
                    (first | have t_x25 := i_add e_x25 (by omega) (by omega) | skip)
                    refine lv_goto (tgt := 73) hx hb dX10_sum_102 (by decide) ?_
                    exact ih_73 (i_73 + 1) x25 (by omega) (by omega) (by rw [e_x25, e_x_73]; exact nI_1 i_73) z24  _ _ (K_s hK [(0, 1)] rfl) (P_s hP [(0, 2)] rfl) (D_s hD [(0, 2)] 2 rfl (by decide +kernel) rfl) hS ls (lv_sub hl [0, 1, 2, 3] rfl)
            exact loop_73 (64 + 1) 0 0 (by omega) (by omega) rfl al  _ _ hK hP hD hS ls hl
          · skip
            have f_c18 := i_nle c18
            refine lv_iload_n hx hb dX10_sum_45 rfl (lv_at hl 3 rfl) ?_
            refine lv_iconst (v := 1) hx hb dX10_sum_46 (by decide) ?_
            refine lv_icmp_ne (tgt := 70) hx hb dX10_sum_47 (by decide) (fun c26 => ?_) (fun c26 => ?_)
            · skip
              have f_c26 := i_ne c26
              refine lv_iconst (v := 0) hx hb dX10_sum_70 (by decide) ?_
              refine lv_istore (lv' := [(4, .int 0), (2, .long al), (0, .ref h0), (1, .int p0)]) hx hb dX10_sum_71 hl (by decide) rfl (fun ls hl => ?_)
              have loop_73 : ∀ (n i_73 : Nat) (x_73 : Int32), i_73 ≤ 64 → 64 < i_73 + n → x_73 = nI i_73 → ∀ (al : Int64), ∀ (H : Heap) (locs : List Loc), va_K (dC, dI) vwCl [(k_s, .int)] s → va_P (dC, dI) vwCl [eO h0 9 [.ref q_s, .long v_fees, .ref q_thought, .long v_thoughtFees, .ref q_image, .long v_imageFees, .int v_hasImage, .ref q_tape, .int v_taped, .ref q_texts, .ref q_sizes, .int v_programs, .ref q_imageTexts, .ref q_imageSizes, .int v_imagePrograms, .int v_here, .int v_open, .int v_running, .int v_begun, .ref q_held, .ref q_marks, .int v_markMany, .ref q_trace, .int v_traced, .ref q_keptBalances, .ref q_keptFees, .int v_deep, .ref q_way, .ref q_sorts, .ref q_rowMany, .ref q_items, .ref q_moved], eI q_s k_s 125 f_s] H → va_D A [eO h0 9 [.ref q_s, .long v_fees, .ref q_thought, .long v_thoughtFees, .ref q_image, .long v_imageFees, .int v_hasImage, .ref q_tape, .int v_taped, .ref q_texts, .ref q_sizes, .int v_programs, .ref q_imageTexts, .ref q_imageSizes, .int v_imagePrograms, .int v_here, .int v_open, .int v_running, .int v_begun, .ref q_held, .ref q_marks, .int v_markMany, .ref q_trace, .int v_traced, .ref q_keptBalances, .ref q_keptFees, .int v_deep, .ref q_way, .ref q_sorts, .ref q_rowMany, .ref q_items, .ref q_moved], eI q_s k_s 125 f_s] → va_S A s.heap H locs → ∀ (ls : Array Slot), lv_has ls 5 [(4, .int x_73), (2, .long al), (0, .ref h0), (1, .int p0)] → W p l e ({ frames := 1, cells := 0, slots := 0, locals := 25 }) s m (([.ref h0, .int p0] : List Value).toArray) below meth c H locs 0 0 Q9 (F0 m 73 ls []) := by
                intro n
                induction n with
                | zero => intro i_73 x_73 h1 h2; exact absurd h2 (by omega)
                | succ n ih_73 =>
                  intro i_73 x_73 hi_73 hn_73 e_x_73 al H locs hK hP hD hS ls hl
                  have t_x_73 : x_73.toInt = (i_73 : Int) := by rw [e_x_73]; exact nI_toInt (by omega)
                  refine lv_iload hx hb dX10_sum_73 (lv_at hl 0 rfl) ?_
                  refine lv_bipush (v := 64) hx hb dX10_sum_75 (by decide) ?_
                  refine lv_icmp_ge (tgt := 105) hx hb dX10_sum_77 (by decide) (fun c27 => ?_) (fun c27 => ?_)
                  · skip
                    have f_c27 := i_le c27
                    refine lv_lload_n hx hb dX10_sum_105 rfl (lv_at hl 1 rfl) ?_
                    rw [hQ9]
                    exact W.lret (v := al) hx hb hr (fun t ht hW => ⟨⟨al, (), rfl, (by first | rfl | trivial), by rw [ht]; exact hP, va_K.moved hW.alike hK, hD⟩, hS.F ht⟩) hS.2.2 dX10_sum_106
                  · skip
                    have f_c27 := i_nle c27
                    refine lv_iload_n hx hb dX10_sum_80 rfl (lv_at hl 3 rfl) ?_
                    refine lv_iconst (v := 2) hx hb dX10_sum_81 (by decide) ?_
                    refine lv_icmp_ne (tgt := 105) hx hb dX10_sum_82 (by decide) (fun c28 => ?_) (fun c28 => ?_)
                    · skip
                      have f_c28 := i_ne c28
                      exfalso; omega
                    · skip
                      have f_c28 := i_eq c28
                      refine lv_lload_n hx hb dX10_sum_85 rfl (lv_at hl 1 rfl) ?_
                      refine lv_aload_n hx hb dX10_sum_86 rfl (lv_at hl 2 rfl) ?_
                      refine va_get (D := (dC, dI)) (ci := 9) (v := .ref q_s) (C := RX10) (T := TX10) (N := 32) hx hb hts (fun w h => List.mem_cons_of_mem _ (inlX10 w h)) hown hK hP 0 rfl rfl 0 (by decide) (hts (.fieldLink RX10 11 "ClearingGatesModel" "s" "[I") (List.mem_cons_of_mem _ mw_609)) (fun _ h9 => h9) rfl dX10_sum_87 ?_
                      refine lv_bipush (v := 61) hx hb dX10_sum_90 (by decide) ?_
                      refine lv_iload hx hb dX10_sum_92 (lv_at hl 0 rfl) ?_
                      refine lv_iadd hx hb dX10_sum_94 ?_
                      refine lv_topi (fun z29 e_z29 => ?_)
                      (first | have t_z29 := i_add e_z29 (by omega) (by omega) | skip)
                      refine va_iald (D := (dC, dI)) hx hb hK hP 1 0 rfl rfl (vp_in_iff.mpr ⟨by omega, by omega⟩) dX10_sum_95 ?_
                      refine lv_topi (fun z30 e_z30 => ?_)
                      refine lv_i2l (v := z30.toInt64) hx hb dX10_sum_96 rfl ?_
                      have t_t31 := Int32.toInt_toInt64 z30
                      refine lv_ladd hx hb dX10_sum_97 ?_
                      refine lv_topl (fun z32 e_z32 => ?_)
                      refine lv_lstore_n (lv' := [(2, .long z32), (4, .int x_73), (0, .ref h0), (1, .int p0)]) hx hb dX10_sum_98 rfl hl (by decide) rfl (fun ls hl => ?_)
                      obtain ⟨x33, e_x33⟩ : ∃ yy : Int32, yy = x_73 + 1 := ⟨_, rfl⟩
                      refine lv_iinc (v := x33) (lv' := [(4, .int x33), (2, .long z32), (0, .ref h0), (1, .int p0)]) hx hb dX10_sum_99 hl (k := 1) rfl (by rw [e_x33]; rfl) (by decide) rfl (fun ls hl => ?_)
                      (first | have t_x33 := i_add e_x33 (by omega) (by omega) | skip)
                      refine lv_goto (tgt := 73) hx hb dX10_sum_102 (by decide) ?_
                      exact ih_73 (i_73 + 1) x33 (by omega) (by omega) (by rw [e_x33, e_x_73]; exact nI_1 i_73) z32  _ _ (K_s hK [(0, 1)] rfl) (P_s hP [(0, 2)] rfl) (D_s hD [(0, 2)] 2 rfl (by decide +kernel) rfl) hS ls (lv_sub hl [0, 1, 2, 3] rfl)
              exact loop_73 (64 + 1) 0 0 (by omega) (by omega) rfl al  _ _ hK hP hD hS ls hl
            · skip
              have f_c26 := i_eq c26
              exfalso; omega
      exact loop_33 (8 + 1) 0 0 (by omega) (by omega) rfl 0  _ _ hK hP hD hS ls hl
  · subst e_r2
    refine lv_if_ne (tgt := 16) hx hb dX10_sum_9 (by decide) (fun c34 => absurd (by decide) c34) (fun c34 => ?_)
    refine lv_ldc2 hx hb hown (hts (.constantLong RX10 81 (-9223372036854775808)) (List.mem_cons_of_mem _ mw_658)) dX10_sum_12 ?_
    rw [hQ9]
    exact W.lret (v := (-9223372036854775808)) hx hb hr (fun t ht hW => ⟨⟨(-9223372036854775808), (), rfl, (by first | rfl | trivial), by rw [ht]; exact hP, va_K.moved hW.alike hK, hD⟩, hS.F ht⟩) hS.2.2 dX10_sum_15

set_option maxRecDepth 100000 in
set_option maxHeartbeats 4000000 in
/-- taken of the reference -/
theorem c_X10_taken (l : Launch) (dC : Nat → ClassId) (dI : Nat → Nat → Nat) (h0 : Nat) (p0 : Int32) (p1 : Int32) (q_s : Nat) (v_fees : Int64) (q_thought : Nat) (v_thoughtFees : Int64) (q_image : Nat) (v_imageFees : Int64) (v_hasImage : Int32) (q_tape : Nat) (v_taped : Int32) (q_texts : Nat) (q_sizes : Nat) (v_programs : Int32) (q_imageTexts : Nat) (q_imageSizes : Nat) (v_imagePrograms : Int32) (v_here : Int32) (v_open : Int32) (v_running : Int32) (v_begun : Int32) (q_held : Nat) (q_marks : Nat) (v_markMany : Int32) (q_trace : Nat) (v_traced : Int32) (q_keptBalances : Nat) (q_keptFees : Nat) (v_deep : Int32) (q_way : Nat) (q_sorts : Nat) (q_rowMany : Nat) (q_items : Nat) (q_moved : Nat) (k_s : ClassId) (f_s : Nat → Int32) (sz : Nat) (hms : ms f_s) : Met l yX10_taken wsX10_taken ({ frames := 2, cells := 0, slots := 0, locals := 46 }) (va_Pc [.ref h0, .int p0, .int p1] (fun U => U.heap.size = sz ∧ va_P (dC, dI) vwCl [eO h0 9 [.ref q_s, .long v_fees, .ref q_thought, .long v_thoughtFees, .ref q_image, .long v_imageFees, .int v_hasImage, .ref q_tape, .int v_taped, .ref q_texts, .ref q_sizes, .int v_programs, .ref q_imageTexts, .ref q_imageSizes, .int v_imagePrograms, .int v_here, .int v_open, .int v_running, .int v_begun, .ref q_held, .ref q_marks, .int v_markMany, .ref q_trace, .int v_traced, .ref q_keptBalances, .ref q_keptFees, .int v_deep, .ref q_way, .ref q_sorts, .ref q_rowMany, .ref q_items, .ref q_moved], eI q_s k_s 125 f_s] U.heap ∧ va_K (dC, dI) vwCl [(k_s, .int)] U ∧ va_D (fun _ => True) [eO h0 9 [.ref q_s, .long v_fees, .ref q_thought, .long v_thoughtFees, .ref q_image, .long v_imageFees, .int v_hasImage, .ref q_tape, .int v_taped, .ref q_texts, .ref q_sizes, .int v_programs, .ref q_imageTexts, .ref q_imageSizes, .int v_imagePrograms, .int v_here, .int v_open, .int v_running, .int v_begun, .ref q_held, .ref q_marks, .int v_markMany, .ref q_trace, .int v_traced, .ref q_keptBalances, .ref q_keptFees, .int v_deep, .ref q_way, .ref q_sorts, .ref q_rowMany, .ref q_items, .ref q_moved], eI q_s k_s 125 f_s])) (va_Qi (fun (r : Int32) (_ : Unit) => (r.toInt = -2 ∧ ¬(0 ≤ p0.toInt ∧ p0.toInt < (f_s 60).toInt ∧ 0 ≤ p1.toInt ∧ p1.toInt < 5)) ∨ ((0 ≤ p0.toInt ∧ p0.toInt < (f_s 60).toInt ∧ 0 ≤ p1.toInt ∧ p1.toInt < 5) ∧ ((f_s p0.toInt.toNat).toInt = p1.toInt ∨ p1.toInt = 0 ∨ ((f_s p0.toInt.toNat).toInt = 3 ∧ p1.toInt = 2) ∨ ((f_s p0.toInt.toNat).toInt = 4 ∧ p1.toInt = 1)) ∧ r.toInt = (f_s (16 + p0.toInt.toNat)).toInt) ∨ ((0 ≤ p0.toInt ∧ p0.toInt < (f_s 60).toInt ∧ 0 ≤ p1.toInt ∧ p1.toInt < 5) ∧ ¬((f_s p0.toInt.toNat).toInt = p1.toInt ∨ p1.toInt = 0 ∨ ((f_s p0.toInt.toNat).toInt = 3 ∧ p1.toInt = 2) ∨ ((f_s p0.toInt.toNat).toInt = 4 ∧ p1.toInt = 1)) ∧ r.toInt = -13)) (fun (_ : Unit) (t : State) => va_P (dC, dI) vwCl [eO h0 9 [.ref q_s, .long v_fees, .ref q_thought, .long v_thoughtFees, .ref q_image, .long v_imageFees, .int v_hasImage, .ref q_tape, .int v_taped, .ref q_texts, .ref q_sizes, .int v_programs, .ref q_imageTexts, .ref q_imageSizes, .int v_imagePrograms, .int v_here, .int v_open, .int v_running, .int v_begun, .ref q_held, .ref q_marks, .int v_markMany, .ref q_trace, .int v_traced, .ref q_keptBalances, .ref q_keptFees, .int v_deep, .ref q_way, .ref q_sorts, .ref q_rowMany, .ref q_items, .ref q_moved], eI q_s k_s 125 f_s] t.heap ∧ va_K (dC, dI) vwCl [(k_s, .int)] t ∧ va_D (va_A [eO h0 9 [.ref q_s, .long v_fees, .ref q_thought, .long v_thoughtFees, .ref q_image, .long v_imageFees, .int v_hasImage, .ref q_tape, .int v_taped, .ref q_texts, .ref q_sizes, .int v_programs, .ref q_imageTexts, .ref q_imageSizes, .int v_imagePrograms, .int v_here, .int v_open, .int v_running, .int v_begun, .ref q_held, .ref q_marks, .int v_markMany, .ref q_trace, .int v_traced, .ref q_keptBalances, .ref q_keptFees, .int v_deep, .ref q_way, .ref q_sorts, .ref q_rowMany, .ref q_items, .ref q_moved], eI q_s k_s 125 f_s] sz) [eO h0 9 [.ref q_s, .long v_fees, .ref q_thought, .long v_thoughtFees, .ref q_image, .long v_imageFees, .int v_hasImage, .ref q_tape, .int v_taped, .ref q_texts, .ref q_sizes, .int v_programs, .ref q_imageTexts, .ref q_imageSizes, .int v_imagePrograms, .int v_here, .int v_open, .int v_running, .int v_begun, .ref q_held, .ref q_marks, .int v_markMany, .ref q_trace, .int v_traced, .ref q_keptBalances, .ref q_keptFees, .int v_deep, .ref q_way, .ref q_sorts, .ref q_rowMany, .ref q_items, .ref q_moved], eI q_s k_s 125 f_s]) (va_A [eO h0 9 [.ref q_s, .long v_fees, .ref q_thought, .long v_thoughtFees, .ref q_image, .long v_imageFees, .int v_hasImage, .ref q_tape, .int v_taped, .ref q_texts, .ref q_sizes, .int v_programs, .ref q_imageTexts, .ref q_imageSizes, .int v_imagePrograms, .int v_here, .int v_open, .int v_running, .int v_begun, .ref q_held, .ref q_marks, .int v_markMany, .ref q_trace, .int v_traced, .ref q_keptBalances, .ref q_keptFees, .int v_deep, .ref q_way, .ref q_sorts, .ref q_rowMany, .ref q_items, .ref q_moved], eI q_s k_s 125 f_s] sz)) 0 0 (va_A [eO h0 9 [.ref q_s, .long v_fees, .ref q_thought, .long v_thoughtFees, .ref q_image, .long v_imageFees, .int v_hasImage, .ref q_tape, .int v_taped, .ref q_texts, .ref q_sizes, .int v_programs, .ref q_imageTexts, .ref q_imageSizes, .int v_imagePrograms, .int v_here, .int v_open, .int v_running, .int v_begun, .ref q_held, .ref q_marks, .int v_markMany, .ref q_trace, .int v_traced, .ref q_keptBalances, .ref q_keptFees, .int v_deep, .ref q_way, .ref q_sorts, .ref q_rowMany, .ref q_items, .ref q_moved], eI q_s k_s 125 f_s] sz) := by
  refine Met.ofW (cc := cX10_taken) (maxL := 4) (ret := (some .int)) (by decide) rfl ?_
  intro p e s m args below meth c s₁ B hml hv
  obtain ⟨rfl, hsz, hP, hK, hD0⟩ := hv
  have hx := B.exec
  have hb := B.bytes
  have hr := B.returns
  have hts := atoms_spec (ws := wsX10_taken) B.pre
  have hown : s.vm.findClass RX10 = some m.cls := findClass_of_methodNamed B.named
  have hlocks := B.notSynchronized
  subst hsz
  have hD := hD0.self (sz := s.heap.size)
  generalize hAe : va_A [eO h0 9 [.ref q_s, .long v_fees, .ref q_thought, .long v_thoughtFees, .ref q_image, .long v_imageFees, .int v_hasImage, .ref q_tape, .int v_taped, .ref q_texts, .ref q_sizes, .int v_programs, .ref q_imageTexts, .ref q_imageSizes, .int v_imagePrograms, .int v_here, .int v_open, .int v_running, .int v_begun, .ref q_held, .ref q_marks, .int v_markMany, .ref q_trace, .int v_traced, .ref q_keptBalances, .ref q_keptFees, .int v_deep, .ref q_way, .ref q_sorts, .ref q_rowMany, .ref q_items, .ref q_moved], eI q_s k_s 125 f_s] s.heap.size = A at hD ⊢
  have hA : ∀ q : Nat, s.heap.size ≤ q → A q := fun q h => by rw [← hAe]; exact Or.inr h
  have hS : va_S A s.heap s.heap [] := va_S.rf
  have hP : va_P (dC, dI) vwCl [eO h0 9 [.ref q_s, .long v_fees, .ref q_thought, .long v_thoughtFees, .ref q_image, .long v_imageFees, .int v_hasImage, .ref q_tape, .int v_taped, .ref q_texts, .ref q_sizes, .int v_programs, .ref q_imageTexts, .ref q_imageSizes, .int v_imagePrograms, .int v_here, .int v_open, .int v_running, .int v_begun, .ref q_held, .ref q_marks, .int v_markMany, .ref q_trace, .int v_traced, .ref q_keptBalances, .ref q_keptFees, .int v_deep, .ref q_way, .ref q_sorts, .ref q_rowMany, .ref q_items, .ref q_moved], eI q_s k_s 125 f_s] s.heap := hP
  have hl := lv_entry ([.ref h0, .int p0, .int p1]) (n := 4) (Nat.le_of_ble_eq_true rfl)
  rw [lg_entry_eq]
  generalize (lg_sl ([.ref h0, .int p0, .int p1]) ++ List.replicate (4 - (lg_sl ([.ref h0, .int p0, .int p1])).length) Slot.unset).toArray = ls at hl ⊢
  have hl : lv_has ls 4 [(0, .ref h0), (1, .int p0), (2, .int p1)] := hl
  suffices key9 : ∀ Q9 : State → Prop, Q9 = (MQ below (va_Qi (fun (r : Int32) (_ : Unit) => (r.toInt = -2 ∧ ¬(0 ≤ p0.toInt ∧ p0.toInt < (f_s 60).toInt ∧ 0 ≤ p1.toInt ∧ p1.toInt < 5)) ∨ ((0 ≤ p0.toInt ∧ p0.toInt < (f_s 60).toInt ∧ 0 ≤ p1.toInt ∧ p1.toInt < 5) ∧ ((f_s p0.toInt.toNat).toInt = p1.toInt ∨ p1.toInt = 0 ∨ ((f_s p0.toInt.toNat).toInt = 3 ∧ p1.toInt = 2) ∨ ((f_s p0.toInt.toNat).toInt = 4 ∧ p1.toInt = 1)) ∧ r.toInt = (f_s (16 + p0.toInt.toNat)).toInt) ∨ ((0 ≤ p0.toInt ∧ p0.toInt < (f_s 60).toInt ∧ 0 ≤ p1.toInt ∧ p1.toInt < 5) ∧ ¬((f_s p0.toInt.toNat).toInt = p1.toInt ∨ p1.toInt = 0 ∨ ((f_s p0.toInt.toNat).toInt = 3 ∧ p1.toInt = 2) ∨ ((f_s p0.toInt.toNat).toInt = 4 ∧ p1.toInt = 1)) ∧ r.toInt = -13)) (fun (_ : Unit) (t : State) => va_P (dC, dI) vwCl [eO h0 9 [.ref q_s, .long v_fees, .ref q_thought, .long v_thoughtFees, .ref q_image, .long v_imageFees, .int v_hasImage, .ref q_tape, .int v_taped, .ref q_texts, .ref q_sizes, .int v_programs, .ref q_imageTexts, .ref q_imageSizes, .int v_imagePrograms, .int v_here, .int v_open, .int v_running, .int v_begun, .ref q_held, .ref q_marks, .int v_markMany, .ref q_trace, .int v_traced, .ref q_keptBalances, .ref q_keptFees, .int v_deep, .ref q_way, .ref q_sorts, .ref q_rowMany, .ref q_items, .ref q_moved], eI q_s k_s 125 f_s] t.heap ∧ va_K (dC, dI) vwCl [(k_s, .int)] t ∧ va_D A [eO h0 9 [.ref q_s, .long v_fees, .ref q_thought, .long v_thoughtFees, .ref q_image, .long v_imageFees, .int v_hasImage, .ref q_tape, .int v_taped, .ref q_texts, .ref q_sizes, .int v_programs, .ref q_imageTexts, .ref q_imageSizes, .int v_imagePrograms, .int v_here, .int v_open, .int v_running, .int v_begun, .ref q_held, .ref q_marks, .int v_markMany, .ref q_trace, .int v_traced, .ref q_keptBalances, .ref q_keptFees, .int v_deep, .ref q_way, .ref q_sorts, .ref q_rowMany, .ref q_items, .ref q_moved], eI q_s k_s 125 f_s]) A) (([.ref h0, .int p0, .int p1] : List Value).toArray) s 0 0 A) → W p l e ({ frames := 2, cells := 0, slots := 0, locals := 46 }) s m (([.ref h0, .int p0, .int p1] : List Value).toArray) below meth c s.heap [] 0 0 Q9 (F0 m 0 ls []) from key9 _ rfl
  intro Q9 hQ9
  have k_m13 : ((-13) : Int32).toInt = (-13) := by decide
  have k_m2 : ((-2) : Int32).toInt = (-2) := by decide
  have k_0 : (0 : Int32).toInt = 0 := by decide
  have k_16 : (16 : Int32).toInt = 16 := by decide
  have kl_0 : (0 : Int64).toInt = 0 := by decide
  have kl_4 : (4 : Int64).toInt = 4 := by decide
  obtain ⟨ha1, ha2, hown9⟩ := id hms
  refine lv_aload_n hx hb dX10_taken_0 rfl (lv_at hl 0 rfl) ?_
  refine lv_iload_n hx hb dX10_taken_1 rfl (lv_at hl 1 rfl) ?_
  obtain ⟨hPc, hDc, hFc, hCm, hNw⟩ := C_s (wc := [eO h0 9 [.ref q_s, .long v_fees, .ref q_thought, .long v_thoughtFees, .ref q_image, .long v_imageFees, .int v_hasImage, .ref q_tape, .int v_taped, .ref q_texts, .ref q_sizes, .int v_programs, .ref q_imageTexts, .ref q_imageSizes, .int v_imagePrograms, .int v_here, .int v_open, .int v_running, .int v_begun, .ref q_held, .ref q_marks, .int v_markMany, .ref q_trace, .int v_traced, .ref q_keptBalances, .ref q_keptFees, .int v_deep, .ref q_way, .ref q_sorts, .ref q_rowMany, .ref q_items, .ref q_moved], eI q_s k_s 125 f_s]) hP hD hS hA [(0, 2)] 2 rfl (by decide +kernel) rfl
  have hKc := K_s (tys' := [(k_s, .int)]) hK [(0, 1)] rfl
  refine va_calli (va_runV (As := [.int p0]) (rest := []) ⟨hx, hb, hml, hown, hts⟩ (c_X10_isAccount l dC dI h0 p0 q_s v_fees q_thought v_thoughtFees q_image v_imageFees v_hasImage q_tape v_taped q_texts q_sizes v_programs q_imageTexts q_imageSizes v_imagePrograms v_here v_open v_running v_begun q_held q_marks v_markMany q_trace v_traced q_keptBalances q_keptFees v_deep q_way q_sorts q_rowMany q_items q_moved k_s f_s s.heap.size (by first | assumption | omega) (by first | assumption | omega)) (cwV 1 hts gX10_taken_X10_isAccount rfl rfl rfl (by decide +kernel) ⟨Nat.le_of_ble_eq_true rfl, Nat.le_of_ble_eq_true rfl⟩) ⟨fun a U g mk q => by obtain ⟨q0, q1, qP, qK, qD⟩ := q; exact ⟨q0, q1, qP, va_K.moved (u := U) (U := U.calling g mk a) (Vm.Alike.refl U.vm) qK, qD⟩, va_recv (s := s) (q := (RX10, TX10, 32)) hKc hPc (ci := 9) (q0 := 0) rfl rfl, fun U hU hW => ⟨rfl, by rw [hU], by rw [hU]; exact hPc, va_K.moved hW.alike hKc, hDc.weaken (fun _ _ _ _ => trivial)⟩⟩ rfl rfl hl.1 rfl (lv_room (Nat.le_of_ble_eq_true rfl)) dX10_taken_2 ⟨Nat.le_of_ble_eq_true rfl, Nat.le_of_ble_eq_true rfl⟩) hS (fun q _ h => hFc q h) hFc (fun r1 u t H1 locs ht hvm hw hB hz1 hk1 hS => ?_)
  obtain ⟨hP1, hK1, hD1⟩ := hB
  rw [ht] at hP1
  have hK1 := va_K.moved hvm.symm hK1
  try dsimp only at hw
  obtain ⟨hP, hD⟩ := J_s (wL := [eO h0 9 [.ref q_s, .long v_fees, .ref q_thought, .long v_thoughtFees, .ref q_image, .long v_imageFees, .int v_hasImage, .ref q_tape, .int v_taped, .ref q_texts, .ref q_sizes, .int v_programs, .ref q_imageTexts, .ref q_imageSizes, .int v_imagePrograms, .int v_here, .int v_open, .int v_running, .int v_begun, .ref q_held, .ref q_marks, .int v_markMany, .ref q_trace, .int v_traced, .ref q_keptBalances, .ref q_keptFees, .int v_deep, .ref q_way, .ref q_sorts, .ref q_rowMany, .ref q_items, .ref q_moved], eI q_s k_s 125 f_s]) hP hD [(0, 2)] [] hCm hNw (by decide +kernel) hk1 hFc hP1 hD1 rfl
  have hK := KJ_s (tys' := [(k_s, .int)]) hK hK1 [] rfl
  generalize H1 = H at hP hS ⊢
  rcases hw with ⟨e_r1, f_r1⟩ | ⟨e_r1, f_r1⟩
  · subst e_r1
    refine lv_if_eq (tgt := 20) hx hb dX10_taken_5 (by decide) (fun c2 => absurd c2 (by decide)) (fun c2 => ?_)
    refine lv_iload_n hx hb dX10_taken_8 rfl (lv_at hl 2 rfl) ?_
    refine lv_i2l (v := p1.toInt64) hx hb dX10_taken_9 rfl ?_
    have t_t3 := Int32.toInt_toInt64 p1
    refine lv_lconst (v := 0) hx hb dX10_taken_10 (by decide) ?_
    refine lv_ldc2 hx hb hown (hts (.constantLong RX10 71 (4)) (List.mem_cons_of_mem _ mw_645)) dX10_taken_11 ?_
    obtain ⟨hPc, hDc, hFc, hCm, hNw⟩ := C_s (wc := []) hP hD hS hA [] 2 rfl (by decide +kernel) rfl
    have hKc := K_s (tys' := []) hK [] rfl
    refine va_calli (va_runS (As := [.long p1.toInt64, .long 0, .long 4]) (rest := []) ⟨hx, hb, hml, hown, hts⟩ (c_X10_isIn l dC dI (p1.toInt64) 0 4 H.size) (va_cwS 3 hts gX10_taken_X10_isIn rfl rfl rfl (by decide +kernel) ⟨Nat.le_of_ble_eq_true rfl, Nat.le_of_ble_eq_true rfl⟩) ⟨fun a U g mk q => by obtain ⟨q0, q1, qP, qK, qD⟩ := q; exact ⟨q0, q1, qP, va_K.moved (u := U) (U := U.calling g mk a) (Vm.Alike.refl U.vm) qK, qD⟩, fun U hU hW => ⟨rfl, by rw [hU], by rw [hU]; exact hPc, va_K.moved hW.alike hKc, hDc.weaken (fun _ _ _ _ => trivial)⟩⟩ rfl rfl hl.1 rfl (lv_room (Nat.le_of_ble_eq_true rfl)) dX10_taken_14 ⟨Nat.le_of_ble_eq_true rfl, Nat.le_of_ble_eq_true rfl⟩) hS (fun q _ h => hFc q h) hFc (fun r4 u t H1 locs ht hvm hw hB hz1 hk1 hS => ?_)
    obtain ⟨hP1, hK1, hD1⟩ := hB
    rw [ht] at hP1
    have hK1 := va_K.moved hvm.symm hK1
    try dsimp only at hw
    obtain ⟨hP, hD⟩ := J_s (wL := [eO h0 9 [.ref q_s, .long v_fees, .ref q_thought, .long v_thoughtFees, .ref q_image, .long v_imageFees, .int v_hasImage, .ref q_tape, .int v_taped, .ref q_texts, .ref q_sizes, .int v_programs, .ref q_imageTexts, .ref q_imageSizes, .int v_imagePrograms, .int v_here, .int v_open, .int v_running, .int v_begun, .ref q_held, .ref q_marks, .int v_markMany, .ref q_trace, .int v_traced, .ref q_keptBalances, .ref q_keptFees, .int v_deep, .ref q_way, .ref q_sorts, .ref q_rowMany, .ref q_items, .ref q_moved], eI q_s k_s 125 f_s]) hP hD [] [(0, 2)] hCm hNw (by decide +kernel) hk1 hFc hP1 hD1 rfl
    have hK := KJ_s (tys' := [(k_s, .int)]) hK hK1 [(0, 1)] rfl
    generalize H1 = H at hP hS ⊢
    rcases hw with ⟨e_r4, f_r4⟩ | ⟨e_r4, f_r4⟩
    · subst e_r4
      refine lv_if_ne (tgt := 23) hx hb dX10_taken_17 (by decide) (fun c5 => ?_) (fun c5 => absurd c5 (by decide))
      refine lv_aload_n hx hb dX10_taken_23 rfl (lv_at hl 0 rfl) ?_
      refine va_get (D := (dC, dI)) (ci := 9) (v := .ref q_s) (C := RX10) (T := TX10) (N := 32) hx hb hts (fun w h => List.mem_cons_of_mem _ (inlX10 w h)) hown hK hP 0 rfl rfl 0 (by decide) (hts (.fieldLink RX10 11 "ClearingGatesModel" "s" "[I") (List.mem_cons_of_mem _ mw_609)) (fun _ h9 => h9) rfl dX10_taken_24 ?_
      refine lv_iconst (v := 0) hx hb dX10_taken_27 (by decide) ?_
      refine lv_iload_n hx hb dX10_taken_28 rfl (lv_at hl 1 rfl) ?_
      refine lv_iadd hx hb dX10_taken_29 ?_
      refine lv_topi (fun z6 e_z6 => ?_)
      (first | have t_z6 := i_add e_z6 (by omega) (by omega) | skip)
      refine va_iald (D := (dC, dI)) hx hb hK hP 1 0 rfl rfl (vp_in_iff.mpr ⟨by omega, by omega⟩) dX10_taken_30 ?_
      refine lv_topi (fun z7 e_z7 => ?_)
      have u_z7 : z7.toInt = (f_s (p0.toInt.toNat)).toInt := by rw [e_z7, i_nat (k := p0.toInt.toNat) (by omega)]
      refine lv_istore_n (lv' := [(3, .int z7), (0, .ref h0), (1, .int p0), (2, .int p1)]) hx hb dX10_taken_31 rfl hl (by decide) rfl (fun ls hl => ?_)
      have loop_32 : ∀ (n : Nat) (x : Int32) (fu : Int), (0 ≤ fu) → (x.toInt = (f_s p0.toInt.toNat).toInt ∨ ((f_s p0.toInt.toNat).toInt = 3 ∧ x.toInt = 2 ∧ p1.toInt ≠ 3) ∨ ((f_s p0.toInt.toNat).toInt = 4 ∧ x.toInt = 1 ∧ p1.toInt ≠ 4) ∨ (x.toInt = 0 ∧ (f_s p0.toInt.toNat).toInt ≠ p1.toInt ∧ ¬((f_s p0.toInt.toNat).toInt = 3 ∧ p1.toInt = 2) ∧ ¬((f_s p0.toInt.toNat).toInt = 4 ∧ p1.toInt = 1))) → (x.toInt = 0 ∨ (x.toInt = 3 ∨ x.toInt = 4) ∧ 2 ≤ fu ∨ x.toInt ≠ 3 ∧ x.toInt ≠ 4 ∧ 1 ≤ fu ∨ 3 ≤ fu) → (fu) < (n : Int) → ∀ (H : Heap) (locs : List Loc), va_K (dC, dI) vwCl [(k_s, .int)] s → va_P (dC, dI) vwCl [eO h0 9 [.ref q_s, .long v_fees, .ref q_thought, .long v_thoughtFees, .ref q_image, .long v_imageFees, .int v_hasImage, .ref q_tape, .int v_taped, .ref q_texts, .ref q_sizes, .int v_programs, .ref q_imageTexts, .ref q_imageSizes, .int v_imagePrograms, .int v_here, .int v_open, .int v_running, .int v_begun, .ref q_held, .ref q_marks, .int v_markMany, .ref q_trace, .int v_traced, .ref q_keptBalances, .ref q_keptFees, .int v_deep, .ref q_way, .ref q_sorts, .ref q_rowMany, .ref q_items, .ref q_moved], eI q_s k_s 125 f_s] H → va_D A [eO h0 9 [.ref q_s, .long v_fees, .ref q_thought, .long v_thoughtFees, .ref q_image, .long v_imageFees, .int v_hasImage, .ref q_tape, .int v_taped, .ref q_texts, .ref q_sizes, .int v_programs, .ref q_imageTexts, .ref q_imageSizes, .int v_imagePrograms, .int v_here, .int v_open, .int v_running, .int v_begun, .ref q_held, .ref q_marks, .int v_markMany, .ref q_trace, .int v_traced, .ref q_keptBalances, .ref q_keptFees, .int v_deep, .ref q_way, .ref q_sorts, .ref q_rowMany, .ref q_items, .ref q_moved], eI q_s k_s 125 f_s] → va_S A s.heap H locs → ∀ (ls : Array Slot), lv_has ls 4 [(3, .int x), (0, .ref h0), (1, .int p0), (2, .int p1)] → W p l e ({ frames := 2, cells := 0, slots := 0, locals := 46 }) s m (([.ref h0, .int p0, .int p1] : List Value).toArray) below meth c H locs 0 0 Q9 (F0 m 32 ls []) := by
        intro n
        induction n with
        | zero => intro x fu i1 i3 i2 hM_32; exfalso; omega
        | succ n ih_32 =>
          intro x fu i1 i3 i2 hM_32 H locs hK hP hD hS ls hl
          refine lv_iload_n hx hb dX10_taken_32 rfl (lv_at hl 0 rfl) ?_
          refine lv_iload_n hx hb dX10_taken_33 rfl (lv_at hl 3 rfl) ?_
          refine lv_icmp_eq (tgt := 49) hx hb dX10_taken_34 (by decide) (fun c8 => ?_) (fun c8 => ?_)
          · skip
            have f_c8 := i_eq c8
            refine lv_iload_n hx hb dX10_taken_49 rfl (lv_at hl 0 rfl) ?_
            refine lv_iload_n hx hb dX10_taken_50 rfl (lv_at hl 3 rfl) ?_
            refine lv_icmp_ne (tgt := 66) hx hb dX10_taken_51 (by decide) (fun c9 => ?_) (fun c9 => ?_)
            · skip
              have f_c9 := i_ne c9
              refine lv_bipush (v := -13) hx hb dX10_taken_66 (by decide) ?_
              rw [hQ9]
              exact W.iret (v := (-13)) hx hb hr (fun t ht hW => ⟨⟨(-13), (), rfl, (by omega), by rw [ht]; exact hP, va_K.moved hW.alike hK, hD⟩, hS.F ht⟩) hS.2.2 dX10_taken_68
            · skip
              have f_c9 := i_eq c9
              refine lv_aload_n hx hb dX10_taken_54 rfl (lv_at hl 1 rfl) ?_
              refine va_get (D := (dC, dI)) (ci := 9) (v := .ref q_s) (C := RX10) (T := TX10) (N := 32) hx hb hts (fun w h => List.mem_cons_of_mem _ (inlX10 w h)) hown hK hP 0 rfl rfl 0 (by decide) (hts (.fieldLink RX10 11 "ClearingGatesModel" "s" "[I") (List.mem_cons_of_mem _ mw_609)) (fun _ h9 => h9) rfl dX10_taken_55 ?_
              refine lv_bipush (v := 16) hx hb dX10_taken_58 (by decide) ?_
              refine lv_iload_n hx hb dX10_taken_60 rfl (lv_at hl 2 rfl) ?_
              refine lv_iadd hx hb dX10_taken_61 ?_
              refine lv_topi (fun z10 e_z10 => ?_)
              (first | have t_z10 := i_add e_z10 (by omega) (by omega) | skip)
              refine va_iald (D := (dC, dI)) hx hb hK hP 1 0 rfl rfl (vp_in_iff.mpr ⟨by omega, by omega⟩) dX10_taken_62 ?_
              refine lv_topi (fun z11 e_z11 => ?_)
              have u_z11 : z11.toInt = (f_s (16 + p0.toInt.toNat)).toInt := by rw [e_z11, i_nat (k := 16 + p0.toInt.toNat) (by omega)]
              refine lv_goto (tgt := 68) hx hb dX10_taken_63 (by decide) ?_
              rw [hQ9]
              exact W.iret (v := z11) hx hb hr (fun t ht hW => ⟨⟨z11, (), rfl, (by omega), by rw [ht]; exact hP, va_K.moved hW.alike hK, hD⟩, hS.F ht⟩) hS.2.2 dX10_taken_68
          · skip
            have f_c8 := i_ne c8
            refine lv_iload_n hx hb dX10_taken_37 rfl (lv_at hl 0 rfl) ?_
            refine lv_if_eq (tgt := 49) hx hb dX10_taken_38 (by decide) (fun c12 => ?_) (fun c12 => ?_)
            · skip
              have f_c12 := i_eq c12
              refine lv_iload_n hx hb dX10_taken_49 rfl (lv_at hl 0 rfl) ?_
              refine lv_iload_n hx hb dX10_taken_50 rfl (lv_at hl 3 rfl) ?_
              refine lv_icmp_ne (tgt := 66) hx hb dX10_taken_51 (by decide) (fun c13 => ?_) (fun c13 => ?_)
              · skip
                have f_c13 := i_ne c13
                refine lv_bipush (v := -13) hx hb dX10_taken_66 (by decide) ?_
                rw [hQ9]
                exact W.iret (v := (-13)) hx hb hr (fun t ht hW => ⟨⟨(-13), (), rfl, (by omega), by rw [ht]; exact hP, va_K.moved hW.alike hK, hD⟩, hS.F ht⟩) hS.2.2 dX10_taken_68
              · skip
                have f_c13 := i_eq c13
                refine lv_aload_n hx hb dX10_taken_54 rfl (lv_at hl 1 rfl) ?_
                refine va_get (D := (dC, dI)) (ci := 9) (v := .ref q_s) (C := RX10) (T := TX10) (N := 32) hx hb hts (fun w h => List.mem_cons_of_mem _ (inlX10 w h)) hown hK hP 0 rfl rfl 0 (by decide) (hts (.fieldLink RX10 11 "ClearingGatesModel" "s" "[I") (List.mem_cons_of_mem _ mw_609)) (fun _ h9 => h9) rfl dX10_taken_55 ?_
                refine lv_bipush (v := 16) hx hb dX10_taken_58 (by decide) ?_
                refine lv_iload_n hx hb dX10_taken_60 rfl (lv_at hl 2 rfl) ?_
                refine lv_iadd hx hb dX10_taken_61 ?_
                refine lv_topi (fun z14 e_z14 => ?_)
                (first | have t_z14 := i_add e_z14 (by omega) (by omega) | skip)
                refine va_iald (D := (dC, dI)) hx hb hK hP 1 0 rfl rfl (vp_in_iff.mpr ⟨by omega, by omega⟩) dX10_taken_62 ?_
                refine lv_topi (fun z15 e_z15 => ?_)
                have u_z15 : z15.toInt = (f_s (16 + p0.toInt.toNat)).toInt := by rw [e_z15, i_nat (k := 16 + p0.toInt.toNat) (by omega)]
                refine lv_goto (tgt := 68) hx hb dX10_taken_63 (by decide) ?_
                rw [hQ9]
                exact W.iret (v := z15) hx hb hr (fun t ht hW => ⟨⟨z15, (), rfl, (by omega), by rw [ht]; exact hP, va_K.moved hW.alike hK, hD⟩, hS.F ht⟩) hS.2.2 dX10_taken_68
            · skip
              have f_c12 := i_ne c12
              refine lv_iload_n hx hb dX10_taken_41 rfl (lv_at hl 0 rfl) ?_
              obtain ⟨hPc, hDc, hFc, hCm, hNw⟩ := C_s (wc := []) hP hD hS hA [] 2 rfl (by decide +kernel) rfl
              have hKc := K_s (tys' := []) hK [] rfl
              refine va_calli (va_runS (As := [.int x]) (rest := []) ⟨hx, hb, hml, hown, hts⟩ (c_X10_above l dC dI x H.size) (va_cwS 1 hts gX10_taken_X10_above rfl rfl rfl (by decide +kernel) ⟨Nat.le_of_ble_eq_true rfl, Nat.le_of_ble_eq_true rfl⟩) ⟨fun a U g mk q => by obtain ⟨q0, q1, qP, qK, qD⟩ := q; exact ⟨q0, q1, qP, va_K.moved (u := U) (U := U.calling g mk a) (Vm.Alike.refl U.vm) qK, qD⟩, fun U hU hW => ⟨rfl, by rw [hU], by rw [hU]; exact hPc, va_K.moved hW.alike hKc, hDc.weaken (fun _ _ _ _ => trivial)⟩⟩ rfl rfl hl.1 rfl (lv_room (Nat.le_of_ble_eq_true rfl)) dX10_taken_42 ⟨Nat.le_of_ble_eq_true rfl, Nat.le_of_ble_eq_true rfl⟩) hS (fun q _ h => hFc q h) hFc (fun r16 u t H1 locs ht hvm hw hB hz1 hk1 hS => ?_)
              obtain ⟨hP1, hK1, hD1⟩ := hB
              rw [ht] at hP1
              have hK1 := va_K.moved hvm.symm hK1
              try dsimp only at hw
              obtain ⟨hP, hD⟩ := J_s (wL := [eO h0 9 [.ref q_s, .long v_fees, .ref q_thought, .long v_thoughtFees, .ref q_image, .long v_imageFees, .int v_hasImage, .ref q_tape, .int v_taped, .ref q_texts, .ref q_sizes, .int v_programs, .ref q_imageTexts, .ref q_imageSizes, .int v_imagePrograms, .int v_here, .int v_open, .int v_running, .int v_begun, .ref q_held, .ref q_marks, .int v_markMany, .ref q_trace, .int v_traced, .ref q_keptBalances, .ref q_keptFees, .int v_deep, .ref q_way, .ref q_sorts, .ref q_rowMany, .ref q_items, .ref q_moved], eI q_s k_s 125 f_s]) hP hD [] [(0, 2)] hCm hNw (by decide +kernel) hk1 hFc hP1 hD1 rfl
              have hK := KJ_s (tys' := [(k_s, .int)]) hK hK1 [(0, 1)] rfl
              generalize H1 = H at hP hS ⊢
              have h_r16 := hw
              refine lv_istore_n (lv' := [(3, .int r16), (0, .ref h0), (1, .int p0), (2, .int p1)]) hx hb dX10_taken_45 rfl hl (by decide) rfl (fun ls hl => ?_)
              refine lv_goto (tgt := 32) hx hb dX10_taken_46 (by decide) ?_
              exact ih_32 r16 (fu - 1) (by first | assumption | omega | exact fz_rf _ | exact fb_rf _ | exact (fun _ _ _ => rfl)) (by first | assumption | omega | exact fz_rf _ | exact fb_rf _ | exact (fun _ _ _ => rfl)) (by first | assumption | omega | exact fz_rf _ | exact fb_rf _ | exact (fun _ _ _ => rfl)) (by omega) _ _ (K_s hK [(0, 1)] rfl) (P_s hP [(0, 2)] rfl) (D_s hD [(0, 2)] 2 rfl (by decide +kernel) rfl) hS ls (lv_sub hl [0, 1, 2, 3] rfl)
      exact loop_32 (1000) z7 3 (by first | assumption | omega | exact fz_rf _ | exact fb_rf _ | exact (fun _ _ _ => rfl)) (by first | assumption | omega | exact fz_rf _ | exact fb_rf _ | exact (fun _ _ _ => rfl)) (by first | assumption | omega | exact fz_rf _ | exact fb_rf _ | exact (fun _ _ _ => rfl)) (by omega) _ _ hK hP hD hS ls (lv_sub hl [0, 1, 2, 3] rfl)
    · subst e_r4
      refine lv_if_ne (tgt := 23) hx hb dX10_taken_17 (by decide) (fun c17 => absurd (by decide) c17) (fun c17 => ?_)
      refine lv_bipush (v := -2) hx hb dX10_taken_20 (by decide) ?_
      rw [hQ9]
      exact W.iret (v := (-2)) hx hb hr (fun t ht hW => ⟨⟨(-2), (), rfl, (by omega), by rw [ht]; exact hP, va_K.moved hW.alike hK, hD⟩, hS.F ht⟩) hS.2.2 dX10_taken_22
  · subst e_r1
    refine lv_if_eq (tgt := 20) hx hb dX10_taken_5 (by decide) (fun c18 => ?_) (fun c18 => absurd (by decide) c18)
    refine lv_bipush (v := -2) hx hb dX10_taken_20 (by decide) ?_
    rw [hQ9]
    exact W.iret (v := (-2)) hx hb hr (fun t ht hW => ⟨⟨(-2), (), rfl, (by omega), by rw [ht]; exact hP, va_K.moved hW.alike hK, hD⟩, hS.F ht⟩) hS.2.2 dX10_taken_22

set_option maxRecDepth 100000 in
set_option maxHeartbeats 4000000 in
/-- owe of the reference -/
theorem c_X10_owe (l : Launch) (dC : Nat → ClassId) (dI : Nat → Nat → Nat) (h0 : Nat) (p0 : Int32) (p1 : Int32) (p2 : Int32) (q_s : Nat) (v_fees : Int64) (q_thought : Nat) (v_thoughtFees : Int64) (q_image : Nat) (v_imageFees : Int64) (v_hasImage : Int32) (q_tape : Nat) (v_taped : Int32) (q_texts : Nat) (q_sizes : Nat) (v_programs : Int32) (q_imageTexts : Nat) (q_imageSizes : Nat) (v_imagePrograms : Int32) (v_here : Int32) (v_open : Int32) (v_running : Int32) (v_begun : Int32) (q_held : Nat) (q_marks : Nat) (v_markMany : Int32) (q_trace : Nat) (v_traced : Int32) (q_keptBalances : Nat) (q_keptFees : Nat) (v_deep : Int32) (q_way : Nat) (q_sorts : Nat) (q_rowMany : Nat) (q_items : Nat) (q_moved : Nat) (k_s : ClassId) (f_s : Nat → Int32) (sz : Nat) (hms : ms f_s) : Met l yX10_owe wsX10_owe ({ frames := 3, cells := 0, slots := 0, locals := 68 }) (va_Pc [.ref h0, .int p0, .int p1, .int p2] (fun U => U.heap.size = sz ∧ va_P (dC, dI) vwCl [eO h0 9 [.ref q_s, .long v_fees, .ref q_thought, .long v_thoughtFees, .ref q_image, .long v_imageFees, .int v_hasImage, .ref q_tape, .int v_taped, .ref q_texts, .ref q_sizes, .int v_programs, .ref q_imageTexts, .ref q_imageSizes, .int v_imagePrograms, .int v_here, .int v_open, .int v_running, .int v_begun, .ref q_held, .ref q_marks, .int v_markMany, .ref q_trace, .int v_traced, .ref q_keptBalances, .ref q_keptFees, .int v_deep, .ref q_way, .ref q_sorts, .ref q_rowMany, .ref q_items, .ref q_moved], eI q_s k_s 125 f_s] U.heap ∧ va_K (dC, dI) vwCl [(k_s, .int)] U ∧ va_D (fun _ => True) [eO h0 9 [.ref q_s, .long v_fees, .ref q_thought, .long v_thoughtFees, .ref q_image, .long v_imageFees, .int v_hasImage, .ref q_tape, .int v_taped, .ref q_texts, .ref q_sizes, .int v_programs, .ref q_imageTexts, .ref q_imageSizes, .int v_imagePrograms, .int v_here, .int v_open, .int v_running, .int v_begun, .ref q_held, .ref q_marks, .int v_markMany, .ref q_trace, .int v_traced, .ref q_keptBalances, .ref q_keptFees, .int v_deep, .ref q_way, .ref q_sorts, .ref q_rowMany, .ref q_items, .ref q_moved], eI q_s k_s 125 f_s])) (va_Qi (fun (r : Int32) (_ : Unit) => True) (fun (_ : Unit) (t : State) => ∃ (f_s' : Nat → Int32), (ms f_s') ∧ ((f_s' 60).toInt = (f_s 60).toInt) ∧ (Fb f_s' f_s) ∧ va_P (dC, dI) vwCl [eO h0 9 [.ref q_s, .long v_fees, .ref q_thought, .long v_thoughtFees, .ref q_image, .long v_imageFees, .int v_hasImage, .ref q_tape, .int v_taped, .ref q_texts, .ref q_sizes, .int v_programs, .ref q_imageTexts, .ref q_imageSizes, .int v_imagePrograms, .int v_here, .int v_open, .int v_running, .int v_begun, .ref q_held, .ref q_marks, .int v_markMany, .ref q_trace, .int v_traced, .ref q_keptBalances, .ref q_keptFees, .int v_deep, .ref q_way, .ref q_sorts, .ref q_rowMany, .ref q_items, .ref q_moved], eI q_s k_s 125 (f_s')] t.heap ∧ va_K (dC, dI) vwCl [(k_s, .int)] t ∧ va_D (va_A [eO h0 9 [.ref q_s, .long v_fees, .ref q_thought, .long v_thoughtFees, .ref q_image, .long v_imageFees, .int v_hasImage, .ref q_tape, .int v_taped, .ref q_texts, .ref q_sizes, .int v_programs, .ref q_imageTexts, .ref q_imageSizes, .int v_imagePrograms, .int v_here, .int v_open, .int v_running, .int v_begun, .ref q_held, .ref q_marks, .int v_markMany, .ref q_trace, .int v_traced, .ref q_keptBalances, .ref q_keptFees, .int v_deep, .ref q_way, .ref q_sorts, .ref q_rowMany, .ref q_items, .ref q_moved], eI q_s k_s 125 f_s] sz) [eO h0 9 [.ref q_s, .long v_fees, .ref q_thought, .long v_thoughtFees, .ref q_image, .long v_imageFees, .int v_hasImage, .ref q_tape, .int v_taped, .ref q_texts, .ref q_sizes, .int v_programs, .ref q_imageTexts, .ref q_imageSizes, .int v_imagePrograms, .int v_here, .int v_open, .int v_running, .int v_begun, .ref q_held, .ref q_marks, .int v_markMany, .ref q_trace, .int v_traced, .ref q_keptBalances, .ref q_keptFees, .int v_deep, .ref q_way, .ref q_sorts, .ref q_rowMany, .ref q_items, .ref q_moved], eI q_s k_s 125 (f_s')]) (va_A [eO h0 9 [.ref q_s, .long v_fees, .ref q_thought, .long v_thoughtFees, .ref q_image, .long v_imageFees, .int v_hasImage, .ref q_tape, .int v_taped, .ref q_texts, .ref q_sizes, .int v_programs, .ref q_imageTexts, .ref q_imageSizes, .int v_imagePrograms, .int v_here, .int v_open, .int v_running, .int v_begun, .ref q_held, .ref q_marks, .int v_markMany, .ref q_trace, .int v_traced, .ref q_keptBalances, .ref q_keptFees, .int v_deep, .ref q_way, .ref q_sorts, .ref q_rowMany, .ref q_items, .ref q_moved], eI q_s k_s 125 f_s] sz)) 0 0 (va_A [eO h0 9 [.ref q_s, .long v_fees, .ref q_thought, .long v_thoughtFees, .ref q_image, .long v_imageFees, .int v_hasImage, .ref q_tape, .int v_taped, .ref q_texts, .ref q_sizes, .int v_programs, .ref q_imageTexts, .ref q_imageSizes, .int v_imagePrograms, .int v_here, .int v_open, .int v_running, .int v_begun, .ref q_held, .ref q_marks, .int v_markMany, .ref q_trace, .int v_traced, .ref q_keptBalances, .ref q_keptFees, .int v_deep, .ref q_way, .ref q_sorts, .ref q_rowMany, .ref q_items, .ref q_moved], eI q_s k_s 125 f_s] sz) := by
  refine Met.ofW (cc := cX10_owe) (maxL := 5) (ret := (some .int)) (by decide) rfl ?_
  intro p e s m args below meth c s₁ B hml hv
  obtain ⟨rfl, hsz, hP, hK, hD0⟩ := hv
  have hx := B.exec
  have hb := B.bytes
  have hr := B.returns
  have hts := atoms_spec (ws := wsX10_owe) B.pre
  have hown : s.vm.findClass RX10 = some m.cls := findClass_of_methodNamed B.named
  have hlocks := B.notSynchronized
  subst hsz
  have hD := hD0.self (sz := s.heap.size)
  generalize hAe : va_A [eO h0 9 [.ref q_s, .long v_fees, .ref q_thought, .long v_thoughtFees, .ref q_image, .long v_imageFees, .int v_hasImage, .ref q_tape, .int v_taped, .ref q_texts, .ref q_sizes, .int v_programs, .ref q_imageTexts, .ref q_imageSizes, .int v_imagePrograms, .int v_here, .int v_open, .int v_running, .int v_begun, .ref q_held, .ref q_marks, .int v_markMany, .ref q_trace, .int v_traced, .ref q_keptBalances, .ref q_keptFees, .int v_deep, .ref q_way, .ref q_sorts, .ref q_rowMany, .ref q_items, .ref q_moved], eI q_s k_s 125 f_s] s.heap.size = A at hD ⊢
  have hA : ∀ q : Nat, s.heap.size ≤ q → A q := fun q h => by rw [← hAe]; exact Or.inr h
  have hS : va_S A s.heap s.heap [] := va_S.rf
  have hP : va_P (dC, dI) vwCl [eO h0 9 [.ref q_s, .long v_fees, .ref q_thought, .long v_thoughtFees, .ref q_image, .long v_imageFees, .int v_hasImage, .ref q_tape, .int v_taped, .ref q_texts, .ref q_sizes, .int v_programs, .ref q_imageTexts, .ref q_imageSizes, .int v_imagePrograms, .int v_here, .int v_open, .int v_running, .int v_begun, .ref q_held, .ref q_marks, .int v_markMany, .ref q_trace, .int v_traced, .ref q_keptBalances, .ref q_keptFees, .int v_deep, .ref q_way, .ref q_sorts, .ref q_rowMany, .ref q_items, .ref q_moved], eI q_s k_s 125 f_s] s.heap := hP
  have hl := lv_entry ([.ref h0, .int p0, .int p1, .int p2]) (n := 5) (Nat.le_of_ble_eq_true rfl)
  rw [lg_entry_eq]
  generalize (lg_sl ([.ref h0, .int p0, .int p1, .int p2]) ++ List.replicate (5 - (lg_sl ([.ref h0, .int p0, .int p1, .int p2])).length) Slot.unset).toArray = ls at hl ⊢
  have hl : lv_has ls 5 [(0, .ref h0), (1, .int p0), (2, .int p1), (3, .int p2)] := hl
  suffices key9 : ∀ Q9 : State → Prop, Q9 = (MQ below (va_Qi (fun (r : Int32) (_ : Unit) => True) (fun (_ : Unit) (t : State) => ∃ (f_s' : Nat → Int32), (ms f_s') ∧ ((f_s' 60).toInt = (f_s 60).toInt) ∧ (Fb f_s' f_s) ∧ va_P (dC, dI) vwCl [eO h0 9 [.ref q_s, .long v_fees, .ref q_thought, .long v_thoughtFees, .ref q_image, .long v_imageFees, .int v_hasImage, .ref q_tape, .int v_taped, .ref q_texts, .ref q_sizes, .int v_programs, .ref q_imageTexts, .ref q_imageSizes, .int v_imagePrograms, .int v_here, .int v_open, .int v_running, .int v_begun, .ref q_held, .ref q_marks, .int v_markMany, .ref q_trace, .int v_traced, .ref q_keptBalances, .ref q_keptFees, .int v_deep, .ref q_way, .ref q_sorts, .ref q_rowMany, .ref q_items, .ref q_moved], eI q_s k_s 125 (f_s')] t.heap ∧ va_K (dC, dI) vwCl [(k_s, .int)] t ∧ va_D A [eO h0 9 [.ref q_s, .long v_fees, .ref q_thought, .long v_thoughtFees, .ref q_image, .long v_imageFees, .int v_hasImage, .ref q_tape, .int v_taped, .ref q_texts, .ref q_sizes, .int v_programs, .ref q_imageTexts, .ref q_imageSizes, .int v_imagePrograms, .int v_here, .int v_open, .int v_running, .int v_begun, .ref q_held, .ref q_marks, .int v_markMany, .ref q_trace, .int v_traced, .ref q_keptBalances, .ref q_keptFees, .int v_deep, .ref q_way, .ref q_sorts, .ref q_rowMany, .ref q_items, .ref q_moved], eI q_s k_s 125 (f_s')]) A) (([.ref h0, .int p0, .int p1, .int p2] : List Value).toArray) s 0 0 A) → W p l e ({ frames := 3, cells := 0, slots := 0, locals := 68 }) s m (([.ref h0, .int p0, .int p1, .int p2] : List Value).toArray) below meth c s.heap [] 0 0 Q9 (F0 m 0 ls []) from key9 _ rfl
  intro Q9 hQ9
  have k_m2 : ((-2) : Int32).toInt = (-2) := by decide
  have k_8 : (8 : Int32).toInt = 8 := by decide
  have k_61 : (61 : Int32).toInt = 61 := by decide
  have kl_0 : (0 : Int64).toInt = 0 := by decide
  have kl_99999 : (99999 : Int64).toInt = 99999 := by decide
  obtain ⟨ha1, ha2, hown9⟩ := id hms
  refine lv_aload_n hx hb dX10_owe_0 rfl (lv_at hl 0 rfl) ?_
  refine lv_iload_n hx hb dX10_owe_1 rfl (lv_at hl 1 rfl) ?_
  refine lv_iload_n hx hb dX10_owe_2 rfl (lv_at hl 2 rfl) ?_
  obtain ⟨hPc, hDc, hFc, hCm, hNw⟩ := C_s (wc := [eO h0 9 [.ref q_s, .long v_fees, .ref q_thought, .long v_thoughtFees, .ref q_image, .long v_imageFees, .int v_hasImage, .ref q_tape, .int v_taped, .ref q_texts, .ref q_sizes, .int v_programs, .ref q_imageTexts, .ref q_imageSizes, .int v_imagePrograms, .int v_here, .int v_open, .int v_running, .int v_begun, .ref q_held, .ref q_marks, .int v_markMany, .ref q_trace, .int v_traced, .ref q_keptBalances, .ref q_keptFees, .int v_deep, .ref q_way, .ref q_sorts, .ref q_rowMany, .ref q_items, .ref q_moved], eI q_s k_s 125 f_s]) hP hD hS hA [(0, 2)] 2 rfl (by decide +kernel) rfl
  have hKc := K_s (tys' := [(k_s, .int)]) hK [(0, 1)] rfl
  refine va_calli (va_runV (As := [.int p0, .int p1]) (rest := []) ⟨hx, hb, hml, hown, hts⟩ (c_X10_areTwo l dC dI h0 p0 p1 q_s v_fees q_thought v_thoughtFees q_image v_imageFees v_hasImage q_tape v_taped q_texts q_sizes v_programs q_imageTexts q_imageSizes v_imagePrograms v_here v_open v_running v_begun q_held q_marks v_markMany q_trace v_traced q_keptBalances q_keptFees v_deep q_way q_sorts q_rowMany q_items q_moved k_s f_s s.heap.size (by first | assumption | omega) (by first | assumption | omega)) (cwV 2 hts gX10_owe_X10_areTwo rfl rfl rfl (by decide +kernel) ⟨Nat.le_of_ble_eq_true rfl, Nat.le_of_ble_eq_true rfl⟩) ⟨fun a U g mk q => by obtain ⟨q0, q1, qP, qK, qD⟩ := q; exact ⟨q0, q1, qP, va_K.moved (u := U) (U := U.calling g mk a) (Vm.Alike.refl U.vm) qK, qD⟩, va_recv (s := s) (q := (RX10, TX10, 32)) hKc hPc (ci := 9) (q0 := 0) rfl rfl, fun U hU hW => ⟨rfl, by rw [hU], by rw [hU]; exact hPc, va_K.moved hW.alike hKc, hDc.weaken (fun _ _ _ _ => trivial)⟩⟩ rfl rfl hl.1 rfl (lv_room (Nat.le_of_ble_eq_true rfl)) dX10_owe_3 ⟨Nat.le_of_ble_eq_true rfl, Nat.le_of_ble_eq_true rfl⟩) hS (fun q _ h => hFc q h) hFc (fun r1 u t H1 locs ht hvm hw hB hz1 hk1 hS => ?_)
  obtain ⟨hP1, hK1, hD1⟩ := hB
  rw [ht] at hP1
  have hK1 := va_K.moved hvm.symm hK1
  try dsimp only at hw
  obtain ⟨hP, hD⟩ := J_s (wL := [eO h0 9 [.ref q_s, .long v_fees, .ref q_thought, .long v_thoughtFees, .ref q_image, .long v_imageFees, .int v_hasImage, .ref q_tape, .int v_taped, .ref q_texts, .ref q_sizes, .int v_programs, .ref q_imageTexts, .ref q_imageSizes, .int v_imagePrograms, .int v_here, .int v_open, .int v_running, .int v_begun, .ref q_held, .ref q_marks, .int v_markMany, .ref q_trace, .int v_traced, .ref q_keptBalances, .ref q_keptFees, .int v_deep, .ref q_way, .ref q_sorts, .ref q_rowMany, .ref q_items, .ref q_moved], eI q_s k_s 125 f_s]) hP hD [(0, 2)] [] hCm hNw (by decide +kernel) hk1 hFc hP1 hD1 rfl
  have hK := KJ_s (tys' := [(k_s, .int)]) hK hK1 [] rfl
  generalize H1 = H at hP hS ⊢
  rcases hw with ⟨e_r1, f_r1⟩ | ⟨e_r1, f_r1⟩
  · subst e_r1
    refine lv_if_eq (tgt := 21) hx hb dX10_owe_6 (by decide) (fun c2 => absurd c2 (by decide)) (fun c2 => ?_)
    refine lv_iload_n hx hb dX10_owe_9 rfl (lv_at hl 3 rfl) ?_
    refine lv_i2l (v := p2.toInt64) hx hb dX10_owe_10 rfl ?_
    have t_t3 := Int32.toInt_toInt64 p2
    refine lv_lconst (v := 0) hx hb dX10_owe_11 (by decide) ?_
    refine lv_ldc2 hx hb hown (hts (.constantLong RX10 261 (99999)) (List.mem_cons_of_mem _ mw_828)) dX10_owe_12 ?_
    obtain ⟨hPc, hDc, hFc, hCm, hNw⟩ := C_s (wc := []) hP hD hS hA [] 2 rfl (by decide +kernel) rfl
    have hKc := K_s (tys' := []) hK [] rfl
    refine va_calli (va_runS (As := [.long p2.toInt64, .long 0, .long 99999]) (rest := []) ⟨hx, hb, hml, hown, hts⟩ (c_X10_isIn l dC dI (p2.toInt64) 0 99999 H.size) (va_cwS 3 hts gX10_owe_X10_isIn rfl rfl rfl (by decide +kernel) ⟨Nat.le_of_ble_eq_true rfl, Nat.le_of_ble_eq_true rfl⟩) ⟨fun a U g mk q => by obtain ⟨q0, q1, qP, qK, qD⟩ := q; exact ⟨q0, q1, qP, va_K.moved (u := U) (U := U.calling g mk a) (Vm.Alike.refl U.vm) qK, qD⟩, fun U hU hW => ⟨rfl, by rw [hU], by rw [hU]; exact hPc, va_K.moved hW.alike hKc, hDc.weaken (fun _ _ _ _ => trivial)⟩⟩ rfl rfl hl.1 rfl (lv_room (Nat.le_of_ble_eq_true rfl)) dX10_owe_15 ⟨Nat.le_of_ble_eq_true rfl, Nat.le_of_ble_eq_true rfl⟩) hS (fun q _ h => hFc q h) hFc (fun r4 u t H1 locs ht hvm hw hB hz1 hk1 hS => ?_)
    obtain ⟨hP1, hK1, hD1⟩ := hB
    rw [ht] at hP1
    have hK1 := va_K.moved hvm.symm hK1
    try dsimp only at hw
    obtain ⟨hP, hD⟩ := J_s (wL := [eO h0 9 [.ref q_s, .long v_fees, .ref q_thought, .long v_thoughtFees, .ref q_image, .long v_imageFees, .int v_hasImage, .ref q_tape, .int v_taped, .ref q_texts, .ref q_sizes, .int v_programs, .ref q_imageTexts, .ref q_imageSizes, .int v_imagePrograms, .int v_here, .int v_open, .int v_running, .int v_begun, .ref q_held, .ref q_marks, .int v_markMany, .ref q_trace, .int v_traced, .ref q_keptBalances, .ref q_keptFees, .int v_deep, .ref q_way, .ref q_sorts, .ref q_rowMany, .ref q_items, .ref q_moved], eI q_s k_s 125 f_s]) hP hD [] [(0, 2)] hCm hNw (by decide +kernel) hk1 hFc hP1 hD1 rfl
    have hK := KJ_s (tys' := [(k_s, .int)]) hK hK1 [(0, 1)] rfl
    generalize H1 = H at hP hS ⊢
    rcases hw with ⟨e_r4, f_r4⟩ | ⟨e_r4, f_r4⟩
    · subst e_r4
      refine lv_if_ne (tgt := 24) hx hb dX10_owe_18 (by decide) (fun c5 => ?_) (fun c5 => absurd c5 (by decide))
      refine lv_aload_n hx hb dX10_owe_24 rfl (lv_at hl 0 rfl) ?_
      refine lv_iload_n hx hb dX10_owe_25 rfl (lv_at hl 1 rfl) ?_
      refine lv_iload_n hx hb dX10_owe_26 rfl (lv_at hl 2 rfl) ?_
      obtain ⟨hPc, hDc, hFc, hCm, hNw⟩ := C_s (wc := [eO h0 9 [.ref q_s, .long v_fees, .ref q_thought, .long v_thoughtFees, .ref q_image, .long v_imageFees, .int v_hasImage, .ref q_tape, .int v_taped, .ref q_texts, .ref q_sizes, .int v_programs, .ref q_imageTexts, .ref q_imageSizes, .int v_imagePrograms, .int v_here, .int v_open, .int v_running, .int v_begun, .ref q_held, .ref q_marks, .int v_markMany, .ref q_trace, .int v_traced, .ref q_keptBalances, .ref q_keptFees, .int v_deep, .ref q_way, .ref q_sorts, .ref q_rowMany, .ref q_items, .ref q_moved], eI q_s k_s 125 f_s]) hP hD hS hA [(0, 2)] 2 rfl (by decide +kernel) rfl
      have hKc := K_s (tys' := [(k_s, .int)]) hK [(0, 1)] rfl
      refine va_calli (va_runV (As := [.int p0, .int p1]) (rest := []) ⟨hx, hb, hml, hown, hts⟩ (c_X10_owedTo l dC dI h0 p0 p1 q_s v_fees q_thought v_thoughtFees q_image v_imageFees v_hasImage q_tape v_taped q_texts q_sizes v_programs q_imageTexts q_imageSizes v_imagePrograms v_here v_open v_running v_begun q_held q_marks v_markMany q_trace v_traced q_keptBalances q_keptFees v_deep q_way q_sorts q_rowMany q_items q_moved k_s f_s H.size (by first | assumption | omega) (by first | assumption | omega) (by first | assumption | omega) (by first | assumption | omega)) (cwV 2 hts gX10_owe_X10_owedTo rfl rfl rfl (by decide +kernel) ⟨Nat.le_of_ble_eq_true rfl, Nat.le_of_ble_eq_true rfl⟩) ⟨fun a U g mk q => by obtain ⟨q0, q1, qP, qK, qD⟩ := q; exact ⟨q0, q1, qP, va_K.moved (u := U) (U := U.calling g mk a) (Vm.Alike.refl U.vm) qK, qD⟩, va_recv (s := s) (q := (RX10, TX10, 32)) hKc hPc (ci := 9) (q0 := 0) rfl rfl, fun U hU hW => ⟨rfl, by rw [hU], by rw [hU]; exact hPc, va_K.moved hW.alike hKc, hDc.weaken (fun _ _ _ _ => trivial)⟩⟩ rfl rfl hl.1 rfl (lv_room (Nat.le_of_ble_eq_true rfl)) dX10_owe_27 ⟨Nat.le_of_ble_eq_true rfl, Nat.le_of_ble_eq_true rfl⟩) hS (fun q _ h => hFc q h) hFc (fun r6 u t H1 locs ht hvm hw hB hz1 hk1 hS => ?_)
      obtain ⟨hP1, hK1, hD1⟩ := hB
      rw [ht] at hP1
      have hK1 := va_K.moved hvm.symm hK1
      try dsimp only at hw
      obtain ⟨hP, hD⟩ := J_s (wL := [eO h0 9 [.ref q_s, .long v_fees, .ref q_thought, .long v_thoughtFees, .ref q_image, .long v_imageFees, .int v_hasImage, .ref q_tape, .int v_taped, .ref q_texts, .ref q_sizes, .int v_programs, .ref q_imageTexts, .ref q_imageSizes, .int v_imagePrograms, .int v_here, .int v_open, .int v_running, .int v_begun, .ref q_held, .ref q_marks, .int v_markMany, .ref q_trace, .int v_traced, .ref q_keptBalances, .ref q_keptFees, .int v_deep, .ref q_way, .ref q_sorts, .ref q_rowMany, .ref q_items, .ref q_moved], eI q_s k_s 125 f_s]) hP hD [(0, 2)] [] hCm hNw (by decide +kernel) hk1 hFc hP1 hD1 rfl
      have hK := KJ_s (tys' := [(k_s, .int)]) hK hK1 [] rfl
      generalize H1 = H at hP hS ⊢
      have h_r6 := hw
      refine lv_istore (lv' := [(4, .int r6), (0, .ref h0), (1, .int p0), (2, .int p1), (3, .int p2)]) hx hb dX10_owe_30 hl (by decide) rfl (fun ls hl => ?_)
      refine lv_aload_n hx hb dX10_owe_32 rfl (lv_at hl 1 rfl) ?_
      refine va_get (D := (dC, dI)) (ci := 9) (v := .ref q_s) (C := RX10) (T := TX10) (N := 32) hx hb hts (fun w h => List.mem_cons_of_mem _ (inlX10 w h)) hown hK hP 0 rfl rfl 0 (by decide) (hts (.fieldLink RX10 11 "ClearingGatesModel" "s" "[I") (List.mem_cons_of_mem _ mw_609)) (fun _ h9 => h9) rfl dX10_owe_33 ?_
      refine lv_bipush (v := 61) hx hb dX10_owe_36 (by decide) ?_
      refine lv_bipush (v := 8) hx hb dX10_owe_38 (by decide) ?_
      refine lv_iload_n hx hb dX10_owe_40 rfl (lv_at hl 2 rfl) ?_
      refine lv_imul hx hb dX10_owe_41 ?_
      refine lv_topi (fun z7 e_z7 => ?_)
      have t_z7 := i_mulc e_z7 k_8 (by omega) (by omega)
      refine lv_iadd hx hb dX10_owe_42 ?_
      refine lv_topi (fun z8 e_z8 => ?_)
      (first | have t_z8 := i_add e_z8 (by omega) (by omega) | skip)
      refine lv_iload_n hx hb dX10_owe_43 rfl (lv_at hl 3 rfl) ?_
      refine lv_iadd hx hb dX10_owe_44 ?_
      refine lv_topi (fun z9 e_z9 => ?_)
      (first | have t_z9 := i_add e_z9 (by omega) (by omega) | skip)
      refine lv_iload_n hx hb dX10_owe_45 rfl (lv_at hl 4 rfl) ?_
      refine va_iast (D := (dC, dI)) hx hb hK hP hD hS 1 0 rfl rfl (vp_in_iff.mpr ⟨by omega, by omega⟩) dX10_owe_46 (fun H locs hP hD hS => ?_)
      generalize e_g10 : (upd f_s (z9).toNatClampNeg p2) = g10 at hP hD
      obtain ⟨hP, hD⟩ := X_s (ws' := [eO h0 9 [.ref q_s, .long v_fees, .ref q_thought, .long v_thoughtFees, .ref q_image, .long v_imageFees, .int v_hasImage, .ref q_tape, .int v_taped, .ref q_texts, .ref q_sizes, .int v_programs, .ref q_imageTexts, .ref q_imageSizes, .int v_imagePrograms, .int v_here, .int v_open, .int v_running, .int v_begun, .ref q_held, .ref q_marks, .int v_markMany, .ref q_trace, .int v_traced, .ref q_keptBalances, .ref q_keptFees, .int v_deep, .ref q_way, .ref q_sorts, .ref q_rowMany, .ref q_items, .ref q_moved], eI q_s k_s 125 g10]) hP hD rfl
      have m_g10 : ms g10 := by rw [← e_g10]; first | exact ms_up (by assumption) (by omega) (by omega) | exact ms_60 (by assumption) (by omega) (by omega) (by omega) | exact ms_upo (by assumption) (by omega) (by omega) (by omega)
      have a_g10 : (g10 60).toInt = (f_s 60).toInt := by rw [← e_g10]; exact up_60 (by omega) (by omega)
      obtain ⟨b_g10, c_g10, o_g10⟩ := id m_g10
      have fs_g10 : Fb g10 f_s := by rw [← e_g10]; exact fb_up (by first | assumption | exact fb_rf _) (by omega)
      refine lv_iload hx hb dX10_owe_47 (lv_at hl 0 rfl) ?_
      rw [hQ9]
      exact W.iret (v := r6) hx hb hr (fun t ht hW => ⟨⟨r6, (), rfl, (by first | rfl | trivial), g10, (by first | assumption | omega | exact fz_rf _ | exact fb_rf _ | exact (fun _ _ _ => rfl)), (by first | assumption | omega | exact fz_rf _ | exact fb_rf _ | exact (fun _ _ _ => rfl)), (by first | assumption | omega | exact fz_rf _ | exact fb_rf _ | exact (fun _ _ _ => rfl)), by rw [ht]; exact hP, va_K.moved hW.alike hK, hD⟩, hS.F ht⟩) hS.2.2 dX10_owe_49
    · subst e_r4
      refine lv_if_ne (tgt := 24) hx hb dX10_owe_18 (by decide) (fun c11 => absurd (by decide) c11) (fun c11 => ?_)
      refine lv_bipush (v := -2) hx hb dX10_owe_21 (by decide) ?_
      rw [hQ9]
      exact W.iret (v := (-2)) hx hb hr (fun t ht hW => ⟨⟨(-2), (), rfl, (by first | rfl | trivial), f_s, (by first | assumption | omega | exact fz_rf _ | exact fb_rf _ | exact (fun _ _ _ => rfl)), (by first | assumption | omega | exact fz_rf _ | exact fb_rf _ | exact (fun _ _ _ => rfl)), (by first | assumption | omega | exact fz_rf _ | exact fb_rf _ | exact (fun _ _ _ => rfl)), by rw [ht]; exact hP, va_K.moved hW.alike hK, hD⟩, hS.F ht⟩) hS.2.2 dX10_owe_23
  · subst e_r1
    refine lv_if_eq (tgt := 21) hx hb dX10_owe_6 (by decide) (fun c12 => ?_) (fun c12 => absurd (by decide) c12)
    refine lv_bipush (v := -2) hx hb dX10_owe_21 (by decide) ?_
    rw [hQ9]
    exact W.iret (v := (-2)) hx hb hr (fun t ht hW => ⟨⟨(-2), (), rfl, (by first | rfl | trivial), f_s, (by first | assumption | omega | exact fz_rf _ | exact fb_rf _ | exact (fun _ _ _ => rfl)), (by first | assumption | omega | exact fz_rf _ | exact fb_rf _ | exact (fun _ _ _ => rfl)), (by first | assumption | omega | exact fz_rf _ | exact fb_rf _ | exact (fun _ _ _ => rfl)), by rw [ht]; exact hP, va_K.moved hW.alike hK, hD⟩, hS.F ht⟩) hS.2.2 dX10_owe_23

set_option maxRecDepth 100000 in
set_option maxHeartbeats 4000000 in
/-- owed of the reference -/
theorem c_X10_owed (l : Launch) (dC : Nat → ClassId) (dI : Nat → Nat → Nat) (h0 : Nat) (p0 : Int32) (p1 : Int32) (q_s : Nat) (v_fees : Int64) (q_thought : Nat) (v_thoughtFees : Int64) (q_image : Nat) (v_imageFees : Int64) (v_hasImage : Int32) (q_tape : Nat) (v_taped : Int32) (q_texts : Nat) (q_sizes : Nat) (v_programs : Int32) (q_imageTexts : Nat) (q_imageSizes : Nat) (v_imagePrograms : Int32) (v_here : Int32) (v_open : Int32) (v_running : Int32) (v_begun : Int32) (q_held : Nat) (q_marks : Nat) (v_markMany : Int32) (q_trace : Nat) (v_traced : Int32) (q_keptBalances : Nat) (q_keptFees : Nat) (v_deep : Int32) (q_way : Nat) (q_sorts : Nat) (q_rowMany : Nat) (q_items : Nat) (q_moved : Nat) (k_s : ClassId) (f_s : Nat → Int32) (sz : Nat) (hms : ms f_s) : Met l yX10_owed wsX10_owed ({ frames := 3, cells := 0, slots := 0, locals := 68 }) (va_Pc [.ref h0, .int p0, .int p1] (fun U => U.heap.size = sz ∧ va_P (dC, dI) vwCl [eO h0 9 [.ref q_s, .long v_fees, .ref q_thought, .long v_thoughtFees, .ref q_image, .long v_imageFees, .int v_hasImage, .ref q_tape, .int v_taped, .ref q_texts, .ref q_sizes, .int v_programs, .ref q_imageTexts, .ref q_imageSizes, .int v_imagePrograms, .int v_here, .int v_open, .int v_running, .int v_begun, .ref q_held, .ref q_marks, .int v_markMany, .ref q_trace, .int v_traced, .ref q_keptBalances, .ref q_keptFees, .int v_deep, .ref q_way, .ref q_sorts, .ref q_rowMany, .ref q_items, .ref q_moved], eI q_s k_s 125 f_s] U.heap ∧ va_K (dC, dI) vwCl [(k_s, .int)] U ∧ va_D (fun _ => True) [eO h0 9 [.ref q_s, .long v_fees, .ref q_thought, .long v_thoughtFees, .ref q_image, .long v_imageFees, .int v_hasImage, .ref q_tape, .int v_taped, .ref q_texts, .ref q_sizes, .int v_programs, .ref q_imageTexts, .ref q_imageSizes, .int v_imagePrograms, .int v_here, .int v_open, .int v_running, .int v_begun, .ref q_held, .ref q_marks, .int v_markMany, .ref q_trace, .int v_traced, .ref q_keptBalances, .ref q_keptFees, .int v_deep, .ref q_way, .ref q_sorts, .ref q_rowMany, .ref q_items, .ref q_moved], eI q_s k_s 125 f_s])) (va_Qi (fun (r : Int32) (_ : Unit) => True) (fun (_ : Unit) (t : State) => va_P (dC, dI) vwCl [eO h0 9 [.ref q_s, .long v_fees, .ref q_thought, .long v_thoughtFees, .ref q_image, .long v_imageFees, .int v_hasImage, .ref q_tape, .int v_taped, .ref q_texts, .ref q_sizes, .int v_programs, .ref q_imageTexts, .ref q_imageSizes, .int v_imagePrograms, .int v_here, .int v_open, .int v_running, .int v_begun, .ref q_held, .ref q_marks, .int v_markMany, .ref q_trace, .int v_traced, .ref q_keptBalances, .ref q_keptFees, .int v_deep, .ref q_way, .ref q_sorts, .ref q_rowMany, .ref q_items, .ref q_moved], eI q_s k_s 125 f_s] t.heap ∧ va_K (dC, dI) vwCl [(k_s, .int)] t ∧ va_D (va_A [eO h0 9 [.ref q_s, .long v_fees, .ref q_thought, .long v_thoughtFees, .ref q_image, .long v_imageFees, .int v_hasImage, .ref q_tape, .int v_taped, .ref q_texts, .ref q_sizes, .int v_programs, .ref q_imageTexts, .ref q_imageSizes, .int v_imagePrograms, .int v_here, .int v_open, .int v_running, .int v_begun, .ref q_held, .ref q_marks, .int v_markMany, .ref q_trace, .int v_traced, .ref q_keptBalances, .ref q_keptFees, .int v_deep, .ref q_way, .ref q_sorts, .ref q_rowMany, .ref q_items, .ref q_moved], eI q_s k_s 125 f_s] sz) [eO h0 9 [.ref q_s, .long v_fees, .ref q_thought, .long v_thoughtFees, .ref q_image, .long v_imageFees, .int v_hasImage, .ref q_tape, .int v_taped, .ref q_texts, .ref q_sizes, .int v_programs, .ref q_imageTexts, .ref q_imageSizes, .int v_imagePrograms, .int v_here, .int v_open, .int v_running, .int v_begun, .ref q_held, .ref q_marks, .int v_markMany, .ref q_trace, .int v_traced, .ref q_keptBalances, .ref q_keptFees, .int v_deep, .ref q_way, .ref q_sorts, .ref q_rowMany, .ref q_items, .ref q_moved], eI q_s k_s 125 f_s]) (va_A [eO h0 9 [.ref q_s, .long v_fees, .ref q_thought, .long v_thoughtFees, .ref q_image, .long v_imageFees, .int v_hasImage, .ref q_tape, .int v_taped, .ref q_texts, .ref q_sizes, .int v_programs, .ref q_imageTexts, .ref q_imageSizes, .int v_imagePrograms, .int v_here, .int v_open, .int v_running, .int v_begun, .ref q_held, .ref q_marks, .int v_markMany, .ref q_trace, .int v_traced, .ref q_keptBalances, .ref q_keptFees, .int v_deep, .ref q_way, .ref q_sorts, .ref q_rowMany, .ref q_items, .ref q_moved], eI q_s k_s 125 f_s] sz)) 0 0 (va_A [eO h0 9 [.ref q_s, .long v_fees, .ref q_thought, .long v_thoughtFees, .ref q_image, .long v_imageFees, .int v_hasImage, .ref q_tape, .int v_taped, .ref q_texts, .ref q_sizes, .int v_programs, .ref q_imageTexts, .ref q_imageSizes, .int v_imagePrograms, .int v_here, .int v_open, .int v_running, .int v_begun, .ref q_held, .ref q_marks, .int v_markMany, .ref q_trace, .int v_traced, .ref q_keptBalances, .ref q_keptFees, .int v_deep, .ref q_way, .ref q_sorts, .ref q_rowMany, .ref q_items, .ref q_moved], eI q_s k_s 125 f_s] sz) := by
  refine Met.ofW (cc := cX10_owed) (maxL := 3) (ret := (some .int)) (by decide) rfl ?_
  intro p e s m args below meth c s₁ B hml hv
  obtain ⟨rfl, hsz, hP, hK, hD0⟩ := hv
  have hx := B.exec
  have hb := B.bytes
  have hr := B.returns
  have hts := atoms_spec (ws := wsX10_owed) B.pre
  have hown : s.vm.findClass RX10 = some m.cls := findClass_of_methodNamed B.named
  have hlocks := B.notSynchronized
  subst hsz
  have hD := hD0.self (sz := s.heap.size)
  generalize hAe : va_A [eO h0 9 [.ref q_s, .long v_fees, .ref q_thought, .long v_thoughtFees, .ref q_image, .long v_imageFees, .int v_hasImage, .ref q_tape, .int v_taped, .ref q_texts, .ref q_sizes, .int v_programs, .ref q_imageTexts, .ref q_imageSizes, .int v_imagePrograms, .int v_here, .int v_open, .int v_running, .int v_begun, .ref q_held, .ref q_marks, .int v_markMany, .ref q_trace, .int v_traced, .ref q_keptBalances, .ref q_keptFees, .int v_deep, .ref q_way, .ref q_sorts, .ref q_rowMany, .ref q_items, .ref q_moved], eI q_s k_s 125 f_s] s.heap.size = A at hD ⊢
  have hA : ∀ q : Nat, s.heap.size ≤ q → A q := fun q h => by rw [← hAe]; exact Or.inr h
  have hS : va_S A s.heap s.heap [] := va_S.rf
  have hP : va_P (dC, dI) vwCl [eO h0 9 [.ref q_s, .long v_fees, .ref q_thought, .long v_thoughtFees, .ref q_image, .long v_imageFees, .int v_hasImage, .ref q_tape, .int v_taped, .ref q_texts, .ref q_sizes, .int v_programs, .ref q_imageTexts, .ref q_imageSizes, .int v_imagePrograms, .int v_here, .int v_open, .int v_running, .int v_begun, .ref q_held, .ref q_marks, .int v_markMany, .ref q_trace, .int v_traced, .ref q_keptBalances, .ref q_keptFees, .int v_deep, .ref q_way, .ref q_sorts, .ref q_rowMany, .ref q_items, .ref q_moved], eI q_s k_s 125 f_s] s.heap := hP
  have hl := lv_entry ([.ref h0, .int p0, .int p1]) (n := 3) (Nat.le_of_ble_eq_true rfl)
  rw [lg_entry_eq]
  generalize (lg_sl ([.ref h0, .int p0, .int p1]) ++ List.replicate (3 - (lg_sl ([.ref h0, .int p0, .int p1])).length) Slot.unset).toArray = ls at hl ⊢
  have hl : lv_has ls 3 [(0, .ref h0), (1, .int p0), (2, .int p1)] := hl
  suffices key9 : ∀ Q9 : State → Prop, Q9 = (MQ below (va_Qi (fun (r : Int32) (_ : Unit) => True) (fun (_ : Unit) (t : State) => va_P (dC, dI) vwCl [eO h0 9 [.ref q_s, .long v_fees, .ref q_thought, .long v_thoughtFees, .ref q_image, .long v_imageFees, .int v_hasImage, .ref q_tape, .int v_taped, .ref q_texts, .ref q_sizes, .int v_programs, .ref q_imageTexts, .ref q_imageSizes, .int v_imagePrograms, .int v_here, .int v_open, .int v_running, .int v_begun, .ref q_held, .ref q_marks, .int v_markMany, .ref q_trace, .int v_traced, .ref q_keptBalances, .ref q_keptFees, .int v_deep, .ref q_way, .ref q_sorts, .ref q_rowMany, .ref q_items, .ref q_moved], eI q_s k_s 125 f_s] t.heap ∧ va_K (dC, dI) vwCl [(k_s, .int)] t ∧ va_D A [eO h0 9 [.ref q_s, .long v_fees, .ref q_thought, .long v_thoughtFees, .ref q_image, .long v_imageFees, .int v_hasImage, .ref q_tape, .int v_taped, .ref q_texts, .ref q_sizes, .int v_programs, .ref q_imageTexts, .ref q_imageSizes, .int v_imagePrograms, .int v_here, .int v_open, .int v_running, .int v_begun, .ref q_held, .ref q_marks, .int v_markMany, .ref q_trace, .int v_traced, .ref q_keptBalances, .ref q_keptFees, .int v_deep, .ref q_way, .ref q_sorts, .ref q_rowMany, .ref q_items, .ref q_moved], eI q_s k_s 125 f_s]) A) (([.ref h0, .int p0, .int p1] : List Value).toArray) s 0 0 A) → W p l e ({ frames := 3, cells := 0, slots := 0, locals := 68 }) s m (([.ref h0, .int p0, .int p1] : List Value).toArray) below meth c s.heap [] 0 0 Q9 (F0 m 0 ls []) from key9 _ rfl
  intro Q9 hQ9
  have k_m2 : ((-2) : Int32).toInt = (-2) := by decide
  obtain ⟨ha1, ha2, hown9⟩ := id hms
  refine lv_aload_n hx hb dX10_owed_0 rfl (lv_at hl 0 rfl) ?_
  refine lv_iload_n hx hb dX10_owed_1 rfl (lv_at hl 1 rfl) ?_
  refine lv_iload_n hx hb dX10_owed_2 rfl (lv_at hl 2 rfl) ?_
  obtain ⟨hPc, hDc, hFc, hCm, hNw⟩ := C_s (wc := [eO h0 9 [.ref q_s, .long v_fees, .ref q_thought, .long v_thoughtFees, .ref q_image, .long v_imageFees, .int v_hasImage, .ref q_tape, .int v_taped, .ref q_texts, .ref q_sizes, .int v_programs, .ref q_imageTexts, .ref q_imageSizes, .int v_imagePrograms, .int v_here, .int v_open, .int v_running, .int v_begun, .ref q_held, .ref q_marks, .int v_markMany, .ref q_trace, .int v_traced, .ref q_keptBalances, .ref q_keptFees, .int v_deep, .ref q_way, .ref q_sorts, .ref q_rowMany, .ref q_items, .ref q_moved], eI q_s k_s 125 f_s]) hP hD hS hA [(0, 2)] 2 rfl (by decide +kernel) rfl
  have hKc := K_s (tys' := [(k_s, .int)]) hK [(0, 1)] rfl
  refine va_calli (va_runV (As := [.int p0, .int p1]) (rest := []) ⟨hx, hb, hml, hown, hts⟩ (c_X10_areTwo l dC dI h0 p0 p1 q_s v_fees q_thought v_thoughtFees q_image v_imageFees v_hasImage q_tape v_taped q_texts q_sizes v_programs q_imageTexts q_imageSizes v_imagePrograms v_here v_open v_running v_begun q_held q_marks v_markMany q_trace v_traced q_keptBalances q_keptFees v_deep q_way q_sorts q_rowMany q_items q_moved k_s f_s s.heap.size (by first | assumption | omega) (by first | assumption | omega)) (cwV 2 hts gX10_owed_X10_areTwo rfl rfl rfl (by decide +kernel) ⟨Nat.le_of_ble_eq_true rfl, Nat.le_of_ble_eq_true rfl⟩) ⟨fun a U g mk q => by obtain ⟨q0, q1, qP, qK, qD⟩ := q; exact ⟨q0, q1, qP, va_K.moved (u := U) (U := U.calling g mk a) (Vm.Alike.refl U.vm) qK, qD⟩, va_recv (s := s) (q := (RX10, TX10, 32)) hKc hPc (ci := 9) (q0 := 0) rfl rfl, fun U hU hW => ⟨rfl, by rw [hU], by rw [hU]; exact hPc, va_K.moved hW.alike hKc, hDc.weaken (fun _ _ _ _ => trivial)⟩⟩ rfl rfl hl.1 rfl (lv_room (Nat.le_of_ble_eq_true rfl)) dX10_owed_3 ⟨Nat.le_of_ble_eq_true rfl, Nat.le_of_ble_eq_true rfl⟩) hS (fun q _ h => hFc q h) hFc (fun r1 u t H1 locs ht hvm hw hB hz1 hk1 hS => ?_)
  obtain ⟨hP1, hK1, hD1⟩ := hB
  rw [ht] at hP1
  have hK1 := va_K.moved hvm.symm hK1
  try dsimp only at hw
  obtain ⟨hP, hD⟩ := J_s (wL := [eO h0 9 [.ref q_s, .long v_fees, .ref q_thought, .long v_thoughtFees, .ref q_image, .long v_imageFees, .int v_hasImage, .ref q_tape, .int v_taped, .ref q_texts, .ref q_sizes, .int v_programs, .ref q_imageTexts, .ref q_imageSizes, .int v_imagePrograms, .int v_here, .int v_open, .int v_running, .int v_begun, .ref q_held, .ref q_marks, .int v_markMany, .ref q_trace, .int v_traced, .ref q_keptBalances, .ref q_keptFees, .int v_deep, .ref q_way, .ref q_sorts, .ref q_rowMany, .ref q_items, .ref q_moved], eI q_s k_s 125 f_s]) hP hD [(0, 2)] [] hCm hNw (by decide +kernel) hk1 hFc hP1 hD1 rfl
  have hK := KJ_s (tys' := [(k_s, .int)]) hK hK1 [] rfl
  generalize H1 = H at hP hS ⊢
  rcases hw with ⟨e_r1, f_r1⟩ | ⟨e_r1, f_r1⟩
  · subst e_r1
    refine lv_if_eq (tgt := 18) hx hb dX10_owed_6 (by decide) (fun c2 => absurd c2 (by decide)) (fun c2 => ?_)
    refine lv_aload_n hx hb dX10_owed_9 rfl (lv_at hl 0 rfl) ?_
    refine lv_iload_n hx hb dX10_owed_10 rfl (lv_at hl 1 rfl) ?_
    refine lv_iload_n hx hb dX10_owed_11 rfl (lv_at hl 2 rfl) ?_
    obtain ⟨hPc, hDc, hFc, hCm, hNw⟩ := C_s (wc := [eO h0 9 [.ref q_s, .long v_fees, .ref q_thought, .long v_thoughtFees, .ref q_image, .long v_imageFees, .int v_hasImage, .ref q_tape, .int v_taped, .ref q_texts, .ref q_sizes, .int v_programs, .ref q_imageTexts, .ref q_imageSizes, .int v_imagePrograms, .int v_here, .int v_open, .int v_running, .int v_begun, .ref q_held, .ref q_marks, .int v_markMany, .ref q_trace, .int v_traced, .ref q_keptBalances, .ref q_keptFees, .int v_deep, .ref q_way, .ref q_sorts, .ref q_rowMany, .ref q_items, .ref q_moved], eI q_s k_s 125 f_s]) hP hD hS hA [(0, 2)] 2 rfl (by decide +kernel) rfl
    have hKc := K_s (tys' := [(k_s, .int)]) hK [(0, 1)] rfl
    refine va_calli (va_runV (As := [.int p0, .int p1]) (rest := []) ⟨hx, hb, hml, hown, hts⟩ (c_X10_owedTo l dC dI h0 p0 p1 q_s v_fees q_thought v_thoughtFees q_image v_imageFees v_hasImage q_tape v_taped q_texts q_sizes v_programs q_imageTexts q_imageSizes v_imagePrograms v_here v_open v_running v_begun q_held q_marks v_markMany q_trace v_traced q_keptBalances q_keptFees v_deep q_way q_sorts q_rowMany q_items q_moved k_s f_s H.size (by first | assumption | omega) (by first | assumption | omega) (by first | assumption | omega) (by first | assumption | omega)) (cwV 2 hts gX10_owed_X10_owedTo rfl rfl rfl (by decide +kernel) ⟨Nat.le_of_ble_eq_true rfl, Nat.le_of_ble_eq_true rfl⟩) ⟨fun a U g mk q => by obtain ⟨q0, q1, qP, qK, qD⟩ := q; exact ⟨q0, q1, qP, va_K.moved (u := U) (U := U.calling g mk a) (Vm.Alike.refl U.vm) qK, qD⟩, va_recv (s := s) (q := (RX10, TX10, 32)) hKc hPc (ci := 9) (q0 := 0) rfl rfl, fun U hU hW => ⟨rfl, by rw [hU], by rw [hU]; exact hPc, va_K.moved hW.alike hKc, hDc.weaken (fun _ _ _ _ => trivial)⟩⟩ rfl rfl hl.1 rfl (lv_room (Nat.le_of_ble_eq_true rfl)) dX10_owed_12 ⟨Nat.le_of_ble_eq_true rfl, Nat.le_of_ble_eq_true rfl⟩) hS (fun q _ h => hFc q h) hFc (fun r3 u t H1 locs ht hvm hw hB hz1 hk1 hS => ?_)
    obtain ⟨hP1, hK1, hD1⟩ := hB
    rw [ht] at hP1
    have hK1 := va_K.moved hvm.symm hK1
    try dsimp only at hw
    obtain ⟨hP, hD⟩ := J_s (wL := [eO h0 9 [.ref q_s, .long v_fees, .ref q_thought, .long v_thoughtFees, .ref q_image, .long v_imageFees, .int v_hasImage, .ref q_tape, .int v_taped, .ref q_texts, .ref q_sizes, .int v_programs, .ref q_imageTexts, .ref q_imageSizes, .int v_imagePrograms, .int v_here, .int v_open, .int v_running, .int v_begun, .ref q_held, .ref q_marks, .int v_markMany, .ref q_trace, .int v_traced, .ref q_keptBalances, .ref q_keptFees, .int v_deep, .ref q_way, .ref q_sorts, .ref q_rowMany, .ref q_items, .ref q_moved], eI q_s k_s 125 f_s]) hP hD [(0, 2)] [] hCm hNw (by decide +kernel) hk1 hFc hP1 hD1 rfl
    have hK := KJ_s (tys' := [(k_s, .int)]) hK hK1 [] rfl
    generalize H1 = H at hP hS ⊢
    have h_r3 := hw
    refine lv_goto (tgt := 20) hx hb dX10_owed_15 (by decide) ?_
    rw [hQ9]
    exact W.iret (v := r3) hx hb hr (fun t ht hW => ⟨⟨r3, (), rfl, (by first | rfl | trivial), by rw [ht]; exact hP, va_K.moved hW.alike hK, hD⟩, hS.F ht⟩) hS.2.2 dX10_owed_20
  · subst e_r1
    refine lv_if_eq (tgt := 18) hx hb dX10_owed_6 (by decide) (fun c4 => ?_) (fun c4 => absurd (by decide) c4)
    refine lv_bipush (v := -2) hx hb dX10_owed_18 (by decide) ?_
    rw [hQ9]
    exact W.iret (v := (-2)) hx hb hr (fun t ht hW => ⟨⟨(-2), (), rfl, (by first | rfl | trivial), by rw [ht]; exact hP, va_K.moved hW.alike hK, hD⟩, hS.F ht⟩) hS.2.2 dX10_owed_20
