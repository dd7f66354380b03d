theorem in_X9_isProgram_X9 : ∀ w ∈ wsX90, w ∈ wsX9_isProgram := fun _ h => List.mem_cons_of_mem _ (List.mem_append_right _ h)
set_option maxRecDepth 100000 in
set_option maxHeartbeats 4000000 in
/-- isProgram with none -/
theorem c_X9_isProgram (l : Launch) (dC : Nat → ClassId) (dI : Nat → Nat → Nat) (h0 : Nat) (p0 : Int32) (w0 : Value) (w1 : Value) (w2 : Value) (w3 : Value) (w4 : Value) (w5 : Value) (w7 : Value) (w8 : Value) (w9 : Value) (w10 : Value) (w11 : Value) (w12 : Value) (sz : Nat) : Met l yX9_isProgram wsX9_isProgram ({ frames := 0, cells := 0, slots := 0, locals := 0 }) (va_Pc [.ref h0, .int p0] (fun U => U.heap.size = sz ∧ va_P (dC, dI) vwCl [(h0, .inr (8, [w0, w1, w2, w3, w4, w5, .int 0, w7, w8, w9, w10, w11, w12]))] U.heap ∧ va_K (dC, dI) vwCl [] U ∧ va_D (fun _ => True) [(h0, .inr (8, [w0, w1, w2, w3, w4, w5, .int 0, w7, w8, w9, w10, w11, w12]))])) (va_Qi (fun (r : Int32) (_ : Unit) => r = 0) (fun (_ : Unit) (t : State) => va_P (dC, dI) vwCl [(h0, .inr (8, [w0, w1, w2, w3, w4, w5, .int 0, w7, w8, w9, w10, w11, w12]))] t.heap ∧ va_K (dC, dI) vwCl [] t ∧ va_D (va_A [(h0, .inr (8, [w0, w1, w2, w3, w4, w5, .int 0, w7, w8, w9, w10, w11, w12]))] sz) [(h0, .inr (8, [w0, w1, w2, w3, w4, w5, .int 0, w7, w8, w9, w10, w11, w12]))]) (va_A [(h0, .inr (8, [w0, w1, w2, w3, w4, w5, .int 0, w7, w8, w9, w10, w11, w12]))] sz)) 0 0 (va_A [(h0, .inr (8, [w0, w1, w2, w3, w4, w5, .int 0, w7, w8, w9, w10, w11, w12]))] sz) := by
  refine Met.ofW (cc := cX9_isProgram) (maxL := 2) (ret := (some .boolean)) (by decide) rfl ?_
  intro p e s m args below meth c s₁ B hml hv
  obtain ⟨rfl, hsz, hP, hK, hD0⟩ := hv
  have hx := B.exec
  have hb := B.bytes
  have hr := B.returns
  have hts := atoms_spec (ws := wsX9_isProgram) B.pre
  have hown : s.vm.findClass RX9 = some m.cls := findClass_of_methodNamed B.named
  have hlocks := B.notSynchronized
  subst hsz
  have hD := hD0.self (sz := s.heap.size)
  generalize hAe : va_A [(h0, .inr (8, [w0, w1, w2, w3, w4, w5, .int 0, w7, w8, w9, w10, w11, w12]))] s.heap.size = A at hD ⊢
  have hA : ∀ q : Nat, s.heap.size ≤ q → A q := fun q h => by rw [← hAe]; exact Or.inr h
  have hS : va_S A s.heap s.heap [] := va_S.rf
  have hP : va_P (dC, dI) vwCl [(h0, .inr (8, [w0, w1, w2, w3, w4, w5, .int 0, w7, w8, w9, w10, w11, w12]))] s.heap := hP
  have hl := lv_entry ([.ref h0, .int p0]) (n := 2) (Nat.le_of_ble_eq_true rfl)
  rw [lg_entry_eq]
  generalize (lg_sl ([.ref h0, .int p0]) ++ List.replicate (2 - (lg_sl ([.ref h0, .int p0])).length) Slot.unset).toArray = ls at hl ⊢
  have hl : lv_has ls 2 [(0, .ref h0), (1, .int p0)] := hl
  have k_0 : (0 : Int32).toInt = 0 := by decide
  refine lv_iload_n hx hb dX9_isProgram_0 rfl (lv_at hl 1 rfl) ?_
  refine lv_if_lt (tgt := 16) hx hb dX9_isProgram_1 (by decide) (fun c1 => ?_) (fun c1 => ?_)
  · skip
    have f_c1 := i_lt c1
    refine lv_iconst (v := 0) hx hb dX9_isProgram_16 (by decide) ?_
    have hP9 := hP.sub (ws' := [(h0, .inr (8, [w0, w1, w2, w3, w4, w5, .int 0, w7, w8, w9, w10, w11, w12]))]) [0] rfl
    have hD9 := hD.sub (ws' := [(h0, .inr (8, [w0, w1, w2, w3, w4, w5, .int 0, w7, w8, w9, w10, w11, w12]))]) [0] (by decide) rfl
    have hK9 := hK.sub (tys' := []) [] rfl
    exact W.zret (v := 0) hx hb hr (by decide) (fun t ht hW => ⟨⟨0, (), rfl, (by first | rfl | (simp only [if_pos, if_neg, *]; done)), by rw [ht]; exact hP9, va_K.moved hW.alike hK9, hD9⟩, hS.F ht⟩) hS.2.2 dX9_isProgram_17
  · skip
    have f_c1 := i_nlt c1
    refine lv_iload_n hx hb dX9_isProgram_4 rfl (lv_at hl 1 rfl) ?_
    refine lv_aload_n hx hb dX9_isProgram_5 rfl (lv_at hl 0 rfl) ?_
    refine va_get (D := (dC, dI)) (ci := 8) (v := .int 0) (C := RX9) (T := TX9) (N := 13) hx hb hts in_X9_isProgram_X9 hown hK hP 0 rfl rfl 6 (by decide) (hts (.fieldLink RX9 141 "ClearingGates" "programCount" "I") (List.mem_of_getElem? (i := 1) (by decide +kernel))) (fun _ h9 => h9) rfl dX9_isProgram_6 ?_
    refine lv_icmp_ge (tgt := 16) hx hb dX9_isProgram_9 (by decide) (fun c2 => ?_) (fun c2 => ?_)
    · skip
      have f_c2 := i_le c2
      refine lv_iconst (v := 0) hx hb dX9_isProgram_16 (by decide) ?_
      have hP9 := hP.sub (ws' := [(h0, .inr (8, [w0, w1, w2, w3, w4, w5, .int 0, w7, w8, w9, w10, w11, w12]))]) [0] rfl
      have hD9 := hD.sub (ws' := [(h0, .inr (8, [w0, w1, w2, w3, w4, w5, .int 0, w7, w8, w9, w10, w11, w12]))]) [0] (by decide) rfl
      have hK9 := hK.sub (tys' := []) [] rfl
      exact W.zret (v := 0) hx hb hr (by decide) (fun t ht hW => ⟨⟨0, (), rfl, (by first | rfl | (simp only [if_pos, if_neg, *]; done)), by rw [ht]; exact hP9, va_K.moved hW.alike hK9, hD9⟩, hS.F ht⟩) hS.2.2 dX9_isProgram_17
    · skip
      have f_c2 := i_nle c2
      exfalso; omega

theorem in_X9_isPair_X9 : ∀ w ∈ wsX90, w ∈ wsX9_isPair := fun _ h => List.mem_cons_of_mem _ (List.mem_append_left _ (List.mem_append_right _ h))
set_option maxRecDepth 100000 in
set_option maxHeartbeats 4000000 in
/-- isPair with no account -/
theorem c_X9_isPair (l : Launch) (dC : Nat → ClassId) (dI : Nat → Nat → Nat) (h0 : Nat) (p0 : Int32) (p1 : Int32) (jb : Nat) (w1 : Value) (w2 : Value) (w3 : Value) (w4 : Value) (w5 : Value) (w6 : Value) (w7 : Value) (w8 : Value) (w9 : Value) (w10 : Value) (w11 : Value) (w12 : Value) (v0 : Value) (v1 : Value) (v2 : Value) (v3 : Value) (v4 : Value) (v5 : Value) (v6 : Value) (v8 : Value) (v9 : Value) (v10 : Value) (v11 : Value) (v12 : Value) (sz : Nat) : Met l yX9_isPair wsX9_isPair ({ frames := 1, cells := 0, slots := 0, locals := 21 }) (va_Pc [.ref h0, .int p0, .int p1] (fun U => U.heap.size = sz ∧ va_P (dC, dI) vwCl [(h0, .inr (8, [.ref jb, w1, w2, w3, w4, w5, w6, w7, w8, w9, w10, w11, w12])), (jb, .inr (0, [v0, v1, v2, v3, v4, v5, v6, .int 0, v8, v9, v10, v11, v12]))] U.heap ∧ va_K (dC, dI) vwCl [] U ∧ va_D (fun _ => True) [(h0, .inr (8, [.ref jb, w1, w2, w3, w4, w5, w6, w7, w8, w9, w10, w11, w12])), (jb, .inr (0, [v0, v1, v2, v3, v4, v5, v6, .int 0, v8, v9, v10, v11, v12]))])) (va_Qi (fun (r : Int32) (_ : Unit) => r = 0) (fun (_ : Unit) (t : State) => va_P (dC, dI) vwCl [(h0, .inr (8, [.ref jb, w1, w2, w3, w4, w5, w6, w7, w8, w9, w10, w11, w12])), (jb, .inr (0, [v0, v1, v2, v3, v4, v5, v6, .int 0, v8, v9, v10, v11, v12]))] t.heap ∧ va_K (dC, dI) vwCl [] t ∧ va_D (va_A [(h0, .inr (8, [.ref jb, w1, w2, w3, w4, w5, w6, w7, w8, w9, w10, w11, w12])), (jb, .inr (0, [v0, v1, v2, v3, v4, v5, v6, .int 0, v8, v9, v10, v11, v12]))] sz) [(h0, .inr (8, [.ref jb, w1, w2, w3, w4, w5, w6, w7, w8, w9, w10, w11, w12])), (jb, .inr (0, [v0, v1, v2, v3, v4, v5, v6, .int 0, v8, v9, v10, v11, v12]))]) (va_A [(h0, .inr (8, [.ref jb, w1, w2, w3, w4, w5, w6, w7, w8, w9, w10, w11, w12])), (jb, .inr (0, [v0, v1, v2, v3, v4, v5, v6, .int 0, v8, v9, v10, v11, v12]))] sz)) 0 0 (va_A [(h0, .inr (8, [.ref jb, w1, w2, w3, w4, w5, w6, w7, w8, w9, w10, w11, w12])), (jb, .inr (0, [v0, v1, v2, v3, v4, v5, v6, .int 0, v8, v9, v10, v11, v12]))] sz) := by
  refine Met.ofW (cc := cX9_isPair) (maxL := 3) (ret := (some .boolean)) (by decide) rfl ?_
  intro p e s m args below meth c s₁ B hml hv
  obtain ⟨rfl, hsz, hP, hK, hD0⟩ := hv
  have hx := B.exec
  have hb := B.bytes
  have hr := B.returns
  have hts := atoms_spec (ws := wsX9_isPair) B.pre
  have hown : s.vm.findClass RX9 = some m.cls := findClass_of_methodNamed B.named
  have hlocks := B.notSynchronized
  subst hsz
  have hD := hD0.self (sz := s.heap.size)
  generalize hAe : va_A [(h0, .inr (8, [.ref jb, w1, w2, w3, w4, w5, w6, w7, w8, w9, w10, w11, w12])), (jb, .inr (0, [v0, v1, v2, v3, v4, v5, v6, .int 0, v8, v9, v10, v11, v12]))] s.heap.size = A at hD ⊢
  have hA : ∀ q : Nat, s.heap.size ≤ q → A q := fun q h => by rw [← hAe]; exact Or.inr h
  have hS : va_S A s.heap s.heap [] := va_S.rf
  have hP : va_P (dC, dI) vwCl [(h0, .inr (8, [.ref jb, w1, w2, w3, w4, w5, w6, w7, w8, w9, w10, w11, w12])), (jb, .inr (0, [v0, v1, v2, v3, v4, v5, v6, .int 0, v8, v9, v10, v11, v12]))] s.heap := hP
  have hl := lv_entry ([.ref h0, .int p0, .int p1]) (n := 3) (Nat.le_of_ble_eq_true rfl)
  rw [lg_entry_eq]
  generalize (lg_sl ([.ref h0, .int p0, .int p1]) ++ List.replicate (3 - (lg_sl ([.ref h0, .int p0, .int p1])).length) Slot.unset).toArray = ls at hl ⊢
  have hl : lv_has ls 3 [(0, .ref h0), (1, .int p0), (2, .int p1)] := hl
  have k_0 : (0 : Int32).toInt = 0 := by decide
  refine lv_aload_n hx hb dX9_isPair_0 rfl (lv_at hl 0 rfl) ?_
  refine va_get (D := (dC, dI)) (ci := 8) (v := .ref jb) (C := RX9) (T := TX9) (N := 13) hx hb hts in_X9_isPair_X9 hown hK hP 0 rfl rfl 0 (by decide) (hts (.fieldLink RX9 12 "ClearingGates" "books" "LClearingGates$Books;") (List.mem_of_getElem? (i := 1) (by decide +kernel))) (fun _ h9 => h9) rfl dX9_isPair_1 ?_
  refine lv_iload_n hx hb dX9_isPair_4 rfl (lv_at hl 1 rfl) ?_
  have hPc := hP.sub (ws' := [(jb, .inr (0, [v0, v1, v2, v3, v4, v5, v6, .int 0, v8, v9, v10, v11, v12]))]) [1] rfl
  have hDc := hD.sub (ws' := [(jb, .inr (0, [v0, v1, v2, v3, v4, v5, v6, .int 0, v8, v9, v10, v11, v12]))]) [1] (by decide) rfl
  have hKc := hK.sub (tys' := []) [] rfl
  have hFc := va_free (wc := [(jb, .inr (0, [v0, v1, v2, v3, v4, v5, v6, .int 0, v8, v9, v10, v11, v12]))]) hD hS hA [1] rfl
  refine va_calli (va_runV (As := [.int p0]) (rest := []) ⟨hx, hb, hml, hown, hts⟩ (c_X0_has l dC dI jb p0 (v0) (v1) (v2) (v3) (v4) (v5) (v6) 0 (v8) (v9) (v10) (v11) (v12) s.heap.size) (cwV 1 hts gX9_isPair_X0_has rfl rfl rfl (by decide +kernel) ⟨Nat.le_of_ble_eq_true rfl, Nat.le_of_ble_eq_true rfl⟩) ⟨fun a U g mk q => by obtain ⟨q0, q1, qP, qK, qD⟩ := q; exact ⟨q0, q1, qP, va_K.moved (u := U) (U := U.calling g mk a) (Vm.Alike.refl U.vm) qK, qD⟩, va_recv hKc hPc (ci := 0) (q0 := 0) rfl rfl, fun U hU hW => ⟨rfl, by rw [hU], by rw [hU]; exact hPc, va_K.moved hW.alike hKc, hDc.weaken (fun _ _ _ _ => trivial)⟩⟩ rfl rfl hl.1 rfl (lv_room (Nat.le_of_ble_eq_true rfl)) dX9_isPair_5 ⟨Nat.le_of_ble_eq_true rfl, Nat.le_of_ble_eq_true rfl⟩) hS (fun q _ h => hFc q h) hFc (fun r1 u t H1 locs ht hvm hw hB hz1 hk1 hS => ?_)
  obtain ⟨hP1, hK1, hD1⟩ := hB
  rw [ht] at hP1
  have hK1 := va_K.moved hvm.symm hK1
  try dsimp only at hw
  obtain ⟨hP, hD⟩ := va_join (wr := [(h0, .inr (8, [.ref jb, w1, w2, w3, w4, w5, w6, w7, w8, w9, w10, w11, w12]))]) (w1 := [(jb, .inr (0, [v0, v1, v2, v3, v4, v5, v6, .int 0, v8, v9, v10, v11, v12]))]) hP hD [1] [0] rfl rfl (by decide) (by decide) hk1 hFc hP1 hD1
  have hK := (hK.sub (tys' := []) [] rfl).app hK1
  generalize H1 = H at hP hS ⊢
  have hP : va_P (dC, dI) vwCl [(h0, .inr (8, [.ref jb, w1, w2, w3, w4, w5, w6, w7, w8, w9, w10, w11, w12])), (jb, .inr (0, [v0, v1, v2, v3, v4, v5, v6, .int 0, v8, v9, v10, v11, v12]))] H := hP
  have hD : va_D A [(h0, .inr (8, [.ref jb, w1, w2, w3, w4, w5, w6, w7, w8, w9, w10, w11, w12])), (jb, .inr (0, [v0, v1, v2, v3, v4, v5, v6, .int 0, v8, v9, v10, v11, v12]))] := hD
  have hK : va_K (dC, dI) vwCl [] s := hK
  rcases hw with ⟨e_r1, f_r1⟩ | ⟨e_r1, f_r1⟩
  · subst e_r1
    exfalso; omega
  · subst e_r1
    refine lv_if_eq (tgt := 31) hx hb dX9_isPair_8 (by decide) (fun c2 => ?_) (fun c2 => absurd (by decide) c2)
    refine lv_iconst (v := 0) hx hb dX9_isPair_31 (by decide) ?_
    have hP9 := hP.sub (ws' := [(h0, .inr (8, [.ref jb, w1, w2, w3, w4, w5, w6, w7, w8, w9, w10, w11, w12])), (jb, .inr (0, [v0, v1, v2, v3, v4, v5, v6, .int 0, v8, v9, v10, v11, v12]))]) [0, 1] rfl
    have hD9 := hD.sub (ws' := [(h0, .inr (8, [.ref jb, w1, w2, w3, w4, w5, w6, w7, w8, w9, w10, w11, w12])), (jb, .inr (0, [v0, v1, v2, v3, v4, v5, v6, .int 0, v8, v9, v10, v11, v12]))]) [0, 1] (by decide) rfl
    have hK9 := hK.sub (tys' := []) [] rfl
    exact W.zret (v := 0) hx hb hr (by decide) (fun t ht hW => ⟨⟨0, (), rfl, (by first | rfl | (simp only [if_pos, if_neg, *]; done)), by rw [ht]; exact hP9, va_K.moved hW.alike hK9, hD9⟩, hS.F ht⟩) hS.2.2 dX9_isPair_32

theorem in_X9_account_X9 : ∀ w ∈ wsX90, w ∈ wsX9_account := fun _ h => List.mem_cons_of_mem _ (List.mem_append_left _ (List.mem_append_right _ h))
theorem in_X9_account_X0 : ∀ w ∈ wsX00, w ∈ wsX9_account := fun _ h => List.mem_cons_of_mem _ (List.mem_append_right _ h)
set_option maxRecDepth 100000 in
set_option maxHeartbeats 4000000 in
/-- account on a fresh object -/
theorem c_X9_account (l : Launch) (dC : Nat → ClassId) (dI : Nat → Nat → Nat) (h0 : Nat) (p0 : Int32) (p1 : Int32) (jb : Nat) (w1 : Value) (w2 : Value) (w3 : Value) (w4 : Value) (w5 : Value) (w6 : Value) (w7 : Value) (w8 : Value) (w9 : Value) (w10 : Value) (w11 : Value) (w12 : Value) (aq0 : Nat) (aq1 : Nat) (aq2 : Nat) (aq3 : Nat) (aq4 : Nat) (aq5 : Nat) (aq6 : Nat) (afees : Int64) (amis : Int32) (abel : Int32) (aref : Int32) (acau : Int32) (ak0 : ClassId) (ag0 : Nat → Int32) (ak1 : ClassId) (ag1 : Nat → Int32) (ak2 : ClassId) (ag2 : Nat → Int32) (ak3 : ClassId) (ag3 : Nat → Int32) (ak4 : ClassId) (ag4 : Nat → Int32) (ak5 : ClassId) (ag5 : Nat → Int32) (ak6 : ClassId) (ag6 : Nat → Int32) (sz : Nat) : Met l yX9_account wsX9_account ({ frames := 1, cells := 0, slots := 0, locals := 23 }) (va_Pc [.ref h0, .int p0, .int p1] (fun U => U.heap.size = sz ∧ va_P (dC, dI) vwCl [(h0, .inr (8, [.ref jb, w1, w2, w3, w4, w5, w6, w7, w8, w9, w10, w11, w12])), (jb, .inr (0, [.ref aq0, .ref aq1, .ref aq2, .ref aq3, .ref aq4, .ref aq5, .ref aq6, .int 0, .long afees, .int amis, .int abel, .int aref, .int acau])), (aq0, .inl (ak0, 8, .inl ag0)), (aq1, .inl (ak1, 8, .inl ag1)), (aq2, .inl (ak2, 8, .inl ag2)), (aq3, .inl (ak3, 8, .inl ag3)), (aq4, .inl (ak4, 8, .inl ag4)), (aq5, .inl (ak5, 8, .inl ag5)), (aq6, .inl (ak6, 8, .inl ag6))] U.heap ∧ va_K (dC, dI) vwCl [(ak0, .int), (ak1, .int), (ak2, .int), (ak3, .boolean), (ak4, .int), (ak5, .int), (ak6, .int)] U ∧ va_D (fun _ => True) [(h0, .inr (8, [.ref jb, w1, w2, w3, w4, w5, w6, w7, w8, w9, w10, w11, w12])), (jb, .inr (0, [.ref aq0, .ref aq1, .ref aq2, .ref aq3, .ref aq4, .ref aq5, .ref aq6, .int 0, .long afees, .int amis, .int abel, .int aref, .int acau])), (aq0, .inl (ak0, 8, .inl ag0)), (aq1, .inl (ak1, 8, .inl ag1)), (aq2, .inl (ak2, 8, .inl ag2)), (aq3, .inl (ak3, 8, .inl ag3)), (aq4, .inl (ak4, 8, .inl ag4)), (aq5, .inl (ak5, 8, .inl ag5)), (aq6, .inl (ak6, 8, .inl ag6))])) (va_Qi (fun (r : Int32) (_ : Unit) => (r = 0 ∧ 0 ≤ p0.toInt ∧ p0.toInt < 5 ∧ 0 ≤ p1.toInt ∧ p1.toInt ≤ 1000000000) ∨ (r = (-2) ∧ ¬(0 ≤ p0.toInt ∧ p0.toInt < 5 ∧ 0 ≤ p1.toInt ∧ p1.toInt ≤ 1000000000))) (fun (_ : Unit) (t : State) => va_P (dC, dI) vwCl [] t.heap ∧ va_K (dC, dI) vwCl [] t ∧ va_D (va_A [(h0, .inr (8, [.ref jb, w1, w2, w3, w4, w5, w6, w7, w8, w9, w10, w11, w12])), (jb, .inr (0, [.ref aq0, .ref aq1, .ref aq2, .ref aq3, .ref aq4, .ref aq5, .ref aq6, .int 0, .long afees, .int amis, .int abel, .int aref, .int acau])), (aq0, .inl (ak0, 8, .inl ag0)), (aq1, .inl (ak1, 8, .inl ag1)), (aq2, .inl (ak2, 8, .inl ag2)), (aq3, .inl (ak3, 8, .inl ag3)), (aq4, .inl (ak4, 8, .inl ag4)), (aq5, .inl (ak5, 8, .inl ag5)), (aq6, .inl (ak6, 8, .inl ag6))] sz) []) (va_A [(h0, .inr (8, [.ref jb, w1, w2, w3, w4, w5, w6, w7, w8, w9, w10, w11, w12])), (jb, .inr (0, [.ref aq0, .ref aq1, .ref aq2, .ref aq3, .ref aq4, .ref aq5, .ref aq6, .int 0, .long afees, .int amis, .int abel, .int aref, .int acau])), (aq0, .inl (ak0, 8, .inl ag0)), (aq1, .inl (ak1, 8, .inl ag1)), (aq2, .inl (ak2, 8, .inl ag2)), (aq3, .inl (ak3, 8, .inl ag3)), (aq4, .inl (ak4, 8, .inl ag4)), (aq5, .inl (ak5, 8, .inl ag5)), (aq6, .inl (ak6, 8, .inl ag6))] sz)) 0 0 (va_A [(h0, .inr (8, [.ref jb, w1, w2, w3, w4, w5, w6, w7, w8, w9, w10, w11, w12])), (jb, .inr (0, [.ref aq0, .ref aq1, .ref aq2, .ref aq3, .ref aq4, .ref aq5, .ref aq6, .int 0, .long afees, .int amis, .int abel, .int aref, .int acau])), (aq0, .inl (ak0, 8, .inl ag0)), (aq1, .inl (ak1, 8, .inl ag1)), (aq2, .inl (ak2, 8, .inl ag2)), (aq3, .inl (ak3, 8, .inl ag3)), (aq4, .inl (ak4, 8, .inl ag4)), (aq5, .inl (ak5, 8, .inl ag5)), (aq6, .inl (ak6, 8, .inl ag6))] sz) := by
  refine Met.ofW (cc := cX9_account) (maxL := 3) (ret := (some .int)) (by decide) rfl ?_
  intro p e s m args below meth c s₁ B hml hv
  obtain ⟨rfl, hsz, hP, hK, hD0⟩ := hv
  have hx := B.exec
  have hb := B.bytes
  have hr := B.returns
  have hts := atoms_spec (ws := wsX9_account) B.pre
  have hown : s.vm.findClass RX9 = some m.cls := findClass_of_methodNamed B.named
  have hlocks := B.notSynchronized
  subst hsz
  have hD := hD0.self (sz := s.heap.size)
  generalize hAe : va_A [(h0, .inr (8, [.ref jb, w1, w2, w3, w4, w5, w6, w7, w8, w9, w10, w11, w12])), (jb, .inr (0, [.ref aq0, .ref aq1, .ref aq2, .ref aq3, .ref aq4, .ref aq5, .ref aq6, .int 0, .long afees, .int amis, .int abel, .int aref, .int acau])), (aq0, .inl (ak0, 8, .inl ag0)), (aq1, .inl (ak1, 8, .inl ag1)), (aq2, .inl (ak2, 8, .inl ag2)), (aq3, .inl (ak3, 8, .inl ag3)), (aq4, .inl (ak4, 8, .inl ag4)), (aq5, .inl (ak5, 8, .inl ag5)), (aq6, .inl (ak6, 8, .inl ag6))] s.heap.size = A at hD ⊢
  have hA : ∀ q : Nat, s.heap.size ≤ q → A q := fun q h => by rw [← hAe]; exact Or.inr h
  have hS : va_S A s.heap s.heap [] := va_S.rf
  have hP : va_P (dC, dI) vwCl [(h0, .inr (8, [.ref jb, w1, w2, w3, w4, w5, w6, w7, w8, w9, w10, w11, w12])), (jb, .inr (0, [.ref aq0, .ref aq1, .ref aq2, .ref aq3, .ref aq4, .ref aq5, .ref aq6, .int 0, .long afees, .int amis, .int abel, .int aref, .int acau])), (aq0, .inl (ak0, 8, .inl ag0)), (aq1, .inl (ak1, 8, .inl ag1)), (aq2, .inl (ak2, 8, .inl ag2)), (aq3, .inl (ak3, 8, .inl ag3)), (aq4, .inl (ak4, 8, .inl ag4)), (aq5, .inl (ak5, 8, .inl ag5)), (aq6, .inl (ak6, 8, .inl ag6))] s.heap := hP
  have hl := lv_entry ([.ref h0, .int p0, .int p1]) (n := 3) (Nat.le_of_ble_eq_true rfl)
  rw [lg_entry_eq]
  generalize (lg_sl ([.ref h0, .int p0, .int p1]) ++ List.replicate (3 - (lg_sl ([.ref h0, .int p0, .int p1])).length) Slot.unset).toArray = ls at hl ⊢
  have hl : lv_has ls 3 [(0, .ref h0), (1, .int p0), (2, .int p1)] := hl
  have k_m2 : ((-2) : Int32).toInt = (-2) := by decide
  have k_0 : (0 : Int32).toInt = 0 := by decide
  have k_1000000000 : (1000000000 : Int32).toInt = 1000000000 := by decide
  refine lv_iload_n hx hb dX9_account_0 rfl (lv_at hl 1 rfl) ?_
  have hPc := hP.sub (ws' := []) [] rfl
  have hDc := hD.sub (ws' := []) [] (by decide) rfl
  have hKc := hK.sub (tys' := []) [] rfl
  have hFc := va_free (wc := []) hD hS hA [] rfl
  refine va_calli (va_runS (As := [.int p0]) (rest := []) ⟨hx, hb, hml, hown, hts⟩ (c_X2_isKind l dC dI p0 s.heap.size) (va_cwS 1 hts gX9_account_X2_isKind rfl rfl rfl (by decide +kernel) ⟨Nat.le_of_ble_eq_true rfl, Nat.le_of_ble_eq_true rfl⟩) ⟨fun a U g mk q => by obtain ⟨q0, q1, qP, qK, qD⟩ := q; exact ⟨q0, q1, qP, va_K.moved (u := U) (U := U.calling g mk a) (Vm.Alike.refl U.vm) qK, qD⟩, fun U hU hW => ⟨rfl, by rw [hU], by rw [hU]; exact hPc, va_K.moved hW.alike hKc, hDc.weaken (fun _ _ _ _ => trivial)⟩⟩ rfl rfl hl.1 rfl (lv_room (Nat.le_of_ble_eq_true rfl)) dX9_account_1 ⟨Nat.le_of_ble_eq_true rfl, Nat.le_of_ble_eq_true rfl⟩) hS (fun q _ h => hFc q h) hFc (fun r1 u t H1 locs ht hvm hw hB hz1 hk1 hS => ?_)
  obtain ⟨hP1, hK1, hD1⟩ := hB
  rw [ht] at hP1
  have hK1 := va_K.moved hvm.symm hK1
  try dsimp only at hw
  obtain ⟨hP, hD⟩ := va_join (wr := [(h0, .inr (8, [.ref jb, w1, w2, w3, w4, w5, w6, w7, w8, w9, w10, w11, w12])), (jb, .inr (0, [.ref aq0, .ref aq1, .ref aq2, .ref aq3, .ref aq4, .ref aq5, .ref aq6, .int 0, .long afees, .int amis, .int abel, .int aref, .int acau])), (aq0, .inl (ak0, 8, .inl ag0)), (aq1, .inl (ak1, 8, .inl ag1)), (aq2, .inl (ak2, 8, .inl ag2)), (aq3, .inl (ak3, 8, .inl ag3)), (aq4, .inl (ak4, 8, .inl ag4)), (aq5, .inl (ak5, 8, .inl ag5)), (aq6, .inl (ak6, 8, .inl ag6))]) (w1 := []) hP hD [] [0, 1, 2, 3, 4, 5, 6, 7, 8] rfl rfl (by decide) (by decide) hk1 hFc hP1 hD1
  have hK := (hK.sub (tys' := [(ak0, .int), (ak1, .int), (ak2, .int), (ak3, .boolean), (ak4, .int), (ak5, .int), (ak6, .int)]) [0, 1, 2, 3, 4, 5, 6] rfl).app hK1
  generalize H1 = H at hP hS ⊢
  have hP : va_P (dC, dI) vwCl [(h0, .inr (8, [.ref jb, w1, w2, w3, w4, w5, w6, w7, w8, w9, w10, w11, w12])), (jb, .inr (0, [.ref aq0, .ref aq1, .ref aq2, .ref aq3, .ref aq4, .ref aq5, .ref aq6, .int 0, .long afees, .int amis, .int abel, .int aref, .int acau])), (aq0, .inl (ak0, 8, .inl ag0)), (aq1, .inl (ak1, 8, .inl ag1)), (aq2, .inl (ak2, 8, .inl ag2)), (aq3, .inl (ak3, 8, .inl ag3)), (aq4, .inl (ak4, 8, .inl ag4)), (aq5, .inl (ak5, 8, .inl ag5)), (aq6, .inl (ak6, 8, .inl ag6))] H := hP
  have hD : va_D A [(h0, .inr (8, [.ref jb, w1, w2, w3, w4, w5, w6, w7, w8, w9, w10, w11, w12])), (jb, .inr (0, [.ref aq0, .ref aq1, .ref aq2, .ref aq3, .ref aq4, .ref aq5, .ref aq6, .int 0, .long afees, .int amis, .int abel, .int aref, .int acau])), (aq0, .inl (ak0, 8, .inl ag0)), (aq1, .inl (ak1, 8, .inl ag1)), (aq2, .inl (ak2, 8, .inl ag2)), (aq3, .inl (ak3, 8, .inl ag3)), (aq4, .inl (ak4, 8, .inl ag4)), (aq5, .inl (ak5, 8, .inl ag5)), (aq6, .inl (ak6, 8, .inl ag6))] := hD
  have hK : va_K (dC, dI) vwCl [(ak0, .int), (ak1, .int), (ak2, .int), (ak3, .boolean), (ak4, .int), (ak5, .int), (ak6, .int)] s := hK
  rcases hw with ⟨e_r1, f_r1⟩ | ⟨e_r1, f_r1⟩
  · subst e_r1
    refine lv_if_eq (tgt := 16) hx hb dX9_account_4 (by decide) (fun c2 => absurd c2 (by decide)) (fun c2 => ?_)
    refine lv_iload_n hx hb dX9_account_7 rfl (lv_at hl 2 rfl) ?_
    refine lv_ldc hx hb hown (hts (.constant RX9 90 (1000000000)) (List.mem_of_getElem? (i := 1) (by decide +kernel))) dX9_account_8 ?_
    have hPc := hP.sub (ws' := []) [] rfl
    have hDc := hD.sub (ws' := []) [] (by decide) rfl
    have hKc := hK.sub (tys' := []) [] rfl
    have hFc := va_free (wc := []) hD hS hA [] rfl
    refine va_calli (va_runS (As := [.int p1, .int 1000000000]) (rest := []) ⟨hx, hb, hml, hown, hts⟩ (c_X9_isWithin l dC dI p1 1000000000 H.size) (va_cwS 2 hts gX9_account_X9_isWithin rfl rfl rfl (by decide +kernel) ⟨Nat.le_of_ble_eq_true rfl, Nat.le_of_ble_eq_true rfl⟩) ⟨fun a U g mk q => by obtain ⟨q0, q1, qP, qK, qD⟩ := q; exact ⟨q0, q1, qP, va_K.moved (u := U) (U := U.calling g mk a) (Vm.Alike.refl U.vm) qK, qD⟩, fun U hU hW => ⟨rfl, by rw [hU], by rw [hU]; exact hPc, va_K.moved hW.alike hKc, hDc.weaken (fun _ _ _ _ => trivial)⟩⟩ rfl rfl hl.1 rfl (lv_room (Nat.le_of_ble_eq_true rfl)) dX9_account_10 ⟨Nat.le_of_ble_eq_true rfl, Nat.le_of_ble_eq_true rfl⟩) hS (fun q _ h => hFc q h) hFc (fun r3 u t H1 locs ht hvm hw hB hz1 hk1 hS => ?_)
    obtain ⟨hP1, hK1, hD1⟩ := hB
    rw [ht] at hP1
    have hK1 := va_K.moved hvm.symm hK1
    try dsimp only at hw
    obtain ⟨hP, hD⟩ := va_join (wr := [(h0, .inr (8, [.ref jb, w1, w2, w3, w4, w5, w6, w7, w8, w9, w10, w11, w12])), (jb, .inr (0, [.ref aq0, .ref aq1, .ref aq2, .ref aq3, .ref aq4, .ref aq5, .ref aq6, .int 0, .long afees, .int amis, .int abel, .int aref, .int acau])), (aq0, .inl (ak0, 8, .inl ag0)), (aq1, .inl (ak1, 8, .inl ag1)), (aq2, .inl (ak2, 8, .inl ag2)), (aq3, .inl (ak3, 8, .inl ag3)), (aq4, .inl (ak4, 8, .inl ag4)), (aq5, .inl (ak5, 8, .inl ag5)), (aq6, .inl (ak6, 8, .inl ag6))]) (w1 := []) hP hD [] [0, 1, 2, 3, 4, 5, 6, 7, 8] rfl rfl (by decide) (by decide) hk1 hFc hP1 hD1
    have hK := (hK.sub (tys' := [(ak0, .int), (ak1, .int), (ak2, .int), (ak3, .boolean), (ak4, .int), (ak5, .int), (ak6, .int)]) [0, 1, 2, 3, 4, 5, 6] rfl).app hK1
    generalize H1 = H at hP hS ⊢
    have hP : va_P (dC, dI) vwCl [(h0, .inr (8, [.ref jb, w1, w2, w3, w4, w5, w6, w7, w8, w9, w10, w11, w12])), (jb, .inr (0, [.ref aq0, .ref aq1, .ref aq2, .ref aq3, .ref aq4, .ref aq5, .ref aq6, .int 0, .long afees, .int amis, .int abel, .int aref, .int acau])), (aq0, .inl (ak0, 8, .inl ag0)), (aq1, .inl (ak1, 8, .inl ag1)), (aq2, .inl (ak2, 8, .inl ag2)), (aq3, .inl (ak3, 8, .inl ag3)), (aq4, .inl (ak4, 8, .inl ag4)), (aq5, .inl (ak5, 8, .inl ag5)), (aq6, .inl (ak6, 8, .inl ag6))] H := hP
    have hD : va_D A [(h0, .inr (8, [.ref jb, w1, w2, w3, w4, w5, w6, w7, w8, w9, w10, w11, w12])), (jb, .inr (0, [.ref aq0, .ref aq1, .ref aq2, .ref aq3, .ref aq4, .ref aq5, .ref aq6, .int 0, .long afees, .int amis, .int abel, .int aref, .int acau])), (aq0, .inl (ak0, 8, .inl ag0)), (aq1, .inl (ak1, 8, .inl ag1)), (aq2, .inl (ak2, 8, .inl ag2)), (aq3, .inl (ak3, 8, .inl ag3)), (aq4, .inl (ak4, 8, .inl ag4)), (aq5, .inl (ak5, 8, .inl ag5)), (aq6, .inl (ak6, 8, .inl ag6))] := hD
    have hK : va_K (dC, dI) vwCl [(ak0, .int), (ak1, .int), (ak2, .int), (ak3, .boolean), (ak4, .int), (ak5, .int), (ak6, .int)] s := hK
    rcases hw with ⟨e_r3, f_r3⟩ | ⟨e_r3, f_r3⟩
    · subst e_r3
      refine lv_if_ne (tgt := 19) hx hb dX9_account_13 (by decide) (fun c4 => ?_) (fun c4 => absurd c4 (by decide))
      refine lv_aload_n hx hb dX9_account_19 rfl (lv_at hl 0 rfl) ?_
      refine va_get (D := (dC, dI)) (ci := 8) (v := .ref jb) (C := RX9) (T := TX9) (N := 13) hx hb hts in_X9_account_X9 hown hK hP 0 rfl rfl 0 (by decide) (hts (.fieldLink RX9 12 "ClearingGates" "books" "LClearingGates$Books;") (List.mem_of_getElem? (i := 2) (by decide +kernel))) (fun _ h9 => h9) rfl dX9_account_20 ?_
      refine va_get (D := (dC, dI)) (ci := 0) (v := .int 0) (C := RX0) (T := TX0) (N := 13) hx hb hts in_X9_account_X0 hown hK hP 1 rfl rfl 7 (by decide) (hts (.fieldLink RX9 95 "ClearingGates$Books" "accounts" "I") (List.mem_of_getElem? (i := 3) (by decide +kernel))) (fun _ h9 => h9) rfl dX9_account_23 ?_
      refine lv_bipush (v := 8) hx hb dX9_account_26 (by decide) ?_
      refine lv_icmp_lt (tgt := 34) hx hb dX9_account_28 (by decide) (fun c5 => ?_) (fun c5 => absurd (by decide) c5)
      refine lv_aload_n hx hb dX9_account_34 rfl (lv_at hl 0 rfl) ?_
      refine va_get (D := (dC, dI)) (ci := 8) (v := .ref jb) (C := RX9) (T := TX9) (N := 13) hx hb hts in_X9_account_X9 hown hK hP 0 rfl rfl 0 (by decide) (hts (.fieldLink RX9 12 "ClearingGates" "books" "LClearingGates$Books;") (List.mem_of_getElem? (i := 2) (by decide +kernel))) (fun _ h9 => h9) rfl dX9_account_35 ?_
      refine lv_iload_n hx hb dX9_account_38 rfl (lv_at hl 1 rfl) ?_
      refine lv_iload_n hx hb dX9_account_39 rfl (lv_at hl 2 rfl) ?_
      have hPc := hP.sub (ws' := [(jb, .inr (0, [.ref aq0, .ref aq1, .ref aq2, .ref aq3, .ref aq4, .ref aq5, .ref aq6, .int 0, .long afees, .int amis, .int abel, .int aref, .int acau])), (aq0, .inl (ak0, 8, .inl ag0)), (aq1, .inl (ak1, 8, .inl ag1)), (aq2, .inl (ak2, 8, .inl ag2)), (aq3, .inl (ak3, 8, .inl ag3)), (aq4, .inl (ak4, 8, .inl ag4)), (aq5, .inl (ak5, 8, .inl ag5)), (aq6, .inl (ak6, 8, .inl ag6))]) [1, 2, 3, 4, 5, 6, 7, 8] rfl
      have hDc := hD.sub (ws' := [(jb, .inr (0, [.ref aq0, .ref aq1, .ref aq2, .ref aq3, .ref aq4, .ref aq5, .ref aq6, .int 0, .long afees, .int amis, .int abel, .int aref, .int acau])), (aq0, .inl (ak0, 8, .inl ag0)), (aq1, .inl (ak1, 8, .inl ag1)), (aq2, .inl (ak2, 8, .inl ag2)), (aq3, .inl (ak3, 8, .inl ag3)), (aq4, .inl (ak4, 8, .inl ag4)), (aq5, .inl (ak5, 8, .inl ag5)), (aq6, .inl (ak6, 8, .inl ag6))]) [1, 2, 3, 4, 5, 6, 7, 8] (by decide) rfl
      have hKc := hK.sub (tys' := [(ak0, .int), (ak1, .int), (ak2, .int), (ak3, .boolean), (ak4, .int), (ak5, .int), (ak6, .int)]) [0, 1, 2, 3, 4, 5, 6] rfl
      have hFc := va_free (wc := [(jb, .inr (0, [.ref aq0, .ref aq1, .ref aq2, .ref aq3, .ref aq4, .ref aq5, .ref aq6, .int 0, .long afees, .int amis, .int abel, .int aref, .int acau])), (aq0, .inl (ak0, 8, .inl ag0)), (aq1, .inl (ak1, 8, .inl ag1)), (aq2, .inl (ak2, 8, .inl ag2)), (aq3, .inl (ak3, 8, .inl ag3)), (aq4, .inl (ak4, 8, .inl ag4)), (aq5, .inl (ak5, 8, .inl ag5)), (aq6, .inl (ak6, 8, .inl ag6))]) hD hS hA [1, 2, 3, 4, 5, 6, 7, 8] rfl
      refine va_calli (va_runV (As := [.int p0, .int p1]) (rest := []) ⟨hx, hb, hml, hown, hts⟩ (c_X0_open l dC dI jb p0 p1 aq0 aq1 aq2 aq3 aq4 aq5 aq6 afees amis abel aref acau ak0 ag0 ak1 ag1 ak2 ag2 ak3 ag3 ak4 ag4 ak5 ag5 ak6 ag6 H.size) (cwV 2 hts gX9_account_X0_open rfl rfl rfl (by decide +kernel) ⟨Nat.le_of_ble_eq_true rfl, Nat.le_of_ble_eq_true rfl⟩) ⟨fun a U g mk q => by obtain ⟨q0, q1, qP, qK, qD⟩ := q; exact ⟨q0, q1, qP, va_K.moved (u := U) (U := U.calling g mk a) (Vm.Alike.refl U.vm) qK, qD⟩, va_recv hKc hPc (ci := 0) (q0 := 0) rfl rfl, fun U hU hW => ⟨rfl, by rw [hU], by rw [hU]; exact hPc, va_K.moved hW.alike hKc, hDc.weaken (fun _ _ _ _ => trivial)⟩⟩ rfl rfl hl.1 rfl (lv_room (Nat.le_of_ble_eq_true rfl)) dX9_account_40 ⟨Nat.le_of_ble_eq_true rfl, Nat.le_of_ble_eq_true rfl⟩) hS (fun q _ h => hFc q h) hFc (fun r6 u t H1 locs ht hvm hw hB hz1 hk1 hS => ?_)
      obtain ⟨hP1, hK1, hD1⟩ := hB
      rw [ht] at hP1
      have hK1 := va_K.moved hvm.symm hK1
      try dsimp only at hw
      obtain ⟨hP, hD⟩ := va_join (wr := [(h0, .inr (8, [.ref jb, w1, w2, w3, w4, w5, w6, w7, w8, w9, w10, w11, w12]))]) (w1 := []) hP hD [1, 2, 3, 4, 5, 6, 7, 8] [0] rfl rfl (by decide) (by decide) hk1 hFc hP1 hD1
      have hK := (hK.sub (tys' := []) [] rfl).app hK1
      generalize H1 = H at hP hS ⊢
      have hP : va_P (dC, dI) vwCl [(h0, .inr (8, [.ref jb, w1, w2, w3, w4, w5, w6, w7, w8, w9, w10, w11, w12]))] H := hP
      have hD : va_D A [(h0, .inr (8, [.ref jb, w1, w2, w3, w4, w5, w6, w7, w8, w9, w10, w11, w12]))] := hD
      have hK : va_K (dC, dI) vwCl [] s := hK
      subst hw
      have hP9 := hP.sub (ws' := []) [] rfl
      have hD9 := hD.sub (ws' := []) [] (by decide) rfl
      have hK9 := hK.sub (tys' := []) [] rfl
      exact W.iret (v := 0) hx hb hr (fun t ht hW => ⟨⟨0, (), rfl, Or.inl ⟨rfl, by omega⟩, by rw [ht]; exact hP9, va_K.moved hW.alike hK9, hD9⟩, hS.F ht⟩) hS.2.2 dX9_account_43
    · subst e_r3
      refine lv_if_ne (tgt := 19) hx hb dX9_account_13 (by decide) (fun c7 => absurd (by decide) c7) (fun c7 => ?_)
      refine lv_bipush (v := -2) hx hb dX9_account_16 (by decide) ?_
      have hP9 := hP.sub (ws' := []) [] rfl
      have hD9 := hD.sub (ws' := []) [] (by decide) rfl
      have hK9 := hK.sub (tys' := []) [] rfl
      exact W.iret (v := (-2)) hx hb hr (fun t ht hW => ⟨⟨(-2), (), rfl, Or.inr (⟨rfl, by omega⟩), by rw [ht]; exact hP9, va_K.moved hW.alike hK9, hD9⟩, hS.F ht⟩) hS.2.2 dX9_account_18
  · subst e_r1
    refine lv_if_eq (tgt := 16) hx hb dX9_account_4 (by decide) (fun c8 => ?_) (fun c8 => absurd (by decide) c8)
    refine lv_bipush (v := -2) hx hb dX9_account_16 (by decide) ?_
    have hP9 := hP.sub (ws' := []) [] rfl
    have hD9 := hD.sub (ws' := []) [] (by decide) rfl
    have hK9 := hK.sub (tys' := []) [] rfl
    exact W.iret (v := (-2)) hx hb hr (fun t ht hW => ⟨⟨(-2), (), rfl, Or.inr (⟨rfl, by omega⟩), by rw [ht]; exact hP9, va_K.moved hW.alike hK9, hD9⟩, hS.F ht⟩) hS.2.2 dX9_account_18

theorem in_X9_set_X9 : ∀ w ∈ wsX90, w ∈ wsX9_set := fun _ h => List.mem_cons_of_mem _ (List.mem_append_left _ (List.mem_append_right _ h))
set_option maxRecDepth 100000 in
set_option maxHeartbeats 4000000 in
/-- set on a fresh object -/
theorem c_X9_set (l : Launch) (dC : Nat → ClassId) (dI : Nat → Nat → Nat) (h0 : Nat) (p0 : Int32) (p1 : Int32) (p2 : Int32) (jb : Nat) (w1 : Value) (w2 : Value) (w3 : Value) (w4 : Value) (w5 : Value) (w6 : Value) (w7 : Value) (w8 : Value) (w9 : Value) (w10 : Value) (w11 : Value) (w12 : Value) (v0 : Value) (v1 : Value) (v2 : Value) (v3 : Value) (v4 : Value) (v5 : Value) (v6 : Value) (v8 : Value) (v9 : Value) (v10 : Value) (v11 : Value) (v12 : Value) (sz : Nat) : Met l yX9_set wsX9_set ({ frames := 1, cells := 0, slots := 0, locals := 21 }) (va_Pc [.ref h0, .int p0, .int p1, .int p2] (fun U => U.heap.size = sz ∧ va_P (dC, dI) vwCl [(h0, .inr (8, [.ref jb, w1, w2, w3, w4, w5, w6, w7, w8, w9, w10, w11, w12])), (jb, .inr (0, [v0, v1, v2, v3, v4, v5, v6, .int 0, v8, v9, v10, v11, v12]))] U.heap ∧ va_K (dC, dI) vwCl [] U ∧ va_D (fun _ => True) [(h0, .inr (8, [.ref jb, w1, w2, w3, w4, w5, w6, w7, w8, w9, w10, w11, w12])), (jb, .inr (0, [v0, v1, v2, v3, v4, v5, v6, .int 0, v8, v9, v10, v11, v12]))])) (va_Ql (fun (r : Int64) (_ : Unit) => r = (-9223372036854775808)) (fun (_ : Unit) (t : State) => va_P (dC, dI) vwCl [] t.heap ∧ va_K (dC, dI) vwCl [] t ∧ va_D (va_A [(h0, .inr (8, [.ref jb, w1, w2, w3, w4, w5, w6, w7, w8, w9, w10, w11, w12])), (jb, .inr (0, [v0, v1, v2, v3, v4, v5, v6, .int 0, v8, v9, v10, v11, v12]))] sz) []) (va_A [(h0, .inr (8, [.ref jb, w1, w2, w3, w4, w5, w6, w7, w8, w9, w10, w11, w12])), (jb, .inr (0, [v0, v1, v2, v3, v4, v5, v6, .int 0, v8, v9, v10, v11, v12]))] sz)) 0 0 (va_A [(h0, .inr (8, [.ref jb, w1, w2, w3, w4, w5, w6, w7, w8, w9, w10, w11, w12])), (jb, .inr (0, [v0, v1, v2, v3, v4, v5, v6, .int 0, v8, v9, v10, v11, v12]))] sz) := by
  refine Met.ofW (cc := cX9_set) (maxL := 5) (ret := (some .long)) (by decide) rfl ?_
  intro p e s m args below meth c s₁ B hml hv
  obtain ⟨rfl, hsz, hP, hK, hD0⟩ := hv
  have hx := B.exec
  have hb := B.bytes
  have hr := B.returns
  have hts := atoms_spec (ws := wsX9_set) B.pre
  have hown : s.vm.findClass RX9 = some m.cls := findClass_of_methodNamed B.named
  have hlocks := B.notSynchronized
  subst hsz
  have hD := hD0.self (sz := s.heap.size)
  generalize hAe : va_A [(h0, .inr (8, [.ref jb, w1, w2, w3, w4, w5, w6, w7, w8, w9, w10, w11, w12])), (jb, .inr (0, [v0, v1, v2, v3, v4, v5, v6, .int 0, v8, v9, v10, v11, v12]))] s.heap.size = A at hD ⊢
  have hA : ∀ q : Nat, s.heap.size ≤ q → A q := fun q h => by rw [← hAe]; exact Or.inr h
  have hS : va_S A s.heap s.heap [] := va_S.rf
  have hP : va_P (dC, dI) vwCl [(h0, .inr (8, [.ref jb, w1, w2, w3, w4, w5, w6, w7, w8, w9, w10, w11, w12])), (jb, .inr (0, [v0, v1, v2, v3, v4, v5, v6, .int 0, v8, v9, v10, v11, v12]))] s.heap := hP
  have hl := lv_entry ([.ref h0, .int p0, .int p1, .int p2]) (n := 5) (Nat.le_of_ble_eq_true rfl)
  rw [lg_entry_eq]
  generalize (lg_sl ([.ref h0, .int p0, .int p1, .int p2]) ++ List.replicate (5 - (lg_sl ([.ref h0, .int p0, .int p1, .int p2])).length) Slot.unset).toArray = ls at hl ⊢
  have hl : lv_has ls 5 [(0, .ref h0), (1, .int p0), (2, .int p1), (3, .int p2)] := hl
  have k_0 : (0 : Int32).toInt = 0 := by decide
  refine lv_aload_n hx hb dX9_set_0 rfl (lv_at hl 0 rfl) ?_
  refine va_get (D := (dC, dI)) (ci := 8) (v := .ref jb) (C := RX9) (T := TX9) (N := 13) hx hb hts in_X9_set_X9 hown hK hP 0 rfl rfl 0 (by decide) (hts (.fieldLink RX9 12 "ClearingGates" "books" "LClearingGates$Books;") (List.mem_of_getElem? (i := 1) (by decide +kernel))) (fun _ h9 => h9) rfl dX9_set_1 ?_
  refine lv_iload_n hx hb dX9_set_4 rfl (lv_at hl 1 rfl) ?_
  have hPc := hP.sub (ws' := [(jb, .inr (0, [v0, v1, v2, v3, v4, v5, v6, .int 0, v8, v9, v10, v11, v12]))]) [1] rfl
  have hDc := hD.sub (ws' := [(jb, .inr (0, [v0, v1, v2, v3, v4, v5, v6, .int 0, v8, v9, v10, v11, v12]))]) [1] (by decide) rfl
  have hKc := hK.sub (tys' := []) [] rfl
  have hFc := va_free (wc := [(jb, .inr (0, [v0, v1, v2, v3, v4, v5, v6, .int 0, v8, v9, v10, v11, v12]))]) hD hS hA [1] rfl
  refine va_calli (va_runV (As := [.int p0]) (rest := []) ⟨hx, hb, hml, hown, hts⟩ (c_X0_has l dC dI jb p0 (v0) (v1) (v2) (v3) (v4) (v5) (v6) 0 (v8) (v9) (v10) (v11) (v12) s.heap.size) (cwV 1 hts gX9_set_X0_has rfl rfl rfl (by decide +kernel) ⟨Nat.le_of_ble_eq_true rfl, Nat.le_of_ble_eq_true rfl⟩) ⟨fun a U g mk q => by obtain ⟨q0, q1, qP, qK, qD⟩ := q; exact ⟨q0, q1, qP, va_K.moved (u := U) (U := U.calling g mk a) (Vm.Alike.refl U.vm) qK, qD⟩, va_recv hKc hPc (ci := 0) (q0 := 0) rfl rfl, fun U hU hW => ⟨rfl, by rw [hU], by rw [hU]; exact hPc, va_K.moved hW.alike hKc, hDc.weaken (fun _ _ _ _ => trivial)⟩⟩ rfl rfl hl.1 rfl (lv_room (Nat.le_of_ble_eq_true rfl)) dX9_set_5 ⟨Nat.le_of_ble_eq_true rfl, Nat.le_of_ble_eq_true rfl⟩) hS (fun q _ h => hFc q h) hFc (fun r1 u t H1 locs ht hvm hw hB hz1 hk1 hS => ?_)
  obtain ⟨hP1, hK1, hD1⟩ := hB
  rw [ht] at hP1
  have hK1 := va_K.moved hvm.symm hK1
  try dsimp only at hw
  obtain ⟨hP, hD⟩ := va_join (wr := [(h0, .inr (8, [.ref jb, w1, w2, w3, w4, w5, w6, w7, w8, w9, w10, w11, w12]))]) (w1 := [(jb, .inr (0, [v0, v1, v2, v3, v4, v5, v6, .int 0, v8, v9, v10, v11, v12]))]) hP hD [1] [0] rfl rfl (by decide) (by decide) hk1 hFc hP1 hD1
  have hK := (hK.sub (tys' := []) [] rfl).app hK1
  generalize H1 = H at hP hS ⊢
  have hP : va_P (dC, dI) vwCl [(h0, .inr (8, [.ref jb, w1, w2, w3, w4, w5, w6, w7, w8, w9, w10, w11, w12])), (jb, .inr (0, [v0, v1, v2, v3, v4, v5, v6, .int 0, v8, v9, v10, v11, v12]))] H := hP
  have hD : va_D A [(h0, .inr (8, [.ref jb, w1, w2, w3, w4, w5, w6, w7, w8, w9, w10, w11, w12])), (jb, .inr (0, [v0, v1, v2, v3, v4, v5, v6, .int 0, v8, v9, v10, v11, v12]))] := hD
  have hK : va_K (dC, dI) vwCl [] s := hK
  rcases hw with ⟨e_r1, f_r1⟩ | ⟨e_r1, f_r1⟩
  · subst e_r1
    exfalso; omega
  · subst e_r1
    refine lv_if_ne (tgt := 15) hx hb dX9_set_8 (by decide) (fun c2 => absurd (by decide) c2) (fun c2 => ?_)
    refine lv_ldc2 hx hb hown (hts (.constantLong RX9 105 (-9223372036854775808)) (List.mem_of_getElem? (i := 2) (by decide +kernel))) dX9_set_11 ?_
    have hP9 := hP.sub (ws' := []) [] rfl
    have hD9 := hD.sub (ws' := []) [] (by decide) rfl
    have hK9 := hK.sub (tys' := []) [] rfl
    exact W.lret (v := (-9223372036854775808)) hx hb hr (fun t ht hW => ⟨⟨(-9223372036854775808), (), rfl, (by first | rfl | (simp only [if_pos, if_neg, *]; done)), by rw [ht]; exact hP9, va_K.moved hW.alike hK9, hD9⟩, hS.F ht⟩) hS.2.2 dX9_set_14

theorem in_X9_told_X9 : ∀ w ∈ wsX90, w ∈ wsX9_told := fun _ h => List.mem_cons_of_mem _ (List.mem_append_left _ (List.mem_append_right _ h))
set_option maxRecDepth 100000 in
set_option maxHeartbeats 4000000 in
/-- told on a fresh object -/
theorem c_X9_told (l : Launch) (dC : Nat → ClassId) (dI : Nat → Nat → Nat) (h0 : Nat) (p0 : Int32) (p1 : Int32) (jb : Nat) (w1 : Value) (w2 : Value) (w3 : Value) (w4 : Value) (w5 : Value) (w6 : Value) (w7 : Value) (w8 : Value) (w9 : Value) (w10 : Value) (w11 : Value) (w12 : Value) (v0 : Value) (v1 : Value) (v2 : Value) (v3 : Value) (v4 : Value) (v5 : Value) (v6 : Value) (v8 : Value) (v9 : Value) (v10 : Value) (v11 : Value) (v12 : Value) (sz : Nat) : Met l yX9_told wsX9_told ({ frames := 1, cells := 0, slots := 0, locals := 21 }) (va_Pc [.ref h0, .int p0, .int p1] (fun U => U.heap.size = sz ∧ va_P (dC, dI) vwCl [(h0, .inr (8, [.ref jb, w1, w2, w3, w4, w5, w6, w7, w8, w9, w10, w11, w12])), (jb, .inr (0, [v0, v1, v2, v3, v4, v5, v6, .int 0, v8, v9, v10, v11, v12]))] U.heap ∧ va_K (dC, dI) vwCl [] U ∧ va_D (fun _ => True) [(h0, .inr (8, [.ref jb, w1, w2, w3, w4, w5, w6, w7, w8, w9, w10, w11, w12])), (jb, .inr (0, [v0, v1, v2, v3, v4, v5, v6, .int 0, v8, v9, v10, v11, v12]))])) (va_Qi (fun (r : Int32) (_ : Unit) => r = (-2)) (fun (_ : Unit) (t : State) => va_P (dC, dI) vwCl [] t.heap ∧ va_K (dC, dI) vwCl [] t ∧ va_D (va_A [(h0, .inr (8, [.ref jb, w1, w2, w3, w4, w5, w6, w7, w8, w9, w10, w11, w12])), (jb, .inr (0, [v0, v1, v2, v3, v4, v5, v6, .int 0, v8, v9, v10, v11, v12]))] sz) []) (va_A [(h0, .inr (8, [.ref jb, w1, w2, w3, w4, w5, w6, w7, w8, w9, w10, w11, w12])), (jb, .inr (0, [v0, v1, v2, v3, v4, v5, v6, .int 0, v8, v9, v10, v11, v12]))] sz)) 0 0 (va_A [(h0, .inr (8, [.ref jb, w1, w2, w3, w4, w5, w6, w7, w8, w9, w10, w11, w12])), (jb, .inr (0, [v0, v1, v2, v3, v4, v5, v6, .int 0, v8, v9, v10, v11, v12]))] sz) := by
  refine Met.ofW (cc := cX9_told) (maxL := 3) (ret := (some .int)) (by decide) rfl ?_
  intro p e s m args below meth c s₁ B hml hv
  obtain ⟨rfl, hsz, hP, hK, hD0⟩ := hv
  have hx := B.exec
  have hb := B.bytes
  have hr := B.returns
  have hts := atoms_spec (ws := wsX9_told) B.pre
  have hown : s.vm.findClass RX9 = some m.cls := findClass_of_methodNamed B.named
  have hlocks := B.notSynchronized
  subst hsz
  have hD := hD0.self (sz := s.heap.size)
  generalize hAe : va_A [(h0, .inr (8, [.ref jb, w1, w2, w3, w4, w5, w6, w7, w8, w9, w10, w11, w12])), (jb, .inr (0, [v0, v1, v2, v3, v4, v5, v6, .int 0, v8, v9, v10, v11, v12]))] s.heap.size = A at hD ⊢
  have hA : ∀ q : Nat, s.heap.size ≤ q → A q := fun q h => by rw [← hAe]; exact Or.inr h
  have hS : va_S A s.heap s.heap [] := va_S.rf
  have hP : va_P (dC, dI) vwCl [(h0, .inr (8, [.ref jb, w1, w2, w3, w4, w5, w6, w7, w8, w9, w10, w11, w12])), (jb, .inr (0, [v0, v1, v2, v3, v4, v5, v6, .int 0, v8, v9, v10, v11, v12]))] s.heap := hP
  have hl := lv_entry ([.ref h0, .int p0, .int p1]) (n := 3) (Nat.le_of_ble_eq_true rfl)
  rw [lg_entry_eq]
  generalize (lg_sl ([.ref h0, .int p0, .int p1]) ++ List.replicate (3 - (lg_sl ([.ref h0, .int p0, .int p1])).length) Slot.unset).toArray = ls at hl ⊢
  have hl : lv_has ls 3 [(0, .ref h0), (1, .int p0), (2, .int p1)] := hl
  have k_m2 : ((-2) : Int32).toInt = (-2) := by decide
  have k_0 : (0 : Int32).toInt = 0 := by decide
  refine lv_aload_n hx hb dX9_told_0 rfl (lv_at hl 0 rfl) ?_
  refine va_get (D := (dC, dI)) (ci := 8) (v := .ref jb) (C := RX9) (T := TX9) (N := 13) hx hb hts in_X9_told_X9 hown hK hP 0 rfl rfl 0 (by decide) (hts (.fieldLink RX9 12 "ClearingGates" "books" "LClearingGates$Books;") (List.mem_of_getElem? (i := 1) (by decide +kernel))) (fun _ h9 => h9) rfl dX9_told_1 ?_
  refine lv_iload_n hx hb dX9_told_4 rfl (lv_at hl 1 rfl) ?_
  have hPc := hP.sub (ws' := [(jb, .inr (0, [v0, v1, v2, v3, v4, v5, v6, .int 0, v8, v9, v10, v11, v12]))]) [1] rfl
  have hDc := hD.sub (ws' := [(jb, .inr (0, [v0, v1, v2, v3, v4, v5, v6, .int 0, v8, v9, v10, v11, v12]))]) [1] (by decide) rfl
  have hKc := hK.sub (tys' := []) [] rfl
  have hFc := va_free (wc := [(jb, .inr (0, [v0, v1, v2, v3, v4, v5, v6, .int 0, v8, v9, v10, v11, v12]))]) hD hS hA [1] rfl
  refine va_calli (va_runV (As := [.int p0]) (rest := []) ⟨hx, hb, hml, hown, hts⟩ (c_X0_has l dC dI jb p0 (v0) (v1) (v2) (v3) (v4) (v5) (v6) 0 (v8) (v9) (v10) (v11) (v12) s.heap.size) (cwV 1 hts gX9_told_X0_has rfl rfl rfl (by decide +kernel) ⟨Nat.le_of_ble_eq_true rfl, Nat.le_of_ble_eq_true rfl⟩) ⟨fun a U g mk q => by obtain ⟨q0, q1, qP, qK, qD⟩ := q; exact ⟨q0, q1, qP, va_K.moved (u := U) (U := U.calling g mk a) (Vm.Alike.refl U.vm) qK, qD⟩, va_recv hKc hPc (ci := 0) (q0 := 0) rfl rfl, fun U hU hW => ⟨rfl, by rw [hU], by rw [hU]; exact hPc, va_K.moved hW.alike hKc, hDc.weaken (fun _ _ _ _ => trivial)⟩⟩ rfl rfl hl.1 rfl (lv_room (Nat.le_of_ble_eq_true rfl)) dX9_told_5 ⟨Nat.le_of_ble_eq_true rfl, Nat.le_of_ble_eq_true rfl⟩) hS (fun q _ h => hFc q h) hFc (fun r1 u t H1 locs ht hvm hw hB hz1 hk1 hS => ?_)
  obtain ⟨hP1, hK1, hD1⟩ := hB
  rw [ht] at hP1
  have hK1 := va_K.moved hvm.symm hK1
  try dsimp only at hw
  obtain ⟨hP, hD⟩ := va_join (wr := [(h0, .inr (8, [.ref jb, w1, w2, w3, w4, w5, w6, w7, w8, w9, w10, w11, w12]))]) (w1 := [(jb, .inr (0, [v0, v1, v2, v3, v4, v5, v6, .int 0, v8, v9, v10, v11, v12]))]) hP hD [1] [0] rfl rfl (by decide) (by decide) hk1 hFc hP1 hD1
  have hK := (hK.sub (tys' := []) [] rfl).app hK1
  generalize H1 = H at hP hS ⊢
  have hP : va_P (dC, dI) vwCl [(h0, .inr (8, [.ref jb, w1, w2, w3, w4, w5, w6, w7, w8, w9, w10, w11, w12])), (jb, .inr (0, [v0, v1, v2, v3, v4, v5, v6, .int 0, v8, v9, v10, v11, v12]))] H := hP
  have hD : va_D A [(h0, .inr (8, [.ref jb, w1, w2, w3, w4, w5, w6, w7, w8, w9, w10, w11, w12])), (jb, .inr (0, [v0, v1, v2, v3, v4, v5, v6, .int 0, v8, v9, v10, v11, v12]))] := hD
  have hK : va_K (dC, dI) vwCl [] s := hK
  rcases hw with ⟨e_r1, f_r1⟩ | ⟨e_r1, f_r1⟩
  · subst e_r1
    exfalso; omega
  · subst e_r1
    refine lv_if_ne (tgt := 14) hx hb dX9_told_8 (by decide) (fun c2 => absurd (by decide) c2) (fun c2 => ?_)
    refine lv_bipush (v := -2) hx hb dX9_told_11 (by decide) ?_
    have hP9 := hP.sub (ws' := []) [] rfl
    have hD9 := hD.sub (ws' := []) [] (by decide) rfl
    have hK9 := hK.sub (tys' := []) [] rfl
    exact W.iret (v := (-2)) hx hb hr (fun t ht hW => ⟨⟨(-2), (), rfl, (by first | rfl | (simp only [if_pos, if_neg, *]; done)), by rw [ht]; exact hP9, va_K.moved hW.alike hK9, hD9⟩, hS.F ht⟩) hS.2.2 dX9_told_13

theorem in_X9_of_X9 : ∀ w ∈ wsX90, w ∈ wsX9_of := fun _ h => List.mem_cons_of_mem _ (List.mem_append_left _ (List.mem_append_left _ (List.mem_append_right _ h)))
set_option maxRecDepth 100000 in
set_option maxHeartbeats 4000000 in
/-- of on a fresh object -/
theorem c_X9_of (l : Launch) (dC : Nat → ClassId) (dI : Nat → Nat → Nat) (h0 : Nat) (p0 : Int32) (p1 : Int32) (jb : Nat) (w1 : Value) (w2 : Value) (w3 : Value) (w4 : Value) (w5 : Value) (w6 : Value) (w7 : Value) (w8 : Value) (w9 : Value) (w10 : Value) (w11 : Value) (w12 : Value) (v0 : Value) (v1 : Value) (v2 : Value) (v3 : Value) (v4 : Value) (v5 : Value) (v6 : Value) (v8 : Value) (v9 : Value) (v10 : Value) (v11 : Value) (v12 : Value) (sz : Nat) : Met l yX9_of wsX9_of ({ frames := 1, cells := 0, slots := 0, locals := 21 }) (va_Pc [.ref h0, .int p0, .int p1] (fun U => U.heap.size = sz ∧ va_P (dC, dI) vwCl [(h0, .inr (8, [.ref jb, w1, w2, w3, w4, w5, w6, w7, w8, w9, w10, w11, w12])), (jb, .inr (0, [v0, v1, v2, v3, v4, v5, v6, .int 0, v8, v9, v10, v11, v12]))] U.heap ∧ va_K (dC, dI) vwCl [] U ∧ va_D (fun _ => True) [(h0, .inr (8, [.ref jb, w1, w2, w3, w4, w5, w6, w7, w8, w9, w10, w11, w12])), (jb, .inr (0, [v0, v1, v2, v3, v4, v5, v6, .int 0, v8, v9, v10, v11, v12]))])) (va_Ql (fun (r : Int64) (_ : Unit) => r = (-9223372036854775808)) (fun (_ : Unit) (t : State) => va_P (dC, dI) vwCl [] t.heap ∧ va_K (dC, dI) vwCl [] t ∧ va_D (va_A [(h0, .inr (8, [.ref jb, w1, w2, w3, w4, w5, w6, w7, w8, w9, w10, w11, w12])), (jb, .inr (0, [v0, v1, v2, v3, v4, v5, v6, .int 0, v8, v9, v10, v11, v12]))] sz) []) (va_A [(h0, .inr (8, [.ref jb, w1, w2, w3, w4, w5, w6, w7, w8, w9, w10, w11, w12])), (jb, .inr (0, [v0, v1, v2, v3, v4, v5, v6, .int 0, v8, v9, v10, v11, v12]))] sz)) 0 0 (va_A [(h0, .inr (8, [.ref jb, w1, w2, w3, w4, w5, w6, w7, w8, w9, w10, w11, w12])), (jb, .inr (0, [v0, v1, v2, v3, v4, v5, v6, .int 0, v8, v9, v10, v11, v12]))] sz) := by
  refine Met.ofW (cc := cX9_of) (maxL := 3) (ret := (some .long)) (by decide) rfl ?_
  intro p e s m args below meth c s₁ B hml hv
  obtain ⟨rfl, hsz, hP, hK, hD0⟩ := hv
  have hx := B.exec
  have hb := B.bytes
  have hr := B.returns
  have hts := atoms_spec (ws := wsX9_of) B.pre
  have hown : s.vm.findClass RX9 = some m.cls := findClass_of_methodNamed B.named
  have hlocks := B.notSynchronized
  subst hsz
  have hD := hD0.self (sz := s.heap.size)
  generalize hAe : va_A [(h0, .inr (8, [.ref jb, w1, w2, w3, w4, w5, w6, w7, w8, w9, w10, w11, w12])), (jb, .inr (0, [v0, v1, v2, v3, v4, v5, v6, .int 0, v8, v9, v10, v11, v12]))] s.heap.size = A at hD ⊢
  have hA : ∀ q : Nat, s.heap.size ≤ q → A q := fun q h => by rw [← hAe]; exact Or.inr h
  have hS : va_S A s.heap s.heap [] := va_S.rf
  have hP : va_P (dC, dI) vwCl [(h0, .inr (8, [.ref jb, w1, w2, w3, w4, w5, w6, w7, w8, w9, w10, w11, w12])), (jb, .inr (0, [v0, v1, v2, v3, v4, v5, v6, .int 0, v8, v9, v10, v11, v12]))] s.heap := hP
  have hl := lv_entry ([.ref h0, .int p0, .int p1]) (n := 3) (Nat.le_of_ble_eq_true rfl)
  rw [lg_entry_eq]
  generalize (lg_sl ([.ref h0, .int p0, .int p1]) ++ List.replicate (3 - (lg_sl ([.ref h0, .int p0, .int p1])).length) Slot.unset).toArray = ls at hl ⊢
  have hl : lv_has ls 3 [(0, .ref h0), (1, .int p0), (2, .int p1)] := hl
  have k_0 : (0 : Int32).toInt = 0 := by decide
  refine lv_aload_n hx hb dX9_of_0 rfl (lv_at hl 0 rfl) ?_
  refine va_get (D := (dC, dI)) (ci := 8) (v := .ref jb) (C := RX9) (T := TX9) (N := 13) hx hb hts in_X9_of_X9 hown hK hP 0 rfl rfl 0 (by decide) (hts (.fieldLink RX9 12 "ClearingGates" "books" "LClearingGates$Books;") (List.mem_of_getElem? (i := 1) (by decide +kernel))) (fun _ h9 => h9) rfl dX9_of_1 ?_
  refine lv_iload_n hx hb dX9_of_4 rfl (lv_at hl 1 rfl) ?_
  have hPc := hP.sub (ws' := [(jb, .inr (0, [v0, v1, v2, v3, v4, v5, v6, .int 0, v8, v9, v10, v11, v12]))]) [1] rfl
  have hDc := hD.sub (ws' := [(jb, .inr (0, [v0, v1, v2, v3, v4, v5, v6, .int 0, v8, v9, v10, v11, v12]))]) [1] (by decide) rfl
  have hKc := hK.sub (tys' := []) [] rfl
  have hFc := va_free (wc := [(jb, .inr (0, [v0, v1, v2, v3, v4, v5, v6, .int 0, v8, v9, v10, v11, v12]))]) hD hS hA [1] rfl
  refine va_calli (va_runV (As := [.int p0]) (rest := []) ⟨hx, hb, hml, hown, hts⟩ (c_X0_has l dC dI jb p0 (v0) (v1) (v2) (v3) (v4) (v5) (v6) 0 (v8) (v9) (v10) (v11) (v12) s.heap.size) (cwV 1 hts gX9_of_X0_has rfl rfl rfl (by decide +kernel) ⟨Nat.le_of_ble_eq_true rfl, Nat.le_of_ble_eq_true rfl⟩) ⟨fun a U g mk q => by obtain ⟨q0, q1, qP, qK, qD⟩ := q; exact ⟨q0, q1, qP, va_K.moved (u := U) (U := U.calling g mk a) (Vm.Alike.refl U.vm) qK, qD⟩, va_recv hKc hPc (ci := 0) (q0 := 0) rfl rfl, fun U hU hW => ⟨rfl, by rw [hU], by rw [hU]; exact hPc, va_K.moved hW.alike hKc, hDc.weaken (fun _ _ _ _ => trivial)⟩⟩ rfl rfl hl.1 rfl (lv_room (Nat.le_of_ble_eq_true rfl)) dX9_of_5 ⟨Nat.le_of_ble_eq_true rfl, Nat.le_of_ble_eq_true rfl⟩) hS (fun q _ h => hFc q h) hFc (fun r1 u t H1 locs ht hvm hw hB hz1 hk1 hS => ?_)
  obtain ⟨hP1, hK1, hD1⟩ := hB
  rw [ht] at hP1
  have hK1 := va_K.moved hvm.symm hK1
  try dsimp only at hw
  obtain ⟨hP, hD⟩ := va_join (wr := [(h0, .inr (8, [.ref jb, w1, w2, w3, w4, w5, w6, w7, w8, w9, w10, w11, w12]))]) (w1 := [(jb, .inr (0, [v0, v1, v2, v3, v4, v5, v6, .int 0, v8, v9, v10, v11, v12]))]) hP hD [1] [0] rfl rfl (by decide) (by decide) hk1 hFc hP1 hD1
  have hK := (hK.sub (tys' := []) [] rfl).app hK1
  generalize H1 = H at hP hS ⊢
  have hP : va_P (dC, dI) vwCl [(h0, .inr (8, [.ref jb, w1, w2, w3, w4, w5, w6, w7, w8, w9, w10, w11, w12])), (jb, .inr (0, [v0, v1, v2, v3, v4, v5, v6, .int 0, v8, v9, v10, v11, v12]))] H := hP
  have hD : va_D A [(h0, .inr (8, [.ref jb, w1, w2, w3, w4, w5, w6, w7, w8, w9, w10, w11, w12])), (jb, .inr (0, [v0, v1, v2, v3, v4, v5, v6, .int 0, v8, v9, v10, v11, v12]))] := hD
  have hK : va_K (dC, dI) vwCl [] s := hK
  rcases hw with ⟨e_r1, f_r1⟩ | ⟨e_r1, f_r1⟩
  · subst e_r1
    exfalso; omega
  · subst e_r1
    refine lv_if_ne (tgt := 15) hx hb dX9_of_8 (by decide) (fun c2 => absurd (by decide) c2) (fun c2 => ?_)
    refine lv_ldc2 hx hb hown (hts (.constantLong RX9 105 (-9223372036854775808)) (List.mem_of_getElem? (i := 2) (by decide +kernel))) dX9_of_11 ?_
    have hP9 := hP.sub (ws' := []) [] rfl
    have hD9 := hD.sub (ws' := []) [] (by decide) rfl
    have hK9 := hK.sub (tys' := []) [] rfl
    exact W.lret (v := (-9223372036854775808)) hx hb hr (fun t ht hW => ⟨⟨(-9223372036854775808), (), rfl, (by first | rfl | (simp only [if_pos, if_neg, *]; done)), by rw [ht]; exact hP9, va_K.moved hW.alike hK9, hD9⟩, hS.F ht⟩) hS.2.2 dX9_of_14

theorem in_X9_taken_X9 : ∀ w ∈ wsX90, w ∈ wsX9_taken := fun _ h => List.mem_cons_of_mem _ (List.mem_append_left _ (List.mem_append_right _ h))
set_option maxRecDepth 100000 in
set_option maxHeartbeats 4000000 in
/-- taken on a fresh object -/
theorem c_X9_taken (l : Launch) (dC : Nat → ClassId) (dI : Nat → Nat → Nat) (h0 : Nat) (p0 : Int32) (p1 : Int32) (jb : Nat) (w1 : Value) (w2 : Value) (w3 : Value) (w4 : Value) (w5 : Value) (w6 : Value) (w7 : Value) (w8 : Value) (w9 : Value) (w10 : Value) (w11 : Value) (w12 : Value) (v0 : Value) (v1 : Value) (v2 : Value) (v3 : Value) (v4 : Value) (v5 : Value) (v6 : Value) (v8 : Value) (v9 : Value) (v10 : Value) (v11 : Value) (v12 : Value) (sz : Nat) : Met l yX9_taken wsX9_taken ({ frames := 1, cells := 0, slots := 0, locals := 21 }) (va_Pc [.ref h0, .int p0, .int p1] (fun U => U.heap.size = sz ∧ va_P (dC, dI) vwCl [(h0, .inr (8, [.ref jb, w1, w2, w3, w4, w5, w6, w7, w8, w9, w10, w11, w12])), (jb, .inr (0, [v0, v1, v2, v3, v4, v5, v6, .int 0, v8, v9, v10, v11, v12]))] U.heap ∧ va_K (dC, dI) vwCl [] U ∧ va_D (fun _ => True) [(h0, .inr (8, [.ref jb, w1, w2, w3, w4, w5, w6, w7, w8, w9, w10, w11, w12])), (jb, .inr (0, [v0, v1, v2, v3, v4, v5, v6, .int 0, v8, v9, v10, v11, v12]))])) (va_Qi (fun (r : Int32) (_ : Unit) => r = (-2)) (fun (_ : Unit) (t : State) => va_P (dC, dI) vwCl [] t.heap ∧ va_K (dC, dI) vwCl [] t ∧ va_D (va_A [(h0, .inr (8, [.ref jb, w1, w2, w3, w4, w5, w6, w7, w8, w9, w10, w11, w12])), (jb, .inr (0, [v0, v1, v2, v3, v4, v5, v6, .int 0, v8, v9, v10, v11, v12]))] sz) []) (va_A [(h0, .inr (8, [.ref jb, w1, w2, w3, w4, w5, w6, w7, w8, w9, w10, w11, w12])), (jb, .inr (0, [v0, v1, v2, v3, v4, v5, v6, .int 0, v8, v9, v10, v11, v12]))] sz)) 0 0 (va_A [(h0, .inr (8, [.ref jb, w1, w2, w3, w4, w5, w6, w7, w8, w9, w10, w11, w12])), (jb, .inr (0, [v0, v1, v2, v3, v4, v5, v6, .int 0, v8, v9, v10, v11, v12]))] sz) := by
  refine Met.ofW (cc := cX9_taken) (maxL := 3) (ret := (some .int)) (by decide) rfl ?_
  intro p e s m args below meth c s₁ B hml hv
  obtain ⟨rfl, hsz, hP, hK, hD0⟩ := hv
  have hx := B.exec
  have hb := B.bytes
  have hr := B.returns
  have hts := atoms_spec (ws := wsX9_taken) B.pre
  have hown : s.vm.findClass RX9 = some m.cls := findClass_of_methodNamed B.named
  have hlocks := B.notSynchronized
  subst hsz
  have hD := hD0.self (sz := s.heap.size)
  generalize hAe : va_A [(h0, .inr (8, [.ref jb, w1, w2, w3, w4, w5, w6, w7, w8, w9, w10, w11, w12])), (jb, .inr (0, [v0, v1, v2, v3, v4, v5, v6, .int 0, v8, v9, v10, v11, v12]))] s.heap.size = A at hD ⊢
  have hA : ∀ q : Nat, s.heap.size ≤ q → A q := fun q h => by rw [← hAe]; exact Or.inr h
  have hS : va_S A s.heap s.heap [] := va_S.rf
  have hP : va_P (dC, dI) vwCl [(h0, .inr (8, [.ref jb, w1, w2, w3, w4, w5, w6, w7, w8, w9, w10, w11, w12])), (jb, .inr (0, [v0, v1, v2, v3, v4, v5, v6, .int 0, v8, v9, v10, v11, v12]))] s.heap := hP
  have hl := lv_entry ([.ref h0, .int p0, .int p1]) (n := 3) (Nat.le_of_ble_eq_true rfl)
  rw [lg_entry_eq]
  generalize (lg_sl ([.ref h0, .int p0, .int p1]) ++ List.replicate (3 - (lg_sl ([.ref h0, .int p0, .int p1])).length) Slot.unset).toArray = ls at hl ⊢
  have hl : lv_has ls 3 [(0, .ref h0), (1, .int p0), (2, .int p1)] := hl
  have k_m2 : ((-2) : Int32).toInt = (-2) := by decide
  have k_0 : (0 : Int32).toInt = 0 := by decide
  refine lv_aload_n hx hb dX9_taken_0 rfl (lv_at hl 0 rfl) ?_
  refine va_get (D := (dC, dI)) (ci := 8) (v := .ref jb) (C := RX9) (T := TX9) (N := 13) hx hb hts in_X9_taken_X9 hown hK hP 0 rfl rfl 0 (by decide) (hts (.fieldLink RX9 12 "ClearingGates" "books" "LClearingGates$Books;") (List.mem_of_getElem? (i := 1) (by decide +kernel))) (fun _ h9 => h9) rfl dX9_taken_1 ?_
  refine lv_iload_n hx hb dX9_taken_4 rfl (lv_at hl 1 rfl) ?_
  have hPc := hP.sub (ws' := [(jb, .inr (0, [v0, v1, v2, v3, v4, v5, v6, .int 0, v8, v9, v10, v11, v12]))]) [1] rfl
  have hDc := hD.sub (ws' := [(jb, .inr (0, [v0, v1, v2, v3, v4, v5, v6, .int 0, v8, v9, v10, v11, v12]))]) [1] (by decide) rfl
  have hKc := hK.sub (tys' := []) [] rfl
  have hFc := va_free (wc := [(jb, .inr (0, [v0, v1, v2, v3, v4, v5, v6, .int 0, v8, v9, v10, v11, v12]))]) hD hS hA [1] rfl
  refine va_calli (va_runV (As := [.int p0]) (rest := []) ⟨hx, hb, hml, hown, hts⟩ (c_X0_has l dC dI jb p0 (v0) (v1) (v2) (v3) (v4) (v5) (v6) 0 (v8) (v9) (v10) (v11) (v12) s.heap.size) (cwV 1 hts gX9_taken_X0_has rfl rfl rfl (by decide +kernel) ⟨Nat.le_of_ble_eq_true rfl, Nat.le_of_ble_eq_true rfl⟩) ⟨fun a U g mk q => by obtain ⟨q0, q1, qP, qK, qD⟩ := q; exact ⟨q0, q1, qP, va_K.moved (u := U) (U := U.calling g mk a) (Vm.Alike.refl U.vm) qK, qD⟩, va_recv hKc hPc (ci := 0) (q0 := 0) rfl rfl, fun U hU hW => ⟨rfl, by rw [hU], by rw [hU]; exact hPc, va_K.moved hW.alike hKc, hDc.weaken (fun _ _ _ _ => trivial)⟩⟩ rfl rfl hl.1 rfl (lv_room (Nat.le_of_ble_eq_true rfl)) dX9_taken_5 ⟨Nat.le_of_ble_eq_true rfl, Nat.le_of_ble_eq_true rfl⟩) hS (fun q _ h => hFc q h) hFc (fun r1 u t H1 locs ht hvm hw hB hz1 hk1 hS => ?_)
  obtain ⟨hP1, hK1, hD1⟩ := hB
  rw [ht] at hP1
  have hK1 := va_K.moved hvm.symm hK1
  try dsimp only at hw
  obtain ⟨hP, hD⟩ := va_join (wr := [(h0, .inr (8, [.ref jb, w1, w2, w3, w4, w5, w6, w7, w8, w9, w10, w11, w12]))]) (w1 := [(jb, .inr (0, [v0, v1, v2, v3, v4, v5, v6, .int 0, v8, v9, v10, v11, v12]))]) hP hD [1] [0] rfl rfl (by decide) (by decide) hk1 hFc hP1 hD1
  have hK := (hK.sub (tys' := []) [] rfl).app hK1
  generalize H1 = H at hP hS ⊢
  have hP : va_P (dC, dI) vwCl [(h0, .inr (8, [.ref jb, w1, w2, w3, w4, w5, w6, w7, w8, w9, w10, w11, w12])), (jb, .inr (0, [v0, v1, v2, v3, v4, v5, v6, .int 0, v8, v9, v10, v11, v12]))] H := hP
  have hD : va_D A [(h0, .inr (8, [.ref jb, w1, w2, w3, w4, w5, w6, w7, w8, w9, w10, w11, w12])), (jb, .inr (0, [v0, v1, v2, v3, v4, v5, v6, .int 0, v8, v9, v10, v11, v12]))] := hD
  have hK : va_K (dC, dI) vwCl [] s := hK
  rcases hw with ⟨e_r1, f_r1⟩ | ⟨e_r1, f_r1⟩
  · subst e_r1
    exfalso; omega
  · subst e_r1
    refine lv_if_eq (tgt := 18) hx hb dX9_taken_8 (by decide) (fun c2 => ?_) (fun c2 => absurd (by decide) c2)
    refine lv_bipush (v := -2) hx hb dX9_taken_18 (by decide) ?_
    have hP9 := hP.sub (ws' := []) [] rfl
    have hD9 := hD.sub (ws' := []) [] (by decide) rfl
    have hK9 := hK.sub (tys' := []) [] rfl
    exact W.iret (v := (-2)) hx hb hr (fun t ht hW => ⟨⟨(-2), (), rfl, (by first | rfl | (simp only [if_pos, if_neg, *]; done)), by rw [ht]; exact hP9, va_K.moved hW.alike hK9, hD9⟩, hS.F ht⟩) hS.2.2 dX9_taken_20

theorem in_X9_gate_X9 : ∀ w ∈ wsX90, w ∈ wsX9_gate := fun _ h => List.mem_cons_of_mem _ (List.mem_append_left _ (List.mem_append_right _ h))
set_option maxRecDepth 100000 in
set_option maxHeartbeats 4000000 in
/-- gate on a fresh object -/
theorem c_X9_gate (l : Launch) (dC : Nat → ClassId) (dI : Nat → Nat → Nat) (h0 : Nat) (p0 : Int32) (p1 : Int32) (jb : Nat) (w1 : Value) (w2 : Value) (w3 : Value) (w4 : Value) (w5 : Value) (w6 : Value) (w7 : Value) (w8 : Value) (w9 : Value) (w10 : Value) (w11 : Value) (w12 : Value) (v0 : Value) (v1 : Value) (v2 : Value) (v3 : Value) (v4 : Value) (v5 : Value) (v6 : Value) (v8 : Value) (v9 : Value) (v10 : Value) (v11 : Value) (v12 : Value) (sz : Nat) : Met l yX9_gate wsX9_gate ({ frames := 1, cells := 0, slots := 0, locals := 21 }) (va_Pc [.ref h0, .int p0, .int p1] (fun U => U.heap.size = sz ∧ va_P (dC, dI) vwCl [(h0, .inr (8, [.ref jb, w1, w2, w3, w4, w5, w6, w7, w8, w9, w10, w11, w12])), (jb, .inr (0, [v0, v1, v2, v3, v4, v5, v6, .int 0, v8, v9, v10, v11, v12]))] U.heap ∧ va_K (dC, dI) vwCl [] U ∧ va_D (fun _ => True) [(h0, .inr (8, [.ref jb, w1, w2, w3, w4, w5, w6, w7, w8, w9, w10, w11, w12])), (jb, .inr (0, [v0, v1, v2, v3, v4, v5, v6, .int 0, v8, v9, v10, v11, v12]))])) (va_Qi (fun (r : Int32) (_ : Unit) => r = (-2)) (fun (_ : Unit) (t : State) => va_P (dC, dI) vwCl [] t.heap ∧ va_K (dC, dI) vwCl [] t ∧ va_D (va_A [(h0, .inr (8, [.ref jb, w1, w2, w3, w4, w5, w6, w7, w8, w9, w10, w11, w12])), (jb, .inr (0, [v0, v1, v2, v3, v4, v5, v6, .int 0, v8, v9, v10, v11, v12]))] sz) []) (va_A [(h0, .inr (8, [.ref jb, w1, w2, w3, w4, w5, w6, w7, w8, w9, w10, w11, w12])), (jb, .inr (0, [v0, v1, v2, v3, v4, v5, v6, .int 0, v8, v9, v10, v11, v12]))] sz)) 0 0 (va_A [(h0, .inr (8, [.ref jb, w1, w2, w3, w4, w5, w6, w7, w8, w9, w10, w11, w12])), (jb, .inr (0, [v0, v1, v2, v3, v4, v5, v6, .int 0, v8, v9, v10, v11, v12]))] sz) := by
  refine Met.ofW (cc := cX9_gate) (maxL := 4) (ret := (some .int)) (by decide) rfl ?_
  intro p e s m args below meth c s₁ B hml hv
  obtain ⟨rfl, hsz, hP, hK, hD0⟩ := hv
  have hx := B.exec
  have hb := B.bytes
  have hr := B.returns
  have hts := atoms_spec (ws := wsX9_gate) B.pre
  have hown : s.vm.findClass RX9 = some m.cls := findClass_of_methodNamed B.named
  have hlocks := B.notSynchronized
  subst hsz
  have hD := hD0.self (sz := s.heap.size)
  generalize hAe : va_A [(h0, .inr (8, [.ref jb, w1, w2, w3, w4, w5, w6, w7, w8, w9, w10, w11, w12])), (jb, .inr (0, [v0, v1, v2, v3, v4, v5, v6, .int 0, v8, v9, v10, v11, v12]))] s.heap.size = A at hD ⊢
  have hA : ∀ q : Nat, s.heap.size ≤ q → A q := fun q h => by rw [← hAe]; exact Or.inr h
  have hS : va_S A s.heap s.heap [] := va_S.rf
  have hP : va_P (dC, dI) vwCl [(h0, .inr (8, [.ref jb, w1, w2, w3, w4, w5, w6, w7, w8, w9, w10, w11, w12])), (jb, .inr (0, [v0, v1, v2, v3, v4, v5, v6, .int 0, v8, v9, v10, v11, v12]))] s.heap := hP
  have hl := lv_entry ([.ref h0, .int p0, .int p1]) (n := 4) (Nat.le_of_ble_eq_true rfl)
  rw [lg_entry_eq]
  generalize (lg_sl ([.ref h0, .int p0, .int p1]) ++ List.replicate (4 - (lg_sl ([.ref h0, .int p0, .int p1])).length) Slot.unset).toArray = ls at hl ⊢
  have hl : lv_has ls 4 [(0, .ref h0), (1, .int p0), (2, .int p1)] := hl
  have k_m2 : ((-2) : Int32).toInt = (-2) := by decide
  have k_0 : (0 : Int32).toInt = 0 := by decide
  refine lv_aload_n hx hb dX9_gate_0 rfl (lv_at hl 0 rfl) ?_
  refine va_get (D := (dC, dI)) (ci := 8) (v := .ref jb) (C := RX9) (T := TX9) (N := 13) hx hb hts in_X9_gate_X9 hown hK hP 0 rfl rfl 0 (by decide) (hts (.fieldLink RX9 12 "ClearingGates" "books" "LClearingGates$Books;") (List.mem_of_getElem? (i := 1) (by decide +kernel))) (fun _ h9 => h9) rfl dX9_gate_1 ?_
  refine lv_iload_n hx hb dX9_gate_4 rfl (lv_at hl 1 rfl) ?_
  have hPc := hP.sub (ws' := [(jb, .inr (0, [v0, v1, v2, v3, v4, v5, v6, .int 0, v8, v9, v10, v11, v12]))]) [1] rfl
  have hDc := hD.sub (ws' := [(jb, .inr (0, [v0, v1, v2, v3, v4, v5, v6, .int 0, v8, v9, v10, v11, v12]))]) [1] (by decide) rfl
  have hKc := hK.sub (tys' := []) [] rfl
  have hFc := va_free (wc := [(jb, .inr (0, [v0, v1, v2, v3, v4, v5, v6, .int 0, v8, v9, v10, v11, v12]))]) hD hS hA [1] rfl
  refine va_calli (va_runV (As := [.int p0]) (rest := []) ⟨hx, hb, hml, hown, hts⟩ (c_X0_has l dC dI jb p0 (v0) (v1) (v2) (v3) (v4) (v5) (v6) 0 (v8) (v9) (v10) (v11) (v12) s.heap.size) (cwV 1 hts gX9_gate_X0_has rfl rfl rfl (by decide +kernel) ⟨Nat.le_of_ble_eq_true rfl, Nat.le_of_ble_eq_true rfl⟩) ⟨fun a U g mk q => by obtain ⟨q0, q1, qP, qK, qD⟩ := q; exact ⟨q0, q1, qP, va_K.moved (u := U) (U := U.calling g mk a) (Vm.Alike.refl U.vm) qK, qD⟩, va_recv hKc hPc (ci := 0) (q0 := 0) rfl rfl, fun U hU hW => ⟨rfl, by rw [hU], by rw [hU]; exact hPc, va_K.moved hW.alike hKc, hDc.weaken (fun _ _ _ _ => trivial)⟩⟩ rfl rfl hl.1 rfl (lv_room (Nat.le_of_ble_eq_true rfl)) dX9_gate_5 ⟨Nat.le_of_ble_eq_true rfl, Nat.le_of_ble_eq_true rfl⟩) hS (fun q _ h => hFc q h) hFc (fun r1 u t H1 locs ht hvm hw hB hz1 hk1 hS => ?_)
  obtain ⟨hP1, hK1, hD1⟩ := hB
  rw [ht] at hP1
  have hK1 := va_K.moved hvm.symm hK1
  try dsimp only at hw
  obtain ⟨hP, hD⟩ := va_join (wr := [(h0, .inr (8, [.ref jb, w1, w2, w3, w4, w5, w6, w7, w8, w9, w10, w11, w12]))]) (w1 := [(jb, .inr (0, [v0, v1, v2, v3, v4, v5, v6, .int 0, v8, v9, v10, v11, v12]))]) hP hD [1] [0] rfl rfl (by decide) (by decide) hk1 hFc hP1 hD1
  have hK := (hK.sub (tys' := []) [] rfl).app hK1
  generalize H1 = H at hP hS ⊢
  have hP : va_P (dC, dI) vwCl [(h0, .inr (8, [.ref jb, w1, w2, w3, w4, w5, w6, w7, w8, w9, w10, w11, w12])), (jb, .inr (0, [v0, v1, v2, v3, v4, v5, v6, .int 0, v8, v9, v10, v11, v12]))] H := hP
  have hD : va_D A [(h0, .inr (8, [.ref jb, w1, w2, w3, w4, w5, w6, w7, w8, w9, w10, w11, w12])), (jb, .inr (0, [v0, v1, v2, v3, v4, v5, v6, .int 0, v8, v9, v10, v11, v12]))] := hD
  have hK : va_K (dC, dI) vwCl [] s := hK
  rcases hw with ⟨e_r1, f_r1⟩ | ⟨e_r1, f_r1⟩
  · subst e_r1
    exfalso; omega
  · subst e_r1
    refine lv_if_ne (tgt := 14) hx hb dX9_gate_8 (by decide) (fun c2 => absurd (by decide) c2) (fun c2 => ?_)
    refine lv_bipush (v := -2) hx hb dX9_gate_11 (by decide) ?_
    have hP9 := hP.sub (ws' := []) [] rfl
    have hD9 := hD.sub (ws' := []) [] (by decide) rfl
    have hK9 := hK.sub (tys' := []) [] rfl
    exact W.iret (v := (-2)) hx hb hr (fun t ht hW => ⟨⟨(-2), (), rfl, (by first | rfl | (simp only [if_pos, if_neg, *]; done)), by rw [ht]; exact hP9, va_K.moved hW.alike hK9, hD9⟩, hS.F ht⟩) hS.2.2 dX9_gate_13

theorem in_X9_count_X9 : ∀ w ∈ wsX90, w ∈ wsX9_count := fun _ h => List.mem_cons_of_mem _ (List.mem_append_left _ (List.mem_append_left _ (List.mem_append_left _ (List.mem_append_right _ h))))
theorem in_X9_count_X0 : ∀ w ∈ wsX00, w ∈ wsX9_count := fun _ h => List.mem_cons_of_mem _ (List.mem_append_left _ (List.mem_append_left _ (List.mem_append_right _ h)))
theorem in_X9_count_X8 : ∀ w ∈ wsX80, w ∈ wsX9_count := fun _ h => List.mem_cons_of_mem _ (List.mem_append_left _ (List.mem_append_right _ h))
set_option maxRecDepth 100000 in
set_option maxHeartbeats 4000000 in
/-- count on a fresh object -/
theorem c_X9_count (l : Launch) (dC : Nat → ClassId) (dI : Nat → Nat → Nat) (h0 : Nat) (p0 : Int32) (jb : Nat) (w1 : Value) (w2 : Value) (w3 : Value) (w4 : Value) (w5 : Value) (w7 : Value) (jt : Nat) (w9 : Value) (jr : Nat) (w11 : Value) (w12 : Value) (v0 : Value) (v1 : Value) (v2 : Value) (v3 : Value) (v4 : Value) (v5 : Value) (v6 : Value) (v8 : Value) (u0 : Value) (u1 : Value) (u3 : Value) (u4 : Value) (u5 : Value) (u6 : Value) (u7 : Value) (y0 : Value) (sz : Nat) : Met l yX9_count wsX9_count ({ frames := 2, cells := 0, slots := 0, locals := 33 }) (va_Pc [.ref h0, .int p0] (fun U => U.heap.size = sz ∧ va_P (dC, dI) vwCl [(h0, .inr (8, [.ref jb, w1, w2, w3, w4, w5, .int 0, w7, .ref jt, w9, .ref jr, w11, w12])), (jb, .inr (0, [v0, v1, v2, v3, v4, v5, v6, .int 0, v8, .int 0, .int 0, .int 0, .int 0])), (jr, .inr (5, [u0, u1, .int 0, u3, u4, u5, u6, u7])), (jt, .inr (7, [y0, .int 0]))] U.heap ∧ va_K (dC, dI) vwCl [] U ∧ va_D (fun _ => True) [(h0, .inr (8, [.ref jb, w1, w2, w3, w4, w5, .int 0, w7, .ref jt, w9, .ref jr, w11, w12])), (jb, .inr (0, [v0, v1, v2, v3, v4, v5, v6, .int 0, v8, .int 0, .int 0, .int 0, .int 0])), (jr, .inr (5, [u0, u1, .int 0, u3, u4, u5, u6, u7])), (jt, .inr (7, [y0, .int 0]))])) (va_Qi (fun (r : Int32) (_ : Unit) => (r = 0 ∧ 0 ≤ p0.toInt ∧ p0.toInt ≤ 7) ∨ (r = (-2) ∧ ¬(0 ≤ p0.toInt ∧ p0.toInt ≤ 7))) (fun (_ : Unit) (t : State) => va_P (dC, dI) vwCl [] t.heap ∧ va_K (dC, dI) vwCl [] t ∧ va_D (va_A [(h0, .inr (8, [.ref jb, w1, w2, w3, w4, w5, .int 0, w7, .ref jt, w9, .ref jr, w11, w12])), (jb, .inr (0, [v0, v1, v2, v3, v4, v5, v6, .int 0, v8, .int 0, .int 0, .int 0, .int 0])), (jr, .inr (5, [u0, u1, .int 0, u3, u4, u5, u6, u7])), (jt, .inr (7, [y0, .int 0]))] sz) []) (va_A [(h0, .inr (8, [.ref jb, w1, w2, w3, w4, w5, .int 0, w7, .ref jt, w9, .ref jr, w11, w12])), (jb, .inr (0, [v0, v1, v2, v3, v4, v5, v6, .int 0, v8, .int 0, .int 0, .int 0, .int 0])), (jr, .inr (5, [u0, u1, .int 0, u3, u4, u5, u6, u7])), (jt, .inr (7, [y0, .int 0]))] sz)) 0 0 (va_A [(h0, .inr (8, [.ref jb, w1, w2, w3, w4, w5, .int 0, w7, .ref jt, w9, .ref jr, w11, w12])), (jb, .inr (0, [v0, v1, v2, v3, v4, v5, v6, .int 0, v8, .int 0, .int 0, .int 0, .int 0])), (jr, .inr (5, [u0, u1, .int 0, u3, u4, u5, u6, u7])), (jt, .inr (7, [y0, .int 0]))] sz) := by
  refine Met.ofW (cc := cX9_count) (maxL := 2) (ret := (some .int)) (by decide) rfl ?_
  intro p e s m args below meth c s₁ B hml hv
  obtain ⟨rfl, hsz, hP, hK, hD0⟩ := hv
  have hx := B.exec
  have hb := B.bytes
  have hr := B.returns
  have hts := atoms_spec (ws := wsX9_count) B.pre
  have hown : s.vm.findClass RX9 = some m.cls := findClass_of_methodNamed B.named
  have hlocks := B.notSynchronized
  subst hsz
  have hD := hD0.self (sz := s.heap.size)
  generalize hAe : va_A [(h0, .inr (8, [.ref jb, w1, w2, w3, w4, w5, .int 0, w7, .ref jt, w9, .ref jr, w11, w12])), (jb, .inr (0, [v0, v1, v2, v3, v4, v5, v6, .int 0, v8, .int 0, .int 0, .int 0, .int 0])), (jr, .inr (5, [u0, u1, .int 0, u3, u4, u5, u6, u7])), (jt, .inr (7, [y0, .int 0]))] s.heap.size = A at hD ⊢
  have hA : ∀ q : Nat, s.heap.size ≤ q → A q := fun q h => by rw [← hAe]; exact Or.inr h
  have hS : va_S A s.heap s.heap [] := va_S.rf
  have hP : va_P (dC, dI) vwCl [(h0, .inr (8, [.ref jb, w1, w2, w3, w4, w5, .int 0, w7, .ref jt, w9, .ref jr, w11, w12])), (jb, .inr (0, [v0, v1, v2, v3, v4, v5, v6, .int 0, v8, .int 0, .int 0, .int 0, .int 0])), (jr, .inr (5, [u0, u1, .int 0, u3, u4, u5, u6, u7])), (jt, .inr (7, [y0, .int 0]))] s.heap := hP
  have hl := lv_entry ([.ref h0, .int p0]) (n := 2) (Nat.le_of_ble_eq_true rfl)
  rw [lg_entry_eq]
  generalize (lg_sl ([.ref h0, .int p0]) ++ List.replicate (2 - (lg_sl ([.ref h0, .int p0])).length) Slot.unset).toArray = ls at hl ⊢
  have hl : lv_has ls 2 [(0, .ref h0), (1, .int p0)] := hl
  have k_m2 : ((-2) : Int32).toInt = (-2) := by decide
  have k_0 : (0 : Int32).toInt = 0 := by decide
  have k_1 : (1 : Int32).toInt = 1 := by decide
  have k_2 : (2 : Int32).toInt = 2 := by decide
  have k_3 : (3 : Int32).toInt = 3 := by decide
  have k_4 : (4 : Int32).toInt = 4 := by decide
  have k_5 : (5 : Int32).toInt = 5 := by decide
  have k_6 : (6 : Int32).toInt = 6 := by decide
  have k_7 : (7 : Int32).toInt = 7 := by decide
  refine lv_iload_n hx hb dX9_count_0 rfl (lv_at hl 1 rfl) ?_
  rcases Decidable.em (p0 = 0) with c1 | c1
  · refine lv_tableIn (off := 47) (tgt := 48) hx hb dX9_count_1 (by rw [c1]; decide) (by rw [c1]; decide) (by rw [c1]; decide) (by decide) ?_
    have f_c1 := i_eq c1
    refine lv_aload_n hx hb dX9_count_48 rfl (lv_at hl 0 rfl) ?_
    refine va_get (D := (dC, dI)) (ci := 8) (v := .ref jb) (C := RX9) (T := TX9) (N := 13) hx hb hts in_X9_count_X9 hown hK hP 0 rfl rfl 0 (by decide) (hts (.fieldLink RX9 12 "ClearingGates" "books" "LClearingGates$Books;") (List.mem_of_getElem? (i := 1) (by decide +kernel))) (fun _ h9 => h9) rfl dX9_count_49 ?_
    refine va_get (D := (dC, dI)) (ci := 0) (v := .int 0) (C := RX0) (T := TX0) (N := 13) hx hb hts in_X9_count_X0 hown hK hP 1 rfl rfl 7 (by decide) (hts (.fieldLink RX9 95 "ClearingGates$Books" "accounts" "I") (List.mem_of_getElem? (i := 2) (by decide +kernel))) (fun _ h9 => h9) rfl dX9_count_52 ?_
    have hP9 := hP.sub (ws' := []) [] rfl
    have hD9 := hD.sub (ws' := []) [] (by decide) rfl
    have hK9 := hK.sub (tys' := []) [] rfl
    exact W.iret (v := 0) hx hb hr (fun t ht hW => ⟨⟨0, (), rfl, Or.inl ⟨rfl, by omega⟩, by rw [ht]; exact hP9, va_K.moved hW.alike hK9, hD9⟩, hS.F ht⟩) hS.2.2 dX9_count_55
  have f_c1 := i_ne c1
  rcases Decidable.em (p0 = 1) with c2 | c2
  · refine lv_tableIn (off := 55) (tgt := 56) hx hb dX9_count_1 (by rw [c2]; decide) (by rw [c2]; decide) (by rw [c2]; decide) (by decide) ?_
    have f_c2 := i_eq c2
    refine lv_aload_n hx hb dX9_count_56 rfl (lv_at hl 0 rfl) ?_
    refine va_get (D := (dC, dI)) (ci := 8) (v := .int 0) (C := RX9) (T := TX9) (N := 13) hx hb hts in_X9_count_X9 hown hK hP 0 rfl rfl 6 (by decide) (hts (.fieldLink RX9 141 "ClearingGates" "programCount" "I") (List.mem_of_getElem? (i := 3) (by decide +kernel))) (fun _ h9 => h9) rfl dX9_count_57 ?_
    have hP9 := hP.sub (ws' := []) [] rfl
    have hD9 := hD.sub (ws' := []) [] (by decide) rfl
    have hK9 := hK.sub (tys' := []) [] rfl
    exact W.iret (v := 0) hx hb hr (fun t ht hW => ⟨⟨0, (), rfl, Or.inl ⟨rfl, by omega⟩, by rw [ht]; exact hP9, va_K.moved hW.alike hK9, hD9⟩, hS.F ht⟩) hS.2.2 dX9_count_60
  have f_c2 := i_ne c2
  rcases Decidable.em (p0 = 2) with c3 | c3
  · refine lv_tableIn (off := 60) (tgt := 61) hx hb dX9_count_1 (by rw [c3]; decide) (by rw [c3]; decide) (by rw [c3]; decide) (by decide) ?_
    have f_c3 := i_eq c3
    refine lv_aload_n hx hb dX9_count_61 rfl (lv_at hl 0 rfl) ?_
    refine va_get (D := (dC, dI)) (ci := 8) (v := .ref jb) (C := RX9) (T := TX9) (N := 13) hx hb hts in_X9_count_X9 hown hK hP 0 rfl rfl 0 (by decide) (hts (.fieldLink RX9 12 "ClearingGates" "books" "LClearingGates$Books;") (List.mem_of_getElem? (i := 1) (by decide +kernel))) (fun _ h9 => h9) rfl dX9_count_62 ?_
    refine va_get (D := (dC, dI)) (ci := 0) (v := .int 0) (C := RX0) (T := TX0) (N := 13) hx hb hts in_X9_count_X0 hown hK hP 1 rfl rfl 9 (by decide) (hts (.fieldLink RX9 144 "ClearingGates$Books" "missed" "I") (List.mem_of_getElem? (i := 4) (by decide +kernel))) (fun _ h9 => h9) rfl dX9_count_65 ?_
    have hP9 := hP.sub (ws' := []) [] rfl
    have hD9 := hD.sub (ws' := []) [] (by decide) rfl
    have hK9 := hK.sub (tys' := []) [] rfl
    exact W.iret (v := 0) hx hb hr (fun t ht hW => ⟨⟨0, (), rfl, Or.inl ⟨rfl, by omega⟩, by rw [ht]; exact hP9, va_K.moved hW.alike hK9, hD9⟩, hS.F ht⟩) hS.2.2 dX9_count_68
  have f_c3 := i_ne c3
  rcases Decidable.em (p0 = 3) with c4 | c4
  · refine lv_tableIn (off := 68) (tgt := 69) hx hb dX9_count_1 (by rw [c4]; decide) (by rw [c4]; decide) (by rw [c4]; decide) (by decide) ?_
    have f_c4 := i_eq c4
    refine lv_aload_n hx hb dX9_count_69 rfl (lv_at hl 0 rfl) ?_
    refine va_get (D := (dC, dI)) (ci := 8) (v := .ref jb) (C := RX9) (T := TX9) (N := 13) hx hb hts in_X9_count_X9 hown hK hP 0 rfl rfl 0 (by decide) (hts (.fieldLink RX9 12 "ClearingGates" "books" "LClearingGates$Books;") (List.mem_of_getElem? (i := 1) (by decide +kernel))) (fun _ h9 => h9) rfl dX9_count_70 ?_
    refine va_get (D := (dC, dI)) (ci := 0) (v := .int 0) (C := RX0) (T := TX0) (N := 13) hx hb hts in_X9_count_X0 hown hK hP 1 rfl rfl 10 (by decide) (hts (.fieldLink RX9 147 "ClearingGates$Books" "bells" "I") (List.mem_of_getElem? (i := 5) (by decide +kernel))) (fun _ h9 => h9) rfl dX9_count_73 ?_
    have hP9 := hP.sub (ws' := []) [] rfl
    have hD9 := hD.sub (ws' := []) [] (by decide) rfl
    have hK9 := hK.sub (tys' := []) [] rfl
    exact W.iret (v := 0) hx hb hr (fun t ht hW => ⟨⟨0, (), rfl, Or.inl ⟨rfl, by omega⟩, by rw [ht]; exact hP9, va_K.moved hW.alike hK9, hD9⟩, hS.F ht⟩) hS.2.2 dX9_count_76
  have f_c4 := i_ne c4
  rcases Decidable.em (p0 = 4) with c5 | c5
  · refine lv_tableIn (off := 76) (tgt := 77) hx hb dX9_count_1 (by rw [c5]; decide) (by rw [c5]; decide) (by rw [c5]; decide) (by decide) ?_
    have f_c5 := i_eq c5
    refine lv_aload_n hx hb dX9_count_77 rfl (lv_at hl 0 rfl) ?_
    refine va_get (D := (dC, dI)) (ci := 8) (v := .ref jb) (C := RX9) (T := TX9) (N := 13) hx hb hts in_X9_count_X9 hown hK hP 0 rfl rfl 0 (by decide) (hts (.fieldLink RX9 12 "ClearingGates" "books" "LClearingGates$Books;") (List.mem_of_getElem? (i := 1) (by decide +kernel))) (fun _ h9 => h9) rfl dX9_count_78 ?_
    refine va_get (D := (dC, dI)) (ci := 0) (v := .int 0) (C := RX0) (T := TX0) (N := 13) hx hb hts in_X9_count_X0 hown hK hP 1 rfl rfl 11 (by decide) (hts (.fieldLink RX9 150 "ClearingGates$Books" "refused" "I") (List.mem_of_getElem? (i := 6) (by decide +kernel))) (fun _ h9 => h9) rfl dX9_count_81 ?_
    have hP9 := hP.sub (ws' := []) [] rfl
    have hD9 := hD.sub (ws' := []) [] (by decide) rfl
    have hK9 := hK.sub (tys' := []) [] rfl
    exact W.iret (v := 0) hx hb hr (fun t ht hW => ⟨⟨0, (), rfl, Or.inl ⟨rfl, by omega⟩, by rw [ht]; exact hP9, va_K.moved hW.alike hK9, hD9⟩, hS.F ht⟩) hS.2.2 dX9_count_84
  have f_c5 := i_ne c5
  rcases Decidable.em (p0 = 5) with c6 | c6
  · refine lv_tableIn (off := 84) (tgt := 85) hx hb dX9_count_1 (by rw [c6]; decide) (by rw [c6]; decide) (by rw [c6]; decide) (by decide) ?_
    have f_c6 := i_eq c6
    refine lv_aload_n hx hb dX9_count_85 rfl (lv_at hl 0 rfl) ?_
    refine va_get (D := (dC, dI)) (ci := 8) (v := .ref jb) (C := RX9) (T := TX9) (N := 13) hx hb hts in_X9_count_X9 hown hK hP 0 rfl rfl 0 (by decide) (hts (.fieldLink RX9 12 "ClearingGates" "books" "LClearingGates$Books;") (List.mem_of_getElem? (i := 1) (by decide +kernel))) (fun _ h9 => h9) rfl dX9_count_86 ?_
    refine va_get (D := (dC, dI)) (ci := 0) (v := .int 0) (C := RX0) (T := TX0) (N := 13) hx hb hts in_X9_count_X0 hown hK hP 1 rfl rfl 12 (by decide) (hts (.fieldLink RX9 153 "ClearingGates$Books" "caught" "I") (List.mem_of_getElem? (i := 7) (by decide +kernel))) (fun _ h9 => h9) rfl dX9_count_89 ?_
    have hP9 := hP.sub (ws' := []) [] rfl
    have hD9 := hD.sub (ws' := []) [] (by decide) rfl
    have hK9 := hK.sub (tys' := []) [] rfl
    exact W.iret (v := 0) hx hb hr (fun t ht hW => ⟨⟨0, (), rfl, Or.inl ⟨rfl, by omega⟩, by rw [ht]; exact hP9, va_K.moved hW.alike hK9, hD9⟩, hS.F ht⟩) hS.2.2 dX9_count_92
  have f_c6 := i_ne c6
  rcases Decidable.em (p0 = 6) with c7 | c7
  · refine lv_tableIn (off := 92) (tgt := 93) hx hb dX9_count_1 (by rw [c7]; decide) (by rw [c7]; decide) (by rw [c7]; decide) (by decide) ?_
    have f_c7 := i_eq c7
    refine lv_aload_n hx hb dX9_count_93 rfl (lv_at hl 0 rfl) ?_
    refine va_get (D := (dC, dI)) (ci := 8) (v := .ref jr) (C := RX9) (T := TX9) (N := 13) hx hb hts in_X9_count_X9 hown hK hP 0 rfl rfl 10 (by decide) (hts (.fieldLink RX9 70 "ClearingGates" "truly" "LClearingGates$Runner;") (List.mem_of_getElem? (i := 8) (by decide +kernel))) (fun _ h9 => h9) rfl dX9_count_94 ?_
    have hPc := hP.sub (ws' := [(jr, .inr (5, [u0, u1, .int 0, u3, u4, u5, u6, u7]))]) [2] rfl
    have hDc := hD.sub (ws' := [(jr, .inr (5, [u0, u1, .int 0, u3, u4, u5, u6, u7]))]) [2] (by decide) rfl
    have hKc := hK.sub (tys' := []) [] rfl
    have hFc := va_free (wc := [(jr, .inr (5, [u0, u1, .int 0, u3, u4, u5, u6, u7]))]) hD hS hA [2] rfl
    refine va_calli (va_runV (As := []) (rest := []) ⟨hx, hb, hml, hown, hts⟩ (c_X6_keptMarks l dC dI jr (u0) (u1) (u3) (u4) (u5) (u6) (u7) s.heap.size) (cwV 0 hts gX9_count_X6_keptMarks rfl rfl rfl (by decide +kernel) ⟨Nat.le_of_ble_eq_true rfl, Nat.le_of_ble_eq_true rfl⟩) ⟨fun a U g mk q => by obtain ⟨q0, q1, qP, qK, qD⟩ := q; exact ⟨q0, q1, qP, va_K.moved (u := U) (U := U.calling g mk a) (Vm.Alike.refl U.vm) qK, qD⟩, va_recv hKc hPc (ci := 5) (q0 := 0) rfl rfl, fun U hU hW => ⟨rfl, by rw [hU], by rw [hU]; exact hPc, va_K.moved hW.alike hKc, hDc.weaken (fun _ _ _ _ => trivial)⟩⟩ rfl rfl hl.1 rfl (lv_room (Nat.le_of_ble_eq_true rfl)) dX9_count_97 ⟨Nat.le_of_ble_eq_true rfl, Nat.le_of_ble_eq_true rfl⟩) hS (fun q _ h => hFc q h) hFc (fun r8 u t H1 locs ht hvm hw hB hz1 hk1 hS => ?_)
    obtain ⟨hP1, hK1, hD1⟩ := hB
    rw [ht] at hP1
    have hK1 := va_K.moved hvm.symm hK1
    try dsimp only at hw
    obtain ⟨hP, hD⟩ := va_join (wr := [(h0, .inr (8, [.ref jb, w1, w2, w3, w4, w5, .int 0, w7, .ref jt, w9, .ref jr, w11, w12])), (jb, .inr (0, [v0, v1, v2, v3, v4, v5, v6, .int 0, v8, .int 0, .int 0, .int 0, .int 0])), (jt, .inr (7, [y0, .int 0]))]) (w1 := [(jr, .inr (5, [u0, u1, .int 0, u3, u4, u5, u6, u7]))]) hP hD [2] [0, 1, 3] rfl rfl (by decide) (by decide) hk1 hFc hP1 hD1
    have hK := (hK.sub (tys' := []) [] rfl).app hK1
    generalize H1 = H at hP hS ⊢
    have hP : va_P (dC, dI) vwCl [(h0, .inr (8, [.ref jb, w1, w2, w3, w4, w5, .int 0, w7, .ref jt, w9, .ref jr, w11, w12])), (jb, .inr (0, [v0, v1, v2, v3, v4, v5, v6, .int 0, v8, .int 0, .int 0, .int 0, .int 0])), (jt, .inr (7, [y0, .int 0])), (jr, .inr (5, [u0, u1, .int 0, u3, u4, u5, u6, u7]))] H := hP
    have hD : va_D A [(h0, .inr (8, [.ref jb, w1, w2, w3, w4, w5, .int 0, w7, .ref jt, w9, .ref jr, w11, w12])), (jb, .inr (0, [v0, v1, v2, v3, v4, v5, v6, .int 0, v8, .int 0, .int 0, .int 0, .int 0])), (jt, .inr (7, [y0, .int 0])), (jr, .inr (5, [u0, u1, .int 0, u3, u4, u5, u6, u7]))] := hD
    have hK : va_K (dC, dI) vwCl [] s := hK
    subst hw
    have hP9 := hP.sub (ws' := []) [] rfl
    have hD9 := hD.sub (ws' := []) [] (by decide) rfl
    have hK9 := hK.sub (tys' := []) [] rfl
    exact W.iret (v := 0) hx hb hr (fun t ht hW => ⟨⟨0, (), rfl, Or.inl ⟨rfl, by omega⟩, by rw [ht]; exact hP9, va_K.moved hW.alike hK9, hD9⟩, hS.F ht⟩) hS.2.2 dX9_count_100
  have f_c7 := i_ne c7
  rcases Decidable.em (p0 = 7) with c9 | c9
  · refine lv_tableIn (off := 100) (tgt := 101) hx hb dX9_count_1 (by rw [c9]; decide) (by rw [c9]; decide) (by rw [c9]; decide) (by decide) ?_
    have f_c9 := i_eq c9
    refine lv_aload_n hx hb dX9_count_101 rfl (lv_at hl 0 rfl) ?_
    refine va_get (D := (dC, dI)) (ci := 8) (v := .ref jt) (C := RX9) (T := TX9) (N := 13) hx hb hts in_X9_count_X9 hown hK hP 0 rfl rfl 8 (by decide) (hts (.fieldLink RX9 54 "ClearingGates" "tape" "LClearingGates$Tape;") (List.mem_of_getElem? (i := 9) (by decide +kernel))) (fun _ h9 => h9) rfl dX9_count_102 ?_
    refine va_get (D := (dC, dI)) (ci := 7) (v := .int 0) (C := RX8) (T := TX8) (N := 2) hx hb hts in_X9_count_X8 hown hK hP 3 rfl rfl 1 (by decide) (hts (.fieldLink RX9 160 "ClearingGates$Tape" "size" "I") (List.mem_of_getElem? (i := 10) (by decide +kernel))) (fun _ h9 => h9) rfl dX9_count_105 ?_
    have hP9 := hP.sub (ws' := []) [] rfl
    have hD9 := hD.sub (ws' := []) [] (by decide) rfl
    have hK9 := hK.sub (tys' := []) [] rfl
    exact W.iret (v := 0) hx hb hr (fun t ht hW => ⟨⟨0, (), rfl, Or.inl ⟨rfl, by omega⟩, by rw [ht]; exact hP9, va_K.moved hW.alike hK9, hD9⟩, hS.F ht⟩) hS.2.2 dX9_count_108
  have f_c9 := i_ne c9
  refine lv_tableOut (tgt := 109) hx hb dX9_count_1 (by omega) (by decide) ?_
  refine lv_bipush (v := -2) hx hb dX9_count_109 (by decide) ?_
  have hP9 := hP.sub (ws' := []) [] rfl
  have hD9 := hD.sub (ws' := []) [] (by decide) rfl
  have hK9 := hK.sub (tys' := []) [] rfl
  exact W.iret (v := (-2)) hx hb hr (fun t ht hW => ⟨⟨(-2), (), rfl, Or.inr (⟨rfl, by omega⟩), by rw [ht]; exact hP9, va_K.moved hW.alike hK9, hD9⟩, hS.F ht⟩) hS.2.2 dX9_count_111

theorem in_X9_sum_X9 : ∀ w ∈ wsX90, w ∈ wsX9_sum := fun _ h => List.mem_cons_of_mem _ (List.mem_append_left _ (List.mem_append_left _ (List.mem_append_right _ h)))
theorem in_X9_sum_X0 : ∀ w ∈ wsX00, w ∈ wsX9_sum := fun _ h => List.mem_cons_of_mem _ (List.mem_append_left _ (List.mem_append_right _ h))
set_option maxRecDepth 100000 in
set_option maxHeartbeats 4000000 in
/-- sum on a fresh object -/
theorem c_X9_sum (l : Launch) (dC : Nat → ClassId) (dI : Nat → Nat → Nat) (h0 : Nat) (p0 : Int32) (jb : Nat) (w1 : Value) (jd : Nat) (w3 : Value) (w4 : Value) (w5 : Value) (w6 : Value) (w7 : Value) (w8 : Value) (w9 : Value) (w10 : Value) (w11 : Value) (w12 : Value) (v0 : Value) (v1 : Value) (v2 : Value) (v3 : Value) (v4 : Value) (v5 : Value) (v6 : Value) (v9 : Value) (v10 : Value) (v11 : Value) (v12 : Value) (qa : Nat) (ka : ClassId) (fa : Nat → Int32) (sz : Nat) (hf : ∀ k : Nat, fa k = 0) : Met l yX9_sum wsX9_sum ({ frames := 1, cells := 0, slots := 0, locals := 23 }) (va_Pc [.ref h0, .int p0] (fun U => U.heap.size = sz ∧ va_P (dC, dI) vwCl [(h0, .inr (8, [.ref jb, w1, .ref jd, w3, w4, w5, w6, w7, w8, w9, w10, w11, w12])), (jb, .inr (0, [v0, v1, v2, v3, v4, v5, v6, .int 0, .long 0, v9, v10, v11, v12])), (jd, .inr (1, [.ref qa])), (qa, .inl (ka, 64, .inl fa))] U.heap ∧ va_K (dC, dI) vwCl [(ka, .int)] U ∧ va_D (fun _ => True) [(h0, .inr (8, [.ref jb, w1, .ref jd, w3, w4, w5, w6, w7, w8, w9, w10, w11, w12])), (jb, .inr (0, [v0, v1, v2, v3, v4, v5, v6, .int 0, .long 0, v9, v10, v11, v12])), (jd, .inr (1, [.ref qa])), (qa, .inl (ka, 64, .inl fa))])) (va_Ql (fun (r : Int64) (_ : Unit) => (r = 0 ∧ 0 ≤ p0.toInt ∧ p0.toInt ≤ 2) ∨ (r = (-9223372036854775808) ∧ ¬(0 ≤ p0.toInt ∧ p0.toInt ≤ 2))) (fun (_ : Unit) (t : State) => va_P (dC, dI) vwCl [] t.heap ∧ va_K (dC, dI) vwCl [] t ∧ va_D (va_A [(h0, .inr (8, [.ref jb, w1, .ref jd, w3, w4, w5, w6, w7, w8, w9, w10, w11, w12])), (jb, .inr (0, [v0, v1, v2, v3, v4, v5, v6, .int 0, .long 0, v9, v10, v11, v12])), (jd, .inr (1, [.ref qa])), (qa, .inl (ka, 64, .inl fa))] sz) []) (va_A [(h0, .inr (8, [.ref jb, w1, .ref jd, w3, w4, w5, w6, w7, w8, w9, w10, w11, w12])), (jb, .inr (0, [v0, v1, v2, v3, v4, v5, v6, .int 0, .long 0, v9, v10, v11, v12])), (jd, .inr (1, [.ref qa])), (qa, .inl (ka, 64, .inl fa))] sz)) 0 0 (va_A [(h0, .inr (8, [.ref jb, w1, .ref jd, w3, w4, w5, w6, w7, w8, w9, w10, w11, w12])), (jb, .inr (0, [v0, v1, v2, v3, v4, v5, v6, .int 0, .long 0, v9, v10, v11, v12])), (jd, .inr (1, [.ref qa])), (qa, .inl (ka, 64, .inl fa))] sz) := by
  refine Met.ofW (cc := cX9_sum) (maxL := 2) (ret := (some .long)) (by decide) rfl ?_
  intro p e s m args below meth c s₁ B hml hv
  obtain ⟨rfl, hsz, hP, hK, hD0⟩ := hv
  have hx := B.exec
  have hb := B.bytes
  have hr := B.returns
  have hts := atoms_spec (ws := wsX9_sum) B.pre
  have hown : s.vm.findClass RX9 = some m.cls := findClass_of_methodNamed B.named
  have hlocks := B.notSynchronized
  subst hsz
  have hD := hD0.self (sz := s.heap.size)
  generalize hAe : va_A [(h0, .inr (8, [.ref jb, w1, .ref jd, w3, w4, w5, w6, w7, w8, w9, w10, w11, w12])), (jb, .inr (0, [v0, v1, v2, v3, v4, v5, v6, .int 0, .long 0, v9, v10, v11, v12])), (jd, .inr (1, [.ref qa])), (qa, .inl (ka, 64, .inl fa))] s.heap.size = A at hD ⊢
  have hA : ∀ q : Nat, s.heap.size ≤ q → A q := fun q h => by rw [← hAe]; exact Or.inr h
  have hS : va_S A s.heap s.heap [] := va_S.rf
  have hP : va_P (dC, dI) vwCl [(h0, .inr (8, [.ref jb, w1, .ref jd, w3, w4, w5, w6, w7, w8, w9, w10, w11, w12])), (jb, .inr (0, [v0, v1, v2, v3, v4, v5, v6, .int 0, .long 0, v9, v10, v11, v12])), (jd, .inr (1, [.ref qa])), (qa, .inl (ka, 64, .inl fa))] s.heap := hP
  have hl := lv_entry ([.ref h0, .int p0]) (n := 2) (Nat.le_of_ble_eq_true rfl)
  rw [lg_entry_eq]
  generalize (lg_sl ([.ref h0, .int p0]) ++ List.replicate (2 - (lg_sl ([.ref h0, .int p0])).length) Slot.unset).toArray = ls at hl ⊢
  have hl : lv_has ls 2 [(0, .ref h0), (1, .int p0)] := hl
  have k_0 : (0 : Int32).toInt = 0 := by decide
  have k_1 : (1 : Int32).toInt = 1 := by decide
  have k_2 : (2 : Int32).toInt = 2 := by decide
  refine lv_iload_n hx hb dX9_sum_0 rfl (lv_at hl 1 rfl) ?_
  rcases Decidable.em (p0 = 0) with c1 | c1
  · refine lv_tableIn (off := 27) (tgt := 28) hx hb dX9_sum_1 (by rw [c1]; decide) (by rw [c1]; decide) (by rw [c1]; decide) (by decide) ?_
    have f_c1 := i_eq c1
    refine lv_aload_n hx hb dX9_sum_28 rfl (lv_at hl 0 rfl) ?_
    refine va_get (D := (dC, dI)) (ci := 8) (v := .ref jb) (C := RX9) (T := TX9) (N := 13) hx hb hts in_X9_sum_X9 hown hK hP 0 rfl rfl 0 (by decide) (hts (.fieldLink RX9 12 "ClearingGates" "books" "LClearingGates$Books;") (List.mem_of_getElem? (i := 1) (by decide +kernel))) (fun _ h9 => h9) rfl dX9_sum_29 ?_
    refine va_get (D := (dC, dI)) (ci := 0) (v := .long 0) (C := RX0) (T := TX0) (N := 13) hx hb hts in_X9_sum_X0 hown hK hP 1 rfl rfl 8 (by decide) (hts (.fieldLink RX9 163 "ClearingGates$Books" "fees" "J") (List.mem_of_getElem? (i := 2) (by decide +kernel))) (fun _ h9 => h9) rfl dX9_sum_32 ?_
    have hP9 := hP.sub (ws' := []) [] rfl
    have hD9 := hD.sub (ws' := []) [] (by decide) rfl
    have hK9 := hK.sub (tys' := []) [] rfl
    exact W.lret (v := 0) hx hb hr (fun t ht hW => ⟨⟨0, (), rfl, Or.inl ⟨rfl, by omega⟩, by rw [ht]; exact hP9, va_K.moved hW.alike hK9, hD9⟩, hS.F ht⟩) hS.2.2 dX9_sum_35
  have f_c1 := i_ne c1
  rcases Decidable.em (p0 = 1) with c2 | c2
  · refine lv_tableIn (off := 35) (tgt := 36) hx hb dX9_sum_1 (by rw [c2]; decide) (by rw [c2]; decide) (by rw [c2]; decide) (by decide) ?_
    have f_c2 := i_eq c2
    refine lv_aload_n hx hb dX9_sum_36 rfl (lv_at hl 0 rfl) ?_
    refine va_get (D := (dC, dI)) (ci := 8) (v := .ref jb) (C := RX9) (T := TX9) (N := 13) hx hb hts in_X9_sum_X9 hown hK hP 0 rfl rfl 0 (by decide) (hts (.fieldLink RX9 12 "ClearingGates" "books" "LClearingGates$Books;") (List.mem_of_getElem? (i := 1) (by decide +kernel))) (fun _ h9 => h9) rfl dX9_sum_37 ?_
    have hPc := hP.sub (ws' := [(jb, .inr (0, [v0, v1, v2, v3, v4, v5, v6, .int 0, .long 0, v9, v10, v11, v12]))]) [1] rfl
    have hDc := hD.sub (ws' := [(jb, .inr (0, [v0, v1, v2, v3, v4, v5, v6, .int 0, .long 0, v9, v10, v11, v12]))]) [1] (by decide) rfl
    have hKc := hK.sub (tys' := []) [] rfl
    have hFc := va_free (wc := [(jb, .inr (0, [v0, v1, v2, v3, v4, v5, v6, .int 0, .long 0, v9, v10, v11, v12]))]) hD hS hA [1] rfl
    refine va_calll (va_runV (As := []) (rest := []) ⟨hx, hb, hml, hown, hts⟩ (c_X0_allMoney l dC dI jb (v0) (v1) (v2) (v3) (v4) (v5) (v6) (v9) (v10) (v11) (v12) s.heap.size) (cwV 0 hts gX9_sum_X0_allMoney rfl rfl rfl (by decide +kernel) ⟨Nat.le_of_ble_eq_true rfl, Nat.le_of_ble_eq_true rfl⟩) ⟨fun a U g mk q => by obtain ⟨q0, q1, qP, qK, qD⟩ := q; exact ⟨q0, q1, qP, va_K.moved (u := U) (U := U.calling g mk a) (Vm.Alike.refl U.vm) qK, qD⟩, va_recv hKc hPc (ci := 0) (q0 := 0) rfl rfl, fun U hU hW => ⟨rfl, by rw [hU], by rw [hU]; exact hPc, va_K.moved hW.alike hKc, hDc.weaken (fun _ _ _ _ => trivial)⟩⟩ rfl rfl hl.1 rfl (lv_room (Nat.le_of_ble_eq_true rfl)) dX9_sum_40 ⟨Nat.le_of_ble_eq_true rfl, Nat.le_of_ble_eq_true rfl⟩) hS (fun q _ h => hFc q h) hFc (fun r3 u t H1 locs ht hvm hw hB hz1 hk1 hS => ?_)
    obtain ⟨hP1, hK1, hD1⟩ := hB
    rw [ht] at hP1
    have hK1 := va_K.moved hvm.symm hK1
    try dsimp only at hw
    obtain ⟨hP, hD⟩ := va_join (wr := [(h0, .inr (8, [.ref jb, w1, .ref jd, w3, w4, w5, w6, w7, w8, w9, w10, w11, w12])), (jd, .inr (1, [.ref qa])), (qa, .inl (ka, 64, .inl fa))]) (w1 := [(jb, .inr (0, [v0, v1, v2, v3, v4, v5, v6, .int 0, .long 0, v9, v10, v11, v12]))]) hP hD [1] [0, 2, 3] rfl rfl (by decide) (by decide) hk1 hFc hP1 hD1
    have hK := (hK.sub (tys' := [(ka, .int)]) [0] rfl).app hK1
    generalize H1 = H at hP hS ⊢
    have hP : va_P (dC, dI) vwCl [(h0, .inr (8, [.ref jb, w1, .ref jd, w3, w4, w5, w6, w7, w8, w9, w10, w11, w12])), (jd, .inr (1, [.ref qa])), (qa, .inl (ka, 64, .inl fa)), (jb, .inr (0, [v0, v1, v2, v3, v4, v5, v6, .int 0, .long 0, v9, v10, v11, v12]))] H := hP
    have hD : va_D A [(h0, .inr (8, [.ref jb, w1, .ref jd, w3, w4, w5, w6, w7, w8, w9, w10, w11, w12])), (jd, .inr (1, [.ref qa])), (qa, .inl (ka, 64, .inl fa)), (jb, .inr (0, [v0, v1, v2, v3, v4, v5, v6, .int 0, .long 0, v9, v10, v11, v12]))] := hD
    have hK : va_K (dC, dI) vwCl [(ka, .int)] s := hK
    subst hw
    have hP9 := hP.sub (ws' := []) [] rfl
    have hD9 := hD.sub (ws' := []) [] (by decide) rfl
    have hK9 := hK.sub (tys' := []) [] rfl
    exact W.lret (v := 0) hx hb hr (fun t ht hW => ⟨⟨0, (), rfl, Or.inl ⟨rfl, by omega⟩, by rw [ht]; exact hP9, va_K.moved hW.alike hK9, hD9⟩, hS.F ht⟩) hS.2.2 dX9_sum_43
  have f_c2 := i_ne c2
  rcases Decidable.em (p0 = 2) with c4 | c4
  · refine lv_tableIn (off := 43) (tgt := 44) hx hb dX9_sum_1 (by rw [c4]; decide) (by rw [c4]; decide) (by rw [c4]; decide) (by decide) ?_
    have f_c4 := i_eq c4
    refine lv_aload_n hx hb dX9_sum_44 rfl (lv_at hl 0 rfl) ?_
    refine va_get (D := (dC, dI)) (ci := 8) (v := .ref jd) (C := RX9) (T := TX9) (N := 13) hx hb hts in_X9_sum_X9 hown hK hP 0 rfl rfl 2 (by decide) (hts (.fieldLink RX9 24 "ClearingGates" "debts" "LClearingGates$Debts;") (List.mem_of_getElem? (i := 3) (by decide +kernel))) (fun _ h9 => h9) rfl dX9_sum_45 ?_
    have hPc := hP.sub (ws' := [(jd, .inr (1, [.ref qa])), (qa, .inl (ka, 64, .inl fa))]) [2, 3] rfl
    have hDc := hD.sub (ws' := [(jd, .inr (1, [.ref qa])), (qa, .inl (ka, 64, .inl fa))]) [2, 3] (by decide) rfl
    have hKc := hK.sub (tys' := [(ka, .int)]) [0] rfl
    have hFc := va_free (wc := [(jd, .inr (1, [.ref qa])), (qa, .inl (ka, 64, .inl fa))]) hD hS hA [2, 3] rfl
    refine va_calll (va_runV (As := []) (rest := []) ⟨hx, hb, hml, hown, hts⟩ (c_X1_total l dC dI jd qa ka fa s.heap.size hf) (cwV 0 hts gX9_sum_X1_total rfl rfl rfl (by decide +kernel) ⟨Nat.le_of_ble_eq_true rfl, Nat.le_of_ble_eq_true rfl⟩) ⟨fun a U g mk q => by obtain ⟨q0, q1, qP, qK, qD⟩ := q; exact ⟨q0, q1, qP, va_K.moved (u := U) (U := U.calling g mk a) (Vm.Alike.refl U.vm) qK, qD⟩, va_recv hKc hPc (ci := 1) (q0 := 0) rfl rfl, fun U hU hW => ⟨rfl, by rw [hU], by rw [hU]; exact hPc, va_K.moved hW.alike hKc, hDc.weaken (fun _ _ _ _ => trivial)⟩⟩ rfl rfl hl.1 rfl (lv_room (Nat.le_of_ble_eq_true rfl)) dX9_sum_48 ⟨Nat.le_of_ble_eq_true rfl, Nat.le_of_ble_eq_true rfl⟩) hS (fun q _ h => hFc q h) hFc (fun r5 u t H1 locs ht hvm hw hB hz1 hk1 hS => ?_)
    obtain ⟨hP1, hK1, hD1⟩ := hB
    rw [ht] at hP1
    have hK1 := va_K.moved hvm.symm hK1
    try dsimp only at hw
    obtain ⟨hP, hD⟩ := va_join (wr := [(h0, .inr (8, [.ref jb, w1, .ref jd, w3, w4, w5, w6, w7, w8, w9, w10, w11, w12])), (jb, .inr (0, [v0, v1, v2, v3, v4, v5, v6, .int 0, .long 0, v9, v10, v11, v12]))]) (w1 := []) hP hD [2, 3] [0, 1] rfl rfl (by decide) (by decide) hk1 hFc hP1 hD1
    have hK := (hK.sub (tys' := []) [] rfl).app hK1
    generalize H1 = H at hP hS ⊢
    have hP : va_P (dC, dI) vwCl [(h0, .inr (8, [.ref jb, w1, .ref jd, w3, w4, w5, w6, w7, w8, w9, w10, w11, w12])), (jb, .inr (0, [v0, v1, v2, v3, v4, v5, v6, .int 0, .long 0, v9, v10, v11, v12]))] H := hP
    have hD : va_D A [(h0, .inr (8, [.ref jb, w1, .ref jd, w3, w4, w5, w6, w7, w8, w9, w10, w11, w12])), (jb, .inr (0, [v0, v1, v2, v3, v4, v5, v6, .int 0, .long 0, v9, v10, v11, v12]))] := hD
    have hK : va_K (dC, dI) vwCl [] s := hK
    subst hw
    have hP9 := hP.sub (ws' := []) [] rfl
    have hD9 := hD.sub (ws' := []) [] (by decide) rfl
    have hK9 := hK.sub (tys' := []) [] rfl
    exact W.lret (v := 0) hx hb hr (fun t ht hW => ⟨⟨0, (), rfl, Or.inl ⟨rfl, by omega⟩, by rw [ht]; exact hP9, va_K.moved hW.alike hK9, hD9⟩, hS.F ht⟩) hS.2.2 dX9_sum_51
  have f_c4 := i_ne c4
  refine lv_tableOut (tgt := 52) hx hb dX9_sum_1 (by omega) (by decide) ?_
  refine lv_ldc2 hx hb hown (hts (.constantLong RX9 105 (-9223372036854775808)) (List.mem_of_getElem? (i := 4) (by decide +kernel))) dX9_sum_52 ?_
  have hP9 := hP.sub (ws' := []) [] rfl
  have hD9 := hD.sub (ws' := []) [] (by decide) rfl
  have hK9 := hK.sub (tys' := []) [] rfl
  exact W.lret (v := (-9223372036854775808)) hx hb hr (fun t ht hW => ⟨⟨(-9223372036854775808), (), rfl, Or.inr (⟨rfl, by omega⟩), by rw [ht]; exact hP9, va_K.moved hW.alike hK9, hD9⟩, hS.F ht⟩) hS.2.2 dX9_sum_55

set_option maxRecDepth 100000 in
set_option maxHeartbeats 4000000 in
/-- run on a fresh object -/
theorem c_X9_run (l : Launch) (dC : Nat → ClassId) (dI : Nat → Nat → Nat) (h0 : Nat) (p0 : Int32) (w0 : Value) (w1 : Value) (w2 : Value) (w3 : Value) (w4 : Value) (w5 : Value) (w7 : Value) (w8 : Value) (w9 : Value) (w10 : Value) (w11 : Value) (w12 : Value) (sz : Nat) : Met l yX9_run wsX9_run ({ frames := 1, cells := 0, slots := 0, locals := 21 }) (va_Pc [.ref h0, .int p0] (fun U => U.heap.size = sz ∧ va_P (dC, dI) vwCl [(h0, .inr (8, [w0, w1, w2, w3, w4, w5, .int 0, w7, w8, w9, w10, w11, w12]))] U.heap ∧ va_K (dC, dI) vwCl [] U ∧ va_D (fun _ => True) [(h0, .inr (8, [w0, w1, w2, w3, w4, w5, .int 0, w7, w8, w9, w10, w11, w12]))])) (va_Qi (fun (r : Int32) (_ : Unit) => r = (-2)) (fun (_ : Unit) (t : State) => va_P (dC, dI) vwCl [] t.heap ∧ va_K (dC, dI) vwCl [] t ∧ va_D (va_A [(h0, .inr (8, [w0, w1, w2, w3, w4, w5, .int 0, w7, w8, w9, w10, w11, w12]))] sz) []) (va_A [(h0, .inr (8, [w0, w1, w2, w3, w4, w5, .int 0, w7, w8, w9, w10, w11, w12]))] sz)) 0 0 (va_A [(h0, .inr (8, [w0, w1, w2, w3, w4, w5, .int 0, w7, w8, w9, w10, w11, w12]))] sz) := by
  refine Met.ofW (cc := cX9_run) (maxL := 2) (ret := (some .int)) (by decide) rfl ?_
  intro p e s m args below meth c s₁ B hml hv
  obtain ⟨rfl, hsz, hP, hK, hD0⟩ := hv
  have hx := B.exec
  have hb := B.bytes
  have hr := B.returns
  have hts := atoms_spec (ws := wsX9_run) B.pre
  have hown : s.vm.findClass RX9 = some m.cls := findClass_of_methodNamed B.named
  have hlocks := B.notSynchronized
  subst hsz
  have hD := hD0.self (sz := s.heap.size)
  generalize hAe : va_A [(h0, .inr (8, [w0, w1, w2, w3, w4, w5, .int 0, w7, w8, w9, w10, w11, w12]))] s.heap.size = A at hD ⊢
  have hA : ∀ q : Nat, s.heap.size ≤ q → A q := fun q h => by rw [← hAe]; exact Or.inr h
  have hS : va_S A s.heap s.heap [] := va_S.rf
  have hP : va_P (dC, dI) vwCl [(h0, .inr (8, [w0, w1, w2, w3, w4, w5, .int 0, w7, w8, w9, w10, w11, w12]))] s.heap := hP
  have hl := lv_entry ([.ref h0, .int p0]) (n := 2) (Nat.le_of_ble_eq_true rfl)
  rw [lg_entry_eq]
  generalize (lg_sl ([.ref h0, .int p0]) ++ List.replicate (2 - (lg_sl ([.ref h0, .int p0])).length) Slot.unset).toArray = ls at hl ⊢
  have hl : lv_has ls 2 [(0, .ref h0), (1, .int p0)] := hl
  have k_m2 : ((-2) : Int32).toInt = (-2) := by decide
  refine lv_aload_n hx hb dX9_run_0 rfl (lv_at hl 0 rfl) ?_
  refine lv_iload_n hx hb dX9_run_1 rfl (lv_at hl 1 rfl) ?_
  have hPc := hP.sub (ws' := [(h0, .inr (8, [w0, w1, w2, w3, w4, w5, .int 0, w7, w8, w9, w10, w11, w12]))]) [0] rfl
  have hDc := hD.sub (ws' := [(h0, .inr (8, [w0, w1, w2, w3, w4, w5, .int 0, w7, w8, w9, w10, w11, w12]))]) [0] (by decide) rfl
  have hKc := hK.sub (tys' := []) [] rfl
  have hFc := va_free (wc := [(h0, .inr (8, [w0, w1, w2, w3, w4, w5, .int 0, w7, w8, w9, w10, w11, w12]))]) hD hS hA [0] rfl
  refine va_calli (va_runV (As := [.int p0]) (rest := []) ⟨hx, hb, hml, hown, hts⟩ (c_X9_isProgram l dC dI h0 p0 (w0) (w1) (w2) (w3) (w4) (w5) (w7) (w8) (w9) (w10) (w11) (w12) s.heap.size) (cwV 1 hts gX9_run_X9_isProgram rfl rfl rfl (by decide +kernel) ⟨Nat.le_of_ble_eq_true rfl, Nat.le_of_ble_eq_true rfl⟩) ⟨fun a U g mk q => by obtain ⟨q0, q1, qP, qK, qD⟩ := q; exact ⟨q0, q1, qP, va_K.moved (u := U) (U := U.calling g mk a) (Vm.Alike.refl U.vm) qK, qD⟩, va_recv hKc hPc (ci := 8) (q0 := 0) rfl rfl, fun U hU hW => ⟨rfl, by rw [hU], by rw [hU]; exact hPc, va_K.moved hW.alike hKc, hDc.weaken (fun _ _ _ _ => trivial)⟩⟩ rfl rfl hl.1 rfl (lv_room (Nat.le_of_ble_eq_true rfl)) dX9_run_2 ⟨Nat.le_of_ble_eq_true rfl, Nat.le_of_ble_eq_true rfl⟩) hS (fun q _ h => hFc q h) hFc (fun r1 u t H1 locs ht hvm hw hB hz1 hk1 hS => ?_)
  obtain ⟨hP1, hK1, hD1⟩ := hB
  rw [ht] at hP1
  have hK1 := va_K.moved hvm.symm hK1
  try dsimp only at hw
  obtain ⟨hP, hD⟩ := va_join (wr := []) (w1 := [(h0, .inr (8, [w0, w1, w2, w3, w4, w5, .int 0, w7, w8, w9, w10, w11, w12]))]) hP hD [0] [] rfl rfl (by decide) (by decide) hk1 hFc hP1 hD1
  have hK := (hK.sub (tys' := []) [] rfl).app hK1
  generalize H1 = H at hP hS ⊢
  have hP : va_P (dC, dI) vwCl [(h0, .inr (8, [w0, w1, w2, w3, w4, w5, .int 0, w7, w8, w9, w10, w11, w12]))] H := hP
  have hD : va_D A [(h0, .inr (8, [w0, w1, w2, w3, w4, w5, .int 0, w7, w8, w9, w10, w11, w12]))] := hD
  have hK : va_K (dC, dI) vwCl [] s := hK
  subst hw
  refine lv_if_ne (tgt := 11) hx hb dX9_run_5 (by decide) (fun c2 => absurd (by decide) c2) (fun c2 => ?_)
  refine lv_bipush (v := -2) hx hb dX9_run_8 (by decide) ?_
  have hP9 := hP.sub (ws' := []) [] rfl
  have hD9 := hD.sub (ws' := []) [] (by decide) rfl
  have hK9 := hK.sub (tys' := []) [] rfl
  exact W.iret (v := (-2)) hx hb hr (fun t ht hW => ⟨⟨(-2), (), rfl, (by first | rfl | (simp only [if_pos, if_neg, *]; done)), by rw [ht]; exact hP9, va_K.moved hW.alike hK9, hD9⟩, hS.F ht⟩) hS.2.2 dX9_run_10

theorem in_X9_trace_X9 : ∀ w ∈ wsX90, w ∈ wsX9_trace := fun _ h => List.mem_cons_of_mem _ (List.mem_append_left _ (List.mem_append_right _ h))
set_option maxRecDepth 100000 in
set_option maxHeartbeats 4000000 in
/-- trace on a fresh object -/
theorem c_X9_trace (l : Launch) (dC : Nat → ClassId) (dI : Nat → Nat → Nat) (h0 : Nat) (p0 : Int32) (w0 : Value) (w1 : Value) (w2 : Value) (w3 : Value) (w4 : Value) (w5 : Value) (w6 : Value) (w7 : Value) (w8 : Value) (w9 : Value) (jr : Nat) (w11 : Value) (w12 : Value) (u0 : Value) (u1 : Value) (u3 : Value) (u4 : Value) (u5 : Value) (u6 : Value) (u7 : Value) (sz : Nat) : Met l yX9_trace wsX9_trace ({ frames := 2, cells := 0, slots := 0, locals := 33 }) (va_Pc [.ref h0, .int p0] (fun U => U.heap.size = sz ∧ va_P (dC, dI) vwCl [(h0, .inr (8, [w0, w1, w2, w3, w4, w5, w6, w7, w8, w9, .ref jr, w11, w12])), (jr, .inr (5, [u0, u1, .int 0, u3, u4, u5, u6, u7]))] U.heap ∧ va_K (dC, dI) vwCl [] U ∧ va_D (fun _ => True) [(h0, .inr (8, [w0, w1, w2, w3, w4, w5, w6, w7, w8, w9, .ref jr, w11, w12])), (jr, .inr (5, [u0, u1, .int 0, u3, u4, u5, u6, u7]))])) (va_Qi (fun (r : Int32) (_ : Unit) => r = (-12)) (fun (_ : Unit) (t : State) => va_P (dC, dI) vwCl [] t.heap ∧ va_K (dC, dI) vwCl [] t ∧ va_D (va_A [(h0, .inr (8, [w0, w1, w2, w3, w4, w5, w6, w7, w8, w9, .ref jr, w11, w12])), (jr, .inr (5, [u0, u1, .int 0, u3, u4, u5, u6, u7]))] sz) []) (va_A [(h0, .inr (8, [w0, w1, w2, w3, w4, w5, w6, w7, w8, w9, .ref jr, w11, w12])), (jr, .inr (5, [u0, u1, .int 0, u3, u4, u5, u6, u7]))] sz)) 0 0 (va_A [(h0, .inr (8, [w0, w1, w2, w3, w4, w5, w6, w7, w8, w9, .ref jr, w11, w12])), (jr, .inr (5, [u0, u1, .int 0, u3, u4, u5, u6, u7]))] sz) := by
  refine Met.ofW (cc := cX9_trace) (maxL := 2) (ret := (some .int)) (by decide) rfl ?_
  intro p e s m args below meth c s₁ B hml hv
  obtain ⟨rfl, hsz, hP, hK, hD0⟩ := hv
  have hx := B.exec
  have hb := B.bytes
  have hr := B.returns
  have hts := atoms_spec (ws := wsX9_trace) B.pre
  have hown : s.vm.findClass RX9 = some m.cls := findClass_of_methodNamed B.named
  have hlocks := B.notSynchronized
  subst hsz
  have hD := hD0.self (sz := s.heap.size)
  generalize hAe : va_A [(h0, .inr (8, [w0, w1, w2, w3, w4, w5, w6, w7, w8, w9, .ref jr, w11, w12])), (jr, .inr (5, [u0, u1, .int 0, u3, u4, u5, u6, u7]))] s.heap.size = A at hD ⊢
  have hA : ∀ q : Nat, s.heap.size ≤ q → A q := fun q h => by rw [← hAe]; exact Or.inr h
  have hS : va_S A s.heap s.heap [] := va_S.rf
  have hP : va_P (dC, dI) vwCl [(h0, .inr (8, [w0, w1, w2, w3, w4, w5, w6, w7, w8, w9, .ref jr, w11, w12])), (jr, .inr (5, [u0, u1, .int 0, u3, u4, u5, u6, u7]))] s.heap := hP
  have hl := lv_entry ([.ref h0, .int p0]) (n := 2) (Nat.le_of_ble_eq_true rfl)
  rw [lg_entry_eq]
  generalize (lg_sl ([.ref h0, .int p0]) ++ List.replicate (2 - (lg_sl ([.ref h0, .int p0])).length) Slot.unset).toArray = ls at hl ⊢
  have hl : lv_has ls 2 [(0, .ref h0), (1, .int p0)] := hl
  have k_m12 : ((-12) : Int32).toInt = (-12) := by decide
  have k_0 : (0 : Int32).toInt = 0 := by decide
  refine lv_iload_n hx hb dX9_trace_0 rfl (lv_at hl 1 rfl) ?_
  refine lv_if_lt (tgt := 15) hx hb dX9_trace_1 (by decide) (fun c1 => ?_) (fun c1 => ?_)
  · skip
    have f_c1 := i_lt c1
    refine lv_bipush (v := -12) hx hb dX9_trace_15 (by decide) ?_
    have hP9 := hP.sub (ws' := []) [] rfl
    have hD9 := hD.sub (ws' := []) [] (by decide) rfl
    have hK9 := hK.sub (tys' := []) [] rfl
    exact W.iret (v := (-12)) hx hb hr (fun t ht hW => ⟨⟨(-12), (), rfl, (by first | rfl | (simp only [if_pos, if_neg, *]; done)), by rw [ht]; exact hP9, va_K.moved hW.alike hK9, hD9⟩, hS.F ht⟩) hS.2.2 dX9_trace_17
  · skip
    have f_c1 := i_nlt c1
    refine lv_iload_n hx hb dX9_trace_4 rfl (lv_at hl 1 rfl) ?_
    refine lv_aload_n hx hb dX9_trace_5 rfl (lv_at hl 0 rfl) ?_
    refine va_get (D := (dC, dI)) (ci := 8) (v := .ref jr) (C := RX9) (T := TX9) (N := 13) hx hb hts in_X9_trace_X9 hown hK hP 0 rfl rfl 10 (by decide) (hts (.fieldLink RX9 70 "ClearingGates" "truly" "LClearingGates$Runner;") (List.mem_of_getElem? (i := 1) (by decide +kernel))) (fun _ h9 => h9) rfl dX9_trace_6 ?_
    have hPc := hP.sub (ws' := [(jr, .inr (5, [u0, u1, .int 0, u3, u4, u5, u6, u7]))]) [1] rfl
    have hDc := hD.sub (ws' := [(jr, .inr (5, [u0, u1, .int 0, u3, u4, u5, u6, u7]))]) [1] (by decide) rfl
    have hKc := hK.sub (tys' := []) [] rfl
    have hFc := va_free (wc := [(jr, .inr (5, [u0, u1, .int 0, u3, u4, u5, u6, u7]))]) hD hS hA [1] rfl
    refine va_calli (va_runV (As := []) (rest := [.int p0]) ⟨hx, hb, hml, hown, hts⟩ (c_X6_keptMarks l dC dI jr (u0) (u1) (u3) (u4) (u5) (u6) (u7) s.heap.size) (cwV 0 hts gX9_trace_X6_keptMarks rfl rfl rfl (by decide +kernel) ⟨Nat.le_of_ble_eq_true rfl, Nat.le_of_ble_eq_true rfl⟩) ⟨fun a U g mk q => by obtain ⟨q0, q1, qP, qK, qD⟩ := q; exact ⟨q0, q1, qP, va_K.moved (u := U) (U := U.calling g mk a) (Vm.Alike.refl U.vm) qK, qD⟩, va_recv hKc hPc (ci := 5) (q0 := 0) rfl rfl, fun U hU hW => ⟨rfl, by rw [hU], by rw [hU]; exact hPc, va_K.moved hW.alike hKc, hDc.weaken (fun _ _ _ _ => trivial)⟩⟩ rfl rfl hl.1 rfl (lv_room (Nat.le_of_ble_eq_true rfl)) dX9_trace_9 ⟨Nat.le_of_ble_eq_true rfl, Nat.le_of_ble_eq_true rfl⟩) hS (fun q _ h => hFc q h) hFc (fun r2 u t H1 locs ht hvm hw hB hz1 hk1 hS => ?_)
    obtain ⟨hP1, hK1, hD1⟩ := hB
    rw [ht] at hP1
    have hK1 := va_K.moved hvm.symm hK1
    try dsimp only at hw
    obtain ⟨hP, hD⟩ := va_join (wr := [(h0, .inr (8, [w0, w1, w2, w3, w4, w5, w6, w7, w8, w9, .ref jr, w11, w12]))]) (w1 := [(jr, .inr (5, [u0, u1, .int 0, u3, u4, u5, u6, u7]))]) hP hD [1] [0] rfl rfl (by decide) (by decide) hk1 hFc hP1 hD1
    have hK := (hK.sub (tys' := []) [] rfl).app hK1
    generalize H1 = H at hP hS ⊢
    have hP : va_P (dC, dI) vwCl [(h0, .inr (8, [w0, w1, w2, w3, w4, w5, w6, w7, w8, w9, .ref jr, w11, w12])), (jr, .inr (5, [u0, u1, .int 0, u3, u4, u5, u6, u7]))] H := hP
    have hD : va_D A [(h0, .inr (8, [w0, w1, w2, w3, w4, w5, w6, w7, w8, w9, .ref jr, w11, w12])), (jr, .inr (5, [u0, u1, .int 0, u3, u4, u5, u6, u7]))] := hD
    have hK : va_K (dC, dI) vwCl [] s := hK
    subst hw
    refine lv_icmp_lt (tgt := 18) hx hb dX9_trace_12 (by decide) (fun c3 => ?_) (fun c3 => ?_)
    · skip
      have f_c3 := i_lt c3
      exfalso; omega
    · skip
      have f_c3 := i_nlt c3
      refine lv_bipush (v := -12) hx hb dX9_trace_15 (by decide) ?_
      have hP9 := hP.sub (ws' := []) [] rfl
      have hD9 := hD.sub (ws' := []) [] (by decide) rfl
      have hK9 := hK.sub (tys' := []) [] rfl
      exact W.iret (v := (-12)) hx hb hr (fun t ht hW => ⟨⟨(-12), (), rfl, (by first | rfl | (simp only [if_pos, if_neg, *]; done)), by rw [ht]; exact hP9, va_K.moved hW.alike hK9, hD9⟩, hS.F ht⟩) hS.2.2 dX9_trace_17

set_option maxRecDepth 100000 in
set_option maxHeartbeats 4000000 in
/-- would on a fresh object -/
theorem c_X9_would (l : Launch) (dC : Nat → ClassId) (dI : Nat → Nat → Nat) (h0 : Nat) (p0 : Int32) (p1 : Int32) (w0 : Value) (w1 : Value) (w2 : Value) (w3 : Value) (w4 : Value) (w5 : Value) (w7 : Value) (w8 : Value) (w9 : Value) (w10 : Value) (w11 : Value) (w12 : Value) (sz : Nat) : Met l yX9_would wsX9_would ({ frames := 1, cells := 0, slots := 0, locals := 21 }) (va_Pc [.ref h0, .int p0, .int p1] (fun U => U.heap.size = sz ∧ va_P (dC, dI) vwCl [(h0, .inr (8, [w0, w1, w2, w3, w4, w5, .int 0, w7, w8, w9, w10, w11, w12]))] U.heap ∧ va_K (dC, dI) vwCl [] U ∧ va_D (fun _ => True) [(h0, .inr (8, [w0, w1, w2, w3, w4, w5, .int 0, w7, w8, w9, w10, w11, w12]))])) (va_Ql (fun (r : Int64) (_ : Unit) => r = (-9223372036854775808)) (fun (_ : Unit) (t : State) => va_P (dC, dI) vwCl [] t.heap ∧ va_K (dC, dI) vwCl [] t ∧ va_D (va_A [(h0, .inr (8, [w0, w1, w2, w3, w4, w5, .int 0, w7, w8, w9, w10, w11, w12]))] sz) []) (va_A [(h0, .inr (8, [w0, w1, w2, w3, w4, w5, .int 0, w7, w8, w9, w10, w11, w12]))] sz)) 0 0 (va_A [(h0, .inr (8, [w0, w1, w2, w3, w4, w5, .int 0, w7, w8, w9, w10, w11, w12]))] sz) := by
  refine Met.ofW (cc := cX9_would) (maxL := 4) (ret := (some .long)) (by decide) rfl ?_
  intro p e s m args below meth c s₁ B hml hv
  obtain ⟨rfl, hsz, hP, hK, hD0⟩ := hv
  have hx := B.exec
  have hb := B.bytes
  have hr := B.returns
  have hts := atoms_spec (ws := wsX9_would) B.pre
  have hown : s.vm.findClass RX9 = some m.cls := findClass_of_methodNamed B.named
  have hlocks := B.notSynchronized
  subst hsz
  have hD := hD0.self (sz := s.heap.size)
  generalize hAe : va_A [(h0, .inr (8, [w0, w1, w2, w3, w4, w5, .int 0, w7, w8, w9, w10, w11, w12]))] s.heap.size = A at hD ⊢
  have hA : ∀ q : Nat, s.heap.size ≤ q → A q := fun q h => by rw [← hAe]; exact Or.inr h
  have hS : va_S A s.heap s.heap [] := va_S.rf
  have hP : va_P (dC, dI) vwCl [(h0, .inr (8, [w0, w1, w2, w3, w4, w5, .int 0, w7, w8, w9, w10, w11, w12]))] s.heap := hP
  have hl := lv_entry ([.ref h0, .int p0, .int p1]) (n := 4) (Nat.le_of_ble_eq_true rfl)
  rw [lg_entry_eq]
  generalize (lg_sl ([.ref h0, .int p0, .int p1]) ++ List.replicate (4 - (lg_sl ([.ref h0, .int p0, .int p1])).length) Slot.unset).toArray = ls at hl ⊢
  have hl : lv_has ls 4 [(0, .ref h0), (1, .int p0), (2, .int p1)] := hl
  refine lv_aload_n hx hb dX9_would_0 rfl (lv_at hl 0 rfl) ?_
  refine lv_iload_n hx hb dX9_would_1 rfl (lv_at hl 1 rfl) ?_
  have hPc := hP.sub (ws' := [(h0, .inr (8, [w0, w1, w2, w3, w4, w5, .int 0, w7, w8, w9, w10, w11, w12]))]) [0] rfl
  have hDc := hD.sub (ws' := [(h0, .inr (8, [w0, w1, w2, w3, w4, w5, .int 0, w7, w8, w9, w10, w11, w12]))]) [0] (by decide) rfl
  have hKc := hK.sub (tys' := []) [] rfl
  have hFc := va_free (wc := [(h0, .inr (8, [w0, w1, w2, w3, w4, w5, .int 0, w7, w8, w9, w10, w11, w12]))]) hD hS hA [0] rfl
  refine va_calli (va_runV (As := [.int p0]) (rest := []) ⟨hx, hb, hml, hown, hts⟩ (c_X9_isProgram l dC dI h0 p0 (w0) (w1) (w2) (w3) (w4) (w5) (w7) (w8) (w9) (w10) (w11) (w12) s.heap.size) (cwV 1 hts gX9_would_X9_isProgram rfl rfl rfl (by decide +kernel) ⟨Nat.le_of_ble_eq_true rfl, Nat.le_of_ble_eq_true rfl⟩) ⟨fun a U g mk q => by obtain ⟨q0, q1, qP, qK, qD⟩ := q; exact ⟨q0, q1, qP, va_K.moved (u := U) (U := U.calling g mk a) (Vm.Alike.refl U.vm) qK, qD⟩, va_recv hKc hPc (ci := 8) (q0 := 0) rfl rfl, fun U hU hW => ⟨rfl, by rw [hU], by rw [hU]; exact hPc, va_K.moved hW.alike hKc, hDc.weaken (fun _ _ _ _ => trivial)⟩⟩ rfl rfl hl.1 rfl (lv_room (Nat.le_of_ble_eq_true rfl)) dX9_would_2 ⟨Nat.le_of_ble_eq_true rfl, Nat.le_of_ble_eq_true rfl⟩) hS (fun q _ h => hFc q h) hFc (fun r1 u t H1 locs ht hvm hw hB hz1 hk1 hS => ?_)
  obtain ⟨hP1, hK1, hD1⟩ := hB
  rw [ht] at hP1
  have hK1 := va_K.moved hvm.symm hK1
  try dsimp only at hw
  obtain ⟨hP, hD⟩ := va_join (wr := []) (w1 := [(h0, .inr (8, [w0, w1, w2, w3, w4, w5, .int 0, w7, w8, w9, w10, w11, w12]))]) hP hD [0] [] rfl rfl (by decide) (by decide) hk1 hFc hP1 hD1
  have hK := (hK.sub (tys' := []) [] rfl).app hK1
  generalize H1 = H at hP hS ⊢
  have hP : va_P (dC, dI) vwCl [(h0, .inr (8, [w0, w1, w2, w3, w4, w5, .int 0, w7, w8, w9, w10, w11, w12]))] H := hP
  have hD : va_D A [(h0, .inr (8, [w0, w1, w2, w3, w4, w5, .int 0, w7, w8, w9, w10, w11, w12]))] := hD
  have hK : va_K (dC, dI) vwCl [] s := hK
  subst hw
  refine lv_if_eq (tgt := 16) hx hb dX9_would_5 (by decide) (fun c2 => ?_) (fun c2 => absurd (by decide) c2)
  refine lv_ldc2 hx hb hown (hts (.constantLong RX9 105 (-9223372036854775808)) (List.mem_of_getElem? (i := 1) (by decide +kernel))) dX9_would_16 ?_
  have hP9 := hP.sub (ws' := []) [] rfl
  have hD9 := hD.sub (ws' := []) [] (by decide) rfl
  have hK9 := hK.sub (tys' := []) [] rfl
  exact W.lret (v := (-9223372036854775808)) hx hb hr (fun t ht hW => ⟨⟨(-9223372036854775808), (), rfl, (by first | rfl | (simp only [if_pos, if_neg, *]; done)), by rw [ht]; exact hP9, va_K.moved hW.alike hK9, hD9⟩, hS.F ht⟩) hS.2.2 dX9_would_19

set_option maxRecDepth 100000 in
set_option maxHeartbeats 4000000 in
/-- needed on a fresh object -/
theorem c_X9_needed (l : Launch) (dC : Nat → ClassId) (dI : Nat → Nat → Nat) (h0 : Nat) (p0 : Int32) (p1 : Int32) (w0 : Value) (w1 : Value) (w2 : Value) (w3 : Value) (w4 : Value) (w5 : Value) (w7 : Value) (w8 : Value) (w9 : Value) (w10 : Value) (w11 : Value) (w12 : Value) (sz : Nat) : Met l yX9_needed wsX9_needed ({ frames := 1, cells := 0, slots := 0, locals := 21 }) (va_Pc [.ref h0, .int p0, .int p1] (fun U => U.heap.size = sz ∧ va_P (dC, dI) vwCl [(h0, .inr (8, [w0, w1, w2, w3, w4, w5, .int 0, w7, w8, w9, w10, w11, w12]))] U.heap ∧ va_K (dC, dI) vwCl [] U ∧ va_D (fun _ => True) [(h0, .inr (8, [w0, w1, w2, w3, w4, w5, .int 0, w7, w8, w9, w10, w11, w12]))])) (va_Qi (fun (r : Int32) (_ : Unit) => r = (-2)) (fun (_ : Unit) (t : State) => va_P (dC, dI) vwCl [] t.heap ∧ va_K (dC, dI) vwCl [] t ∧ va_D (va_A [(h0, .inr (8, [w0, w1, w2, w3, w4, w5, .int 0, w7, w8, w9, w10, w11, w12]))] sz) []) (va_A [(h0, .inr (8, [w0, w1, w2, w3, w4, w5, .int 0, w7, w8, w9, w10, w11, w12]))] sz)) 0 0 (va_A [(h0, .inr (8, [w0, w1, w2, w3, w4, w5, .int 0, w7, w8, w9, w10, w11, w12]))] sz) := by
  refine Met.ofW (cc := cX9_needed) (maxL := 5) (ret := (some .int)) (by decide) rfl ?_
  intro p e s m args below meth c s₁ B hml hv
  obtain ⟨rfl, hsz, hP, hK, hD0⟩ := hv
  have hx := B.exec
  have hb := B.bytes
  have hr := B.returns
  have hts := atoms_spec (ws := wsX9_needed) B.pre
  have hown : s.vm.findClass RX9 = some m.cls := findClass_of_methodNamed B.named
  have hlocks := B.notSynchronized
  subst hsz
  have hD := hD0.self (sz := s.heap.size)
  generalize hAe : va_A [(h0, .inr (8, [w0, w1, w2, w3, w4, w5, .int 0, w7, w8, w9, w10, w11, w12]))] s.heap.size = A at hD ⊢
  have hA : ∀ q : Nat, s.heap.size ≤ q → A q := fun q h => by rw [← hAe]; exact Or.inr h
  have hS : va_S A s.heap s.heap [] := va_S.rf
  have hP : va_P (dC, dI) vwCl [(h0, .inr (8, [w0, w1, w2, w3, w4, w5, .int 0, w7, w8, w9, w10, w11, w12]))] s.heap := hP
  have hl := lv_entry ([.ref h0, .int p0, .int p1]) (n := 5) (Nat.le_of_ble_eq_true rfl)
  rw [lg_entry_eq]
  generalize (lg_sl ([.ref h0, .int p0, .int p1]) ++ List.replicate (5 - (lg_sl ([.ref h0, .int p0, .int p1])).length) Slot.unset).toArray = ls at hl ⊢
  have hl : lv_has ls 5 [(0, .ref h0), (1, .int p0), (2, .int p1)] := hl
  have k_m2 : ((-2) : Int32).toInt = (-2) := by decide
  refine lv_aload_n hx hb dX9_needed_0 rfl (lv_at hl 0 rfl) ?_
  refine lv_iload_n hx hb dX9_needed_1 rfl (lv_at hl 1 rfl) ?_
  have hPc := hP.sub (ws' := [(h0, .inr (8, [w0, w1, w2, w3, w4, w5, .int 0, w7, w8, w9, w10, w11, w12]))]) [0] rfl
  have hDc := hD.sub (ws' := [(h0, .inr (8, [w0, w1, w2, w3, w4, w5, .int 0, w7, w8, w9, w10, w11, w12]))]) [0] (by decide) rfl
  have hKc := hK.sub (tys' := []) [] rfl
  have hFc := va_free (wc := [(h0, .inr (8, [w0, w1, w2, w3, w4, w5, .int 0, w7, w8, w9, w10, w11, w12]))]) hD hS hA [0] rfl
  refine va_calli (va_runV (As := [.int p0]) (rest := []) ⟨hx, hb, hml, hown, hts⟩ (c_X9_isProgram l dC dI h0 p0 (w0) (w1) (w2) (w3) (w4) (w5) (w7) (w8) (w9) (w10) (w11) (w12) s.heap.size) (cwV 1 hts gX9_needed_X9_isProgram rfl rfl rfl (by decide +kernel) ⟨Nat.le_of_ble_eq_true rfl, Nat.le_of_ble_eq_true rfl⟩) ⟨fun a U g mk q => by obtain ⟨q0, q1, qP, qK, qD⟩ := q; exact ⟨q0, q1, qP, va_K.moved (u := U) (U := U.calling g mk a) (Vm.Alike.refl U.vm) qK, qD⟩, va_recv hKc hPc (ci := 8) (q0 := 0) rfl rfl, fun U hU hW => ⟨rfl, by rw [hU], by rw [hU]; exact hPc, va_K.moved hW.alike hKc, hDc.weaken (fun _ _ _ _ => trivial)⟩⟩ rfl rfl hl.1 rfl (lv_room (Nat.le_of_ble_eq_true rfl)) dX9_needed_2 ⟨Nat.le_of_ble_eq_true rfl, Nat.le_of_ble_eq_true rfl⟩) hS (fun q _ h => hFc q h) hFc (fun r1 u t H1 locs ht hvm hw hB hz1 hk1 hS => ?_)
  obtain ⟨hP1, hK1, hD1⟩ := hB
  rw [ht] at hP1
  have hK1 := va_K.moved hvm.symm hK1
  try dsimp only at hw
  obtain ⟨hP, hD⟩ := va_join (wr := []) (w1 := [(h0, .inr (8, [w0, w1, w2, w3, w4, w5, .int 0, w7, w8, w9, w10, w11, w12]))]) hP hD [0] [] rfl rfl (by decide) (by decide) hk1 hFc hP1 hD1
  have hK := (hK.sub (tys' := []) [] rfl).app hK1
  generalize H1 = H at hP hS ⊢
  have hP : va_P (dC, dI) vwCl [(h0, .inr (8, [w0, w1, w2, w3, w4, w5, .int 0, w7, w8, w9, w10, w11, w12]))] H := hP
  have hD : va_D A [(h0, .inr (8, [w0, w1, w2, w3, w4, w5, .int 0, w7, w8, w9, w10, w11, w12]))] := hD
  have hK : va_K (dC, dI) vwCl [] s := hK
  subst hw
  refine lv_if_eq (tgt := 19) hx hb dX9_needed_5 (by decide) (fun c2 => ?_) (fun c2 => absurd (by decide) c2)
  refine lv_bipush (v := -2) hx hb dX9_needed_19 (by decide) ?_
  have hP9 := hP.sub (ws' := []) [] rfl
  have hD9 := hD.sub (ws' := []) [] (by decide) rfl
  have hK9 := hK.sub (tys' := []) [] rfl
  exact W.iret (v := (-2)) hx hb hr (fun t ht hW => ⟨⟨(-2), (), rfl, (by first | rfl | (simp only [if_pos, if_neg, *]; done)), by rw [ht]; exact hP9, va_K.moved hW.alike hK9, hD9⟩, hS.F ht⟩) hS.2.2 dX9_needed_21

set_option maxRecDepth 100000 in
set_option maxHeartbeats 4000000 in
/-- hinges on a fresh object -/
theorem c_X9_hinges (l : Launch) (dC : Nat → ClassId) (dI : Nat → Nat → Nat) (h0 : Nat) (p0 : Int32) (w0 : Value) (w1 : Value) (w2 : Value) (w3 : Value) (w4 : Value) (w5 : Value) (w7 : Value) (w8 : Value) (w9 : Value) (w10 : Value) (w11 : Value) (w12 : Value) (sz : Nat) : Met l yX9_hinges wsX9_hinges ({ frames := 1, cells := 0, slots := 0, locals := 21 }) (va_Pc [.ref h0, .int p0] (fun U => U.heap.size = sz ∧ va_P (dC, dI) vwCl [(h0, .inr (8, [w0, w1, w2, w3, w4, w5, .int 0, w7, w8, w9, w10, w11, w12]))] U.heap ∧ va_K (dC, dI) vwCl [] U ∧ va_D (fun _ => True) [(h0, .inr (8, [w0, w1, w2, w3, w4, w5, .int 0, w7, w8, w9, w10, w11, w12]))])) (va_Qi (fun (r : Int32) (_ : Unit) => r = (-2)) (fun (_ : Unit) (t : State) => va_P (dC, dI) vwCl [] t.heap ∧ va_K (dC, dI) vwCl [] t ∧ va_D (va_A [(h0, .inr (8, [w0, w1, w2, w3, w4, w5, .int 0, w7, w8, w9, w10, w11, w12]))] sz) []) (va_A [(h0, .inr (8, [w0, w1, w2, w3, w4, w5, .int 0, w7, w8, w9, w10, w11, w12]))] sz)) 0 0 (va_A [(h0, .inr (8, [w0, w1, w2, w3, w4, w5, .int 0, w7, w8, w9, w10, w11, w12]))] sz) := by
  refine Met.ofW (cc := cX9_hinges) (maxL := 5) (ret := (some .int)) (by decide) rfl ?_
  intro p e s m args below meth c s₁ B hml hv
  obtain ⟨rfl, hsz, hP, hK, hD0⟩ := hv
  have hx := B.exec
  have hb := B.bytes
  have hr := B.returns
  have hts := atoms_spec (ws := wsX9_hinges) B.pre
  have hown : s.vm.findClass RX9 = some m.cls := findClass_of_methodNamed B.named
  have hlocks := B.notSynchronized
  subst hsz
  have hD := hD0.self (sz := s.heap.size)
  generalize hAe : va_A [(h0, .inr (8, [w0, w1, w2, w3, w4, w5, .int 0, w7, w8, w9, w10, w11, w12]))] s.heap.size = A at hD ⊢
  have hA : ∀ q : Nat, s.heap.size ≤ q → A q := fun q h => by rw [← hAe]; exact Or.inr h
  have hS : va_S A s.heap s.heap [] := va_S.rf
  have hP : va_P (dC, dI) vwCl [(h0, .inr (8, [w0, w1, w2, w3, w4, w5, .int 0, w7, w8, w9, w10, w11, w12]))] s.heap := hP
  have hl := lv_entry ([.ref h0, .int p0]) (n := 5) (Nat.le_of_ble_eq_true rfl)
  rw [lg_entry_eq]
  generalize (lg_sl ([.ref h0, .int p0]) ++ List.replicate (5 - (lg_sl ([.ref h0, .int p0])).length) Slot.unset).toArray = ls at hl ⊢
  have hl : lv_has ls 5 [(0, .ref h0), (1, .int p0)] := hl
  have k_m2 : ((-2) : Int32).toInt = (-2) := by decide
  refine lv_aload_n hx hb dX9_hinges_0 rfl (lv_at hl 0 rfl) ?_
  refine lv_iload_n hx hb dX9_hinges_1 rfl (lv_at hl 1 rfl) ?_
  have hPc := hP.sub (ws' := [(h0, .inr (8, [w0, w1, w2, w3, w4, w5, .int 0, w7, w8, w9, w10, w11, w12]))]) [0] rfl
  have hDc := hD.sub (ws' := [(h0, .inr (8, [w0, w1, w2, w3, w4, w5, .int 0, w7, w8, w9, w10, w11, w12]))]) [0] (by decide) rfl
  have hKc := hK.sub (tys' := []) [] rfl
  have hFc := va_free (wc := [(h0, .inr (8, [w0, w1, w2, w3, w4, w5, .int 0, w7, w8, w9, w10, w11, w12]))]) hD hS hA [0] rfl
  refine va_calli (va_runV (As := [.int p0]) (rest := []) ⟨hx, hb, hml, hown, hts⟩ (c_X9_isProgram l dC dI h0 p0 (w0) (w1) (w2) (w3) (w4) (w5) (w7) (w8) (w9) (w10) (w11) (w12) s.heap.size) (cwV 1 hts gX9_hinges_X9_isProgram rfl rfl rfl (by decide +kernel) ⟨Nat.le_of_ble_eq_true rfl, Nat.le_of_ble_eq_true rfl⟩) ⟨fun a U g mk q => by obtain ⟨q0, q1, qP, qK, qD⟩ := q; exact ⟨q0, q1, qP, va_K.moved (u := U) (U := U.calling g mk a) (Vm.Alike.refl U.vm) qK, qD⟩, va_recv hKc hPc (ci := 8) (q0 := 0) rfl rfl, fun U hU hW => ⟨rfl, by rw [hU], by rw [hU]; exact hPc, va_K.moved hW.alike hKc, hDc.weaken (fun _ _ _ _ => trivial)⟩⟩ rfl rfl hl.1 rfl (lv_room (Nat.le_of_ble_eq_true rfl)) dX9_hinges_2 ⟨Nat.le_of_ble_eq_true rfl, Nat.le_of_ble_eq_true rfl⟩) hS (fun q _ h => hFc q h) hFc (fun r1 u t H1 locs ht hvm hw hB hz1 hk1 hS => ?_)
  obtain ⟨hP1, hK1, hD1⟩ := hB
  rw [ht] at hP1
  have hK1 := va_K.moved hvm.symm hK1
  try dsimp only at hw
  obtain ⟨hP, hD⟩ := va_join (wr := []) (w1 := [(h0, .inr (8, [w0, w1, w2, w3, w4, w5, .int 0, w7, w8, w9, w10, w11, w12]))]) hP hD [0] [] rfl rfl (by decide) (by decide) hk1 hFc hP1 hD1
  have hK := (hK.sub (tys' := []) [] rfl).app hK1
  generalize H1 = H at hP hS ⊢
  have hP : va_P (dC, dI) vwCl [(h0, .inr (8, [w0, w1, w2, w3, w4, w5, .int 0, w7, w8, w9, w10, w11, w12]))] H := hP
  have hD : va_D A [(h0, .inr (8, [w0, w1, w2, w3, w4, w5, .int 0, w7, w8, w9, w10, w11, w12]))] := hD
  have hK : va_K (dC, dI) vwCl [] s := hK
  subst hw
  refine lv_if_ne (tgt := 11) hx hb dX9_hinges_5 (by decide) (fun c2 => absurd (by decide) c2) (fun c2 => ?_)
  refine lv_bipush (v := -2) hx hb dX9_hinges_8 (by decide) ?_
  have hP9 := hP.sub (ws' := []) [] rfl
  have hD9 := hD.sub (ws' := []) [] (by decide) rfl
  have hK9 := hK.sub (tys' := []) [] rfl
  exact W.iret (v := (-2)) hx hb hr (fun t ht hW => ⟨⟨(-2), (), rfl, (by first | rfl | (simp only [if_pos, if_neg, *]; done)), by rw [ht]; exact hP9, va_K.moved hW.alike hK9, hD9⟩, hS.F ht⟩) hS.2.2 dX9_hinges_10

set_option maxRecDepth 100000 in
set_option maxHeartbeats 4000000 in
/-- owe on a fresh object -/
theorem c_X9_owe (l : Launch) (dC : Nat → ClassId) (dI : Nat → Nat → Nat) (h0 : Nat) (p0 : Int32) (p1 : Int32) (p2 : Int32) (jb : Nat) (w1 : Value) (w2 : Value) (w3 : Value) (w4 : Value) (w5 : Value) (w6 : Value) (w7 : Value) (w8 : Value) (w9 : Value) (w10 : Value) (w11 : Value) (w12 : Value) (v0 : Value) (v1 : Value) (v2 : Value) (v3 : Value) (v4 : Value) (v5 : Value) (v6 : Value) (v8 : Value) (v9 : Value) (v10 : Value) (v11 : Value) (v12 : Value) (sz : Nat) : Met l yX9_owe wsX9_owe ({ frames := 2, cells := 0, slots := 0, locals := 43 }) (va_Pc [.ref h0, .int p0, .int p1, .int p2] (fun U => U.heap.size = sz ∧ va_P (dC, dI) vwCl [(h0, .inr (8, [.ref jb, w1, w2, w3, w4, w5, w6, w7, w8, w9, w10, w11, w12])), (jb, .inr (0, [v0, v1, v2, v3, v4, v5, v6, .int 0, v8, v9, v10, v11, v12]))] U.heap ∧ va_K (dC, dI) vwCl [] U ∧ va_D (fun _ => True) [(h0, .inr (8, [.ref jb, w1, w2, w3, w4, w5, w6, w7, w8, w9, w10, w11, w12])), (jb, .inr (0, [v0, v1, v2, v3, v4, v5, v6, .int 0, v8, v9, v10, v11, v12]))])) (va_Qi (fun (r : Int32) (_ : Unit) => r = (-2)) (fun (_ : Unit) (t : State) => va_P (dC, dI) vwCl [] t.heap ∧ va_K (dC, dI) vwCl [] t ∧ va_D (va_A [(h0, .inr (8, [.ref jb, w1, w2, w3, w4, w5, w6, w7, w8, w9, w10, w11, w12])), (jb, .inr (0, [v0, v1, v2, v3, v4, v5, v6, .int 0, v8, v9, v10, v11, v12]))] sz) []) (va_A [(h0, .inr (8, [.ref jb, w1, w2, w3, w4, w5, w6, w7, w8, w9, w10, w11, w12])), (jb, .inr (0, [v0, v1, v2, v3, v4, v5, v6, .int 0, v8, v9, v10, v11, v12]))] sz)) 0 0 (va_A [(h0, .inr (8, [.ref jb, w1, w2, w3, w4, w5, w6, w7, w8, w9, w10, w11, w12])), (jb, .inr (0, [v0, v1, v2, v3, v4, v5, v6, .int 0, v8, v9, v10, v11, v12]))] sz) := by
  refine Met.ofW (cc := cX9_owe) (maxL := 5) (ret := (some .int)) (by decide) rfl ?_
  intro p e s m args below meth c s₁ B hml hv
  obtain ⟨rfl, hsz, hP, hK, hD0⟩ := hv
  have hx := B.exec
  have hb := B.bytes
  have hr := B.returns
  have hts := atoms_spec (ws := wsX9_owe) B.pre
  have hown : s.vm.findClass RX9 = some m.cls := findClass_of_methodNamed B.named
  have hlocks := B.notSynchronized
  subst hsz
  have hD := hD0.self (sz := s.heap.size)
  generalize hAe : va_A [(h0, .inr (8, [.ref jb, w1, w2, w3, w4, w5, w6, w7, w8, w9, w10, w11, w12])), (jb, .inr (0, [v0, v1, v2, v3, v4, v5, v6, .int 0, v8, v9, v10, v11, v12]))] s.heap.size = A at hD ⊢
  have hA : ∀ q : Nat, s.heap.size ≤ q → A q := fun q h => by rw [← hAe]; exact Or.inr h
  have hS : va_S A s.heap s.heap [] := va_S.rf
  have hP : va_P (dC, dI) vwCl [(h0, .inr (8, [.ref jb, w1, w2, w3, w4, w5, w6, w7, w8, w9, w10, w11, w12])), (jb, .inr (0, [v0, v1, v2, v3, v4, v5, v6, .int 0, v8, v9, v10, v11, v12]))] s.heap := hP
  have hl := lv_entry ([.ref h0, .int p0, .int p1, .int p2]) (n := 5) (Nat.le_of_ble_eq_true rfl)
  rw [lg_entry_eq]
  generalize (lg_sl ([.ref h0, .int p0, .int p1, .int p2]) ++ List.replicate (5 - (lg_sl ([.ref h0, .int p0, .int p1, .int p2])).length) Slot.unset).toArray = ls at hl ⊢
  have hl : lv_has ls 5 [(0, .ref h0), (1, .int p0), (2, .int p1), (3, .int p2)] := hl
  have k_m2 : ((-2) : Int32).toInt = (-2) := by decide
  refine lv_aload_n hx hb dX9_owe_0 rfl (lv_at hl 0 rfl) ?_
  refine lv_iload_n hx hb dX9_owe_1 rfl (lv_at hl 1 rfl) ?_
  refine lv_iload_n hx hb dX9_owe_2 rfl (lv_at hl 2 rfl) ?_
  have hPc := hP.sub (ws' := [(h0, .inr (8, [.ref jb, w1, w2, w3, w4, w5, w6, w7, w8, w9, w10, w11, w12])), (jb, .inr (0, [v0, v1, v2, v3, v4, v5, v6, .int 0, v8, v9, v10, v11, v12]))]) [0, 1] rfl
  have hDc := hD.sub (ws' := [(h0, .inr (8, [.ref jb, w1, w2, w3, w4, w5, w6, w7, w8, w9, w10, w11, w12])), (jb, .inr (0, [v0, v1, v2, v3, v4, v5, v6, .int 0, v8, v9, v10, v11, v12]))]) [0, 1] (by decide) rfl
  have hKc := hK.sub (tys' := []) [] rfl
  have hFc := va_free (wc := [(h0, .inr (8, [.ref jb, w1, w2, w3, w4, w5, w6, w7, w8, w9, w10, w11, w12])), (jb, .inr (0, [v0, v1, v2, v3, v4, v5, v6, .int 0, v8, v9, v10, v11, v12]))]) hD hS hA [0, 1] rfl
  refine va_calli (va_runV (As := [.int p0, .int p1]) (rest := []) ⟨hx, hb, hml, hown, hts⟩ (c_X9_isPair l dC dI h0 p0 p1 jb (w1) (w2) (w3) (w4) (w5) (w6) (w7) (w8) (w9) (w10) (w11) (w12) (v0) (v1) (v2) (v3) (v4) (v5) (v6) (v8) (v9) (v10) (v11) (v12) s.heap.size) (cwV 2 hts gX9_owe_X9_isPair rfl rfl rfl (by decide +kernel) ⟨Nat.le_of_ble_eq_true rfl, Nat.le_of_ble_eq_true rfl⟩) ⟨fun a U g mk q => by obtain ⟨q0, q1, qP, qK, qD⟩ := q; exact ⟨q0, q1, qP, va_K.moved (u := U) (U := U.calling g mk a) (Vm.Alike.refl U.vm) qK, qD⟩, va_recv hKc hPc (ci := 8) (q0 := 0) rfl rfl, fun U hU hW => ⟨rfl, by rw [hU], by rw [hU]; exact hPc, va_K.moved hW.alike hKc, hDc.weaken (fun _ _ _ _ => trivial)⟩⟩ rfl rfl hl.1 rfl (lv_room (Nat.le_of_ble_eq_true rfl)) dX9_owe_3 ⟨Nat.le_of_ble_eq_true rfl, Nat.le_of_ble_eq_true rfl⟩) hS (fun q _ h => hFc q h) hFc (fun r1 u t H1 locs ht hvm hw hB hz1 hk1 hS => ?_)
  obtain ⟨hP1, hK1, hD1⟩ := hB
  rw [ht] at hP1
  have hK1 := va_K.moved hvm.symm hK1
  try dsimp only at hw
  obtain ⟨hP, hD⟩ := va_join (wr := []) (w1 := [(h0, .inr (8, [.ref jb, w1, w2, w3, w4, w5, w6, w7, w8, w9, w10, w11, w12])), (jb, .inr (0, [v0, v1, v2, v3, v4, v5, v6, .int 0, v8, v9, v10, v11, v12]))]) hP hD [0, 1] [] rfl rfl (by decide) (by decide) hk1 hFc hP1 hD1
  have hK := (hK.sub (tys' := []) [] rfl).app hK1
  generalize H1 = H at hP hS ⊢
  have hP : va_P (dC, dI) vwCl [(h0, .inr (8, [.ref jb, w1, w2, w3, w4, w5, w6, w7, w8, w9, w10, w11, w12])), (jb, .inr (0, [v0, v1, v2, v3, v4, v5, v6, .int 0, v8, v9, v10, v11, v12]))] H := hP
  have hD : va_D A [(h0, .inr (8, [.ref jb, w1, w2, w3, w4, w5, w6, w7, w8, w9, w10, w11, w12])), (jb, .inr (0, [v0, v1, v2, v3, v4, v5, v6, .int 0, v8, v9, v10, v11, v12]))] := hD
  have hK : va_K (dC, dI) vwCl [] s := hK
  subst hw
  refine lv_if_eq (tgt := 18) hx hb dX9_owe_6 (by decide) (fun c2 => ?_) (fun c2 => absurd (by decide) c2)
  refine lv_bipush (v := -2) hx hb dX9_owe_18 (by decide) ?_
  have hP9 := hP.sub (ws' := []) [] rfl
  have hD9 := hD.sub (ws' := []) [] (by decide) rfl
  have hK9 := hK.sub (tys' := []) [] rfl
  exact W.iret (v := (-2)) hx hb hr (fun t ht hW => ⟨⟨(-2), (), rfl, (by first | rfl | (simp only [if_pos, if_neg, *]; done)), by rw [ht]; exact hP9, va_K.moved hW.alike hK9, hD9⟩, hS.F ht⟩) hS.2.2 dX9_owe_20

set_option maxRecDepth 100000 in
set_option maxHeartbeats 4000000 in
/-- owed on a fresh object -/
theorem c_X9_owed (l : Launch) (dC : Nat → ClassId) (dI : Nat → Nat → Nat) (h0 : Nat) (p0 : Int32) (p1 : Int32) (jb : Nat) (w1 : Value) (w2 : Value) (w3 : Value) (w4 : Value) (w5 : Value) (w6 : Value) (w7 : Value) (w8 : Value) (w9 : Value) (w10 : Value) (w11 : Value) (w12 : Value) (v0 : Value) (v1 : Value) (v2 : Value) (v3 : Value) (v4 : Value) (v5 : Value) (v6 : Value) (v8 : Value) (v9 : Value) (v10 : Value) (v11 : Value) (v12 : Value) (sz : Nat) : Met l yX9_owed wsX9_owed ({ frames := 2, cells := 0, slots := 0, locals := 43 }) (va_Pc [.ref h0, .int p0, .int p1] (fun U => U.heap.size = sz ∧ va_P (dC, dI) vwCl [(h0, .inr (8, [.ref jb, w1, w2, w3, w4, w5, w6, w7, w8, w9, w10, w11, w12])), (jb, .inr (0, [v0, v1, v2, v3, v4, v5, v6, .int 0, v8, v9, v10, v11, v12]))] U.heap ∧ va_K (dC, dI) vwCl [] U ∧ va_D (fun _ => True) [(h0, .inr (8, [.ref jb, w1, w2, w3, w4, w5, w6, w7, w8, w9, w10, w11, w12])), (jb, .inr (0, [v0, v1, v2, v3, v4, v5, v6, .int 0, v8, v9, v10, v11, v12]))])) (va_Qi (fun (r : Int32) (_ : Unit) => r = (-2)) (fun (_ : Unit) (t : State) => va_P (dC, dI) vwCl [] t.heap ∧ va_K (dC, dI) vwCl [] t ∧ va_D (va_A [(h0, .inr (8, [.ref jb, w1, w2, w3, w4, w5, w6, w7, w8, w9, w10, w11, w12])), (jb, .inr (0, [v0, v1, v2, v3, v4, v5, v6, .int 0, v8, v9, v10, v11, v12]))] sz) []) (va_A [(h0, .inr (8, [.ref jb, w1, w2, w3, w4, w5, w6, w7, w8, w9, w10, w11, w12])), (jb, .inr (0, [v0, v1, v2, v3, v4, v5, v6, .int 0, v8, v9, v10, v11, v12]))] sz)) 0 0 (va_A [(h0, .inr (8, [.ref jb, w1, w2, w3, w4, w5, w6, w7, w8, w9, w10, w11, w12])), (jb, .inr (0, [v0, v1, v2, v3, v4, v5, v6, .int 0, v8, v9, v10, v11, v12]))] sz) := by
  refine Met.ofW (cc := cX9_owed) (maxL := 3) (ret := (some .int)) (by decide) rfl ?_
  intro p e s m args below meth c s₁ B hml hv
  obtain ⟨rfl, hsz, hP, hK, hD0⟩ := hv
  have hx := B.exec
  have hb := B.bytes
  have hr := B.returns
  have hts := atoms_spec (ws := wsX9_owed) B.pre
  have hown : s.vm.findClass RX9 = some m.cls := findClass_of_methodNamed B.named
  have hlocks := B.notSynchronized
  subst hsz
  have hD := hD0.self (sz := s.heap.size)
  generalize hAe : va_A [(h0, .inr (8, [.ref jb, w1, w2, w3, w4, w5, w6, w7, w8, w9, w10, w11, w12])), (jb, .inr (0, [v0, v1, v2, v3, v4, v5, v6, .int 0, v8, v9, v10, v11, v12]))] s.heap.size = A at hD ⊢
  have hA : ∀ q : Nat, s.heap.size ≤ q → A q := fun q h => by rw [← hAe]; exact Or.inr h
  have hS : va_S A s.heap s.heap [] := va_S.rf
  have hP : va_P (dC, dI) vwCl [(h0, .inr (8, [.ref jb, w1, w2, w3, w4, w5, w6, w7, w8, w9, w10, w11, w12])), (jb, .inr (0, [v0, v1, v2, v3, v4, v5, v6, .int 0, v8, v9, v10, v11, v12]))] s.heap := hP
  have hl := lv_entry ([.ref h0, .int p0, .int p1]) (n := 3) (Nat.le_of_ble_eq_true rfl)
  rw [lg_entry_eq]
  generalize (lg_sl ([.ref h0, .int p0, .int p1]) ++ List.replicate (3 - (lg_sl ([.ref h0, .int p0, .int p1])).length) Slot.unset).toArray = ls at hl ⊢
  have hl : lv_has ls 3 [(0, .ref h0), (1, .int p0), (2, .int p1)] := hl
  have k_m2 : ((-2) : Int32).toInt = (-2) := by decide
  refine lv_aload_n hx hb dX9_owed_0 rfl (lv_at hl 0 rfl) ?_
  refine lv_iload_n hx hb dX9_owed_1 rfl (lv_at hl 1 rfl) ?_
  refine lv_iload_n hx hb dX9_owed_2 rfl (lv_at hl 2 rfl) ?_
  have hPc := hP.sub (ws' := [(h0, .inr (8, [.ref jb, w1, w2, w3, w4, w5, w6, w7, w8, w9, w10, w11, w12])), (jb, .inr (0, [v0, v1, v2, v3, v4, v5, v6, .int 0, v8, v9, v10, v11, v12]))]) [0, 1] rfl
  have hDc := hD.sub (ws' := [(h0, .inr (8, [.ref jb, w1, w2, w3, w4, w5, w6, w7, w8, w9, w10, w11, w12])), (jb, .inr (0, [v0, v1, v2, v3, v4, v5, v6, .int 0, v8, v9, v10, v11, v12]))]) [0, 1] (by decide) rfl
  have hKc := hK.sub (tys' := []) [] rfl
  have hFc := va_free (wc := [(h0, .inr (8, [.ref jb, w1, w2, w3, w4, w5, w6, w7, w8, w9, w10, w11, w12])), (jb, .inr (0, [v0, v1, v2, v3, v4, v5, v6, .int 0, v8, v9, v10, v11, v12]))]) hD hS hA [0, 1] rfl
  refine va_calli (va_runV (As := [.int p0, .int p1]) (rest := []) ⟨hx, hb, hml, hown, hts⟩ (c_X9_isPair l dC dI h0 p0 p1 jb (w1) (w2) (w3) (w4) (w5) (w6) (w7) (w8) (w9) (w10) (w11) (w12) (v0) (v1) (v2) (v3) (v4) (v5) (v6) (v8) (v9) (v10) (v11) (v12) s.heap.size) (cwV 2 hts gX9_owed_X9_isPair rfl rfl rfl (by decide +kernel) ⟨Nat.le_of_ble_eq_true rfl, Nat.le_of_ble_eq_true rfl⟩) ⟨fun a U g mk q => by obtain ⟨q0, q1, qP, qK, qD⟩ := q; exact ⟨q0, q1, qP, va_K.moved (u := U) (U := U.calling g mk a) (Vm.Alike.refl U.vm) qK, qD⟩, va_recv hKc hPc (ci := 8) (q0 := 0) rfl rfl, fun U hU hW => ⟨rfl, by rw [hU], by rw [hU]; exact hPc, va_K.moved hW.alike hKc, hDc.weaken (fun _ _ _ _ => trivial)⟩⟩ rfl rfl hl.1 rfl (lv_room (Nat.le_of_ble_eq_true rfl)) dX9_owed_3 ⟨Nat.le_of_ble_eq_true rfl, Nat.le_of_ble_eq_true rfl⟩) hS (fun q _ h => hFc q h) hFc (fun r1 u t H1 locs ht hvm hw hB hz1 hk1 hS => ?_)
  obtain ⟨hP1, hK1, hD1⟩ := hB
  rw [ht] at hP1
  have hK1 := va_K.moved hvm.symm hK1
  try dsimp only at hw
  obtain ⟨hP, hD⟩ := va_join (wr := []) (w1 := [(h0, .inr (8, [.ref jb, w1, w2, w3, w4, w5, w6, w7, w8, w9, w10, w11, w12])), (jb, .inr (0, [v0, v1, v2, v3, v4, v5, v6, .int 0, v8, v9, v10, v11, v12]))]) hP hD [0, 1] [] rfl rfl (by decide) (by decide) hk1 hFc hP1 hD1
  have hK := (hK.sub (tys' := []) [] rfl).app hK1
  generalize H1 = H at hP hS ⊢
  have hP : va_P (dC, dI) vwCl [(h0, .inr (8, [.ref jb, w1, w2, w3, w4, w5, w6, w7, w8, w9, w10, w11, w12])), (jb, .inr (0, [v0, v1, v2, v3, v4, v5, v6, .int 0, v8, v9, v10, v11, v12]))] H := hP
  have hD : va_D A [(h0, .inr (8, [.ref jb, w1, w2, w3, w4, w5, w6, w7, w8, w9, w10, w11, w12])), (jb, .inr (0, [v0, v1, v2, v3, v4, v5, v6, .int 0, v8, v9, v10, v11, v12]))] := hD
  have hK : va_K (dC, dI) vwCl [] s := hK
  subst hw
  refine lv_if_ne (tgt := 12) hx hb dX9_owed_6 (by decide) (fun c2 => absurd (by decide) c2) (fun c2 => ?_)
  refine lv_bipush (v := -2) hx hb dX9_owed_9 (by decide) ?_
  have hP9 := hP.sub (ws' := []) [] rfl
  have hD9 := hD.sub (ws' := []) [] (by decide) rfl
  have hK9 := hK.sub (tys' := []) [] rfl
  exact W.iret (v := (-2)) hx hb hr (fun t ht hW => ⟨⟨(-2), (), rfl, (by first | rfl | (simp only [if_pos, if_neg, *]; done)), by rw [ht]; exact hP9, va_K.moved hW.alike hK9, hD9⟩, hS.F ht⟩) hS.2.2 dX9_owed_11

theorem in_X9_net_X9 : ∀ w ∈ wsX90, w ∈ wsX9_net := fun _ h => List.mem_cons_of_mem _ (List.mem_append_left _ (List.mem_append_left _ (List.mem_append_left _ (List.mem_append_right _ h))))
theorem in_X9_net_X0 : ∀ w ∈ wsX00, w ∈ wsX9_net := fun _ h => List.mem_cons_of_mem _ (List.mem_append_left _ (List.mem_append_left _ (List.mem_append_right _ h)))
set_option maxRecDepth 100000 in
set_option maxHeartbeats 4000000 in
/-- net on a fresh object -/
theorem c_X9_net (l : Launch) (dC : Nat → ClassId) (dI : Nat → Nat → Nat) (h0 : Nat) (jb : Nat) (w1 : Value) (w2 : Value) (w3 : Value) (jg : Nat) (w5 : Value) (w6 : Value) (w7 : Value) (w8 : Value) (w9 : Value) (w10 : Value) (w11 : Value) (w12 : Value) (v0 : Value) (v1 : Value) (v2 : Value) (v3 : Value) (v4 : Value) (v5 : Value) (v6 : Value) (v8 : Value) (v9 : Value) (v10 : Value) (v11 : Value) (v12 : Value) (u0 : Value) (u1 : Value) (u2 : Value) (u3 : Value) (sz : Nat) : Met l yX9_net wsX9_net ({ frames := 2, cells := 0, slots := 0, locals := 45 }) (va_Pc [.ref h0] (fun U => U.heap.size = sz ∧ va_P (dC, dI) vwCl [(h0, .inr (8, [.ref jb, w1, w2, w3, .ref jg, w5, w6, w7, w8, w9, w10, w11, w12])), (jb, .inr (0, [v0, v1, v2, v3, v4, v5, v6, .int 0, v8, v9, v10, v11, v12])), (jg, .inr (4, [u0, u1, u2, u3]))] U.heap ∧ va_K (dC, dI) vwCl [] U ∧ va_D (fun _ => True) [(h0, .inr (8, [.ref jb, w1, w2, w3, .ref jg, w5, w6, w7, w8, w9, w10, w11, w12])), (jb, .inr (0, [v0, v1, v2, v3, v4, v5, v6, .int 0, v8, v9, v10, v11, v12])), (jg, .inr (4, [u0, u1, u2, u3]))])) (va_Qi (fun (r : Int32) (_ : Unit) => r = 0) (fun (_ : Unit) (t : State) => va_P (dC, dI) vwCl [] t.heap ∧ va_K (dC, dI) vwCl [] t ∧ va_D (va_A [(h0, .inr (8, [.ref jb, w1, w2, w3, .ref jg, w5, w6, w7, w8, w9, w10, w11, w12])), (jb, .inr (0, [v0, v1, v2, v3, v4, v5, v6, .int 0, v8, v9, v10, v11, v12])), (jg, .inr (4, [u0, u1, u2, u3]))] sz) []) (va_A [(h0, .inr (8, [.ref jb, w1, w2, w3, .ref jg, w5, w6, w7, w8, w9, w10, w11, w12])), (jb, .inr (0, [v0, v1, v2, v3, v4, v5, v6, .int 0, v8, v9, v10, v11, v12])), (jg, .inr (4, [u0, u1, u2, u3]))] sz)) 0 0 (va_A [(h0, .inr (8, [.ref jb, w1, w2, w3, .ref jg, w5, w6, w7, w8, w9, w10, w11, w12])), (jb, .inr (0, [v0, v1, v2, v3, v4, v5, v6, .int 0, v8, v9, v10, v11, v12])), (jg, .inr (4, [u0, u1, u2, u3]))] sz) := by
  refine Met.ofW (cc := cX9_net) (maxL := 2) (ret := (some .int)) (by decide) rfl ?_
  intro p e s m args below meth c s₁ B hml hv
  obtain ⟨rfl, hsz, hP, hK, hD0⟩ := hv
  have hx := B.exec
  have hb := B.bytes
  have hr := B.returns
  have hts := atoms_spec (ws := wsX9_net) B.pre
  have hown : s.vm.findClass RX9 = some m.cls := findClass_of_methodNamed B.named
  have hlocks := B.notSynchronized
  subst hsz
  have hD := hD0.self (sz := s.heap.size)
  generalize hAe : va_A [(h0, .inr (8, [.ref jb, w1, w2, w3, .ref jg, w5, w6, w7, w8, w9, w10, w11, w12])), (jb, .inr (0, [v0, v1, v2, v3, v4, v5, v6, .int 0, v8, v9, v10, v11, v12])), (jg, .inr (4, [u0, u1, u2, u3]))] s.heap.size = A at hD ⊢
  have hA : ∀ q : Nat, s.heap.size ≤ q → A q := fun q h => by rw [← hAe]; exact Or.inr h
  have hS : va_S A s.heap s.heap [] := va_S.rf
  have hP : va_P (dC, dI) vwCl [(h0, .inr (8, [.ref jb, w1, w2, w3, .ref jg, w5, w6, w7, w8, w9, w10, w11, w12])), (jb, .inr (0, [v0, v1, v2, v3, v4, v5, v6, .int 0, v8, v9, v10, v11, v12])), (jg, .inr (4, [u0, u1, u2, u3]))] s.heap := hP
  have hl := lv_entry ([.ref h0]) (n := 2) (Nat.le_of_ble_eq_true rfl)
  rw [lg_entry_eq]
  generalize (lg_sl ([.ref h0]) ++ List.replicate (2 - (lg_sl ([.ref h0])).length) Slot.unset).toArray = ls at hl ⊢
  have hl : lv_has ls 2 [(0, .ref h0)] := hl
  have k_0 : (0 : Int32).toInt = 0 := by decide
  refine lv_aload_n hx hb dX9_net_0 rfl (lv_at hl 0 rfl) ?_
  refine va_get (D := (dC, dI)) (ci := 8) (v := .ref jb) (C := RX9) (T := TX9) (N := 13) hx hb hts in_X9_net_X9 hown hK hP 0 rfl rfl 0 (by decide) (hts (.fieldLink RX9 12 "ClearingGates" "books" "LClearingGates$Books;") (List.mem_of_getElem? (i := 1) (by decide +kernel))) (fun _ h9 => h9) rfl dX9_net_1 ?_
  have hPc := hP.sub (ws' := [(jb, .inr (0, [v0, v1, v2, v3, v4, v5, v6, .int 0, v8, v9, v10, v11, v12]))]) [1] rfl
  have hDc := hD.sub (ws' := [(jb, .inr (0, [v0, v1, v2, v3, v4, v5, v6, .int 0, v8, v9, v10, v11, v12]))]) [1] (by decide) rfl
  have hKc := hK.sub (tys' := []) [] rfl
  have hFc := va_free (wc := [(jb, .inr (0, [v0, v1, v2, v3, v4, v5, v6, .int 0, v8, v9, v10, v11, v12]))]) hD hS hA [1] rfl
  refine va_calli (va_runV (As := []) (rest := []) ⟨hx, hb, hml, hown, hts⟩ (c_X0_hasAllGates l dC dI jb (v0) (v1) (v2) (v3) (v4) (v5) (v6) (v8) (v9) (v10) (v11) (v12) s.heap.size) (cwV 0 hts gX9_net_X0_hasAllGates rfl rfl rfl (by decide +kernel) ⟨Nat.le_of_ble_eq_true rfl, Nat.le_of_ble_eq_true rfl⟩) ⟨fun a U g mk q => by obtain ⟨q0, q1, qP, qK, qD⟩ := q; exact ⟨q0, q1, qP, va_K.moved (u := U) (U := U.calling g mk a) (Vm.Alike.refl U.vm) qK, qD⟩, va_recv hKc hPc (ci := 0) (q0 := 0) rfl rfl, fun U hU hW => ⟨rfl, by rw [hU], by rw [hU]; exact hPc, va_K.moved hW.alike hKc, hDc.weaken (fun _ _ _ _ => trivial)⟩⟩ rfl rfl hl.1 rfl (lv_room (Nat.le_of_ble_eq_true rfl)) dX9_net_4 ⟨Nat.le_of_ble_eq_true rfl, Nat.le_of_ble_eq_true rfl⟩) hS (fun q _ h => hFc q h) hFc (fun r1 u t H1 locs ht hvm hw hB hz1 hk1 hS => ?_)
  obtain ⟨hP1, hK1, hD1⟩ := hB
  rw [ht] at hP1
  have hK1 := va_K.moved hvm.symm hK1
  try dsimp only at hw
  obtain ⟨hP, hD⟩ := va_join (wr := [(h0, .inr (8, [.ref jb, w1, w2, w3, .ref jg, w5, w6, w7, w8, w9, w10, w11, w12])), (jg, .inr (4, [u0, u1, u2, u3]))]) (w1 := [(jb, .inr (0, [v0, v1, v2, v3, v4, v5, v6, .int 0, v8, v9, v10, v11, v12]))]) hP hD [1] [0, 2] rfl rfl (by decide) (by decide) hk1 hFc hP1 hD1
  have hK := (hK.sub (tys' := []) [] rfl).app hK1
  generalize H1 = H at hP hS ⊢
  have hP : va_P (dC, dI) vwCl [(h0, .inr (8, [.ref jb, w1, w2, w3, .ref jg, w5, w6, w7, w8, w9, w10, w11, w12])), (jg, .inr (4, [u0, u1, u2, u3])), (jb, .inr (0, [v0, v1, v2, v3, v4, v5, v6, .int 0, v8, v9, v10, v11, v12]))] H := hP
  have hD : va_D A [(h0, .inr (8, [.ref jb, w1, w2, w3, .ref jg, w5, w6, w7, w8, w9, w10, w11, w12])), (jg, .inr (4, [u0, u1, u2, u3])), (jb, .inr (0, [v0, v1, v2, v3, v4, v5, v6, .int 0, v8, v9, v10, v11, v12]))] := hD
  have hK : va_K (dC, dI) vwCl [] s := hK
  subst hw
  refine lv_if_ne (tgt := 13) hx hb dX9_net_7 (by decide) (fun c2 => ?_) (fun c2 => absurd c2 (by decide))
  refine lv_aload_n hx hb dX9_net_13 rfl (lv_at hl 0 rfl) ?_
  refine va_get (D := (dC, dI)) (ci := 8) (v := .ref jb) (C := RX9) (T := TX9) (N := 13) hx hb hts in_X9_net_X9 hown hK hP 0 rfl rfl 0 (by decide) (hts (.fieldLink RX9 12 "ClearingGates" "books" "LClearingGates$Books;") (List.mem_of_getElem? (i := 1) (by decide +kernel))) (fun _ h9 => h9) rfl dX9_net_14 ?_
  have hPc := hP.sub (ws' := [(jb, .inr (0, [v0, v1, v2, v3, v4, v5, v6, .int 0, v8, v9, v10, v11, v12]))]) [2] rfl
  have hDc := hD.sub (ws' := [(jb, .inr (0, [v0, v1, v2, v3, v4, v5, v6, .int 0, v8, v9, v10, v11, v12]))]) [2] (by decide) rfl
  have hKc := hK.sub (tys' := []) [] rfl
  have hFc := va_free (wc := [(jb, .inr (0, [v0, v1, v2, v3, v4, v5, v6, .int 0, v8, v9, v10, v11, v12]))]) hD hS hA [2] rfl
  refine va_callv (va_runV (As := []) (rest := []) ⟨hx, hb, hml, hown, hts⟩ (c_X0_enterAll l dC dI jb (v0) (v1) (v2) (v3) (v4) (v5) (v6) (v8) (v9) (v10) (v11) (v12) H.size) (cwV 0 hts gX9_net_X0_enterAll rfl rfl rfl (by decide +kernel) ⟨Nat.le_of_ble_eq_true rfl, Nat.le_of_ble_eq_true rfl⟩) ⟨fun a U g mk q => by obtain ⟨q0, q1, qP, qK, qD⟩ := q; exact ⟨q0, q1, qP, va_K.moved (u := U) (U := U.calling g mk a) (Vm.Alike.refl U.vm) qK, qD⟩, va_recv hKc hPc (ci := 0) (q0 := 0) rfl rfl, fun U hU hW => ⟨rfl, by rw [hU], by rw [hU]; exact hPc, va_K.moved hW.alike hKc, hDc.weaken (fun _ _ _ _ => trivial)⟩⟩ rfl rfl hl.1 rfl (lv_room (Nat.le_of_ble_eq_true rfl)) dX9_net_17 ⟨Nat.le_of_ble_eq_true rfl, Nat.le_of_ble_eq_true rfl⟩) hS (fun q _ h => hFc q h) hFc (fun u t H1 locs ht hvm hw hB hz1 hk1 hS => ?_)
  obtain ⟨hP1, hK1, hD1⟩ := hB
  rw [ht] at hP1
  have hK1 := va_K.moved hvm.symm hK1
  try dsimp only at hw
  obtain ⟨hP, hD⟩ := va_join (wr := [(h0, .inr (8, [.ref jb, w1, w2, w3, .ref jg, w5, w6, w7, w8, w9, w10, w11, w12])), (jg, .inr (4, [u0, u1, u2, u3]))]) (w1 := [(jb, .inr (0, [v0, v1, v2, v3, v4, v5, v6, .int 0, v8, v9, v10, v11, v12]))]) hP hD [2] [0, 1] rfl rfl (by decide) (by decide) hk1 hFc hP1 hD1
  have hK := (hK.sub (tys' := []) [] rfl).app hK1
  generalize H1 = H at hP hS ⊢
  have hP : va_P (dC, dI) vwCl [(h0, .inr (8, [.ref jb, w1, w2, w3, .ref jg, w5, w6, w7, w8, w9, w10, w11, w12])), (jg, .inr (4, [u0, u1, u2, u3])), (jb, .inr (0, [v0, v1, v2, v3, v4, v5, v6, .int 0, v8, v9, v10, v11, v12]))] H := hP
  have hD : va_D A [(h0, .inr (8, [.ref jb, w1, w2, w3, .ref jg, w5, w6, w7, w8, w9, w10, w11, w12])), (jg, .inr (4, [u0, u1, u2, u3])), (jb, .inr (0, [v0, v1, v2, v3, v4, v5, v6, .int 0, v8, v9, v10, v11, v12]))] := hD
  have hK : va_K (dC, dI) vwCl [] s := hK
  refine lv_aload_n hx hb dX9_net_20 rfl (lv_at hl 0 rfl) ?_
  refine va_get (D := (dC, dI)) (ci := 8) (v := .ref jg) (C := RX9) (T := TX9) (N := 13) hx hb hts in_X9_net_X9 hown hK hP 0 rfl rfl 4 (by decide) (hts (.fieldLink RX9 36 "ClearingGates" "rings" "LClearingGates$Rings;") (List.mem_of_getElem? (i := 2) (by decide +kernel))) (fun _ h9 => h9) rfl dX9_net_21 ?_
  refine lv_aload_n hx hb dX9_net_24 rfl (lv_at hl 0 rfl) ?_
  refine va_get (D := (dC, dI)) (ci := 8) (v := .ref jb) (C := RX9) (T := TX9) (N := 13) hx hb hts in_X9_net_X9 hown hK hP 0 rfl rfl 0 (by decide) (hts (.fieldLink RX9 12 "ClearingGates" "books" "LClearingGates$Books;") (List.mem_of_getElem? (i := 1) (by decide +kernel))) (fun _ h9 => h9) rfl dX9_net_25 ?_
  refine va_get (D := (dC, dI)) (ci := 0) (v := .int 0) (C := RX0) (T := TX0) (N := 13) hx hb hts in_X9_net_X0 hown hK hP 2 rfl rfl 7 (by decide) (hts (.fieldLink RX9 95 "ClearingGates$Books" "accounts" "I") (List.mem_of_getElem? (i := 3) (by decide +kernel))) (fun _ h9 => h9) rfl dX9_net_28 ?_
  have hPc := hP.sub (ws' := [(jg, .inr (4, [u0, u1, u2, u3]))]) [1] rfl
  have hDc := hD.sub (ws' := [(jg, .inr (4, [u0, u1, u2, u3]))]) [1] (by decide) rfl
  have hKc := hK.sub (tys' := []) [] rfl
  have hFc := va_free (wc := [(jg, .inr (4, [u0, u1, u2, u3]))]) hD hS hA [1] rfl
  refine va_calli (va_runV (As := [.int 0]) (rest := []) ⟨hx, hb, hml, hown, hts⟩ (c_X5_cutAll l dC dI jg (u0) (u1) (u2) (u3) H.size) (cwV 1 hts gX9_net_X5_cutAll rfl rfl rfl (by decide +kernel) ⟨Nat.le_of_ble_eq_true rfl, Nat.le_of_ble_eq_true rfl⟩) ⟨fun a U g mk q => by obtain ⟨q0, q1, qP, qK, qD⟩ := q; exact ⟨q0, q1, qP, va_K.moved (u := U) (U := U.calling g mk a) (Vm.Alike.refl U.vm) qK, qD⟩, va_recv hKc hPc (ci := 4) (q0 := 0) rfl rfl, fun U hU hW => ⟨rfl, by rw [hU], by rw [hU]; exact hPc, va_K.moved hW.alike hKc, hDc.weaken (fun _ _ _ _ => trivial)⟩⟩ rfl rfl hl.1 rfl (lv_room (Nat.le_of_ble_eq_true rfl)) dX9_net_31 ⟨Nat.le_of_ble_eq_true rfl, Nat.le_of_ble_eq_true rfl⟩) hS (fun q _ h => hFc q h) hFc (fun r4 u t H1 locs ht hvm hw hB hz1 hk1 hS => ?_)
  obtain ⟨hP1, hK1, hD1⟩ := hB
  rw [ht] at hP1
  have hK1 := va_K.moved hvm.symm hK1
  try dsimp only at hw
  obtain ⟨hP, hD⟩ := va_join (wr := [(h0, .inr (8, [.ref jb, w1, w2, w3, .ref jg, w5, w6, w7, w8, w9, w10, w11, w12])), (jb, .inr (0, [v0, v1, v2, v3, v4, v5, v6, .int 0, v8, v9, v10, v11, v12]))]) (w1 := [(jg, .inr (4, [u0, u1, u2, u3]))]) hP hD [1] [0, 2] rfl rfl (by decide) (by decide) hk1 hFc hP1 hD1
  have hK := (hK.sub (tys' := []) [] rfl).app hK1
  generalize H1 = H at hP hS ⊢
  have hP : va_P (dC, dI) vwCl [(h0, .inr (8, [.ref jb, w1, w2, w3, .ref jg, w5, w6, w7, w8, w9, w10, w11, w12])), (jb, .inr (0, [v0, v1, v2, v3, v4, v5, v6, .int 0, v8, v9, v10, v11, v12])), (jg, .inr (4, [u0, u1, u2, u3]))] H := hP
  have hD : va_D A [(h0, .inr (8, [.ref jb, w1, w2, w3, .ref jg, w5, w6, w7, w8, w9, w10, w11, w12])), (jb, .inr (0, [v0, v1, v2, v3, v4, v5, v6, .int 0, v8, v9, v10, v11, v12])), (jg, .inr (4, [u0, u1, u2, u3]))] := hD
  have hK : va_K (dC, dI) vwCl [] s := hK
  subst hw
  refine lv_istore_n (lv' := [(1, .int 0), (0, .ref h0)]) hx hb dX9_net_34 rfl hl (by decide) rfl (fun ls hl => ?_)
  refine lv_aload_n hx hb dX9_net_35 rfl (lv_at hl 1 rfl) ?_
  refine va_get (D := (dC, dI)) (ci := 8) (v := .ref jb) (C := RX9) (T := TX9) (N := 13) hx hb hts in_X9_net_X9 hown hK hP 0 rfl rfl 0 (by decide) (hts (.fieldLink RX9 12 "ClearingGates" "books" "LClearingGates$Books;") (List.mem_of_getElem? (i := 1) (by decide +kernel))) (fun _ h9 => h9) rfl dX9_net_36 ?_
  have hPc := hP.sub (ws' := [(jb, .inr (0, [v0, v1, v2, v3, v4, v5, v6, .int 0, v8, v9, v10, v11, v12]))]) [1] rfl
  have hDc := hD.sub (ws' := [(jb, .inr (0, [v0, v1, v2, v3, v4, v5, v6, .int 0, v8, v9, v10, v11, v12]))]) [1] (by decide) rfl
  have hKc := hK.sub (tys' := []) [] rfl
  have hFc := va_free (wc := [(jb, .inr (0, [v0, v1, v2, v3, v4, v5, v6, .int 0, v8, v9, v10, v11, v12]))]) hD hS hA [1] rfl
  refine va_callv (va_runV (As := []) (rest := []) ⟨hx, hb, hml, hown, hts⟩ (c_X0_leaveAll l dC dI jb (v0) (v1) (v2) (v3) (v4) (v5) (v6) (v8) (v9) (v10) (v11) (v12) H.size) (cwV 0 hts gX9_net_X0_leaveAll rfl rfl rfl (by decide +kernel) ⟨Nat.le_of_ble_eq_true rfl, Nat.le_of_ble_eq_true rfl⟩) ⟨fun a U g mk q => by obtain ⟨q0, q1, qP, qK, qD⟩ := q; exact ⟨q0, q1, qP, va_K.moved (u := U) (U := U.calling g mk a) (Vm.Alike.refl U.vm) qK, qD⟩, va_recv hKc hPc (ci := 0) (q0 := 0) rfl rfl, fun U hU hW => ⟨rfl, by rw [hU], by rw [hU]; exact hPc, va_K.moved hW.alike hKc, hDc.weaken (fun _ _ _ _ => trivial)⟩⟩ rfl rfl hl.1 rfl (lv_room (Nat.le_of_ble_eq_true rfl)) dX9_net_39 ⟨Nat.le_of_ble_eq_true rfl, Nat.le_of_ble_eq_true rfl⟩) hS (fun q _ h => hFc q h) hFc (fun u t H1 locs ht hvm hw hB hz1 hk1 hS => ?_)
  obtain ⟨hP1, hK1, hD1⟩ := hB
  rw [ht] at hP1
  have hK1 := va_K.moved hvm.symm hK1
  try dsimp only at hw
  obtain ⟨hP, hD⟩ := va_join (wr := [(h0, .inr (8, [.ref jb, w1, w2, w3, .ref jg, w5, w6, w7, w8, w9, w10, w11, w12])), (jg, .inr (4, [u0, u1, u2, u3]))]) (w1 := [(jb, .inr (0, [v0, v1, v2, v3, v4, v5, v6, .int 0, v8, v9, v10, v11, v12]))]) hP hD [1] [0, 2] rfl rfl (by decide) (by decide) hk1 hFc hP1 hD1
  have hK := (hK.sub (tys' := []) [] rfl).app hK1
  generalize H1 = H at hP hS ⊢
  have hP : va_P (dC, dI) vwCl [(h0, .inr (8, [.ref jb, w1, w2, w3, .ref jg, w5, w6, w7, w8, w9, w10, w11, w12])), (jg, .inr (4, [u0, u1, u2, u3])), (jb, .inr (0, [v0, v1, v2, v3, v4, v5, v6, .int 0, v8, v9, v10, v11, v12]))] H := hP
  have hD : va_D A [(h0, .inr (8, [.ref jb, w1, w2, w3, .ref jg, w5, w6, w7, w8, w9, w10, w11, w12])), (jg, .inr (4, [u0, u1, u2, u3])), (jb, .inr (0, [v0, v1, v2, v3, v4, v5, v6, .int 0, v8, v9, v10, v11, v12]))] := hD
  have hK : va_K (dC, dI) vwCl [] s := hK
  refine lv_iload_n hx hb dX9_net_42 rfl (lv_at hl 0 rfl) ?_
  have hP9 := hP.sub (ws' := []) [] rfl
  have hD9 := hD.sub (ws' := []) [] (by decide) rfl
  have hK9 := hK.sub (tys' := []) [] rfl
  exact W.iret (v := 0) hx hb hr (fun t ht hW => ⟨⟨0, (), rfl, (by first | rfl | (simp only [if_pos, if_neg, *]; done)), by rw [ht]; exact hP9, va_K.moved hW.alike hK9, hD9⟩, hS.F ht⟩) hS.2.2 dX9_net_43

set_option maxRecDepth 100000 in
set_option maxHeartbeats 4000000 in
/-- tells on a fresh object -/
theorem c_X9_tells (l : Launch) (dC : Nat → ClassId) (dI : Nat → Nat → Nat) (h0 : Nat) (p0 : Int32) (p1 : Int32) (p2 : Int32) (p3 : Int32) (w0 : Value) (w1 : Value) (w2 : Value) (w3 : Value) (w4 : Value) (w5 : Value) (w7 : Value) (w8 : Value) (w9 : Value) (w10 : Value) (w11 : Value) (w12 : Value) (sz : Nat) : Met l yX9_tells wsX9_tells ({ frames := 1, cells := 0, slots := 0, locals := 21 }) (va_Pc [.ref h0, .int p0, .int p1, .int p2, .int p3] (fun U => U.heap.size = sz ∧ va_P (dC, dI) vwCl [(h0, .inr (8, [w0, w1, w2, w3, w4, w5, .int 0, w7, w8, w9, w10, w11, w12]))] U.heap ∧ va_K (dC, dI) vwCl [] U ∧ va_D (fun _ => True) [(h0, .inr (8, [w0, w1, w2, w3, w4, w5, .int 0, w7, w8, w9, w10, w11, w12]))])) (va_Qi (fun (r : Int32) (_ : Unit) => r = (-2)) (fun (_ : Unit) (t : State) => va_P (dC, dI) vwCl [] t.heap ∧ va_K (dC, dI) vwCl [] t ∧ va_D (va_A [(h0, .inr (8, [w0, w1, w2, w3, w4, w5, .int 0, w7, w8, w9, w10, w11, w12]))] sz) []) (va_A [(h0, .inr (8, [w0, w1, w2, w3, w4, w5, .int 0, w7, w8, w9, w10, w11, w12]))] sz)) 0 0 (va_A [(h0, .inr (8, [w0, w1, w2, w3, w4, w5, .int 0, w7, w8, w9, w10, w11, w12]))] sz) := by
  refine Met.ofW (cc := cX9_tells) (maxL := 6) (ret := (some .int)) (by decide) rfl ?_
  intro p e s m args below meth c s₁ B hml hv
  obtain ⟨rfl, hsz, hP, hK, hD0⟩ := hv
  have hx := B.exec
  have hb := B.bytes
  have hr := B.returns
  have hts := atoms_spec (ws := wsX9_tells) B.pre
  have hown : s.vm.findClass RX9 = some m.cls := findClass_of_methodNamed B.named
  have hlocks := B.notSynchronized
  subst hsz
  have hD := hD0.self (sz := s.heap.size)
  generalize hAe : va_A [(h0, .inr (8, [w0, w1, w2, w3, w4, w5, .int 0, w7, w8, w9, w10, w11, w12]))] s.heap.size = A at hD ⊢
  have hA : ∀ q : Nat, s.heap.size ≤ q → A q := fun q h => by rw [← hAe]; exact Or.inr h
  have hS : va_S A s.heap s.heap [] := va_S.rf
  have hP : va_P (dC, dI) vwCl [(h0, .inr (8, [w0, w1, w2, w3, w4, w5, .int 0, w7, w8, w9, w10, w11, w12]))] s.heap := hP
  have hl := lv_entry ([.ref h0, .int p0, .int p1, .int p2, .int p3]) (n := 6) (Nat.le_of_ble_eq_true rfl)
  rw [lg_entry_eq]
  generalize (lg_sl ([.ref h0, .int p0, .int p1, .int p2, .int p3]) ++ List.replicate (6 - (lg_sl ([.ref h0, .int p0, .int p1, .int p2, .int p3])).length) Slot.unset).toArray = ls at hl ⊢
  have hl : lv_has ls 6 [(0, .ref h0), (1, .int p0), (2, .int p1), (3, .int p2), (4, .int p3)] := hl
  have k_m2 : ((-2) : Int32).toInt = (-2) := by decide
  refine lv_iload_n hx hb dX9_tells_0 rfl (lv_at hl 1 rfl) ?_
  have hPc := hP.sub (ws' := []) [] rfl
  have hDc := hD.sub (ws' := []) [] (by decide) rfl
  have hKc := hK.sub (tys' := []) [] rfl
  have hFc := va_free (wc := []) hD hS hA [] rfl
  refine va_calli (va_runS (As := [.int p0]) (rest := []) ⟨hx, hb, hml, hown, hts⟩ (c_X9_isSheet l dC dI p0 s.heap.size) (va_cwS 1 hts gX9_tells_X9_isSheet rfl rfl rfl (by decide +kernel) ⟨Nat.le_of_ble_eq_true rfl, Nat.le_of_ble_eq_true rfl⟩) ⟨fun a U g mk q => by obtain ⟨q0, q1, qP, qK, qD⟩ := q; exact ⟨q0, q1, qP, va_K.moved (u := U) (U := U.calling g mk a) (Vm.Alike.refl U.vm) qK, qD⟩, fun U hU hW => ⟨rfl, by rw [hU], by rw [hU]; exact hPc, va_K.moved hW.alike hKc, hDc.weaken (fun _ _ _ _ => trivial)⟩⟩ rfl rfl hl.1 rfl (lv_room (Nat.le_of_ble_eq_true rfl)) dX9_tells_1 ⟨Nat.le_of_ble_eq_true rfl, Nat.le_of_ble_eq_true rfl⟩) hS (fun q _ h => hFc q h) hFc (fun r1 u t H1 locs ht hvm hw hB hz1 hk1 hS => ?_)
  obtain ⟨hP1, hK1, hD1⟩ := hB
  rw [ht] at hP1
  have hK1 := va_K.moved hvm.symm hK1
  try dsimp only at hw
  obtain ⟨hP, hD⟩ := va_join (wr := [(h0, .inr (8, [w0, w1, w2, w3, w4, w5, .int 0, w7, w8, w9, w10, w11, w12]))]) (w1 := []) hP hD [] [0] rfl rfl (by decide) (by decide) hk1 hFc hP1 hD1
  have hK := (hK.sub (tys' := []) [] rfl).app hK1
  generalize H1 = H at hP hS ⊢
  have hP : va_P (dC, dI) vwCl [(h0, .inr (8, [w0, w1, w2, w3, w4, w5, .int 0, w7, w8, w9, w10, w11, w12]))] H := hP
  have hD : va_D A [(h0, .inr (8, [w0, w1, w2, w3, w4, w5, .int 0, w7, w8, w9, w10, w11, w12]))] := hD
  have hK : va_K (dC, dI) vwCl [] s := hK
  rcases hw with ⟨e_r1, f_r1⟩ | ⟨e_r1, f_r1⟩
  · subst e_r1
    refine lv_if_eq (tgt := 26) hx hb dX9_tells_4 (by decide) (fun c2 => absurd c2 (by decide)) (fun c2 => ?_)
    refine lv_aload_n hx hb dX9_tells_7 rfl (lv_at hl 0 rfl) ?_
    refine lv_iload_n hx hb dX9_tells_8 rfl (lv_at hl 2 rfl) ?_
    have hPc := hP.sub (ws' := [(h0, .inr (8, [w0, w1, w2, w3, w4, w5, .int 0, w7, w8, w9, w10, w11, w12]))]) [0] rfl
    have hDc := hD.sub (ws' := [(h0, .inr (8, [w0, w1, w2, w3, w4, w5, .int 0, w7, w8, w9, w10, w11, w12]))]) [0] (by decide) rfl
    have hKc := hK.sub (tys' := []) [] rfl
    have hFc := va_free (wc := [(h0, .inr (8, [w0, w1, w2, w3, w4, w5, .int 0, w7, w8, w9, w10, w11, w12]))]) hD hS hA [0] rfl
    refine va_calli (va_runV (As := [.int p1]) (rest := []) ⟨hx, hb, hml, hown, hts⟩ (c_X9_isProgram l dC dI h0 p1 (w0) (w1) (w2) (w3) (w4) (w5) (w7) (w8) (w9) (w10) (w11) (w12) H.size) (cwV 1 hts gX9_tells_X9_isProgram rfl rfl rfl (by decide +kernel) ⟨Nat.le_of_ble_eq_true rfl, Nat.le_of_ble_eq_true rfl⟩) ⟨fun a U g mk q => by obtain ⟨q0, q1, qP, qK, qD⟩ := q; exact ⟨q0, q1, qP, va_K.moved (u := U) (U := U.calling g mk a) (Vm.Alike.refl U.vm) qK, qD⟩, va_recv hKc hPc (ci := 8) (q0 := 0) rfl rfl, fun U hU hW => ⟨rfl, by rw [hU], by rw [hU]; exact hPc, va_K.moved hW.alike hKc, hDc.weaken (fun _ _ _ _ => trivial)⟩⟩ rfl rfl hl.1 rfl (lv_room (Nat.le_of_ble_eq_true rfl)) dX9_tells_9 ⟨Nat.le_of_ble_eq_true rfl, Nat.le_of_ble_eq_true rfl⟩) hS (fun q _ h => hFc q h) hFc (fun r3 u t H1 locs ht hvm hw hB hz1 hk1 hS => ?_)
    obtain ⟨hP1, hK1, hD1⟩ := hB
    rw [ht] at hP1
    have hK1 := va_K.moved hvm.symm hK1
    try dsimp only at hw
    obtain ⟨hP, hD⟩ := va_join (wr := []) (w1 := [(h0, .inr (8, [w0, w1, w2, w3, w4, w5, .int 0, w7, w8, w9, w10, w11, w12]))]) hP hD [0] [] rfl rfl (by decide) (by decide) hk1 hFc hP1 hD1
    have hK := (hK.sub (tys' := []) [] rfl).app hK1
    generalize H1 = H at hP hS ⊢
    have hP : va_P (dC, dI) vwCl [(h0, .inr (8, [w0, w1, w2, w3, w4, w5, .int 0, w7, w8, w9, w10, w11, w12]))] H := hP
    have hD : va_D A [(h0, .inr (8, [w0, w1, w2, w3, w4, w5, .int 0, w7, w8, w9, w10, w11, w12]))] := hD
    have hK : va_K (dC, dI) vwCl [] s := hK
    subst hw
    refine lv_if_eq (tgt := 26) hx hb dX9_tells_12 (by decide) (fun c4 => ?_) (fun c4 => absurd (by decide) c4)
    refine lv_bipush (v := -2) hx hb dX9_tells_26 (by decide) ?_
    have hP9 := hP.sub (ws' := []) [] rfl
    have hD9 := hD.sub (ws' := []) [] (by decide) rfl
    have hK9 := hK.sub (tys' := []) [] rfl
    exact W.iret (v := (-2)) hx hb hr (fun t ht hW => ⟨⟨(-2), (), rfl, (by first | rfl | (simp only [if_pos, if_neg, *]; done)), by rw [ht]; exact hP9, va_K.moved hW.alike hK9, hD9⟩, hS.F ht⟩) hS.2.2 dX9_tells_28
  · subst e_r1
    refine lv_if_eq (tgt := 26) hx hb dX9_tells_4 (by decide) (fun c5 => ?_) (fun c5 => absurd (by decide) c5)
    refine lv_bipush (v := -2) hx hb dX9_tells_26 (by decide) ?_
    have hP9 := hP.sub (ws' := []) [] rfl
    have hD9 := hD.sub (ws' := []) [] (by decide) rfl
    have hK9 := hK.sub (tys' := []) [] rfl
    exact W.iret (v := (-2)) hx hb hr (fun t ht hW => ⟨⟨(-2), (), rfl, (by first | rfl | (simp only [if_pos, if_neg, *]; done)), by rw [ht]; exact hP9, va_K.moved hW.alike hK9, hD9⟩, hS.F ht⟩) hS.2.2 dX9_tells_28

set_option maxRecDepth 100000 in
set_option maxHeartbeats 4000000 in
/-- film on a fresh object -/
theorem c_X9_film (l : Launch) (dC : Nat → ClassId) (dI : Nat → Nat → Nat) (h0 : Nat) (p0 : Int32) (p1 : Int32) (w0 : Value) (w1 : Value) (w2 : Value) (w3 : Value) (w4 : Value) (w5 : Value) (w7 : Value) (w8 : Value) (w9 : Value) (w10 : Value) (w11 : Value) (w12 : Value) (sz : Nat) : Met l yX9_film wsX9_film ({ frames := 1, cells := 0, slots := 0, locals := 21 }) (va_Pc [.ref h0, .int p0, .int p1] (fun U => U.heap.size = sz ∧ va_P (dC, dI) vwCl [(h0, .inr (8, [w0, w1, w2, w3, w4, w5, .int 0, w7, w8, w9, w10, w11, w12]))] U.heap ∧ va_K (dC, dI) vwCl [] U ∧ va_D (fun _ => True) [(h0, .inr (8, [w0, w1, w2, w3, w4, w5, .int 0, w7, w8, w9, w10, w11, w12]))])) (va_Qi (fun (r : Int32) (_ : Unit) => r = (-2)) (fun (_ : Unit) (t : State) => va_P (dC, dI) vwCl [] t.heap ∧ va_K (dC, dI) vwCl [] t ∧ va_D (va_A [(h0, .inr (8, [w0, w1, w2, w3, w4, w5, .int 0, w7, w8, w9, w10, w11, w12]))] sz) []) (va_A [(h0, .inr (8, [w0, w1, w2, w3, w4, w5, .int 0, w7, w8, w9, w10, w11, w12]))] sz)) 0 0 (va_A [(h0, .inr (8, [w0, w1, w2, w3, w4, w5, .int 0, w7, w8, w9, w10, w11, w12]))] sz) := by
  refine Met.ofW (cc := cX9_film) (maxL := 3) (ret := (some .int)) (by decide) rfl ?_
  intro p e s m args below meth c s₁ B hml hv
  obtain ⟨rfl, hsz, hP, hK, hD0⟩ := hv
  have hx := B.exec
  have hb := B.bytes
  have hr := B.returns
  have hts := atoms_spec (ws := wsX9_film) B.pre
  have hown : s.vm.findClass RX9 = some m.cls := findClass_of_methodNamed B.named
  have hlocks := B.notSynchronized
  subst hsz
  have hD := hD0.self (sz := s.heap.size)
  generalize hAe : va_A [(h0, .inr (8, [w0, w1, w2, w3, w4, w5, .int 0, w7, w8, w9, w10, w11, w12]))] s.heap.size = A at hD ⊢
  have hA : ∀ q : Nat, s.heap.size ≤ q → A q := fun q h => by rw [← hAe]; exact Or.inr h
  have hS : va_S A s.heap s.heap [] := va_S.rf
  have hP : va_P (dC, dI) vwCl [(h0, .inr (8, [w0, w1, w2, w3, w4, w5, .int 0, w7, w8, w9, w10, w11, w12]))] s.heap := hP
  have hl := lv_entry ([.ref h0, .int p0, .int p1]) (n := 3) (Nat.le_of_ble_eq_true rfl)
  rw [lg_entry_eq]
  generalize (lg_sl ([.ref h0, .int p0, .int p1]) ++ List.replicate (3 - (lg_sl ([.ref h0, .int p0, .int p1])).length) Slot.unset).toArray = ls at hl ⊢
  have hl : lv_has ls 3 [(0, .ref h0), (1, .int p0), (2, .int p1)] := hl
  have k_m2 : ((-2) : Int32).toInt = (-2) := by decide
  refine lv_iload_n hx hb dX9_film_0 rfl (lv_at hl 1 rfl) ?_
  have hPc := hP.sub (ws' := []) [] rfl
  have hDc := hD.sub (ws' := []) [] (by decide) rfl
  have hKc := hK.sub (tys' := []) [] rfl
  have hFc := va_free (wc := []) hD hS hA [] rfl
  refine va_calli (va_runS (As := [.int p0]) (rest := []) ⟨hx, hb, hml, hown, hts⟩ (c_X9_isSheet l dC dI p0 s.heap.size) (va_cwS 1 hts gX9_film_X9_isSheet rfl rfl rfl (by decide +kernel) ⟨Nat.le_of_ble_eq_true rfl, Nat.le_of_ble_eq_true rfl⟩) ⟨fun a U g mk q => by obtain ⟨q0, q1, qP, qK, qD⟩ := q; exact ⟨q0, q1, qP, va_K.moved (u := U) (U := U.calling g mk a) (Vm.Alike.refl U.vm) qK, qD⟩, fun U hU hW => ⟨rfl, by rw [hU], by rw [hU]; exact hPc, va_K.moved hW.alike hKc, hDc.weaken (fun _ _ _ _ => trivial)⟩⟩ rfl rfl hl.1 rfl (lv_room (Nat.le_of_ble_eq_true rfl)) dX9_film_1 ⟨Nat.le_of_ble_eq_true rfl, Nat.le_of_ble_eq_true rfl⟩) hS (fun q _ h => hFc q h) hFc (fun r1 u t H1 locs ht hvm hw hB hz1 hk1 hS => ?_)
  obtain ⟨hP1, hK1, hD1⟩ := hB
  rw [ht] at hP1
  have hK1 := va_K.moved hvm.symm hK1
  try dsimp only at hw
  obtain ⟨hP, hD⟩ := va_join (wr := [(h0, .inr (8, [w0, w1, w2, w3, w4, w5, .int 0, w7, w8, w9, w10, w11, w12]))]) (w1 := []) hP hD [] [0] rfl rfl (by decide) (by decide) hk1 hFc hP1 hD1
  have hK := (hK.sub (tys' := []) [] rfl).app hK1
  generalize H1 = H at hP hS ⊢
  have hP : va_P (dC, dI) vwCl [(h0, .inr (8, [w0, w1, w2, w3, w4, w5, .int 0, w7, w8, w9, w10, w11, w12]))] H := hP
  have hD : va_D A [(h0, .inr (8, [w0, w1, w2, w3, w4, w5, .int 0, w7, w8, w9, w10, w11, w12]))] := hD
  have hK : va_K (dC, dI) vwCl [] s := hK
  rcases hw with ⟨e_r1, f_r1⟩ | ⟨e_r1, f_r1⟩
  · subst e_r1
    refine lv_if_eq (tgt := 15) hx hb dX9_film_4 (by decide) (fun c2 => absurd c2 (by decide)) (fun c2 => ?_)
    refine lv_aload_n hx hb dX9_film_7 rfl (lv_at hl 0 rfl) ?_
    refine lv_iload_n hx hb dX9_film_8 rfl (lv_at hl 2 rfl) ?_
    have hPc := hP.sub (ws' := [(h0, .inr (8, [w0, w1, w2, w3, w4, w5, .int 0, w7, w8, w9, w10, w11, w12]))]) [0] rfl
    have hDc := hD.sub (ws' := [(h0, .inr (8, [w0, w1, w2, w3, w4, w5, .int 0, w7, w8, w9, w10, w11, w12]))]) [0] (by decide) rfl
    have hKc := hK.sub (tys' := []) [] rfl
    have hFc := va_free (wc := [(h0, .inr (8, [w0, w1, w2, w3, w4, w5, .int 0, w7, w8, w9, w10, w11, w12]))]) hD hS hA [0] rfl
    refine va_calli (va_runV (As := [.int p1]) (rest := []) ⟨hx, hb, hml, hown, hts⟩ (c_X9_isProgram l dC dI h0 p1 (w0) (w1) (w2) (w3) (w4) (w5) (w7) (w8) (w9) (w10) (w11) (w12) H.size) (cwV 1 hts gX9_film_X9_isProgram rfl rfl rfl (by decide +kernel) ⟨Nat.le_of_ble_eq_true rfl, Nat.le_of_ble_eq_true rfl⟩) ⟨fun a U g mk q => by obtain ⟨q0, q1, qP, qK, qD⟩ := q; exact ⟨q0, q1, qP, va_K.moved (u := U) (U := U.calling g mk a) (Vm.Alike.refl U.vm) qK, qD⟩, va_recv hKc hPc (ci := 8) (q0 := 0) rfl rfl, fun U hU hW => ⟨rfl, by rw [hU], by rw [hU]; exact hPc, va_K.moved hW.alike hKc, hDc.weaken (fun _ _ _ _ => trivial)⟩⟩ rfl rfl hl.1 rfl (lv_room (Nat.le_of_ble_eq_true rfl)) dX9_film_9 ⟨Nat.le_of_ble_eq_true rfl, Nat.le_of_ble_eq_true rfl⟩) hS (fun q _ h => hFc q h) hFc (fun r3 u t H1 locs ht hvm hw hB hz1 hk1 hS => ?_)
    obtain ⟨hP1, hK1, hD1⟩ := hB
    rw [ht] at hP1
    have hK1 := va_K.moved hvm.symm hK1
    try dsimp only at hw
    obtain ⟨hP, hD⟩ := va_join (wr := []) (w1 := [(h0, .inr (8, [w0, w1, w2, w3, w4, w5, .int 0, w7, w8, w9, w10, w11, w12]))]) hP hD [0] [] rfl rfl (by decide) (by decide) hk1 hFc hP1 hD1
    have hK := (hK.sub (tys' := []) [] rfl).app hK1
    generalize H1 = H at hP hS ⊢
    have hP : va_P (dC, dI) vwCl [(h0, .inr (8, [w0, w1, w2, w3, w4, w5, .int 0, w7, w8, w9, w10, w11, w12]))] H := hP
    have hD : va_D A [(h0, .inr (8, [w0, w1, w2, w3, w4, w5, .int 0, w7, w8, w9, w10, w11, w12]))] := hD
    have hK : va_K (dC, dI) vwCl [] s := hK
    subst hw
    refine lv_if_ne (tgt := 18) hx hb dX9_film_12 (by decide) (fun c4 => absurd (by decide) c4) (fun c4 => ?_)
    refine lv_bipush (v := -2) hx hb dX9_film_15 (by decide) ?_
    have hP9 := hP.sub (ws' := []) [] rfl
    have hD9 := hD.sub (ws' := []) [] (by decide) rfl
    have hK9 := hK.sub (tys' := []) [] rfl
    exact W.iret (v := (-2)) hx hb hr (fun t ht hW => ⟨⟨(-2), (), rfl, (by first | rfl | (simp only [if_pos, if_neg, *]; done)), by rw [ht]; exact hP9, va_K.moved hW.alike hK9, hD9⟩, hS.F ht⟩) hS.2.2 dX9_film_17
  · subst e_r1
    refine lv_if_eq (tgt := 15) hx hb dX9_film_4 (by decide) (fun c5 => ?_) (fun c5 => absurd (by decide) c5)
    refine lv_bipush (v := -2) hx hb dX9_film_15 (by decide) ?_
    have hP9 := hP.sub (ws' := []) [] rfl
    have hD9 := hD.sub (ws' := []) [] (by decide) rfl
    have hK9 := hK.sub (tys' := []) [] rfl
    exact W.iret (v := (-2)) hx hb hr (fun t ht hW => ⟨⟨(-2), (), rfl, (by first | rfl | (simp only [if_pos, if_neg, *]; done)), by rw [ht]; exact hP9, va_K.moved hW.alike hK9, hD9⟩, hS.F ht⟩) hS.2.2 dX9_film_17

theorem in_X9_back_X9 : ∀ w ∈ wsX90, w ∈ wsX9_back := fun _ h => List.mem_cons_of_mem _ (List.mem_append_left _ (List.mem_append_left _ (List.mem_append_right _ h)))
set_option maxRecDepth 100000 in
set_option maxHeartbeats 4000000 in
/-- back on a fresh object -/
theorem c_X9_back (l : Launch) (dC : Nat → ClassId) (dI : Nat → Nat → Nat) (h0 : Nat) (w0 : Value) (w1 : Value) (w2 : Value) (w3 : Value) (w4 : Value) (w5 : Value) (w6 : Value) (w8 : Value) (w9 : Value) (w10 : Value) (w11 : Value) (w12 : Value) (sz : Nat) : Met l yX9_back wsX9_back ({ frames := 0, cells := 0, slots := 0, locals := 0 }) (va_Pc [.ref h0] (fun U => U.heap.size = sz ∧ va_P (dC, dI) vwCl [(h0, .inr (8, [w0, w1, w2, w3, w4, w5, w6, .int (-1), w8, w9, w10, w11, w12]))] U.heap ∧ va_K (dC, dI) vwCl [] U ∧ va_D (fun _ => True) [(h0, .inr (8, [w0, w1, w2, w3, w4, w5, w6, .int (-1), w8, w9, w10, w11, w12]))])) (va_Qi (fun (r : Int32) (_ : Unit) => r = (-3)) (fun (_ : Unit) (t : State) => va_P (dC, dI) vwCl [] t.heap ∧ va_K (dC, dI) vwCl [] t ∧ va_D (va_A [(h0, .inr (8, [w0, w1, w2, w3, w4, w5, w6, .int (-1), w8, w9, w10, w11, w12]))] sz) []) (va_A [(h0, .inr (8, [w0, w1, w2, w3, w4, w5, w6, .int (-1), w8, w9, w10, w11, w12]))] sz)) 0 0 (va_A [(h0, .inr (8, [w0, w1, w2, w3, w4, w5, w6, .int (-1), w8, w9, w10, w11, w12]))] sz) := by
  refine Met.ofW (cc := cX9_back) (maxL := 1) (ret := (some .int)) (by decide) rfl ?_
  intro p e s m args below meth c s₁ B hml hv
  obtain ⟨rfl, hsz, hP, hK, hD0⟩ := hv
  have hx := B.exec
  have hb := B.bytes
  have hr := B.returns
  have hts := atoms_spec (ws := wsX9_back) B.pre
  have hown : s.vm.findClass RX9 = some m.cls := findClass_of_methodNamed B.named
  have hlocks := B.notSynchronized
  subst hsz
  have hD := hD0.self (sz := s.heap.size)
  generalize hAe : va_A [(h0, .inr (8, [w0, w1, w2, w3, w4, w5, w6, .int (-1), w8, w9, w10, w11, w12]))] s.heap.size = A at hD ⊢
  have hA : ∀ q : Nat, s.heap.size ≤ q → A q := fun q h => by rw [← hAe]; exact Or.inr h
  have hS : va_S A s.heap s.heap [] := va_S.rf
  have hP : va_P (dC, dI) vwCl [(h0, .inr (8, [w0, w1, w2, w3, w4, w5, w6, .int (-1), w8, w9, w10, w11, w12]))] s.heap := hP
  have hl := lv_entry ([.ref h0]) (n := 1) (Nat.le_of_ble_eq_true rfl)
  rw [lg_entry_eq]
  generalize (lg_sl ([.ref h0]) ++ List.replicate (1 - (lg_sl ([.ref h0])).length) Slot.unset).toArray = ls at hl ⊢
  have hl : lv_has ls 1 [(0, .ref h0)] := hl
  have k_m3 : ((-3) : Int32).toInt = (-3) := by decide
  refine lv_aload_n hx hb dX9_back_0 rfl (lv_at hl 0 rfl) ?_
  refine va_get (D := (dC, dI)) (ci := 8) (v := .int (-1)) (C := RX9) (T := TX9) (N := 13) hx hb hts in_X9_back_X9 hown hK hP 0 rfl rfl 7 (by decide) (hts (.fieldLink RX9 47 "ClearingGates" "imagePrograms" "I") (List.mem_of_getElem? (i := 1) (by decide +kernel))) (fun _ h9 => h9) rfl dX9_back_1 ?_
  refine lv_iconst (v := -1) hx hb dX9_back_4 (by decide) ?_
  refine lv_icmp_ne (tgt := 11) hx hb dX9_back_5 (by decide) (fun c1 => absurd (by decide) c1) (fun c1 => ?_)
  refine lv_bipush (v := -3) hx hb dX9_back_8 (by decide) ?_
  have hP9 := hP.sub (ws' := []) [] rfl
  have hD9 := hD.sub (ws' := []) [] (by decide) rfl
  have hK9 := hK.sub (tys' := []) [] rfl
  exact W.iret (v := (-3)) hx hb hr (fun t ht hW => ⟨⟨(-3), (), rfl, (by first | rfl | (simp only [if_pos, if_neg, *]; done)), by rw [ht]; exact hP9, va_K.moved hW.alike hK9, hD9⟩, hS.F ht⟩) hS.2.2 dX9_back_10

theorem in_X9_image_X9 : ∀ w ∈ wsX90, w ∈ wsX9_image := fun _ h => List.mem_cons_of_mem _ (List.mem_append_left _ (List.mem_append_left _ (List.mem_append_right _ h)))
theorem in_X9_image_X0 : ∀ w ∈ wsX00, w ∈ wsX9_image := fun _ h => List.mem_cons_of_mem _ (List.mem_append_left _ (List.mem_append_right _ h))
set_option maxRecDepth 100000 in
set_option maxHeartbeats 4000000 in
/-- image on a fresh object -/
theorem c_X9_image (l : Launch) (dC : Nat → ClassId) (dI : Nat → Nat → Nat) (h0 : Nat) (jb : Nat) (ji : Nat) (jd : Nat) (je : Nat) (w4 : Value) (w5 : Value) (w7 : Value) (w8 : Value) (w9 : Value) (w10 : Value) (w11 : Value) (w12 : Value) (aq0 : Nat) (aq1 : Nat) (aq2 : Nat) (aq3 : Nat) (aq4 : Nat) (aq5 : Nat) (aq6 : Nat) (afees : Int64) (amis : Int32) (abel : Int32) (aref : Int32) (acau : Int32) (ak0 : ClassId) (ag0 : Nat → Int32) (ak1 : ClassId) (ag1 : Nat → Int32) (ak2 : ClassId) (ag2 : Nat → Int32) (ak3 : ClassId) (ag3 : Nat → Int32) (ak4 : ClassId) (ag4 : Nat → Int32) (ak5 : ClassId) (ag5 : Nat → Int32) (ak6 : ClassId) (ag6 : Nat → Int32) (bq0 : Nat) (bq1 : Nat) (bq2 : Nat) (bq3 : Nat) (bq4 : Nat) (bq5 : Nat) (bq6 : Nat) (bacc : Int32) (bfees : Int64) (bmis : Int32) (bbel : Int32) (bref : Int32) (bcau : Int32) (bk0 : ClassId) (bg0 : Nat → Int32) (bk1 : ClassId) (bg1 : Nat → Int32) (bk2 : ClassId) (bg2 : Nat → Int32) (bk3 : ClassId) (bg3 : Nat → Int32) (bk4 : ClassId) (bg4 : Nat → Int32) (bk5 : ClassId) (bg5 : Nat → Int32) (bk6 : ClassId) (bg6 : Nat → Int32) (qa : Nat) (ka : ClassId) (fa : Nat → Int32) (qb : Nat) (kb : ClassId) (fb : Nat → Int32) (sz : Nat) : Met l yX9_image wsX9_image ({ frames := 2, cells := 0, slots := 0, locals := 82 }) (va_Pc [.ref h0] (fun U => U.heap.size = sz ∧ va_P (dC, dI) vwCl [(h0, .inr (8, [.ref jb, .ref ji, .ref jd, .ref je, w4, w5, .int 0, w7, w8, w9, w10, w11, w12])), (jb, .inr (0, [.ref aq0, .ref aq1, .ref aq2, .ref aq3, .ref aq4, .ref aq5, .ref aq6, .int 0, .long afees, .int amis, .int abel, .int aref, .int acau])), (aq0, .inl (ak0, 8, .inl ag0)), (aq1, .inl (ak1, 8, .inl ag1)), (aq2, .inl (ak2, 8, .inl ag2)), (aq3, .inl (ak3, 8, .inl ag3)), (aq4, .inl (ak4, 8, .inl ag4)), (aq5, .inl (ak5, 8, .inl ag5)), (aq6, .inl (ak6, 8, .inl ag6)), (ji, .inr (0, [.ref bq0, .ref bq1, .ref bq2, .ref bq3, .ref bq4, .ref bq5, .ref bq6, .int bacc, .long bfees, .int bmis, .int bbel, .int bref, .int bcau])), (bq0, .inl (bk0, 8, .inl bg0)), (bq1, .inl (bk1, 8, .inl bg1)), (bq2, .inl (bk2, 8, .inl bg2)), (bq3, .inl (bk3, 8, .inl bg3)), (bq4, .inl (bk4, 8, .inl bg4)), (bq5, .inl (bk5, 8, .inl bg5)), (bq6, .inl (bk6, 8, .inl bg6)), (jd, .inr (1, [.ref qa])), (qa, .inl (ka, 64, .inl fa)), (je, .inr (1, [.ref qb])), (qb, .inl (kb, 64, .inl fb))] U.heap ∧ va_K (dC, dI) vwCl [(ak0, .int), (ak1, .int), (ak2, .int), (ak3, .boolean), (ak4, .int), (ak5, .int), (ak6, .int), (bk0, .int), (bk1, .int), (bk2, .int), (bk3, .boolean), (bk4, .int), (bk5, .int), (bk6, .int), (ka, .int), (kb, .int)] U ∧ va_D (fun _ => True) [(h0, .inr (8, [.ref jb, .ref ji, .ref jd, .ref je, w4, w5, .int 0, w7, w8, w9, w10, w11, w12])), (jb, .inr (0, [.ref aq0, .ref aq1, .ref aq2, .ref aq3, .ref aq4, .ref aq5, .ref aq6, .int 0, .long afees, .int amis, .int abel, .int aref, .int acau])), (aq0, .inl (ak0, 8, .inl ag0)), (aq1, .inl (ak1, 8, .inl ag1)), (aq2, .inl (ak2, 8, .inl ag2)), (aq3, .inl (ak3, 8, .inl ag3)), (aq4, .inl (ak4, 8, .inl ag4)), (aq5, .inl (ak5, 8, .inl ag5)), (aq6, .inl (ak6, 8, .inl ag6)), (ji, .inr (0, [.ref bq0, .ref bq1, .ref bq2, .ref bq3, .ref bq4, .ref bq5, .ref bq6, .int bacc, .long bfees, .int bmis, .int bbel, .int bref, .int bcau])), (bq0, .inl (bk0, 8, .inl bg0)), (bq1, .inl (bk1, 8, .inl bg1)), (bq2, .inl (bk2, 8, .inl bg2)), (bq3, .inl (bk3, 8, .inl bg3)), (bq4, .inl (bk4, 8, .inl bg4)), (bq5, .inl (bk5, 8, .inl bg5)), (bq6, .inl (bk6, 8, .inl bg6)), (jd, .inr (1, [.ref qa])), (qa, .inl (ka, 64, .inl fa)), (je, .inr (1, [.ref qb])), (qb, .inl (kb, 64, .inl fb))])) (va_Qi (fun (r : Int32) (_ : Unit) => r = 0) (fun (_ : Unit) (t : State) => va_P (dC, dI) vwCl [] t.heap ∧ va_K (dC, dI) vwCl [] t ∧ va_D (va_A [(h0, .inr (8, [.ref jb, .ref ji, .ref jd, .ref je, w4, w5, .int 0, w7, w8, w9, w10, w11, w12])), (jb, .inr (0, [.ref aq0, .ref aq1, .ref aq2, .ref aq3, .ref aq4, .ref aq5, .ref aq6, .int 0, .long afees, .int amis, .int abel, .int aref, .int acau])), (aq0, .inl (ak0, 8, .inl ag0)), (aq1, .inl (ak1, 8, .inl ag1)), (aq2, .inl (ak2, 8, .inl ag2)), (aq3, .inl (ak3, 8, .inl ag3)), (aq4, .inl (ak4, 8, .inl ag4)), (aq5, .inl (ak5, 8, .inl ag5)), (aq6, .inl (ak6, 8, .inl ag6)), (ji, .inr (0, [.ref bq0, .ref bq1, .ref bq2, .ref bq3, .ref bq4, .ref bq5, .ref bq6, .int bacc, .long bfees, .int bmis, .int bbel, .int bref, .int bcau])), (bq0, .inl (bk0, 8, .inl bg0)), (bq1, .inl (bk1, 8, .inl bg1)), (bq2, .inl (bk2, 8, .inl bg2)), (bq3, .inl (bk3, 8, .inl bg3)), (bq4, .inl (bk4, 8, .inl bg4)), (bq5, .inl (bk5, 8, .inl bg5)), (bq6, .inl (bk6, 8, .inl bg6)), (jd, .inr (1, [.ref qa])), (qa, .inl (ka, 64, .inl fa)), (je, .inr (1, [.ref qb])), (qb, .inl (kb, 64, .inl fb))] sz) []) (va_A [(h0, .inr (8, [.ref jb, .ref ji, .ref jd, .ref je, w4, w5, .int 0, w7, w8, w9, w10, w11, w12])), (jb, .inr (0, [.ref aq0, .ref aq1, .ref aq2, .ref aq3, .ref aq4, .ref aq5, .ref aq6, .int 0, .long afees, .int amis, .int abel, .int aref, .int acau])), (aq0, .inl (ak0, 8, .inl ag0)), (aq1, .inl (ak1, 8, .inl ag1)), (aq2, .inl (ak2, 8, .inl ag2)), (aq3, .inl (ak3, 8, .inl ag3)), (aq4, .inl (ak4, 8, .inl ag4)), (aq5, .inl (ak5, 8, .inl ag5)), (aq6, .inl (ak6, 8, .inl ag6)), (ji, .inr (0, [.ref bq0, .ref bq1, .ref bq2, .ref bq3, .ref bq4, .ref bq5, .ref bq6, .int bacc, .long bfees, .int bmis, .int bbel, .int bref, .int bcau])), (bq0, .inl (bk0, 8, .inl bg0)), (bq1, .inl (bk1, 8, .inl bg1)), (bq2, .inl (bk2, 8, .inl bg2)), (bq3, .inl (bk3, 8, .inl bg3)), (bq4, .inl (bk4, 8, .inl bg4)), (bq5, .inl (bk5, 8, .inl bg5)), (bq6, .inl (bk6, 8, .inl bg6)), (jd, .inr (1, [.ref qa])), (qa, .inl (ka, 64, .inl fa)), (je, .inr (1, [.ref qb])), (qb, .inl (kb, 64, .inl fb))] sz)) 0 0 (va_A [(h0, .inr (8, [.ref jb, .ref ji, .ref jd, .ref je, w4, w5, .int 0, w7, w8, w9, w10, w11, w12])), (jb, .inr (0, [.ref aq0, .ref aq1, .ref aq2, .ref aq3, .ref aq4, .ref aq5, .ref aq6, .int 0, .long afees, .int amis, .int abel, .int aref, .int acau])), (aq0, .inl (ak0, 8, .inl ag0)), (aq1, .inl (ak1, 8, .inl ag1)), (aq2, .inl (ak2, 8, .inl ag2)), (aq3, .inl (ak3, 8, .inl ag3)), (aq4, .inl (ak4, 8, .inl ag4)), (aq5, .inl (ak5, 8, .inl ag5)), (aq6, .inl (ak6, 8, .inl ag6)), (ji, .inr (0, [.ref bq0, .ref bq1, .ref bq2, .ref bq3, .ref bq4, .ref bq5, .ref bq6, .int bacc, .long bfees, .int bmis, .int bbel, .int bref, .int bcau])), (bq0, .inl (bk0, 8, .inl bg0)), (bq1, .inl (bk1, 8, .inl bg1)), (bq2, .inl (bk2, 8, .inl bg2)), (bq3, .inl (bk3, 8, .inl bg3)), (bq4, .inl (bk4, 8, .inl bg4)), (bq5, .inl (bk5, 8, .inl bg5)), (bq6, .inl (bk6, 8, .inl bg6)), (jd, .inr (1, [.ref qa])), (qa, .inl (ka, 64, .inl fa)), (je, .inr (1, [.ref qb])), (qb, .inl (kb, 64, .inl fb))] sz) := by
  refine Met.ofW (cc := cX9_image) (maxL := 1) (ret := (some .int)) (by decide) rfl ?_
  intro p e s m args below meth c s₁ B hml hv
  obtain ⟨rfl, hsz, hP, hK, hD0⟩ := hv
  have hx := B.exec
  have hb := B.bytes
  have hr := B.returns
  have hts := atoms_spec (ws := wsX9_image) B.pre
  have hown : s.vm.findClass RX9 = some m.cls := findClass_of_methodNamed B.named
  have hlocks := B.notSynchronized
  subst hsz
  have hD := hD0.self (sz := s.heap.size)
  generalize hAe : va_A [(h0, .inr (8, [.ref jb, .ref ji, .ref jd, .ref je, w4, w5, .int 0, w7, w8, w9, w10, w11, w12])), (jb, .inr (0, [.ref aq0, .ref aq1, .ref aq2, .ref aq3, .ref aq4, .ref aq5, .ref aq6, .int 0, .long afees, .int amis, .int abel, .int aref, .int acau])), (aq0, .inl (ak0, 8, .inl ag0)), (aq1, .inl (ak1, 8, .inl ag1)), (aq2, .inl (ak2, 8, .inl ag2)), (aq3, .inl (ak3, 8, .inl ag3)), (aq4, .inl (ak4, 8, .inl ag4)), (aq5, .inl (ak5, 8, .inl ag5)), (aq6, .inl (ak6, 8, .inl ag6)), (ji, .inr (0, [.ref bq0, .ref bq1, .ref bq2, .ref bq3, .ref bq4, .ref bq5, .ref bq6, .int bacc, .long bfees, .int bmis, .int bbel, .int bref, .int bcau])), (bq0, .inl (bk0, 8, .inl bg0)), (bq1, .inl (bk1, 8, .inl bg1)), (bq2, .inl (bk2, 8, .inl bg2)), (bq3, .inl (bk3, 8, .inl bg3)), (bq4, .inl (bk4, 8, .inl bg4)), (bq5, .inl (bk5, 8, .inl bg5)), (bq6, .inl (bk6, 8, .inl bg6)), (jd, .inr (1, [.ref qa])), (qa, .inl (ka, 64, .inl fa)), (je, .inr (1, [.ref qb])), (qb, .inl (kb, 64, .inl fb))] s.heap.size = A at hD ⊢
  have hA : ∀ q : Nat, s.heap.size ≤ q → A q := fun q h => by rw [← hAe]; exact Or.inr h
  have hS : va_S A s.heap s.heap [] := va_S.rf
  have hP : va_P (dC, dI) vwCl [(h0, .inr (8, [.ref jb, .ref ji, .ref jd, .ref je, w4, w5, .int 0, w7, w8, w9, w10, w11, w12])), (jb, .inr (0, [.ref aq0, .ref aq1, .ref aq2, .ref aq3, .ref aq4, .ref aq5, .ref aq6, .int 0, .long afees, .int amis, .int abel, .int aref, .int acau])), (aq0, .inl (ak0, 8, .inl ag0)), (aq1, .inl (ak1, 8, .inl ag1)), (aq2, .inl (ak2, 8, .inl ag2)), (aq3, .inl (ak3, 8, .inl ag3)), (aq4, .inl (ak4, 8, .inl ag4)), (aq5, .inl (ak5, 8, .inl ag5)), (aq6, .inl (ak6, 8, .inl ag6)), (ji, .inr (0, [.ref bq0, .ref bq1, .ref bq2, .ref bq3, .ref bq4, .ref bq5, .ref bq6, .int bacc, .long bfees, .int bmis, .int bbel, .int bref, .int bcau])), (bq0, .inl (bk0, 8, .inl bg0)), (bq1, .inl (bk1, 8, .inl bg1)), (bq2, .inl (bk2, 8, .inl bg2)), (bq3, .inl (bk3, 8, .inl bg3)), (bq4, .inl (bk4, 8, .inl bg4)), (bq5, .inl (bk5, 8, .inl bg5)), (bq6, .inl (bk6, 8, .inl bg6)), (jd, .inr (1, [.ref qa])), (qa, .inl (ka, 64, .inl fa)), (je, .inr (1, [.ref qb])), (qb, .inl (kb, 64, .inl fb))] s.heap := hP
  have hl := lv_entry ([.ref h0]) (n := 1) (Nat.le_of_ble_eq_true rfl)
  rw [lg_entry_eq]
  generalize (lg_sl ([.ref h0]) ++ List.replicate (1 - (lg_sl ([.ref h0])).length) Slot.unset).toArray = ls at hl ⊢
  have hl : lv_has ls 1 [(0, .ref h0)] := hl
  have k_0 : (0 : Int32).toInt = 0 := by decide
  refine lv_aload_n hx hb dX9_image_0 rfl (lv_at hl 0 rfl) ?_
  refine va_get (D := (dC, dI)) (ci := 8) (v := .ref ji) (C := RX9) (T := TX9) (N := 13) hx hb hts in_X9_image_X9 hown hK hP 0 rfl rfl 1 (by decide) (hts (.fieldLink RX9 18 "ClearingGates" "imageBooks" "LClearingGates$Books;") (List.mem_of_getElem? (i := 1) (by decide +kernel))) (fun _ h9 => h9) rfl dX9_image_1 ?_
  refine lv_aload_n hx hb dX9_image_4 rfl (lv_at hl 0 rfl) ?_
  refine va_get (D := (dC, dI)) (ci := 8) (v := .ref jb) (C := RX9) (T := TX9) (N := 13) hx hb hts in_X9_image_X9 hown hK hP 0 rfl rfl 0 (by decide) (hts (.fieldLink RX9 12 "ClearingGates" "books" "LClearingGates$Books;") (List.mem_of_getElem? (i := 2) (by decide +kernel))) (fun _ h9 => h9) rfl dX9_image_5 ?_
  have hPc := hP.sub (ws' := [(ji, .inr (0, [.ref bq0, .ref bq1, .ref bq2, .ref bq3, .ref bq4, .ref bq5, .ref bq6, .int bacc, .long bfees, .int bmis, .int bbel, .int bref, .int bcau])), (bq0, .inl (bk0, 8, .inl bg0)), (bq1, .inl (bk1, 8, .inl bg1)), (bq2, .inl (bk2, 8, .inl bg2)), (bq3, .inl (bk3, 8, .inl bg3)), (bq4, .inl (bk4, 8, .inl bg4)), (bq5, .inl (bk5, 8, .inl bg5)), (bq6, .inl (bk6, 8, .inl bg6)), (jb, .inr (0, [.ref aq0, .ref aq1, .ref aq2, .ref aq3, .ref aq4, .ref aq5, .ref aq6, .int 0, .long afees, .int amis, .int abel, .int aref, .int acau])), (aq0, .inl (ak0, 8, .inl ag0)), (aq1, .inl (ak1, 8, .inl ag1)), (aq2, .inl (ak2, 8, .inl ag2)), (aq3, .inl (ak3, 8, .inl ag3)), (aq4, .inl (ak4, 8, .inl ag4)), (aq5, .inl (ak5, 8, .inl ag5)), (aq6, .inl (ak6, 8, .inl ag6))]) [9, 10, 11, 12, 13, 14, 15, 16, 1, 2, 3, 4, 5, 6, 7, 8] rfl
  have hDc := hD.sub (ws' := [(ji, .inr (0, [.ref bq0, .ref bq1, .ref bq2, .ref bq3, .ref bq4, .ref bq5, .ref bq6, .int bacc, .long bfees, .int bmis, .int bbel, .int bref, .int bcau])), (bq0, .inl (bk0, 8, .inl bg0)), (bq1, .inl (bk1, 8, .inl bg1)), (bq2, .inl (bk2, 8, .inl bg2)), (bq3, .inl (bk3, 8, .inl bg3)), (bq4, .inl (bk4, 8, .inl bg4)), (bq5, .inl (bk5, 8, .inl bg5)), (bq6, .inl (bk6, 8, .inl bg6)), (jb, .inr (0, [.ref aq0, .ref aq1, .ref aq2, .ref aq3, .ref aq4, .ref aq5, .ref aq6, .int 0, .long afees, .int amis, .int abel, .int aref, .int acau])), (aq0, .inl (ak0, 8, .inl ag0)), (aq1, .inl (ak1, 8, .inl ag1)), (aq2, .inl (ak2, 8, .inl ag2)), (aq3, .inl (ak3, 8, .inl ag3)), (aq4, .inl (ak4, 8, .inl ag4)), (aq5, .inl (ak5, 8, .inl ag5)), (aq6, .inl (ak6, 8, .inl ag6))]) [9, 10, 11, 12, 13, 14, 15, 16, 1, 2, 3, 4, 5, 6, 7, 8] (by decide) rfl
  have hKc := hK.sub (tys' := [(bk0, .int), (bk1, .int), (bk2, .int), (bk3, .boolean), (bk4, .int), (bk5, .int), (bk6, .int), (ak0, .int), (ak1, .int), (ak2, .int), (ak3, .boolean), (ak4, .int), (ak5, .int), (ak6, .int)]) [7, 8, 9, 10, 11, 12, 13, 0, 1, 2, 3, 4, 5, 6] rfl
  have hFc := va_free (wc := [(ji, .inr (0, [.ref bq0, .ref bq1, .ref bq2, .ref bq3, .ref bq4, .ref bq5, .ref bq6, .int bacc, .long bfees, .int bmis, .int bbel, .int bref, .int bcau])), (bq0, .inl (bk0, 8, .inl bg0)), (bq1, .inl (bk1, 8, .inl bg1)), (bq2, .inl (bk2, 8, .inl bg2)), (bq3, .inl (bk3, 8, .inl bg3)), (bq4, .inl (bk4, 8, .inl bg4)), (bq5, .inl (bk5, 8, .inl bg5)), (bq6, .inl (bk6, 8, .inl bg6)), (jb, .inr (0, [.ref aq0, .ref aq1, .ref aq2, .ref aq3, .ref aq4, .ref aq5, .ref aq6, .int 0, .long afees, .int amis, .int abel, .int aref, .int acau])), (aq0, .inl (ak0, 8, .inl ag0)), (aq1, .inl (ak1, 8, .inl ag1)), (aq2, .inl (ak2, 8, .inl ag2)), (aq3, .inl (ak3, 8, .inl ag3)), (aq4, .inl (ak4, 8, .inl ag4)), (aq5, .inl (ak5, 8, .inl ag5)), (aq6, .inl (ak6, 8, .inl ag6))]) hD hS hA [9, 10, 11, 12, 13, 14, 15, 16, 1, 2, 3, 4, 5, 6, 7, 8] rfl
  refine va_callv (va_runV (As := [.ref jb]) (rest := []) ⟨hx, hb, hml, hown, hts⟩ (c_X0_becomeAs l dC dI ji jb bq0 bq1 bq2 bq3 bq4 bq5 bq6 bacc bfees bmis bbel bref bcau bk0 bg0 bk1 bg1 bk2 bg2 bk3 bg3 bk4 bg4 bk5 bg5 bk6 bg6 aq0 aq1 aq2 aq3 aq4 aq5 aq6 0 afees amis abel aref acau ak0 ag0 ak1 ag1 ak2 ag2 ak3 ag3 ak4 ag4 ak5 ag5 ak6 ag6 s.heap.size) (cwV 1 hts gX9_image_X0_becomeAs rfl rfl rfl (by decide +kernel) ⟨Nat.le_of_ble_eq_true rfl, Nat.le_of_ble_eq_true rfl⟩) ⟨fun a U g mk q => by obtain ⟨q0, q1, qP, qK, qD⟩ := q; exact ⟨q0, q1, qP, va_K.moved (u := U) (U := U.calling g mk a) (Vm.Alike.refl U.vm) qK, qD⟩, va_recv hKc hPc (ci := 0) (q0 := 0) rfl rfl, fun U hU hW => ⟨rfl, by rw [hU], by rw [hU]; exact hPc, va_K.moved hW.alike hKc, hDc.weaken (fun _ _ _ _ => trivial)⟩⟩ rfl rfl hl.1 rfl (lv_room (Nat.le_of_ble_eq_true rfl)) dX9_image_8 ⟨Nat.le_of_ble_eq_true rfl, Nat.le_of_ble_eq_true rfl⟩) hS (fun q _ h => hFc q h) hFc (fun u t H1 locs ht hvm hw hB hz1 hk1 hS => ?_)
  obtain ⟨hP1, hK1, hD1⟩ := hB
  rw [ht] at hP1
  have hK1 := va_K.moved hvm.symm hK1
  try dsimp only at hw
  obtain ⟨hP, hD⟩ := va_join (wr := [(h0, .inr (8, [.ref jb, .ref ji, .ref jd, .ref je, w4, w5, .int 0, w7, w8, w9, w10, w11, w12])), (jd, .inr (1, [.ref qa])), (qa, .inl (ka, 64, .inl fa)), (je, .inr (1, [.ref qb])), (qb, .inl (kb, 64, .inl fb))]) (w1 := [(jb, .inr (0, [.ref aq0, .ref aq1, .ref aq2, .ref aq3, .ref aq4, .ref aq5, .ref aq6, .int 0, .long afees, .int amis, .int abel, .int aref, .int acau]))]) hP hD [9, 10, 11, 12, 13, 14, 15, 16, 1, 2, 3, 4, 5, 6, 7, 8] [0, 17, 18, 19, 20] rfl rfl (by decide) (by decide) hk1 hFc hP1 hD1
  have hK := (hK.sub (tys' := [(ka, .int), (kb, .int)]) [14, 15] rfl).app hK1
  generalize H1 = H at hP hS ⊢
  have hP : va_P (dC, dI) vwCl [(h0, .inr (8, [.ref jb, .ref ji, .ref jd, .ref je, w4, w5, .int 0, w7, w8, w9, w10, w11, w12])), (jd, .inr (1, [.ref qa])), (qa, .inl (ka, 64, .inl fa)), (je, .inr (1, [.ref qb])), (qb, .inl (kb, 64, .inl fb)), (jb, .inr (0, [.ref aq0, .ref aq1, .ref aq2, .ref aq3, .ref aq4, .ref aq5, .ref aq6, .int 0, .long afees, .int amis, .int abel, .int aref, .int acau]))] H := hP
  have hD : va_D A [(h0, .inr (8, [.ref jb, .ref ji, .ref jd, .ref je, w4, w5, .int 0, w7, w8, w9, w10, w11, w12])), (jd, .inr (1, [.ref qa])), (qa, .inl (ka, 64, .inl fa)), (je, .inr (1, [.ref qb])), (qb, .inl (kb, 64, .inl fb)), (jb, .inr (0, [.ref aq0, .ref aq1, .ref aq2, .ref aq3, .ref aq4, .ref aq5, .ref aq6, .int 0, .long afees, .int amis, .int abel, .int aref, .int acau]))] := hD
  have hK : va_K (dC, dI) vwCl [(ka, .int), (kb, .int)] s := hK
  refine lv_aload_n hx hb dX9_image_11 rfl (lv_at hl 0 rfl) ?_
  refine va_get (D := (dC, dI)) (ci := 8) (v := .ref je) (C := RX9) (T := TX9) (N := 13) hx hb hts in_X9_image_X9 hown hK hP 0 rfl rfl 3 (by decide) (hts (.fieldLink RX9 28 "ClearingGates" "imageDebts" "LClearingGates$Debts;") (List.mem_of_getElem? (i := 3) (by decide +kernel))) (fun _ h9 => h9) rfl dX9_image_12 ?_
  refine lv_aload_n hx hb dX9_image_15 rfl (lv_at hl 0 rfl) ?_
  refine va_get (D := (dC, dI)) (ci := 8) (v := .ref jd) (C := RX9) (T := TX9) (N := 13) hx hb hts in_X9_image_X9 hown hK hP 0 rfl rfl 2 (by decide) (hts (.fieldLink RX9 24 "ClearingGates" "debts" "LClearingGates$Debts;") (List.mem_of_getElem? (i := 4) (by decide +kernel))) (fun _ h9 => h9) rfl dX9_image_16 ?_
  have hPc := hP.sub (ws' := [(je, .inr (1, [.ref qb])), (qb, .inl (kb, 64, .inl fb)), (jd, .inr (1, [.ref qa])), (qa, .inl (ka, 64, .inl fa))]) [3, 4, 1, 2] rfl
  have hDc := hD.sub (ws' := [(je, .inr (1, [.ref qb])), (qb, .inl (kb, 64, .inl fb)), (jd, .inr (1, [.ref qa])), (qa, .inl (ka, 64, .inl fa))]) [3, 4, 1, 2] (by decide) rfl
  have hKc := hK.sub (tys' := [(kb, .int), (ka, .int)]) [1, 0] rfl
  have hFc := va_free (wc := [(je, .inr (1, [.ref qb])), (qb, .inl (kb, 64, .inl fb)), (jd, .inr (1, [.ref qa])), (qa, .inl (ka, 64, .inl fa))]) hD hS hA [3, 4, 1, 2] rfl
  refine va_callv (va_runV (As := [.ref jd]) (rest := []) ⟨hx, hb, hml, hown, hts⟩ (c_X1_becomeAs l dC dI je jd qb kb fb qa ka fa H.size) (cwV 1 hts gX9_image_X1_becomeAs rfl rfl rfl (by decide +kernel) ⟨Nat.le_of_ble_eq_true rfl, Nat.le_of_ble_eq_true rfl⟩) ⟨fun a U g mk q => by obtain ⟨q0, q1, qP, qK, qD⟩ := q; exact ⟨q0, q1, qP, va_K.moved (u := U) (U := U.calling g mk a) (Vm.Alike.refl U.vm) qK, qD⟩, va_recv hKc hPc (ci := 1) (q0 := 0) rfl rfl, fun U hU hW => ⟨rfl, by rw [hU], by rw [hU]; exact hPc, va_K.moved hW.alike hKc, hDc.weaken (fun _ _ _ _ => trivial)⟩⟩ rfl rfl hl.1 rfl (lv_room (Nat.le_of_ble_eq_true rfl)) dX9_image_19 ⟨Nat.le_of_ble_eq_true rfl, Nat.le_of_ble_eq_true rfl⟩) hS (fun q _ h => hFc q h) hFc (fun u t H1 locs ht hvm hw hB hz1 hk1 hS => ?_)
  obtain ⟨hP1, hK1, hD1⟩ := hB
  rw [ht] at hP1
  have hK1 := va_K.moved hvm.symm hK1
  try dsimp only at hw
  obtain ⟨hP, hD⟩ := va_join (wr := [(h0, .inr (8, [.ref jb, .ref ji, .ref jd, .ref je, w4, w5, .int 0, w7, w8, w9, w10, w11, w12])), (jb, .inr (0, [.ref aq0, .ref aq1, .ref aq2, .ref aq3, .ref aq4, .ref aq5, .ref aq6, .int 0, .long afees, .int amis, .int abel, .int aref, .int acau]))]) (w1 := []) hP hD [3, 4, 1, 2] [0, 5] rfl rfl (by decide) (by decide) hk1 hFc hP1 hD1
  have hK := (hK.sub (tys' := []) [] rfl).app hK1
  generalize H1 = H at hP hS ⊢
  have hP : va_P (dC, dI) vwCl [(h0, .inr (8, [.ref jb, .ref ji, .ref jd, .ref je, w4, w5, .int 0, w7, w8, w9, w10, w11, w12])), (jb, .inr (0, [.ref aq0, .ref aq1, .ref aq2, .ref aq3, .ref aq4, .ref aq5, .ref aq6, .int 0, .long afees, .int amis, .int abel, .int aref, .int acau]))] H := hP
  have hD : va_D A [(h0, .inr (8, [.ref jb, .ref ji, .ref jd, .ref je, w4, w5, .int 0, w7, w8, w9, w10, w11, w12])), (jb, .inr (0, [.ref aq0, .ref aq1, .ref aq2, .ref aq3, .ref aq4, .ref aq5, .ref aq6, .int 0, .long afees, .int amis, .int abel, .int aref, .int acau]))] := hD
  have hK : va_K (dC, dI) vwCl [] s := hK
  refine lv_aload_n hx hb dX9_image_22 rfl (lv_at hl 0 rfl) ?_
  refine lv_aload_n hx hb dX9_image_23 rfl (lv_at hl 0 rfl) ?_
  refine va_get (D := (dC, dI)) (ci := 8) (v := .int 0) (C := RX9) (T := TX9) (N := 13) hx hb hts in_X9_image_X9 hown hK hP 0 rfl rfl 6 (by decide) (hts (.fieldLink RX9 141 "ClearingGates" "programCount" "I") (List.mem_of_getElem? (i := 5) (by decide +kernel))) (fun _ h9 => h9) rfl dX9_image_24 ?_
  refine va_put (D := (dC, dI)) (ci := 8) (v := .int 0) (ty := .int) (C := RX9) (T := TX9) (N := 13) hx hb hts in_X9_image_X9 tyX9 tyX9_ok nmX9 hown hK hP hD hS 0 rfl rfl 7 (by decide) (hts (.fieldLink RX9 47 "ClearingGates" "imagePrograms" "I") (List.mem_of_getElem? (i := 6) (by decide +kernel))) (fun _ h9 => h9) rfl (by decide +kernel) rfl rfl (Nat.le_of_ble_eq_true rfl) dX9_image_27 (fun H locs hP hD hS => ?_)
  have hP : va_P (dC, dI) vwCl [(h0, .inr (8, [.ref jb, .ref ji, .ref jd, .ref je, w4, w5, .int 0, .int 0, w8, w9, w10, w11, w12])), (jb, .inr (0, [.ref aq0, .ref aq1, .ref aq2, .ref aq3, .ref aq4, .ref aq5, .ref aq6, .int 0, .long afees, .int amis, .int abel, .int aref, .int acau]))] H := hP
  have hD : va_D A [(h0, .inr (8, [.ref jb, .ref ji, .ref jd, .ref je, w4, w5, .int 0, .int 0, w8, w9, w10, w11, w12])), (jb, .inr (0, [.ref aq0, .ref aq1, .ref aq2, .ref aq3, .ref aq4, .ref aq5, .ref aq6, .int 0, .long afees, .int amis, .int abel, .int aref, .int acau]))] := hD
  refine lv_aload_n hx hb dX9_image_30 rfl (lv_at hl 0 rfl) ?_
  refine va_get (D := (dC, dI)) (ci := 8) (v := .ref jb) (C := RX9) (T := TX9) (N := 13) hx hb hts in_X9_image_X9 hown hK hP 0 rfl rfl 0 (by decide) (hts (.fieldLink RX9 12 "ClearingGates" "books" "LClearingGates$Books;") (List.mem_of_getElem? (i := 2) (by decide +kernel))) (fun _ h9 => h9) rfl dX9_image_31 ?_
  refine va_get (D := (dC, dI)) (ci := 0) (v := .int 0) (C := RX0) (T := TX0) (N := 13) hx hb hts in_X9_image_X0 hown hK hP 1 rfl rfl 7 (by decide) (hts (.fieldLink RX9 95 "ClearingGates$Books" "accounts" "I") (List.mem_of_getElem? (i := 7) (by decide +kernel))) (fun _ h9 => h9) rfl dX9_image_34 ?_
  have hP9 := hP.sub (ws' := []) [] rfl
  have hD9 := hD.sub (ws' := []) [] (by decide) rfl
  have hK9 := hK.sub (tys' := []) [] rfl
  exact W.iret (v := 0) hx hb hr (fun t ht hW => ⟨⟨0, (), rfl, (by first | rfl | (simp only [if_pos, if_neg, *]; done)), by rw [ht]; exact hP9, va_K.moved hW.alike hK9, hD9⟩, hS.F ht⟩) hS.2.2 dX9_image_37
