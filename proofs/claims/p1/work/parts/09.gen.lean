theorem in_X8_add_X8 : ∀ w ∈ wsX80, w ∈ wsX8_add := fun _ h => List.mem_cons_of_mem _ (List.mem_append_right _ h)
set_option maxRecDepth 100000 in
set_option maxHeartbeats 4000000 in
/-- Tape.add where there is room -/
theorem c_X8_add (l : Launch) (dC : Nat → ClassId) (dI : Nat → Nat → Nat) (h0 : Nat) (p0 : Int32) (qb : Nat) (n0 : Int32) (kb : ClassId) (fb : Nat → Int32) (n1 : Int32) (sz : Nat) (hn0 : 0 ≤ n0.toInt) (hn1 : n0.toInt < 80) (hn2 : n0 + 1 = n1) : Met l yX8_add wsX8_add ({ frames := 0, cells := 0, slots := 0, locals := 0 }) (va_Pc [.ref h0, .int p0] (fun U => U.heap.size = sz ∧ va_P (dC, dI) vwCl [(h0, .inr (7, [.ref qb, .int n0])), (qb, .inl (kb, 80, .inl fb))] U.heap ∧ va_K (dC, dI) vwCl [(kb, .int)] U ∧ va_D (fun _ => True) [(h0, .inr (7, [.ref qb, .int n0])), (qb, .inl (kb, 80, .inl fb))])) (va_Qv (fun (gb : Nat → Int32) => True) (fun (gb : Nat → Int32) (t : State) => va_P (dC, dI) vwCl [(h0, .inr (7, [.ref qb, .int n1])), (qb, .inl (kb, 80, .inl gb))] t.heap ∧ va_K (dC, dI) vwCl [(kb, .int)] t ∧ va_D (va_A [(h0, .inr (7, [.ref qb, .int n0])), (qb, .inl (kb, 80, .inl fb))] sz) [(h0, .inr (7, [.ref qb, .int n1])), (qb, .inl (kb, 80, .inl gb))]) (va_A [(h0, .inr (7, [.ref qb, .int n0])), (qb, .inl (kb, 80, .inl fb))] sz)) 0 0 (va_A [(h0, .inr (7, [.ref qb, .int n0])), (qb, .inl (kb, 80, .inl fb))] sz) := by
  refine Met.ofW (cc := cX8_add) (maxL := 2) (ret := none) (by decide) rfl ?_
  intro p e s m args below meth c s₁ B hml hv
  obtain ⟨rfl, hsz, hP, hK, hD0⟩ := hv
  have hx := B.exec
  have hb := B.bytes
  have hr := B.returns
  have hts := atoms_spec (ws := wsX8_add) B.pre
  have hown : s.vm.findClass RX8 = some m.cls := findClass_of_methodNamed B.named
  have hlocks := B.notSynchronized
  subst hsz
  have hD := hD0.self (sz := s.heap.size)
  generalize hAe : va_A [(h0, .inr (7, [.ref qb, .int n0])), (qb, .inl (kb, 80, .inl fb))] s.heap.size = A at hD ⊢
  have hA : ∀ q : Nat, s.heap.size ≤ q → A q := fun q h => by rw [← hAe]; exact Or.inr h
  have hS : va_S A s.heap s.heap [] := va_S.rf
  have hP : va_P (dC, dI) vwCl [(h0, .inr (7, [.ref qb, .int n0])), (qb, .inl (kb, 80, .inl fb))] s.heap := hP
  have hl := lv_entry ([.ref h0, .int p0]) (n := 2) (Nat.le_of_ble_eq_true rfl)
  rw [lg_entry_eq]
  generalize (lg_sl ([.ref h0, .int p0]) ++ List.replicate (2 - (lg_sl ([.ref h0, .int p0])).length) Slot.unset).toArray = ls at hl ⊢
  have hl : lv_has ls 2 [(0, .ref h0), (1, .int p0)] := hl
  have k_1 : (1 : Int32).toInt = 1 := by decide
  have k_80 : (80 : Int32).toInt = 80 := by decide
  refine lv_aload_n hx hb dX8_add_0 rfl (lv_at hl 0 rfl) ?_
  refine va_get (D := (dC, dI)) (ci := 7) (v := .int n0) (C := RX8) (T := TX8) (N := 2) hx hb hts in_X8_add_X8 hown hK hP 0 rfl rfl 1 (by decide) (hts (.fieldLink RX8 15 "ClearingGates$Tape" "size" "I") (List.mem_of_getElem? (i := 1) (by decide +kernel))) (fun _ h9 => h9) rfl dX8_add_1 ?_
  refine lv_bipush (v := 80) hx hb dX8_add_4 (by decide) ?_
  refine lv_icmp_ge (tgt := 29) hx hb dX8_add_6 (by decide) (fun c1 => ?_) (fun c1 => ?_)
  · skip
    have f_c1 := i_le c1
    exfalso; omega
  · skip
    have f_c1 := i_nle c1
    refine lv_aload_n hx hb dX8_add_9 rfl (lv_at hl 0 rfl) ?_
    refine va_get (D := (dC, dI)) (ci := 7) (v := .ref qb) (C := RX8) (T := TX8) (N := 2) hx hb hts in_X8_add_X8 hown hK hP 0 rfl rfl 0 (by decide) (hts (.fieldLink RX8 9 "ClearingGates$Tape" "bytes" "[I") (List.mem_of_getElem? (i := 2) (by decide +kernel))) (fun _ h9 => h9) rfl dX8_add_10 ?_
    refine lv_aload_n hx hb dX8_add_13 rfl (lv_at hl 0 rfl) ?_
    refine va_get (D := (dC, dI)) (ci := 7) (v := .int n0) (C := RX8) (T := TX8) (N := 2) hx hb hts in_X8_add_X8 hown hK hP 0 rfl rfl 1 (by decide) (hts (.fieldLink RX8 15 "ClearingGates$Tape" "size" "I") (List.mem_of_getElem? (i := 1) (by decide +kernel))) (fun _ h9 => h9) rfl dX8_add_14 ?_
    refine lv_iload_n hx hb dX8_add_17 rfl (lv_at hl 1 rfl) ?_
    refine va_iast (D := (dC, dI)) hx hb hK hP hD hS 1 0 rfl rfl (vp_in_iff.mpr ⟨by omega, by omega⟩) dX8_add_18 (fun H locs hP hD hS => ?_)
    generalize e_g2 : (upd fb (n0).toNatClampNeg p0) = g2 at hP hD
    have hP : va_P (dC, dI) vwCl [(h0, .inr (7, [.ref qb, .int n0])), (qb, .inl (kb, 80, .inl g2))] H := hP
    have hD : va_D A [(h0, .inr (7, [.ref qb, .int n0])), (qb, .inl (kb, 80, .inl g2))] := hD
    refine lv_aload_n hx hb dX8_add_19 rfl (lv_at hl 0 rfl) ?_
    refine lv_dup hx hb dX8_add_20 rfl ?_
    refine va_get (D := (dC, dI)) (ci := 7) (v := .int n0) (C := RX8) (T := TX8) (N := 2) hx hb hts in_X8_add_X8 hown hK hP 0 rfl rfl 1 (by decide) (hts (.fieldLink RX8 15 "ClearingGates$Tape" "size" "I") (List.mem_of_getElem? (i := 1) (by decide +kernel))) (fun _ h9 => h9) rfl dX8_add_21 ?_
    refine lv_iconst (v := 1) hx hb dX8_add_24 (by decide) ?_
    refine lv_iadd hx hb dX8_add_25 ?_
    refine lv_topi (fun z3 e_z3 => ?_)
    have e_n1 : z3 = n1 := e_z3.trans hn2
    rw [e_n1]
    refine va_put (D := (dC, dI)) (ci := 7) (v := .int n1) (ty := .int) (C := RX8) (T := TX8) (N := 2) hx hb hts in_X8_add_X8 tyX8 tyX8_ok nmX8 hown hK hP hD hS 0 rfl rfl 1 (by decide) (hts (.fieldLink RX8 15 "ClearingGates$Tape" "size" "I") (List.mem_of_getElem? (i := 1) (by decide +kernel))) (fun _ h9 => h9) rfl (by decide +kernel) rfl rfl (Nat.le_of_ble_eq_true rfl) dX8_add_26 (fun H locs hP hD hS => ?_)
    have hP : va_P (dC, dI) vwCl [(h0, .inr (7, [.ref qb, .int n1])), (qb, .inl (kb, 80, .inl g2))] H := hP
    have hD : va_D A [(h0, .inr (7, [.ref qb, .int n1])), (qb, .inl (kb, 80, .inl g2))] := hD
    have hP9 := hP.sub (ws' := [(h0, .inr (7, [.ref qb, .int n1])), (qb, .inl (kb, 80, .inl g2))]) [0, 1] rfl
    have hD9 := hD.sub (ws' := [(h0, .inr (7, [.ref qb, .int n1])), (qb, .inl (kb, 80, .inl g2))]) [0, 1] (by decide) rfl
    have hK9 := hK.sub (tys' := [(kb, .int)]) [0] rfl
    exact W.vret hx hb hr (fun t ht hW => ⟨⟨g2, rfl, (by first | rfl | trivial), by rw [ht]; exact hP9, va_K.moved hW.alike hK9, hD9⟩, hS.F ht⟩) hS.2.2 dX8_add_29

theorem in_X9_feed_X9 : ∀ w ∈ wsX90, w ∈ wsX9_feed := fun _ h => List.mem_cons_of_mem _ (List.mem_append_left _ (List.mem_append_right _ h))
theorem in_X9_feed_X8 : ∀ w ∈ wsX80, w ∈ wsX9_feed := fun _ h => List.mem_cons_of_mem _ (List.mem_append_right _ h)
set_option maxRecDepth 100000 in
set_option maxHeartbeats 4000000 in
/-- feed on a fresh object -/
theorem c_X9_feed (l : Launch) (dC : Nat → ClassId) (dI : Nat → Nat → Nat) (h0 : Nat) (p0 : Int32) (p1 : Int32) (p2 : Int32) (p3 : Int32) (p4 : Int32) (p5 : Int32) (w0 : Value) (w1 : Value) (w2 : Value) (w3 : Value) (w4 : Value) (w5 : Value) (w6 : Value) (w7 : Value) (qt : Nat) (w9 : Value) (w10 : Value) (w11 : Value) (w12 : Value) (qb : Nat) (kb : ClassId) (fb : Nat → Int32) (sz : Nat) : Met l yX9_feed wsX9_feed ({ frames := 2, cells := 0, slots := 0, locals := 41 }) (va_Pc [.ref h0, .int p0, .int p1, .int p2, .int p3, .int p4, .int p5] (fun U => U.heap.size = sz ∧ va_P (dC, dI) vwCl [(h0, .inr (8, [w0, w1, w2, w3, w4, w5, w6, w7, .ref qt, w9, w10, w11, w12])), (qt, .inr (7, [.ref qb, .int 0])), (qb, .inl (kb, 80, .inl fb))] U.heap ∧ va_K (dC, dI) vwCl [(kb, .int)] U ∧ va_D (fun _ => True) [(h0, .inr (8, [w0, w1, w2, w3, w4, w5, w6, w7, .ref qt, w9, w10, w11, w12])), (qt, .inr (7, [.ref qb, .int 0])), (qb, .inl (kb, 80, .inl fb))])) (va_Qi (fun (r : Int32) (_ : Unit) => (r = p0 ∧ 1 ≤ p0.toInt ∧ p0.toInt ≤ 5 ∧ 0 ≤ p1.toInt ∧ p1.toInt ≤ 255 ∧ 0 ≤ p2.toInt ∧ p2.toInt ≤ 255 ∧ 0 ≤ p3.toInt ∧ p3.toInt ≤ 255 ∧ 0 ≤ p4.toInt ∧ p4.toInt ≤ 255 ∧ 0 ≤ p5.toInt ∧ p5.toInt ≤ 255) ∨ (r = (-2) ∧ ¬(1 ≤ p0.toInt ∧ p0.toInt ≤ 5 ∧ 0 ≤ p1.toInt ∧ p1.toInt ≤ 255 ∧ 0 ≤ p2.toInt ∧ p2.toInt ≤ 255 ∧ 0 ≤ p3.toInt ∧ p3.toInt ≤ 255 ∧ 0 ≤ p4.toInt ∧ p4.toInt ≤ 255 ∧ 0 ≤ p5.toInt ∧ p5.toInt ≤ 255))) (fun (_ : Unit) (t : State) => va_P (dC, dI) vwCl [] t.heap ∧ va_K (dC, dI) vwCl [] t ∧ va_D (va_A [(h0, .inr (8, [w0, w1, w2, w3, w4, w5, w6, w7, .ref qt, w9, w10, w11, w12])), (qt, .inr (7, [.ref qb, .int 0])), (qb, .inl (kb, 80, .inl fb))] sz) []) (va_A [(h0, .inr (8, [w0, w1, w2, w3, w4, w5, w6, w7, .ref qt, w9, w10, w11, w12])), (qt, .inr (7, [.ref qb, .int 0])), (qb, .inl (kb, 80, .inl fb))] sz)) 0 0 (va_A [(h0, .inr (8, [w0, w1, w2, w3, w4, w5, w6, w7, .ref qt, w9, w10, w11, w12])), (qt, .inr (7, [.ref qb, .int 0])), (qb, .inl (kb, 80, .inl fb))] sz) := by
  refine Met.ofW (cc := cX9_feed) (maxL := 7) (ret := (some .int)) (by decide) rfl ?_
  intro p e s m args below meth c s₁ B hml hv
  obtain ⟨rfl, hsz, hP, hK, hD0⟩ := hv
  have hx := B.exec
  have hb := B.bytes
  have hr := B.returns
  have hts := atoms_spec (ws := wsX9_feed) B.pre
  have hown : s.vm.findClass RX9 = some m.cls := findClass_of_methodNamed B.named
  have hlocks := B.notSynchronized
  subst hsz
  have hD := hD0.self (sz := s.heap.size)
  generalize hAe : va_A [(h0, .inr (8, [w0, w1, w2, w3, w4, w5, w6, w7, .ref qt, w9, w10, w11, w12])), (qt, .inr (7, [.ref qb, .int 0])), (qb, .inl (kb, 80, .inl fb))] s.heap.size = A at hD ⊢
  have hA : ∀ q : Nat, s.heap.size ≤ q → A q := fun q h => by rw [← hAe]; exact Or.inr h
  have hS : va_S A s.heap s.heap [] := va_S.rf
  have hP : va_P (dC, dI) vwCl [(h0, .inr (8, [w0, w1, w2, w3, w4, w5, w6, w7, .ref qt, w9, w10, w11, w12])), (qt, .inr (7, [.ref qb, .int 0])), (qb, .inl (kb, 80, .inl fb))] s.heap := hP
  have hl := lv_entry ([.ref h0, .int p0, .int p1, .int p2, .int p3, .int p4, .int p5]) (n := 7) (Nat.le_of_ble_eq_true rfl)
  rw [lg_entry_eq]
  generalize (lg_sl ([.ref h0, .int p0, .int p1, .int p2, .int p3, .int p4, .int p5]) ++ List.replicate (7 - (lg_sl ([.ref h0, .int p0, .int p1, .int p2, .int p3, .int p4, .int p5])).length) Slot.unset).toArray = ls at hl ⊢
  have hl : lv_has ls 7 [(0, .ref h0), (1, .int p0), (2, .int p1), (3, .int p2), (4, .int p3), (5, .int p4), (6, .int p5)] := hl
  have k_m2 : ((-2) : Int32).toInt = (-2) := by decide
  have k_0 : (0 : Int32).toInt = 0 := by decide
  have k_1 : (1 : Int32).toInt = 1 := by decide
  have k_2 : (2 : Int32).toInt = 2 := by decide
  have k_3 : (3 : Int32).toInt = 3 := by decide
  have k_4 : (4 : Int32).toInt = 4 := by decide
  have k_5 : (5 : Int32).toInt = 5 := by decide
  have k_80 : (80 : Int32).toInt = 80 := by decide
  refine lv_iload_n hx hb dX9_feed_0 rfl (lv_at hl 1 rfl) ?_
  refine lv_iconst (v := 1) hx hb dX9_feed_1 (by decide) ?_
  refine lv_icmp_lt (tgt := 10) hx hb dX9_feed_2 (by decide) (fun c1 => ?_) (fun c1 => ?_)
  · skip
    have f_c1 := i_lt c1
    refine lv_bipush (v := -2) hx hb dX9_feed_10 (by decide) ?_
    have hP9 := hP.sub (ws' := []) [] rfl
    have hD9 := hD.sub (ws' := []) [] (by decide) rfl
    have hK9 := hK.sub (tys' := []) [] rfl
    exact W.iret (v := (-2)) hx hb hr (fun t ht hW => ⟨⟨(-2), (), rfl, Or.inr (⟨rfl, by omega⟩), by rw [ht]; exact hP9, va_K.moved hW.alike hK9, hD9⟩, hS.F ht⟩) hS.2.2 dX9_feed_12
  · skip
    have f_c1 := i_nlt c1
    refine lv_iload_n hx hb dX9_feed_5 rfl (lv_at hl 1 rfl) ?_
    refine lv_iconst (v := 5) hx hb dX9_feed_6 (by decide) ?_
    refine lv_icmp_le (tgt := 13) hx hb dX9_feed_7 (by decide) (fun c2 => ?_) (fun c2 => ?_)
    · skip
      have f_c2 := i_le c2
      refine lv_iload_n hx hb dX9_feed_13 rfl (lv_at hl 2 rfl) ?_
      have hPc := hP.sub (ws' := []) [] rfl
      have hDc := hD.sub (ws' := []) [] (by decide) rfl
      have hKc := hK.sub (tys' := []) [] rfl
      have hFc := va_free (wc := []) hD hS hA [] rfl
      refine va_calli (va_runS (As := [.int p1]) (rest := []) ⟨hx, hb, hml, hown, hts⟩ (c_X9_isByte l dC dI p1 s.heap.size) (va_cwS 1 hts gX9_feed_X9_isByte rfl rfl rfl (by decide +kernel) ⟨Nat.le_of_ble_eq_true rfl, Nat.le_of_ble_eq_true rfl⟩) ⟨fun a U g mk q => by obtain ⟨q0, q1, qP, qK, qD⟩ := q; exact ⟨q0, q1, qP, va_K.moved (u := U) (U := U.calling g mk a) (Vm.Alike.refl U.vm) qK, qD⟩, fun U hU hW => ⟨rfl, by rw [hU], by rw [hU]; exact hPc, va_K.moved hW.alike hKc, hDc.weaken (fun _ _ _ _ => trivial)⟩⟩ rfl rfl hl.1 rfl (lv_room (Nat.le_of_ble_eq_true rfl)) dX9_feed_14 ⟨Nat.le_of_ble_eq_true rfl, Nat.le_of_ble_eq_true rfl⟩) hS (fun q _ h => hFc q h) hFc (fun r3 u t H1 locs ht hvm hw hB hz1 hk1 hS => ?_)
      obtain ⟨hP1, hK1, hD1⟩ := hB
      rw [ht] at hP1
      have hK1 := va_K.moved hvm.symm hK1
      try dsimp only at hw
      obtain ⟨hP, hD⟩ := va_join (wr := [(h0, .inr (8, [w0, w1, w2, w3, w4, w5, w6, w7, .ref qt, w9, w10, w11, w12])), (qt, .inr (7, [.ref qb, .int 0])), (qb, .inl (kb, 80, .inl fb))]) (w1 := []) hP hD [] [0, 1, 2] rfl rfl (by decide) (by decide) hk1 hFc hP1 hD1
      have hK := (hK.sub (tys' := [(kb, .int)]) [0] rfl).app hK1
      generalize H1 = H at hP hS ⊢
      have hP : va_P (dC, dI) vwCl [(h0, .inr (8, [w0, w1, w2, w3, w4, w5, w6, w7, .ref qt, w9, w10, w11, w12])), (qt, .inr (7, [.ref qb, .int 0])), (qb, .inl (kb, 80, .inl fb))] H := hP
      have hD : va_D A [(h0, .inr (8, [w0, w1, w2, w3, w4, w5, w6, w7, .ref qt, w9, w10, w11, w12])), (qt, .inr (7, [.ref qb, .int 0])), (qb, .inl (kb, 80, .inl fb))] := hD
      have hK : va_K (dC, dI) vwCl [(kb, .int)] s := hK
      rcases hw with ⟨e_r3, f_r3⟩ | ⟨e_r3, f_r3⟩
      · subst e_r3
        refine lv_if_eq (tgt := 51) hx hb dX9_feed_17 (by decide) (fun c4 => absurd c4 (by decide)) (fun c4 => ?_)
        refine lv_iload_n hx hb dX9_feed_20 rfl (lv_at hl 3 rfl) ?_
        have hPc := hP.sub (ws' := []) [] rfl
        have hDc := hD.sub (ws' := []) [] (by decide) rfl
        have hKc := hK.sub (tys' := []) [] rfl
        have hFc := va_free (wc := []) hD hS hA [] rfl
        refine va_calli (va_runS (As := [.int p2]) (rest := []) ⟨hx, hb, hml, hown, hts⟩ (c_X9_isByte l dC dI p2 H.size) (va_cwS 1 hts gX9_feed_X9_isByte rfl rfl rfl (by decide +kernel) ⟨Nat.le_of_ble_eq_true rfl, Nat.le_of_ble_eq_true rfl⟩) ⟨fun a U g mk q => by obtain ⟨q0, q1, qP, qK, qD⟩ := q; exact ⟨q0, q1, qP, va_K.moved (u := U) (U := U.calling g mk a) (Vm.Alike.refl U.vm) qK, qD⟩, fun U hU hW => ⟨rfl, by rw [hU], by rw [hU]; exact hPc, va_K.moved hW.alike hKc, hDc.weaken (fun _ _ _ _ => trivial)⟩⟩ rfl rfl hl.1 rfl (lv_room (Nat.le_of_ble_eq_true rfl)) dX9_feed_21 ⟨Nat.le_of_ble_eq_true rfl, Nat.le_of_ble_eq_true rfl⟩) hS (fun q _ h => hFc q h) hFc (fun r5 u t H1 locs ht hvm hw hB hz1 hk1 hS => ?_)
        obtain ⟨hP1, hK1, hD1⟩ := hB
        rw [ht] at hP1
        have hK1 := va_K.moved hvm.symm hK1
        try dsimp only at hw
        obtain ⟨hP, hD⟩ := va_join (wr := [(h0, .inr (8, [w0, w1, w2, w3, w4, w5, w6, w7, .ref qt, w9, w10, w11, w12])), (qt, .inr (7, [.ref qb, .int 0])), (qb, .inl (kb, 80, .inl fb))]) (w1 := []) hP hD [] [0, 1, 2] rfl rfl (by decide) (by decide) hk1 hFc hP1 hD1
        have hK := (hK.sub (tys' := [(kb, .int)]) [0] rfl).app hK1
        generalize H1 = H at hP hS ⊢
        have hP : va_P (dC, dI) vwCl [(h0, .inr (8, [w0, w1, w2, w3, w4, w5, w6, w7, .ref qt, w9, w10, w11, w12])), (qt, .inr (7, [.ref qb, .int 0])), (qb, .inl (kb, 80, .inl fb))] H := hP
        have hD : va_D A [(h0, .inr (8, [w0, w1, w2, w3, w4, w5, w6, w7, .ref qt, w9, w10, w11, w12])), (qt, .inr (7, [.ref qb, .int 0])), (qb, .inl (kb, 80, .inl fb))] := hD
        have hK : va_K (dC, dI) vwCl [(kb, .int)] s := hK
        rcases hw with ⟨e_r5, f_r5⟩ | ⟨e_r5, f_r5⟩
        · subst e_r5
          refine lv_if_eq (tgt := 51) hx hb dX9_feed_24 (by decide) (fun c6 => absurd c6 (by decide)) (fun c6 => ?_)
          refine lv_iload hx hb dX9_feed_27 (lv_at hl 4 rfl) ?_
          have hPc := hP.sub (ws' := []) [] rfl
          have hDc := hD.sub (ws' := []) [] (by decide) rfl
          have hKc := hK.sub (tys' := []) [] rfl
          have hFc := va_free (wc := []) hD hS hA [] rfl
          refine va_calli (va_runS (As := [.int p3]) (rest := []) ⟨hx, hb, hml, hown, hts⟩ (c_X9_isByte l dC dI p3 H.size) (va_cwS 1 hts gX9_feed_X9_isByte rfl rfl rfl (by decide +kernel) ⟨Nat.le_of_ble_eq_true rfl, Nat.le_of_ble_eq_true rfl⟩) ⟨fun a U g mk q => by obtain ⟨q0, q1, qP, qK, qD⟩ := q; exact ⟨q0, q1, qP, va_K.moved (u := U) (U := U.calling g mk a) (Vm.Alike.refl U.vm) qK, qD⟩, fun U hU hW => ⟨rfl, by rw [hU], by rw [hU]; exact hPc, va_K.moved hW.alike hKc, hDc.weaken (fun _ _ _ _ => trivial)⟩⟩ rfl rfl hl.1 rfl (lv_room (Nat.le_of_ble_eq_true rfl)) dX9_feed_29 ⟨Nat.le_of_ble_eq_true rfl, Nat.le_of_ble_eq_true rfl⟩) hS (fun q _ h => hFc q h) hFc (fun r7 u t H1 locs ht hvm hw hB hz1 hk1 hS => ?_)
          obtain ⟨hP1, hK1, hD1⟩ := hB
          rw [ht] at hP1
          have hK1 := va_K.moved hvm.symm hK1
          try dsimp only at hw
          obtain ⟨hP, hD⟩ := va_join (wr := [(h0, .inr (8, [w0, w1, w2, w3, w4, w5, w6, w7, .ref qt, w9, w10, w11, w12])), (qt, .inr (7, [.ref qb, .int 0])), (qb, .inl (kb, 80, .inl fb))]) (w1 := []) hP hD [] [0, 1, 2] rfl rfl (by decide) (by decide) hk1 hFc hP1 hD1
          have hK := (hK.sub (tys' := [(kb, .int)]) [0] rfl).app hK1
          generalize H1 = H at hP hS ⊢
          have hP : va_P (dC, dI) vwCl [(h0, .inr (8, [w0, w1, w2, w3, w4, w5, w6, w7, .ref qt, w9, w10, w11, w12])), (qt, .inr (7, [.ref qb, .int 0])), (qb, .inl (kb, 80, .inl fb))] H := hP
          have hD : va_D A [(h0, .inr (8, [w0, w1, w2, w3, w4, w5, w6, w7, .ref qt, w9, w10, w11, w12])), (qt, .inr (7, [.ref qb, .int 0])), (qb, .inl (kb, 80, .inl fb))] := hD
          have hK : va_K (dC, dI) vwCl [(kb, .int)] s := hK
          rcases hw with ⟨e_r7, f_r7⟩ | ⟨e_r7, f_r7⟩
          · subst e_r7
            refine lv_if_eq (tgt := 51) hx hb dX9_feed_32 (by decide) (fun c8 => absurd c8 (by decide)) (fun c8 => ?_)
            refine lv_iload hx hb dX9_feed_35 (lv_at hl 5 rfl) ?_
            have hPc := hP.sub (ws' := []) [] rfl
            have hDc := hD.sub (ws' := []) [] (by decide) rfl
            have hKc := hK.sub (tys' := []) [] rfl
            have hFc := va_free (wc := []) hD hS hA [] rfl
            refine va_calli (va_runS (As := [.int p4]) (rest := []) ⟨hx, hb, hml, hown, hts⟩ (c_X9_isByte l dC dI p4 H.size) (va_cwS 1 hts gX9_feed_X9_isByte rfl rfl rfl (by decide +kernel) ⟨Nat.le_of_ble_eq_true rfl, Nat.le_of_ble_eq_true rfl⟩) ⟨fun a U g mk q => by obtain ⟨q0, q1, qP, qK, qD⟩ := q; exact ⟨q0, q1, qP, va_K.moved (u := U) (U := U.calling g mk a) (Vm.Alike.refl U.vm) qK, qD⟩, fun U hU hW => ⟨rfl, by rw [hU], by rw [hU]; exact hPc, va_K.moved hW.alike hKc, hDc.weaken (fun _ _ _ _ => trivial)⟩⟩ rfl rfl hl.1 rfl (lv_room (Nat.le_of_ble_eq_true rfl)) dX9_feed_37 ⟨Nat.le_of_ble_eq_true rfl, Nat.le_of_ble_eq_true rfl⟩) hS (fun q _ h => hFc q h) hFc (fun r9 u t H1 locs ht hvm hw hB hz1 hk1 hS => ?_)
            obtain ⟨hP1, hK1, hD1⟩ := hB
            rw [ht] at hP1
            have hK1 := va_K.moved hvm.symm hK1
            try dsimp only at hw
            obtain ⟨hP, hD⟩ := va_join (wr := [(h0, .inr (8, [w0, w1, w2, w3, w4, w5, w6, w7, .ref qt, w9, w10, w11, w12])), (qt, .inr (7, [.ref qb, .int 0])), (qb, .inl (kb, 80, .inl fb))]) (w1 := []) hP hD [] [0, 1, 2] rfl rfl (by decide) (by decide) hk1 hFc hP1 hD1
            have hK := (hK.sub (tys' := [(kb, .int)]) [0] rfl).app hK1
            generalize H1 = H at hP hS ⊢
            have hP : va_P (dC, dI) vwCl [(h0, .inr (8, [w0, w1, w2, w3, w4, w5, w6, w7, .ref qt, w9, w10, w11, w12])), (qt, .inr (7, [.ref qb, .int 0])), (qb, .inl (kb, 80, .inl fb))] H := hP
            have hD : va_D A [(h0, .inr (8, [w0, w1, w2, w3, w4, w5, w6, w7, .ref qt, w9, w10, w11, w12])), (qt, .inr (7, [.ref qb, .int 0])), (qb, .inl (kb, 80, .inl fb))] := hD
            have hK : va_K (dC, dI) vwCl [(kb, .int)] s := hK
            rcases hw with ⟨e_r9, f_r9⟩ | ⟨e_r9, f_r9⟩
            · subst e_r9
              refine lv_if_eq (tgt := 51) hx hb dX9_feed_40 (by decide) (fun c10 => absurd c10 (by decide)) (fun c10 => ?_)
              refine lv_iload hx hb dX9_feed_43 (lv_at hl 6 rfl) ?_
              have hPc := hP.sub (ws' := []) [] rfl
              have hDc := hD.sub (ws' := []) [] (by decide) rfl
              have hKc := hK.sub (tys' := []) [] rfl
              have hFc := va_free (wc := []) hD hS hA [] rfl
              refine va_calli (va_runS (As := [.int p5]) (rest := []) ⟨hx, hb, hml, hown, hts⟩ (c_X9_isByte l dC dI p5 H.size) (va_cwS 1 hts gX9_feed_X9_isByte rfl rfl rfl (by decide +kernel) ⟨Nat.le_of_ble_eq_true rfl, Nat.le_of_ble_eq_true rfl⟩) ⟨fun a U g mk q => by obtain ⟨q0, q1, qP, qK, qD⟩ := q; exact ⟨q0, q1, qP, va_K.moved (u := U) (U := U.calling g mk a) (Vm.Alike.refl U.vm) qK, qD⟩, fun U hU hW => ⟨rfl, by rw [hU], by rw [hU]; exact hPc, va_K.moved hW.alike hKc, hDc.weaken (fun _ _ _ _ => trivial)⟩⟩ rfl rfl hl.1 rfl (lv_room (Nat.le_of_ble_eq_true rfl)) dX9_feed_45 ⟨Nat.le_of_ble_eq_true rfl, Nat.le_of_ble_eq_true rfl⟩) hS (fun q _ h => hFc q h) hFc (fun r11 u t H1 locs ht hvm hw hB hz1 hk1 hS => ?_)
              obtain ⟨hP1, hK1, hD1⟩ := hB
              rw [ht] at hP1
              have hK1 := va_K.moved hvm.symm hK1
              try dsimp only at hw
              obtain ⟨hP, hD⟩ := va_join (wr := [(h0, .inr (8, [w0, w1, w2, w3, w4, w5, w6, w7, .ref qt, w9, w10, w11, w12])), (qt, .inr (7, [.ref qb, .int 0])), (qb, .inl (kb, 80, .inl fb))]) (w1 := []) hP hD [] [0, 1, 2] rfl rfl (by decide) (by decide) hk1 hFc hP1 hD1
              have hK := (hK.sub (tys' := [(kb, .int)]) [0] rfl).app hK1
              generalize H1 = H at hP hS ⊢
              have hP : va_P (dC, dI) vwCl [(h0, .inr (8, [w0, w1, w2, w3, w4, w5, w6, w7, .ref qt, w9, w10, w11, w12])), (qt, .inr (7, [.ref qb, .int 0])), (qb, .inl (kb, 80, .inl fb))] H := hP
              have hD : va_D A [(h0, .inr (8, [w0, w1, w2, w3, w4, w5, w6, w7, .ref qt, w9, w10, w11, w12])), (qt, .inr (7, [.ref qb, .int 0])), (qb, .inl (kb, 80, .inl fb))] := hD
              have hK : va_K (dC, dI) vwCl [(kb, .int)] s := hK
              rcases hw with ⟨e_r11, f_r11⟩ | ⟨e_r11, f_r11⟩
              · subst e_r11
                refine lv_if_ne (tgt := 54) hx hb dX9_feed_48 (by decide) (fun c12 => ?_) (fun c12 => absurd c12 (by decide))
                refine lv_aload_n hx hb dX9_feed_54 rfl (lv_at hl 0 rfl) ?_
                refine va_get (D := (dC, dI)) (ci := 8) (v := .ref qt) (C := RX9) (T := TX9) (N := 13) hx hb hts in_X9_feed_X9 hown hK hP 0 rfl rfl 8 (by decide) (hts (.fieldLink RX9 54 "ClearingGates" "tape" "LClearingGates$Tape;") (List.mem_of_getElem? (i := 1) (by decide +kernel))) (fun _ h9 => h9) rfl dX9_feed_55 ?_
                refine va_get (D := (dC, dI)) (ci := 7) (v := .int 0) (C := RX8) (T := TX8) (N := 2) hx hb hts in_X9_feed_X8 hown hK hP 1 rfl rfl 1 (by decide) (hts (.fieldLink RX9 160 "ClearingGates$Tape" "size" "I") (List.mem_of_getElem? (i := 2) (by decide +kernel))) (fun _ h9 => h9) rfl dX9_feed_58 ?_
                refine lv_iload_n hx hb dX9_feed_61 rfl (lv_at hl 1 rfl) ?_
                refine lv_iadd hx hb dX9_feed_62 ?_
                refine lv_topi (fun z13 e_z13 => ?_)
                have t_z13 := i_add e_z13 (by omega) (by omega)
                refine lv_bipush (v := 80) hx hb dX9_feed_63 (by decide) ?_
                refine lv_icmp_le (tgt := 71) hx hb dX9_feed_65 (by decide) (fun c14 => ?_) (fun c14 => ?_)
                · skip
                  have f_c14 := i_le c14
                  refine lv_aload_n hx hb dX9_feed_71 rfl (lv_at hl 0 rfl) ?_
                  refine va_get (D := (dC, dI)) (ci := 8) (v := .ref qt) (C := RX9) (T := TX9) (N := 13) hx hb hts in_X9_feed_X9 hown hK hP 0 rfl rfl 8 (by decide) (hts (.fieldLink RX9 54 "ClearingGates" "tape" "LClearingGates$Tape;") (List.mem_of_getElem? (i := 1) (by decide +kernel))) (fun _ h9 => h9) rfl dX9_feed_72 ?_
                  refine lv_iload_n hx hb dX9_feed_75 rfl (lv_at hl 2 rfl) ?_
                  have hPc := hP.sub (ws' := [(qt, .inr (7, [.ref qb, .int 0])), (qb, .inl (kb, 80, .inl fb))]) [1, 2] rfl
                  have hDc := hD.sub (ws' := [(qt, .inr (7, [.ref qb, .int 0])), (qb, .inl (kb, 80, .inl fb))]) [1, 2] (by decide) rfl
                  have hKc := hK.sub (tys' := [(kb, .int)]) [0] rfl
                  have hFc := va_free (wc := [(qt, .inr (7, [.ref qb, .int 0])), (qb, .inl (kb, 80, .inl fb))]) hD hS hA [1, 2] rfl
                  refine va_callv (va_runV (As := [.int p1]) (rest := []) ⟨hx, hb, hml, hown, hts⟩ (c_X8_add l dC dI qt p1 qb 0 kb fb 1 H.size (by decide) (by decide) (by decide)) (cwV 1 hts gX9_feed_X8_add rfl rfl rfl (by decide +kernel) ⟨Nat.le_of_ble_eq_true rfl, Nat.le_of_ble_eq_true rfl⟩) ⟨fun a U g mk q => by obtain ⟨q0, q1, qP, qK, qD⟩ := q; exact ⟨q0, q1, qP, va_K.moved (u := U) (U := U.calling g mk a) (Vm.Alike.refl U.vm) qK, qD⟩, va_recv hKc hPc (ci := 7) (q0 := 0) rfl rfl, fun U hU hW => ⟨rfl, by rw [hU], by rw [hU]; exact hPc, va_K.moved hW.alike hKc, hDc.weaken (fun _ _ _ _ => trivial)⟩⟩ rfl rfl hl.1 rfl (lv_room (Nat.le_of_ble_eq_true rfl)) dX9_feed_76 ⟨Nat.le_of_ble_eq_true rfl, Nat.le_of_ble_eq_true rfl⟩) hS (fun q _ h => hFc q h) hFc (fun u t H1 locs ht hvm hw hB hz1 hk1 hS => ?_)
                  obtain ⟨u16, rfl⟩ : ∃ z, z = u := ⟨_, rfl⟩
                  obtain ⟨hP1, hK1, hD1⟩ := hB
                  rw [ht] at hP1
                  have hK1 := va_K.moved hvm.symm hK1
                  try dsimp only at hw
                  obtain ⟨hP, hD⟩ := va_join (wr := [(h0, .inr (8, [w0, w1, w2, w3, w4, w5, w6, w7, .ref qt, w9, w10, w11, w12]))]) (w1 := [(qt, .inr (7, [.ref qb, .int 1])), (qb, .inl (kb, 80, .inl u16))]) hP hD [1, 2] [0] rfl rfl (by decide) (by decide) hk1 hFc hP1 hD1
                  have hK := (hK.sub (tys' := []) [] rfl).app hK1
                  generalize H1 = H at hP hS ⊢
                  have hP : va_P (dC, dI) vwCl [(h0, .inr (8, [w0, w1, w2, w3, w4, w5, w6, w7, .ref qt, w9, w10, w11, w12])), (qt, .inr (7, [.ref qb, .int 1])), (qb, .inl (kb, 80, .inl u16))] H := hP
                  have hD : va_D A [(h0, .inr (8, [w0, w1, w2, w3, w4, w5, w6, w7, .ref qt, w9, w10, w11, w12])), (qt, .inr (7, [.ref qb, .int 1])), (qb, .inl (kb, 80, .inl u16))] := hD
                  have hK : va_K (dC, dI) vwCl [(kb, .int)] s := hK
                  refine lv_iload_n hx hb dX9_feed_79 rfl (lv_at hl 1 rfl) ?_
                  refine lv_iconst (v := 1) hx hb dX9_feed_80 (by decide) ?_
                  refine lv_icmp_le (tgt := 92) hx hb dX9_feed_81 (by decide) (fun c17 => ?_) (fun c17 => ?_)
                  · skip
                    have f_c17 := i_le c17
                    refine lv_iload_n hx hb dX9_feed_92 rfl (lv_at hl 1 rfl) ?_
                    refine lv_iconst (v := 2) hx hb dX9_feed_93 (by decide) ?_
                    refine lv_icmp_le (tgt := 106) hx hb dX9_feed_94 (by decide) (fun c18 => ?_) (fun c18 => ?_)
                    · skip
                      have f_c18 := i_le c18
                      refine lv_iload_n hx hb dX9_feed_106 rfl (lv_at hl 1 rfl) ?_
                      refine lv_iconst (v := 3) hx hb dX9_feed_107 (by decide) ?_
                      refine lv_icmp_le (tgt := 120) hx hb dX9_feed_108 (by decide) (fun c19 => ?_) (fun c19 => ?_)
                      · skip
                        have f_c19 := i_le c19
                        refine lv_iload_n hx hb dX9_feed_120 rfl (lv_at hl 1 rfl) ?_
                        refine lv_iconst (v := 4) hx hb dX9_feed_121 (by decide) ?_
                        refine lv_icmp_le (tgt := 134) hx hb dX9_feed_122 (by decide) (fun c20 => ?_) (fun c20 => ?_)
                        · skip
                          have f_c20 := i_le c20
                          refine lv_aload_n hx hb dX9_feed_134 rfl (lv_at hl 0 rfl) ?_
                          refine va_get (D := (dC, dI)) (ci := 8) (v := .ref qt) (C := RX9) (T := TX9) (N := 13) hx hb hts in_X9_feed_X9 hown hK hP 0 rfl rfl 8 (by decide) (hts (.fieldLink RX9 54 "ClearingGates" "tape" "LClearingGates$Tape;") (List.mem_of_getElem? (i := 1) (by decide +kernel))) (fun _ h9 => h9) rfl dX9_feed_135 ?_
                          refine va_get (D := (dC, dI)) (ci := 7) (v := .int 1) (C := RX8) (T := TX8) (N := 2) hx hb hts in_X9_feed_X8 hown hK hP 1 rfl rfl 1 (by decide) (hts (.fieldLink RX9 160 "ClearingGates$Tape" "size" "I") (List.mem_of_getElem? (i := 2) (by decide +kernel))) (fun _ h9 => h9) rfl dX9_feed_138 ?_
                          have hP9 := hP.sub (ws' := []) [] rfl
                          have hD9 := hD.sub (ws' := []) [] (by decide) rfl
                          have hK9 := hK.sub (tys' := []) [] rfl
                          exact W.iret (v := 1) hx hb hr (fun t ht hW => ⟨⟨1, (), rfl, Or.inl ⟨Int32.toInt_inj.mp (by omega), by omega⟩, by rw [ht]; exact hP9, va_K.moved hW.alike hK9, hD9⟩, hS.F ht⟩) hS.2.2 dX9_feed_141
                        · skip
                          have f_c20 := i_nle c20
                          refine lv_aload_n hx hb dX9_feed_125 rfl (lv_at hl 0 rfl) ?_
                          refine va_get (D := (dC, dI)) (ci := 8) (v := .ref qt) (C := RX9) (T := TX9) (N := 13) hx hb hts in_X9_feed_X9 hown hK hP 0 rfl rfl 8 (by decide) (hts (.fieldLink RX9 54 "ClearingGates" "tape" "LClearingGates$Tape;") (List.mem_of_getElem? (i := 1) (by decide +kernel))) (fun _ h9 => h9) rfl dX9_feed_126 ?_
                          refine lv_iload hx hb dX9_feed_129 (lv_at hl 6 rfl) ?_
                          have hPc := hP.sub (ws' := [(qt, .inr (7, [.ref qb, .int 1])), (qb, .inl (kb, 80, .inl u16))]) [1, 2] rfl
                          have hDc := hD.sub (ws' := [(qt, .inr (7, [.ref qb, .int 1])), (qb, .inl (kb, 80, .inl u16))]) [1, 2] (by decide) rfl
                          have hKc := hK.sub (tys' := [(kb, .int)]) [0] rfl
                          have hFc := va_free (wc := [(qt, .inr (7, [.ref qb, .int 1])), (qb, .inl (kb, 80, .inl u16))]) hD hS hA [1, 2] rfl
                          refine va_callv (va_runV (As := [.int p5]) (rest := []) ⟨hx, hb, hml, hown, hts⟩ (c_X8_add l dC dI qt p5 qb 1 kb u16 2 H.size (by decide) (by decide) (by decide)) (cwV 1 hts gX9_feed_X8_add rfl rfl rfl (by decide +kernel) ⟨Nat.le_of_ble_eq_true rfl, Nat.le_of_ble_eq_true rfl⟩) ⟨fun a U g mk q => by obtain ⟨q0, q1, qP, qK, qD⟩ := q; exact ⟨q0, q1, qP, va_K.moved (u := U) (U := U.calling g mk a) (Vm.Alike.refl U.vm) qK, qD⟩, va_recv hKc hPc (ci := 7) (q0 := 0) rfl rfl, fun U hU hW => ⟨rfl, by rw [hU], by rw [hU]; exact hPc, va_K.moved hW.alike hKc, hDc.weaken (fun _ _ _ _ => trivial)⟩⟩ rfl rfl hl.1 rfl (lv_room (Nat.le_of_ble_eq_true rfl)) dX9_feed_131 ⟨Nat.le_of_ble_eq_true rfl, Nat.le_of_ble_eq_true rfl⟩) hS (fun q _ h => hFc q h) hFc (fun u t H1 locs ht hvm hw hB hz1 hk1 hS => ?_)
                          obtain ⟨u22, rfl⟩ : ∃ z, z = u := ⟨_, rfl⟩
                          obtain ⟨hP1, hK1, hD1⟩ := hB
                          rw [ht] at hP1
                          have hK1 := va_K.moved hvm.symm hK1
                          try dsimp only at hw
                          obtain ⟨hP, hD⟩ := va_join (wr := [(h0, .inr (8, [w0, w1, w2, w3, w4, w5, w6, w7, .ref qt, w9, w10, w11, w12]))]) (w1 := [(qt, .inr (7, [.ref qb, .int 2])), (qb, .inl (kb, 80, .inl u22))]) hP hD [1, 2] [0] rfl rfl (by decide) (by decide) hk1 hFc hP1 hD1
                          have hK := (hK.sub (tys' := []) [] rfl).app hK1
                          generalize H1 = H at hP hS ⊢
                          have hP : va_P (dC, dI) vwCl [(h0, .inr (8, [w0, w1, w2, w3, w4, w5, w6, w7, .ref qt, w9, w10, w11, w12])), (qt, .inr (7, [.ref qb, .int 2])), (qb, .inl (kb, 80, .inl u22))] H := hP
                          have hD : va_D A [(h0, .inr (8, [w0, w1, w2, w3, w4, w5, w6, w7, .ref qt, w9, w10, w11, w12])), (qt, .inr (7, [.ref qb, .int 2])), (qb, .inl (kb, 80, .inl u22))] := hD
                          have hK : va_K (dC, dI) vwCl [(kb, .int)] s := hK
                          refine lv_aload_n hx hb dX9_feed_134 rfl (lv_at hl 0 rfl) ?_
                          refine va_get (D := (dC, dI)) (ci := 8) (v := .ref qt) (C := RX9) (T := TX9) (N := 13) hx hb hts in_X9_feed_X9 hown hK hP 0 rfl rfl 8 (by decide) (hts (.fieldLink RX9 54 "ClearingGates" "tape" "LClearingGates$Tape;") (List.mem_of_getElem? (i := 1) (by decide +kernel))) (fun _ h9 => h9) rfl dX9_feed_135 ?_
                          refine va_get (D := (dC, dI)) (ci := 7) (v := .int 2) (C := RX8) (T := TX8) (N := 2) hx hb hts in_X9_feed_X8 hown hK hP 1 rfl rfl 1 (by decide) (hts (.fieldLink RX9 160 "ClearingGates$Tape" "size" "I") (List.mem_of_getElem? (i := 2) (by decide +kernel))) (fun _ h9 => h9) rfl dX9_feed_138 ?_
                          have hP9 := hP.sub (ws' := []) [] rfl
                          have hD9 := hD.sub (ws' := []) [] (by decide) rfl
                          have hK9 := hK.sub (tys' := []) [] rfl
                          exact W.iret (v := 2) hx hb hr (fun t ht hW => ⟨⟨2, (), rfl, Or.inl ⟨Int32.toInt_inj.mp (by omega), by omega⟩, by rw [ht]; exact hP9, va_K.moved hW.alike hK9, hD9⟩, hS.F ht⟩) hS.2.2 dX9_feed_141
                      · skip
                        have f_c19 := i_nle c19
                        refine lv_aload_n hx hb dX9_feed_111 rfl (lv_at hl 0 rfl) ?_
                        refine va_get (D := (dC, dI)) (ci := 8) (v := .ref qt) (C := RX9) (T := TX9) (N := 13) hx hb hts in_X9_feed_X9 hown hK hP 0 rfl rfl 8 (by decide) (hts (.fieldLink RX9 54 "ClearingGates" "tape" "LClearingGates$Tape;") (List.mem_of_getElem? (i := 1) (by decide +kernel))) (fun _ h9 => h9) rfl dX9_feed_112 ?_
                        refine lv_iload hx hb dX9_feed_115 (lv_at hl 5 rfl) ?_
                        have hPc := hP.sub (ws' := [(qt, .inr (7, [.ref qb, .int 1])), (qb, .inl (kb, 80, .inl u16))]) [1, 2] rfl
                        have hDc := hD.sub (ws' := [(qt, .inr (7, [.ref qb, .int 1])), (qb, .inl (kb, 80, .inl u16))]) [1, 2] (by decide) rfl
                        have hKc := hK.sub (tys' := [(kb, .int)]) [0] rfl
                        have hFc := va_free (wc := [(qt, .inr (7, [.ref qb, .int 1])), (qb, .inl (kb, 80, .inl u16))]) hD hS hA [1, 2] rfl
                        refine va_callv (va_runV (As := [.int p4]) (rest := []) ⟨hx, hb, hml, hown, hts⟩ (c_X8_add l dC dI qt p4 qb 1 kb u16 2 H.size (by decide) (by decide) (by decide)) (cwV 1 hts gX9_feed_X8_add rfl rfl rfl (by decide +kernel) ⟨Nat.le_of_ble_eq_true rfl, Nat.le_of_ble_eq_true rfl⟩) ⟨fun a U g mk q => by obtain ⟨q0, q1, qP, qK, qD⟩ := q; exact ⟨q0, q1, qP, va_K.moved (u := U) (U := U.calling g mk a) (Vm.Alike.refl U.vm) qK, qD⟩, va_recv hKc hPc (ci := 7) (q0 := 0) rfl rfl, fun U hU hW => ⟨rfl, by rw [hU], by rw [hU]; exact hPc, va_K.moved hW.alike hKc, hDc.weaken (fun _ _ _ _ => trivial)⟩⟩ rfl rfl hl.1 rfl (lv_room (Nat.le_of_ble_eq_true rfl)) dX9_feed_117 ⟨Nat.le_of_ble_eq_true rfl, Nat.le_of_ble_eq_true rfl⟩) hS (fun q _ h => hFc q h) hFc (fun u t H1 locs ht hvm hw hB hz1 hk1 hS => ?_)
                        obtain ⟨u24, rfl⟩ : ∃ z, z = u := ⟨_, rfl⟩
                        obtain ⟨hP1, hK1, hD1⟩ := hB
                        rw [ht] at hP1
                        have hK1 := va_K.moved hvm.symm hK1
                        try dsimp only at hw
                        obtain ⟨hP, hD⟩ := va_join (wr := [(h0, .inr (8, [w0, w1, w2, w3, w4, w5, w6, w7, .ref qt, w9, w10, w11, w12]))]) (w1 := [(qt, .inr (7, [.ref qb, .int 2])), (qb, .inl (kb, 80, .inl u24))]) hP hD [1, 2] [0] rfl rfl (by decide) (by decide) hk1 hFc hP1 hD1
                        have hK := (hK.sub (tys' := []) [] rfl).app hK1
                        generalize H1 = H at hP hS ⊢
                        have hP : va_P (dC, dI) vwCl [(h0, .inr (8, [w0, w1, w2, w3, w4, w5, w6, w7, .ref qt, w9, w10, w11, w12])), (qt, .inr (7, [.ref qb, .int 2])), (qb, .inl (kb, 80, .inl u24))] H := hP
                        have hD : va_D A [(h0, .inr (8, [w0, w1, w2, w3, w4, w5, w6, w7, .ref qt, w9, w10, w11, w12])), (qt, .inr (7, [.ref qb, .int 2])), (qb, .inl (kb, 80, .inl u24))] := hD
                        have hK : va_K (dC, dI) vwCl [(kb, .int)] s := hK
                        refine lv_iload_n hx hb dX9_feed_120 rfl (lv_at hl 1 rfl) ?_
                        refine lv_iconst (v := 4) hx hb dX9_feed_121 (by decide) ?_
                        refine lv_icmp_le (tgt := 134) hx hb dX9_feed_122 (by decide) (fun c25 => ?_) (fun c25 => ?_)
                        · skip
                          have f_c25 := i_le c25
                          refine lv_aload_n hx hb dX9_feed_134 rfl (lv_at hl 0 rfl) ?_
                          refine va_get (D := (dC, dI)) (ci := 8) (v := .ref qt) (C := RX9) (T := TX9) (N := 13) hx hb hts in_X9_feed_X9 hown hK hP 0 rfl rfl 8 (by decide) (hts (.fieldLink RX9 54 "ClearingGates" "tape" "LClearingGates$Tape;") (List.mem_of_getElem? (i := 1) (by decide +kernel))) (fun _ h9 => h9) rfl dX9_feed_135 ?_
                          refine va_get (D := (dC, dI)) (ci := 7) (v := .int 2) (C := RX8) (T := TX8) (N := 2) hx hb hts in_X9_feed_X8 hown hK hP 1 rfl rfl 1 (by decide) (hts (.fieldLink RX9 160 "ClearingGates$Tape" "size" "I") (List.mem_of_getElem? (i := 2) (by decide +kernel))) (fun _ h9 => h9) rfl dX9_feed_138 ?_
                          have hP9 := hP.sub (ws' := []) [] rfl
                          have hD9 := hD.sub (ws' := []) [] (by decide) rfl
                          have hK9 := hK.sub (tys' := []) [] rfl
                          exact W.iret (v := 2) hx hb hr (fun t ht hW => ⟨⟨2, (), rfl, Or.inl ⟨Int32.toInt_inj.mp (by omega), by omega⟩, by rw [ht]; exact hP9, va_K.moved hW.alike hK9, hD9⟩, hS.F ht⟩) hS.2.2 dX9_feed_141
                        · skip
                          have f_c25 := i_nle c25
                          refine lv_aload_n hx hb dX9_feed_125 rfl (lv_at hl 0 rfl) ?_
                          refine va_get (D := (dC, dI)) (ci := 8) (v := .ref qt) (C := RX9) (T := TX9) (N := 13) hx hb hts in_X9_feed_X9 hown hK hP 0 rfl rfl 8 (by decide) (hts (.fieldLink RX9 54 "ClearingGates" "tape" "LClearingGates$Tape;") (List.mem_of_getElem? (i := 1) (by decide +kernel))) (fun _ h9 => h9) rfl dX9_feed_126 ?_
                          refine lv_iload hx hb dX9_feed_129 (lv_at hl 6 rfl) ?_
                          have hPc := hP.sub (ws' := [(qt, .inr (7, [.ref qb, .int 2])), (qb, .inl (kb, 80, .inl u24))]) [1, 2] rfl
                          have hDc := hD.sub (ws' := [(qt, .inr (7, [.ref qb, .int 2])), (qb, .inl (kb, 80, .inl u24))]) [1, 2] (by decide) rfl
                          have hKc := hK.sub (tys' := [(kb, .int)]) [0] rfl
                          have hFc := va_free (wc := [(qt, .inr (7, [.ref qb, .int 2])), (qb, .inl (kb, 80, .inl u24))]) hD hS hA [1, 2] rfl
                          refine va_callv (va_runV (As := [.int p5]) (rest := []) ⟨hx, hb, hml, hown, hts⟩ (c_X8_add l dC dI qt p5 qb 2 kb u24 3 H.size (by decide) (by decide) (by decide)) (cwV 1 hts gX9_feed_X8_add rfl rfl rfl (by decide +kernel) ⟨Nat.le_of_ble_eq_true rfl, Nat.le_of_ble_eq_true rfl⟩) ⟨fun a U g mk q => by obtain ⟨q0, q1, qP, qK, qD⟩ := q; exact ⟨q0, q1, qP, va_K.moved (u := U) (U := U.calling g mk a) (Vm.Alike.refl U.vm) qK, qD⟩, va_recv hKc hPc (ci := 7) (q0 := 0) rfl rfl, fun U hU hW => ⟨rfl, by rw [hU], by rw [hU]; exact hPc, va_K.moved hW.alike hKc, hDc.weaken (fun _ _ _ _ => trivial)⟩⟩ rfl rfl hl.1 rfl (lv_room (Nat.le_of_ble_eq_true rfl)) dX9_feed_131 ⟨Nat.le_of_ble_eq_true rfl, Nat.le_of_ble_eq_true rfl⟩) hS (fun q _ h => hFc q h) hFc (fun u t H1 locs ht hvm hw hB hz1 hk1 hS => ?_)
                          obtain ⟨u27, rfl⟩ : ∃ z, z = u := ⟨_, rfl⟩
                          obtain ⟨hP1, hK1, hD1⟩ := hB
                          rw [ht] at hP1
                          have hK1 := va_K.moved hvm.symm hK1
                          try dsimp only at hw
                          obtain ⟨hP, hD⟩ := va_join (wr := [(h0, .inr (8, [w0, w1, w2, w3, w4, w5, w6, w7, .ref qt, w9, w10, w11, w12]))]) (w1 := [(qt, .inr (7, [.ref qb, .int 3])), (qb, .inl (kb, 80, .inl u27))]) hP hD [1, 2] [0] rfl rfl (by decide) (by decide) hk1 hFc hP1 hD1
                          have hK := (hK.sub (tys' := []) [] rfl).app hK1
                          generalize H1 = H at hP hS ⊢
                          have hP : va_P (dC, dI) vwCl [(h0, .inr (8, [w0, w1, w2, w3, w4, w5, w6, w7, .ref qt, w9, w10, w11, w12])), (qt, .inr (7, [.ref qb, .int 3])), (qb, .inl (kb, 80, .inl u27))] H := hP
                          have hD : va_D A [(h0, .inr (8, [w0, w1, w2, w3, w4, w5, w6, w7, .ref qt, w9, w10, w11, w12])), (qt, .inr (7, [.ref qb, .int 3])), (qb, .inl (kb, 80, .inl u27))] := hD
                          have hK : va_K (dC, dI) vwCl [(kb, .int)] s := hK
                          refine lv_aload_n hx hb dX9_feed_134 rfl (lv_at hl 0 rfl) ?_
                          refine va_get (D := (dC, dI)) (ci := 8) (v := .ref qt) (C := RX9) (T := TX9) (N := 13) hx hb hts in_X9_feed_X9 hown hK hP 0 rfl rfl 8 (by decide) (hts (.fieldLink RX9 54 "ClearingGates" "tape" "LClearingGates$Tape;") (List.mem_of_getElem? (i := 1) (by decide +kernel))) (fun _ h9 => h9) rfl dX9_feed_135 ?_
                          refine va_get (D := (dC, dI)) (ci := 7) (v := .int 3) (C := RX8) (T := TX8) (N := 2) hx hb hts in_X9_feed_X8 hown hK hP 1 rfl rfl 1 (by decide) (hts (.fieldLink RX9 160 "ClearingGates$Tape" "size" "I") (List.mem_of_getElem? (i := 2) (by decide +kernel))) (fun _ h9 => h9) rfl dX9_feed_138 ?_
                          have hP9 := hP.sub (ws' := []) [] rfl
                          have hD9 := hD.sub (ws' := []) [] (by decide) rfl
                          have hK9 := hK.sub (tys' := []) [] rfl
                          exact W.iret (v := 3) hx hb hr (fun t ht hW => ⟨⟨3, (), rfl, Or.inl ⟨Int32.toInt_inj.mp (by omega), by omega⟩, by rw [ht]; exact hP9, va_K.moved hW.alike hK9, hD9⟩, hS.F ht⟩) hS.2.2 dX9_feed_141
                    · skip
                      have f_c18 := i_nle c18
                      refine lv_aload_n hx hb dX9_feed_97 rfl (lv_at hl 0 rfl) ?_
                      refine va_get (D := (dC, dI)) (ci := 8) (v := .ref qt) (C := RX9) (T := TX9) (N := 13) hx hb hts in_X9_feed_X9 hown hK hP 0 rfl rfl 8 (by decide) (hts (.fieldLink RX9 54 "ClearingGates" "tape" "LClearingGates$Tape;") (List.mem_of_getElem? (i := 1) (by decide +kernel))) (fun _ h9 => h9) rfl dX9_feed_98 ?_
                      refine lv_iload hx hb dX9_feed_101 (lv_at hl 4 rfl) ?_
                      have hPc := hP.sub (ws' := [(qt, .inr (7, [.ref qb, .int 1])), (qb, .inl (kb, 80, .inl u16))]) [1, 2] rfl
                      have hDc := hD.sub (ws' := [(qt, .inr (7, [.ref qb, .int 1])), (qb, .inl (kb, 80, .inl u16))]) [1, 2] (by decide) rfl
                      have hKc := hK.sub (tys' := [(kb, .int)]) [0] rfl
                      have hFc := va_free (wc := [(qt, .inr (7, [.ref qb, .int 1])), (qb, .inl (kb, 80, .inl u16))]) hD hS hA [1, 2] rfl
                      refine va_callv (va_runV (As := [.int p3]) (rest := []) ⟨hx, hb, hml, hown, hts⟩ (c_X8_add l dC dI qt p3 qb 1 kb u16 2 H.size (by decide) (by decide) (by decide)) (cwV 1 hts gX9_feed_X8_add rfl rfl rfl (by decide +kernel) ⟨Nat.le_of_ble_eq_true rfl, Nat.le_of_ble_eq_true rfl⟩) ⟨fun a U g mk q => by obtain ⟨q0, q1, qP, qK, qD⟩ := q; exact ⟨q0, q1, qP, va_K.moved (u := U) (U := U.calling g mk a) (Vm.Alike.refl U.vm) qK, qD⟩, va_recv hKc hPc (ci := 7) (q0 := 0) rfl rfl, fun U hU hW => ⟨rfl, by rw [hU], by rw [hU]; exact hPc, va_K.moved hW.alike hKc, hDc.weaken (fun _ _ _ _ => trivial)⟩⟩ rfl rfl hl.1 rfl (lv_room (Nat.le_of_ble_eq_true rfl)) dX9_feed_103 ⟨Nat.le_of_ble_eq_true rfl, Nat.le_of_ble_eq_true rfl⟩) hS (fun q _ h => hFc q h) hFc (fun u t H1 locs ht hvm hw hB hz1 hk1 hS => ?_)
                      obtain ⟨u29, rfl⟩ : ∃ z, z = u := ⟨_, rfl⟩
                      obtain ⟨hP1, hK1, hD1⟩ := hB
                      rw [ht] at hP1
                      have hK1 := va_K.moved hvm.symm hK1
                      try dsimp only at hw
                      obtain ⟨hP, hD⟩ := va_join (wr := [(h0, .inr (8, [w0, w1, w2, w3, w4, w5, w6, w7, .ref qt, w9, w10, w11, w12]))]) (w1 := [(qt, .inr (7, [.ref qb, .int 2])), (qb, .inl (kb, 80, .inl u29))]) hP hD [1, 2] [0] rfl rfl (by decide) (by decide) hk1 hFc hP1 hD1
                      have hK := (hK.sub (tys' := []) [] rfl).app hK1
                      generalize H1 = H at hP hS ⊢
                      have hP : va_P (dC, dI) vwCl [(h0, .inr (8, [w0, w1, w2, w3, w4, w5, w6, w7, .ref qt, w9, w10, w11, w12])), (qt, .inr (7, [.ref qb, .int 2])), (qb, .inl (kb, 80, .inl u29))] H := hP
                      have hD : va_D A [(h0, .inr (8, [w0, w1, w2, w3, w4, w5, w6, w7, .ref qt, w9, w10, w11, w12])), (qt, .inr (7, [.ref qb, .int 2])), (qb, .inl (kb, 80, .inl u29))] := hD
                      have hK : va_K (dC, dI) vwCl [(kb, .int)] s := hK
                      refine lv_iload_n hx hb dX9_feed_106 rfl (lv_at hl 1 rfl) ?_
                      refine lv_iconst (v := 3) hx hb dX9_feed_107 (by decide) ?_
                      refine lv_icmp_le (tgt := 120) hx hb dX9_feed_108 (by decide) (fun c30 => ?_) (fun c30 => ?_)
                      · skip
                        have f_c30 := i_le c30
                        refine lv_iload_n hx hb dX9_feed_120 rfl (lv_at hl 1 rfl) ?_
                        refine lv_iconst (v := 4) hx hb dX9_feed_121 (by decide) ?_
                        refine lv_icmp_le (tgt := 134) hx hb dX9_feed_122 (by decide) (fun c31 => ?_) (fun c31 => ?_)
                        · skip
                          have f_c31 := i_le c31
                          refine lv_aload_n hx hb dX9_feed_134 rfl (lv_at hl 0 rfl) ?_
                          refine va_get (D := (dC, dI)) (ci := 8) (v := .ref qt) (C := RX9) (T := TX9) (N := 13) hx hb hts in_X9_feed_X9 hown hK hP 0 rfl rfl 8 (by decide) (hts (.fieldLink RX9 54 "ClearingGates" "tape" "LClearingGates$Tape;") (List.mem_of_getElem? (i := 1) (by decide +kernel))) (fun _ h9 => h9) rfl dX9_feed_135 ?_
                          refine va_get (D := (dC, dI)) (ci := 7) (v := .int 2) (C := RX8) (T := TX8) (N := 2) hx hb hts in_X9_feed_X8 hown hK hP 1 rfl rfl 1 (by decide) (hts (.fieldLink RX9 160 "ClearingGates$Tape" "size" "I") (List.mem_of_getElem? (i := 2) (by decide +kernel))) (fun _ h9 => h9) rfl dX9_feed_138 ?_
                          have hP9 := hP.sub (ws' := []) [] rfl
                          have hD9 := hD.sub (ws' := []) [] (by decide) rfl
                          have hK9 := hK.sub (tys' := []) [] rfl
                          exact W.iret (v := 2) hx hb hr (fun t ht hW => ⟨⟨2, (), rfl, Or.inl ⟨Int32.toInt_inj.mp (by omega), by omega⟩, by rw [ht]; exact hP9, va_K.moved hW.alike hK9, hD9⟩, hS.F ht⟩) hS.2.2 dX9_feed_141
                        · skip
                          have f_c31 := i_nle c31
                          refine lv_aload_n hx hb dX9_feed_125 rfl (lv_at hl 0 rfl) ?_
                          refine va_get (D := (dC, dI)) (ci := 8) (v := .ref qt) (C := RX9) (T := TX9) (N := 13) hx hb hts in_X9_feed_X9 hown hK hP 0 rfl rfl 8 (by decide) (hts (.fieldLink RX9 54 "ClearingGates" "tape" "LClearingGates$Tape;") (List.mem_of_getElem? (i := 1) (by decide +kernel))) (fun _ h9 => h9) rfl dX9_feed_126 ?_
                          refine lv_iload hx hb dX9_feed_129 (lv_at hl 6 rfl) ?_
                          have hPc := hP.sub (ws' := [(qt, .inr (7, [.ref qb, .int 2])), (qb, .inl (kb, 80, .inl u29))]) [1, 2] rfl
                          have hDc := hD.sub (ws' := [(qt, .inr (7, [.ref qb, .int 2])), (qb, .inl (kb, 80, .inl u29))]) [1, 2] (by decide) rfl
                          have hKc := hK.sub (tys' := [(kb, .int)]) [0] rfl
                          have hFc := va_free (wc := [(qt, .inr (7, [.ref qb, .int 2])), (qb, .inl (kb, 80, .inl u29))]) hD hS hA [1, 2] rfl
                          refine va_callv (va_runV (As := [.int p5]) (rest := []) ⟨hx, hb, hml, hown, hts⟩ (c_X8_add l dC dI qt p5 qb 2 kb u29 3 H.size (by decide) (by decide) (by decide)) (cwV 1 hts gX9_feed_X8_add rfl rfl rfl (by decide +kernel) ⟨Nat.le_of_ble_eq_true rfl, Nat.le_of_ble_eq_true rfl⟩) ⟨fun a U g mk q => by obtain ⟨q0, q1, qP, qK, qD⟩ := q; exact ⟨q0, q1, qP, va_K.moved (u := U) (U := U.calling g mk a) (Vm.Alike.refl U.vm) qK, qD⟩, va_recv hKc hPc (ci := 7) (q0 := 0) rfl rfl, fun U hU hW => ⟨rfl, by rw [hU], by rw [hU]; exact hPc, va_K.moved hW.alike hKc, hDc.weaken (fun _ _ _ _ => trivial)⟩⟩ rfl rfl hl.1 rfl (lv_room (Nat.le_of_ble_eq_true rfl)) dX9_feed_131 ⟨Nat.le_of_ble_eq_true rfl, Nat.le_of_ble_eq_true rfl⟩) hS (fun q _ h => hFc q h) hFc (fun u t H1 locs ht hvm hw hB hz1 hk1 hS => ?_)
                          obtain ⟨u33, rfl⟩ : ∃ z, z = u := ⟨_, rfl⟩
                          obtain ⟨hP1, hK1, hD1⟩ := hB
                          rw [ht] at hP1
                          have hK1 := va_K.moved hvm.symm hK1
                          try dsimp only at hw
                          obtain ⟨hP, hD⟩ := va_join (wr := [(h0, .inr (8, [w0, w1, w2, w3, w4, w5, w6, w7, .ref qt, w9, w10, w11, w12]))]) (w1 := [(qt, .inr (7, [.ref qb, .int 3])), (qb, .inl (kb, 80, .inl u33))]) hP hD [1, 2] [0] rfl rfl (by decide) (by decide) hk1 hFc hP1 hD1
                          have hK := (hK.sub (tys' := []) [] rfl).app hK1
                          generalize H1 = H at hP hS ⊢
                          have hP : va_P (dC, dI) vwCl [(h0, .inr (8, [w0, w1, w2, w3, w4, w5, w6, w7, .ref qt, w9, w10, w11, w12])), (qt, .inr (7, [.ref qb, .int 3])), (qb, .inl (kb, 80, .inl u33))] H := hP
                          have hD : va_D A [(h0, .inr (8, [w0, w1, w2, w3, w4, w5, w6, w7, .ref qt, w9, w10, w11, w12])), (qt, .inr (7, [.ref qb, .int 3])), (qb, .inl (kb, 80, .inl u33))] := hD
                          have hK : va_K (dC, dI) vwCl [(kb, .int)] s := hK
                          refine lv_aload_n hx hb dX9_feed_134 rfl (lv_at hl 0 rfl) ?_
                          refine va_get (D := (dC, dI)) (ci := 8) (v := .ref qt) (C := RX9) (T := TX9) (N := 13) hx hb hts in_X9_feed_X9 hown hK hP 0 rfl rfl 8 (by decide) (hts (.fieldLink RX9 54 "ClearingGates" "tape" "LClearingGates$Tape;") (List.mem_of_getElem? (i := 1) (by decide +kernel))) (fun _ h9 => h9) rfl dX9_feed_135 ?_
                          refine va_get (D := (dC, dI)) (ci := 7) (v := .int 3) (C := RX8) (T := TX8) (N := 2) hx hb hts in_X9_feed_X8 hown hK hP 1 rfl rfl 1 (by decide) (hts (.fieldLink RX9 160 "ClearingGates$Tape" "size" "I") (List.mem_of_getElem? (i := 2) (by decide +kernel))) (fun _ h9 => h9) rfl dX9_feed_138 ?_
                          have hP9 := hP.sub (ws' := []) [] rfl
                          have hD9 := hD.sub (ws' := []) [] (by decide) rfl
                          have hK9 := hK.sub (tys' := []) [] rfl
                          exact W.iret (v := 3) hx hb hr (fun t ht hW => ⟨⟨3, (), rfl, Or.inl ⟨Int32.toInt_inj.mp (by omega), by omega⟩, by rw [ht]; exact hP9, va_K.moved hW.alike hK9, hD9⟩, hS.F ht⟩) hS.2.2 dX9_feed_141
                      · skip
                        have f_c30 := i_nle c30
                        refine lv_aload_n hx hb dX9_feed_111 rfl (lv_at hl 0 rfl) ?_
                        refine va_get (D := (dC, dI)) (ci := 8) (v := .ref qt) (C := RX9) (T := TX9) (N := 13) hx hb hts in_X9_feed_X9 hown hK hP 0 rfl rfl 8 (by decide) (hts (.fieldLink RX9 54 "ClearingGates" "tape" "LClearingGates$Tape;") (List.mem_of_getElem? (i := 1) (by decide +kernel))) (fun _ h9 => h9) rfl dX9_feed_112 ?_
                        refine lv_iload hx hb dX9_feed_115 (lv_at hl 5 rfl) ?_
                        have hPc := hP.sub (ws' := [(qt, .inr (7, [.ref qb, .int 2])), (qb, .inl (kb, 80, .inl u29))]) [1, 2] rfl
                        have hDc := hD.sub (ws' := [(qt, .inr (7, [.ref qb, .int 2])), (qb, .inl (kb, 80, .inl u29))]) [1, 2] (by decide) rfl
                        have hKc := hK.sub (tys' := [(kb, .int)]) [0] rfl
                        have hFc := va_free (wc := [(qt, .inr (7, [.ref qb, .int 2])), (qb, .inl (kb, 80, .inl u29))]) hD hS hA [1, 2] rfl
                        refine va_callv (va_runV (As := [.int p4]) (rest := []) ⟨hx, hb, hml, hown, hts⟩ (c_X8_add l dC dI qt p4 qb 2 kb u29 3 H.size (by decide) (by decide) (by decide)) (cwV 1 hts gX9_feed_X8_add rfl rfl rfl (by decide +kernel) ⟨Nat.le_of_ble_eq_true rfl, Nat.le_of_ble_eq_true rfl⟩) ⟨fun a U g mk q => by obtain ⟨q0, q1, qP, qK, qD⟩ := q; exact ⟨q0, q1, qP, va_K.moved (u := U) (U := U.calling g mk a) (Vm.Alike.refl U.vm) qK, qD⟩, va_recv hKc hPc (ci := 7) (q0 := 0) rfl rfl, fun U hU hW => ⟨rfl, by rw [hU], by rw [hU]; exact hPc, va_K.moved hW.alike hKc, hDc.weaken (fun _ _ _ _ => trivial)⟩⟩ rfl rfl hl.1 rfl (lv_room (Nat.le_of_ble_eq_true rfl)) dX9_feed_117 ⟨Nat.le_of_ble_eq_true rfl, Nat.le_of_ble_eq_true rfl⟩) hS (fun q _ h => hFc q h) hFc (fun u t H1 locs ht hvm hw hB hz1 hk1 hS => ?_)
                        obtain ⟨u35, rfl⟩ : ∃ z, z = u := ⟨_, rfl⟩
                        obtain ⟨hP1, hK1, hD1⟩ := hB
                        rw [ht] at hP1
                        have hK1 := va_K.moved hvm.symm hK1
                        try dsimp only at hw
                        obtain ⟨hP, hD⟩ := va_join (wr := [(h0, .inr (8, [w0, w1, w2, w3, w4, w5, w6, w7, .ref qt, w9, w10, w11, w12]))]) (w1 := [(qt, .inr (7, [.ref qb, .int 3])), (qb, .inl (kb, 80, .inl u35))]) hP hD [1, 2] [0] rfl rfl (by decide) (by decide) hk1 hFc hP1 hD1
                        have hK := (hK.sub (tys' := []) [] rfl).app hK1
                        generalize H1 = H at hP hS ⊢
                        have hP : va_P (dC, dI) vwCl [(h0, .inr (8, [w0, w1, w2, w3, w4, w5, w6, w7, .ref qt, w9, w10, w11, w12])), (qt, .inr (7, [.ref qb, .int 3])), (qb, .inl (kb, 80, .inl u35))] H := hP
                        have hD : va_D A [(h0, .inr (8, [w0, w1, w2, w3, w4, w5, w6, w7, .ref qt, w9, w10, w11, w12])), (qt, .inr (7, [.ref qb, .int 3])), (qb, .inl (kb, 80, .inl u35))] := hD
                        have hK : va_K (dC, dI) vwCl [(kb, .int)] s := hK
                        refine lv_iload_n hx hb dX9_feed_120 rfl (lv_at hl 1 rfl) ?_
                        refine lv_iconst (v := 4) hx hb dX9_feed_121 (by decide) ?_
                        refine lv_icmp_le (tgt := 134) hx hb dX9_feed_122 (by decide) (fun c36 => ?_) (fun c36 => ?_)
                        · skip
                          have f_c36 := i_le c36
                          refine lv_aload_n hx hb dX9_feed_134 rfl (lv_at hl 0 rfl) ?_
                          refine va_get (D := (dC, dI)) (ci := 8) (v := .ref qt) (C := RX9) (T := TX9) (N := 13) hx hb hts in_X9_feed_X9 hown hK hP 0 rfl rfl 8 (by decide) (hts (.fieldLink RX9 54 "ClearingGates" "tape" "LClearingGates$Tape;") (List.mem_of_getElem? (i := 1) (by decide +kernel))) (fun _ h9 => h9) rfl dX9_feed_135 ?_
                          refine va_get (D := (dC, dI)) (ci := 7) (v := .int 3) (C := RX8) (T := TX8) (N := 2) hx hb hts in_X9_feed_X8 hown hK hP 1 rfl rfl 1 (by decide) (hts (.fieldLink RX9 160 "ClearingGates$Tape" "size" "I") (List.mem_of_getElem? (i := 2) (by decide +kernel))) (fun _ h9 => h9) rfl dX9_feed_138 ?_
                          have hP9 := hP.sub (ws' := []) [] rfl
                          have hD9 := hD.sub (ws' := []) [] (by decide) rfl
                          have hK9 := hK.sub (tys' := []) [] rfl
                          exact W.iret (v := 3) hx hb hr (fun t ht hW => ⟨⟨3, (), rfl, Or.inl ⟨Int32.toInt_inj.mp (by omega), by omega⟩, by rw [ht]; exact hP9, va_K.moved hW.alike hK9, hD9⟩, hS.F ht⟩) hS.2.2 dX9_feed_141
                        · skip
                          have f_c36 := i_nle c36
                          refine lv_aload_n hx hb dX9_feed_125 rfl (lv_at hl 0 rfl) ?_
                          refine va_get (D := (dC, dI)) (ci := 8) (v := .ref qt) (C := RX9) (T := TX9) (N := 13) hx hb hts in_X9_feed_X9 hown hK hP 0 rfl rfl 8 (by decide) (hts (.fieldLink RX9 54 "ClearingGates" "tape" "LClearingGates$Tape;") (List.mem_of_getElem? (i := 1) (by decide +kernel))) (fun _ h9 => h9) rfl dX9_feed_126 ?_
                          refine lv_iload hx hb dX9_feed_129 (lv_at hl 6 rfl) ?_
                          have hPc := hP.sub (ws' := [(qt, .inr (7, [.ref qb, .int 3])), (qb, .inl (kb, 80, .inl u35))]) [1, 2] rfl
                          have hDc := hD.sub (ws' := [(qt, .inr (7, [.ref qb, .int 3])), (qb, .inl (kb, 80, .inl u35))]) [1, 2] (by decide) rfl
                          have hKc := hK.sub (tys' := [(kb, .int)]) [0] rfl
                          have hFc := va_free (wc := [(qt, .inr (7, [.ref qb, .int 3])), (qb, .inl (kb, 80, .inl u35))]) hD hS hA [1, 2] rfl
                          refine va_callv (va_runV (As := [.int p5]) (rest := []) ⟨hx, hb, hml, hown, hts⟩ (c_X8_add l dC dI qt p5 qb 3 kb u35 4 H.size (by decide) (by decide) (by decide)) (cwV 1 hts gX9_feed_X8_add rfl rfl rfl (by decide +kernel) ⟨Nat.le_of_ble_eq_true rfl, Nat.le_of_ble_eq_true rfl⟩) ⟨fun a U g mk q => by obtain ⟨q0, q1, qP, qK, qD⟩ := q; exact ⟨q0, q1, qP, va_K.moved (u := U) (U := U.calling g mk a) (Vm.Alike.refl U.vm) qK, qD⟩, va_recv hKc hPc (ci := 7) (q0 := 0) rfl rfl, fun U hU hW => ⟨rfl, by rw [hU], by rw [hU]; exact hPc, va_K.moved hW.alike hKc, hDc.weaken (fun _ _ _ _ => trivial)⟩⟩ rfl rfl hl.1 rfl (lv_room (Nat.le_of_ble_eq_true rfl)) dX9_feed_131 ⟨Nat.le_of_ble_eq_true rfl, Nat.le_of_ble_eq_true rfl⟩) hS (fun q _ h => hFc q h) hFc (fun u t H1 locs ht hvm hw hB hz1 hk1 hS => ?_)
                          obtain ⟨u38, rfl⟩ : ∃ z, z = u := ⟨_, rfl⟩
                          obtain ⟨hP1, hK1, hD1⟩ := hB
                          rw [ht] at hP1
                          have hK1 := va_K.moved hvm.symm hK1
                          try dsimp only at hw
                          obtain ⟨hP, hD⟩ := va_join (wr := [(h0, .inr (8, [w0, w1, w2, w3, w4, w5, w6, w7, .ref qt, w9, w10, w11, w12]))]) (w1 := [(qt, .inr (7, [.ref qb, .int 4])), (qb, .inl (kb, 80, .inl u38))]) hP hD [1, 2] [0] rfl rfl (by decide) (by decide) hk1 hFc hP1 hD1
                          have hK := (hK.sub (tys' := []) [] rfl).app hK1
                          generalize H1 = H at hP hS ⊢
                          have hP : va_P (dC, dI) vwCl [(h0, .inr (8, [w0, w1, w2, w3, w4, w5, w6, w7, .ref qt, w9, w10, w11, w12])), (qt, .inr (7, [.ref qb, .int 4])), (qb, .inl (kb, 80, .inl u38))] H := hP
                          have hD : va_D A [(h0, .inr (8, [w0, w1, w2, w3, w4, w5, w6, w7, .ref qt, w9, w10, w11, w12])), (qt, .inr (7, [.ref qb, .int 4])), (qb, .inl (kb, 80, .inl u38))] := hD
                          have hK : va_K (dC, dI) vwCl [(kb, .int)] s := hK
                          refine lv_aload_n hx hb dX9_feed_134 rfl (lv_at hl 0 rfl) ?_
                          refine va_get (D := (dC, dI)) (ci := 8) (v := .ref qt) (C := RX9) (T := TX9) (N := 13) hx hb hts in_X9_feed_X9 hown hK hP 0 rfl rfl 8 (by decide) (hts (.fieldLink RX9 54 "ClearingGates" "tape" "LClearingGates$Tape;") (List.mem_of_getElem? (i := 1) (by decide +kernel))) (fun _ h9 => h9) rfl dX9_feed_135 ?_
                          refine va_get (D := (dC, dI)) (ci := 7) (v := .int 4) (C := RX8) (T := TX8) (N := 2) hx hb hts in_X9_feed_X8 hown hK hP 1 rfl rfl 1 (by decide) (hts (.fieldLink RX9 160 "ClearingGates$Tape" "size" "I") (List.mem_of_getElem? (i := 2) (by decide +kernel))) (fun _ h9 => h9) rfl dX9_feed_138 ?_
                          have hP9 := hP.sub (ws' := []) [] rfl
                          have hD9 := hD.sub (ws' := []) [] (by decide) rfl
                          have hK9 := hK.sub (tys' := []) [] rfl
                          exact W.iret (v := 4) hx hb hr (fun t ht hW => ⟨⟨4, (), rfl, Or.inl ⟨Int32.toInt_inj.mp (by omega), by omega⟩, by rw [ht]; exact hP9, va_K.moved hW.alike hK9, hD9⟩, hS.F ht⟩) hS.2.2 dX9_feed_141
                  · skip
                    have f_c17 := i_nle c17
                    refine lv_aload_n hx hb dX9_feed_84 rfl (lv_at hl 0 rfl) ?_
                    refine va_get (D := (dC, dI)) (ci := 8) (v := .ref qt) (C := RX9) (T := TX9) (N := 13) hx hb hts in_X9_feed_X9 hown hK hP 0 rfl rfl 8 (by decide) (hts (.fieldLink RX9 54 "ClearingGates" "tape" "LClearingGates$Tape;") (List.mem_of_getElem? (i := 1) (by decide +kernel))) (fun _ h9 => h9) rfl dX9_feed_85 ?_
                    refine lv_iload_n hx hb dX9_feed_88 rfl (lv_at hl 3 rfl) ?_
                    have hPc := hP.sub (ws' := [(qt, .inr (7, [.ref qb, .int 1])), (qb, .inl (kb, 80, .inl u16))]) [1, 2] rfl
                    have hDc := hD.sub (ws' := [(qt, .inr (7, [.ref qb, .int 1])), (qb, .inl (kb, 80, .inl u16))]) [1, 2] (by decide) rfl
                    have hKc := hK.sub (tys' := [(kb, .int)]) [0] rfl
                    have hFc := va_free (wc := [(qt, .inr (7, [.ref qb, .int 1])), (qb, .inl (kb, 80, .inl u16))]) hD hS hA [1, 2] rfl
                    refine va_callv (va_runV (As := [.int p2]) (rest := []) ⟨hx, hb, hml, hown, hts⟩ (c_X8_add l dC dI qt p2 qb 1 kb u16 2 H.size (by decide) (by decide) (by decide)) (cwV 1 hts gX9_feed_X8_add rfl rfl rfl (by decide +kernel) ⟨Nat.le_of_ble_eq_true rfl, Nat.le_of_ble_eq_true rfl⟩) ⟨fun a U g mk q => by obtain ⟨q0, q1, qP, qK, qD⟩ := q; exact ⟨q0, q1, qP, va_K.moved (u := U) (U := U.calling g mk a) (Vm.Alike.refl U.vm) qK, qD⟩, va_recv hKc hPc (ci := 7) (q0 := 0) rfl rfl, fun U hU hW => ⟨rfl, by rw [hU], by rw [hU]; exact hPc, va_K.moved hW.alike hKc, hDc.weaken (fun _ _ _ _ => trivial)⟩⟩ rfl rfl hl.1 rfl (lv_room (Nat.le_of_ble_eq_true rfl)) dX9_feed_89 ⟨Nat.le_of_ble_eq_true rfl, Nat.le_of_ble_eq_true rfl⟩) hS (fun q _ h => hFc q h) hFc (fun u t H1 locs ht hvm hw hB hz1 hk1 hS => ?_)
                    obtain ⟨u40, rfl⟩ : ∃ z, z = u := ⟨_, rfl⟩
                    obtain ⟨hP1, hK1, hD1⟩ := hB
                    rw [ht] at hP1
                    have hK1 := va_K.moved hvm.symm hK1
                    try dsimp only at hw
                    obtain ⟨hP, hD⟩ := va_join (wr := [(h0, .inr (8, [w0, w1, w2, w3, w4, w5, w6, w7, .ref qt, w9, w10, w11, w12]))]) (w1 := [(qt, .inr (7, [.ref qb, .int 2])), (qb, .inl (kb, 80, .inl u40))]) hP hD [1, 2] [0] rfl rfl (by decide) (by decide) hk1 hFc hP1 hD1
                    have hK := (hK.sub (tys' := []) [] rfl).app hK1
                    generalize H1 = H at hP hS ⊢
                    have hP : va_P (dC, dI) vwCl [(h0, .inr (8, [w0, w1, w2, w3, w4, w5, w6, w7, .ref qt, w9, w10, w11, w12])), (qt, .inr (7, [.ref qb, .int 2])), (qb, .inl (kb, 80, .inl u40))] H := hP
                    have hD : va_D A [(h0, .inr (8, [w0, w1, w2, w3, w4, w5, w6, w7, .ref qt, w9, w10, w11, w12])), (qt, .inr (7, [.ref qb, .int 2])), (qb, .inl (kb, 80, .inl u40))] := hD
                    have hK : va_K (dC, dI) vwCl [(kb, .int)] s := hK
                    refine lv_iload_n hx hb dX9_feed_92 rfl (lv_at hl 1 rfl) ?_
                    refine lv_iconst (v := 2) hx hb dX9_feed_93 (by decide) ?_
                    refine lv_icmp_le (tgt := 106) hx hb dX9_feed_94 (by decide) (fun c41 => ?_) (fun c41 => ?_)
                    · skip
                      have f_c41 := i_le c41
                      refine lv_iload_n hx hb dX9_feed_106 rfl (lv_at hl 1 rfl) ?_
                      refine lv_iconst (v := 3) hx hb dX9_feed_107 (by decide) ?_
                      refine lv_icmp_le (tgt := 120) hx hb dX9_feed_108 (by decide) (fun c42 => ?_) (fun c42 => ?_)
                      · skip
                        have f_c42 := i_le c42
                        refine lv_iload_n hx hb dX9_feed_120 rfl (lv_at hl 1 rfl) ?_
                        refine lv_iconst (v := 4) hx hb dX9_feed_121 (by decide) ?_
                        refine lv_icmp_le (tgt := 134) hx hb dX9_feed_122 (by decide) (fun c43 => ?_) (fun c43 => ?_)
                        · skip
                          have f_c43 := i_le c43
                          refine lv_aload_n hx hb dX9_feed_134 rfl (lv_at hl 0 rfl) ?_
                          refine va_get (D := (dC, dI)) (ci := 8) (v := .ref qt) (C := RX9) (T := TX9) (N := 13) hx hb hts in_X9_feed_X9 hown hK hP 0 rfl rfl 8 (by decide) (hts (.fieldLink RX9 54 "ClearingGates" "tape" "LClearingGates$Tape;") (List.mem_of_getElem? (i := 1) (by decide +kernel))) (fun _ h9 => h9) rfl dX9_feed_135 ?_
                          refine va_get (D := (dC, dI)) (ci := 7) (v := .int 2) (C := RX8) (T := TX8) (N := 2) hx hb hts in_X9_feed_X8 hown hK hP 1 rfl rfl 1 (by decide) (hts (.fieldLink RX9 160 "ClearingGates$Tape" "size" "I") (List.mem_of_getElem? (i := 2) (by decide +kernel))) (fun _ h9 => h9) rfl dX9_feed_138 ?_
                          have hP9 := hP.sub (ws' := []) [] rfl
                          have hD9 := hD.sub (ws' := []) [] (by decide) rfl
                          have hK9 := hK.sub (tys' := []) [] rfl
                          exact W.iret (v := 2) hx hb hr (fun t ht hW => ⟨⟨2, (), rfl, Or.inl ⟨Int32.toInt_inj.mp (by omega), by omega⟩, by rw [ht]; exact hP9, va_K.moved hW.alike hK9, hD9⟩, hS.F ht⟩) hS.2.2 dX9_feed_141
                        · skip
                          have f_c43 := i_nle c43
                          refine lv_aload_n hx hb dX9_feed_125 rfl (lv_at hl 0 rfl) ?_
                          refine va_get (D := (dC, dI)) (ci := 8) (v := .ref qt) (C := RX9) (T := TX9) (N := 13) hx hb hts in_X9_feed_X9 hown hK hP 0 rfl rfl 8 (by decide) (hts (.fieldLink RX9 54 "ClearingGates" "tape" "LClearingGates$Tape;") (List.mem_of_getElem? (i := 1) (by decide +kernel))) (fun _ h9 => h9) rfl dX9_feed_126 ?_
                          refine lv_iload hx hb dX9_feed_129 (lv_at hl 6 rfl) ?_
                          have hPc := hP.sub (ws' := [(qt, .inr (7, [.ref qb, .int 2])), (qb, .inl (kb, 80, .inl u40))]) [1, 2] rfl
                          have hDc := hD.sub (ws' := [(qt, .inr (7, [.ref qb, .int 2])), (qb, .inl (kb, 80, .inl u40))]) [1, 2] (by decide) rfl
                          have hKc := hK.sub (tys' := [(kb, .int)]) [0] rfl
                          have hFc := va_free (wc := [(qt, .inr (7, [.ref qb, .int 2])), (qb, .inl (kb, 80, .inl u40))]) hD hS hA [1, 2] rfl
                          refine va_callv (va_runV (As := [.int p5]) (rest := []) ⟨hx, hb, hml, hown, hts⟩ (c_X8_add l dC dI qt p5 qb 2 kb u40 3 H.size (by decide) (by decide) (by decide)) (cwV 1 hts gX9_feed_X8_add rfl rfl rfl (by decide +kernel) ⟨Nat.le_of_ble_eq_true rfl, Nat.le_of_ble_eq_true rfl⟩) ⟨fun a U g mk q => by obtain ⟨q0, q1, qP, qK, qD⟩ := q; exact ⟨q0, q1, qP, va_K.moved (u := U) (U := U.calling g mk a) (Vm.Alike.refl U.vm) qK, qD⟩, va_recv hKc hPc (ci := 7) (q0 := 0) rfl rfl, fun U hU hW => ⟨rfl, by rw [hU], by rw [hU]; exact hPc, va_K.moved hW.alike hKc, hDc.weaken (fun _ _ _ _ => trivial)⟩⟩ rfl rfl hl.1 rfl (lv_room (Nat.le_of_ble_eq_true rfl)) dX9_feed_131 ⟨Nat.le_of_ble_eq_true rfl, Nat.le_of_ble_eq_true rfl⟩) hS (fun q _ h => hFc q h) hFc (fun u t H1 locs ht hvm hw hB hz1 hk1 hS => ?_)
                          obtain ⟨u45, rfl⟩ : ∃ z, z = u := ⟨_, rfl⟩
                          obtain ⟨hP1, hK1, hD1⟩ := hB
                          rw [ht] at hP1
                          have hK1 := va_K.moved hvm.symm hK1
                          try dsimp only at hw
                          obtain ⟨hP, hD⟩ := va_join (wr := [(h0, .inr (8, [w0, w1, w2, w3, w4, w5, w6, w7, .ref qt, w9, w10, w11, w12]))]) (w1 := [(qt, .inr (7, [.ref qb, .int 3])), (qb, .inl (kb, 80, .inl u45))]) hP hD [1, 2] [0] rfl rfl (by decide) (by decide) hk1 hFc hP1 hD1
                          have hK := (hK.sub (tys' := []) [] rfl).app hK1
                          generalize H1 = H at hP hS ⊢
                          have hP : va_P (dC, dI) vwCl [(h0, .inr (8, [w0, w1, w2, w3, w4, w5, w6, w7, .ref qt, w9, w10, w11, w12])), (qt, .inr (7, [.ref qb, .int 3])), (qb, .inl (kb, 80, .inl u45))] H := hP
                          have hD : va_D A [(h0, .inr (8, [w0, w1, w2, w3, w4, w5, w6, w7, .ref qt, w9, w10, w11, w12])), (qt, .inr (7, [.ref qb, .int 3])), (qb, .inl (kb, 80, .inl u45))] := hD
                          have hK : va_K (dC, dI) vwCl [(kb, .int)] s := hK
                          refine lv_aload_n hx hb dX9_feed_134 rfl (lv_at hl 0 rfl) ?_
                          refine va_get (D := (dC, dI)) (ci := 8) (v := .ref qt) (C := RX9) (T := TX9) (N := 13) hx hb hts in_X9_feed_X9 hown hK hP 0 rfl rfl 8 (by decide) (hts (.fieldLink RX9 54 "ClearingGates" "tape" "LClearingGates$Tape;") (List.mem_of_getElem? (i := 1) (by decide +kernel))) (fun _ h9 => h9) rfl dX9_feed_135 ?_
                          refine va_get (D := (dC, dI)) (ci := 7) (v := .int 3) (C := RX8) (T := TX8) (N := 2) hx hb hts in_X9_feed_X8 hown hK hP 1 rfl rfl 1 (by decide) (hts (.fieldLink RX9 160 "ClearingGates$Tape" "size" "I") (List.mem_of_getElem? (i := 2) (by decide +kernel))) (fun _ h9 => h9) rfl dX9_feed_138 ?_
                          have hP9 := hP.sub (ws' := []) [] rfl
                          have hD9 := hD.sub (ws' := []) [] (by decide) rfl
                          have hK9 := hK.sub (tys' := []) [] rfl
                          exact W.iret (v := 3) hx hb hr (fun t ht hW => ⟨⟨3, (), rfl, Or.inl ⟨Int32.toInt_inj.mp (by omega), by omega⟩, by rw [ht]; exact hP9, va_K.moved hW.alike hK9, hD9⟩, hS.F ht⟩) hS.2.2 dX9_feed_141
                      · skip
                        have f_c42 := i_nle c42
                        refine lv_aload_n hx hb dX9_feed_111 rfl (lv_at hl 0 rfl) ?_
                        refine va_get (D := (dC, dI)) (ci := 8) (v := .ref qt) (C := RX9) (T := TX9) (N := 13) hx hb hts in_X9_feed_X9 hown hK hP 0 rfl rfl 8 (by decide) (hts (.fieldLink RX9 54 "ClearingGates" "tape" "LClearingGates$Tape;") (List.mem_of_getElem? (i := 1) (by decide +kernel))) (fun _ h9 => h9) rfl dX9_feed_112 ?_
                        refine lv_iload hx hb dX9_feed_115 (lv_at hl 5 rfl) ?_
                        have hPc := hP.sub (ws' := [(qt, .inr (7, [.ref qb, .int 2])), (qb, .inl (kb, 80, .inl u40))]) [1, 2] rfl
                        have hDc := hD.sub (ws' := [(qt, .inr (7, [.ref qb, .int 2])), (qb, .inl (kb, 80, .inl u40))]) [1, 2] (by decide) rfl
                        have hKc := hK.sub (tys' := [(kb, .int)]) [0] rfl
                        have hFc := va_free (wc := [(qt, .inr (7, [.ref qb, .int 2])), (qb, .inl (kb, 80, .inl u40))]) hD hS hA [1, 2] rfl
                        refine va_callv (va_runV (As := [.int p4]) (rest := []) ⟨hx, hb, hml, hown, hts⟩ (c_X8_add l dC dI qt p4 qb 2 kb u40 3 H.size (by decide) (by decide) (by decide)) (cwV 1 hts gX9_feed_X8_add rfl rfl rfl (by decide +kernel) ⟨Nat.le_of_ble_eq_true rfl, Nat.le_of_ble_eq_true rfl⟩) ⟨fun a U g mk q => by obtain ⟨q0, q1, qP, qK, qD⟩ := q; exact ⟨q0, q1, qP, va_K.moved (u := U) (U := U.calling g mk a) (Vm.Alike.refl U.vm) qK, qD⟩, va_recv hKc hPc (ci := 7) (q0 := 0) rfl rfl, fun U hU hW => ⟨rfl, by rw [hU], by rw [hU]; exact hPc, va_K.moved hW.alike hKc, hDc.weaken (fun _ _ _ _ => trivial)⟩⟩ rfl rfl hl.1 rfl (lv_room (Nat.le_of_ble_eq_true rfl)) dX9_feed_117 ⟨Nat.le_of_ble_eq_true rfl, Nat.le_of_ble_eq_true rfl⟩) hS (fun q _ h => hFc q h) hFc (fun u t H1 locs ht hvm hw hB hz1 hk1 hS => ?_)
                        obtain ⟨u47, rfl⟩ : ∃ z, z = u := ⟨_, rfl⟩
                        obtain ⟨hP1, hK1, hD1⟩ := hB
                        rw [ht] at hP1
                        have hK1 := va_K.moved hvm.symm hK1
                        try dsimp only at hw
                        obtain ⟨hP, hD⟩ := va_join (wr := [(h0, .inr (8, [w0, w1, w2, w3, w4, w5, w6, w7, .ref qt, w9, w10, w11, w12]))]) (w1 := [(qt, .inr (7, [.ref qb, .int 3])), (qb, .inl (kb, 80, .inl u47))]) hP hD [1, 2] [0] rfl rfl (by decide) (by decide) hk1 hFc hP1 hD1
                        have hK := (hK.sub (tys' := []) [] rfl).app hK1
                        generalize H1 = H at hP hS ⊢
                        have hP : va_P (dC, dI) vwCl [(h0, .inr (8, [w0, w1, w2, w3, w4, w5, w6, w7, .ref qt, w9, w10, w11, w12])), (qt, .inr (7, [.ref qb, .int 3])), (qb, .inl (kb, 80, .inl u47))] H := hP
                        have hD : va_D A [(h0, .inr (8, [w0, w1, w2, w3, w4, w5, w6, w7, .ref qt, w9, w10, w11, w12])), (qt, .inr (7, [.ref qb, .int 3])), (qb, .inl (kb, 80, .inl u47))] := hD
                        have hK : va_K (dC, dI) vwCl [(kb, .int)] s := hK
                        refine lv_iload_n hx hb dX9_feed_120 rfl (lv_at hl 1 rfl) ?_
                        refine lv_iconst (v := 4) hx hb dX9_feed_121 (by decide) ?_
                        refine lv_icmp_le (tgt := 134) hx hb dX9_feed_122 (by decide) (fun c48 => ?_) (fun c48 => ?_)
                        · skip
                          have f_c48 := i_le c48
                          refine lv_aload_n hx hb dX9_feed_134 rfl (lv_at hl 0 rfl) ?_
                          refine va_get (D := (dC, dI)) (ci := 8) (v := .ref qt) (C := RX9) (T := TX9) (N := 13) hx hb hts in_X9_feed_X9 hown hK hP 0 rfl rfl 8 (by decide) (hts (.fieldLink RX9 54 "ClearingGates" "tape" "LClearingGates$Tape;") (List.mem_of_getElem? (i := 1) (by decide +kernel))) (fun _ h9 => h9) rfl dX9_feed_135 ?_
                          refine va_get (D := (dC, dI)) (ci := 7) (v := .int 3) (C := RX8) (T := TX8) (N := 2) hx hb hts in_X9_feed_X8 hown hK hP 1 rfl rfl 1 (by decide) (hts (.fieldLink RX9 160 "ClearingGates$Tape" "size" "I") (List.mem_of_getElem? (i := 2) (by decide +kernel))) (fun _ h9 => h9) rfl dX9_feed_138 ?_
                          have hP9 := hP.sub (ws' := []) [] rfl
                          have hD9 := hD.sub (ws' := []) [] (by decide) rfl
                          have hK9 := hK.sub (tys' := []) [] rfl
                          exact W.iret (v := 3) hx hb hr (fun t ht hW => ⟨⟨3, (), rfl, Or.inl ⟨Int32.toInt_inj.mp (by omega), by omega⟩, by rw [ht]; exact hP9, va_K.moved hW.alike hK9, hD9⟩, hS.F ht⟩) hS.2.2 dX9_feed_141
                        · skip
                          have f_c48 := i_nle c48
                          refine lv_aload_n hx hb dX9_feed_125 rfl (lv_at hl 0 rfl) ?_
                          refine va_get (D := (dC, dI)) (ci := 8) (v := .ref qt) (C := RX9) (T := TX9) (N := 13) hx hb hts in_X9_feed_X9 hown hK hP 0 rfl rfl 8 (by decide) (hts (.fieldLink RX9 54 "ClearingGates" "tape" "LClearingGates$Tape;") (List.mem_of_getElem? (i := 1) (by decide +kernel))) (fun _ h9 => h9) rfl dX9_feed_126 ?_
                          refine lv_iload hx hb dX9_feed_129 (lv_at hl 6 rfl) ?_
                          have hPc := hP.sub (ws' := [(qt, .inr (7, [.ref qb, .int 3])), (qb, .inl (kb, 80, .inl u47))]) [1, 2] rfl
                          have hDc := hD.sub (ws' := [(qt, .inr (7, [.ref qb, .int 3])), (qb, .inl (kb, 80, .inl u47))]) [1, 2] (by decide) rfl
                          have hKc := hK.sub (tys' := [(kb, .int)]) [0] rfl
                          have hFc := va_free (wc := [(qt, .inr (7, [.ref qb, .int 3])), (qb, .inl (kb, 80, .inl u47))]) hD hS hA [1, 2] rfl
                          refine va_callv (va_runV (As := [.int p5]) (rest := []) ⟨hx, hb, hml, hown, hts⟩ (c_X8_add l dC dI qt p5 qb 3 kb u47 4 H.size (by decide) (by decide) (by decide)) (cwV 1 hts gX9_feed_X8_add rfl rfl rfl (by decide +kernel) ⟨Nat.le_of_ble_eq_true rfl, Nat.le_of_ble_eq_true rfl⟩) ⟨fun a U g mk q => by obtain ⟨q0, q1, qP, qK, qD⟩ := q; exact ⟨q0, q1, qP, va_K.moved (u := U) (U := U.calling g mk a) (Vm.Alike.refl U.vm) qK, qD⟩, va_recv hKc hPc (ci := 7) (q0 := 0) rfl rfl, fun U hU hW => ⟨rfl, by rw [hU], by rw [hU]; exact hPc, va_K.moved hW.alike hKc, hDc.weaken (fun _ _ _ _ => trivial)⟩⟩ rfl rfl hl.1 rfl (lv_room (Nat.le_of_ble_eq_true rfl)) dX9_feed_131 ⟨Nat.le_of_ble_eq_true rfl, Nat.le_of_ble_eq_true rfl⟩) hS (fun q _ h => hFc q h) hFc (fun u t H1 locs ht hvm hw hB hz1 hk1 hS => ?_)
                          obtain ⟨u50, rfl⟩ : ∃ z, z = u := ⟨_, rfl⟩
                          obtain ⟨hP1, hK1, hD1⟩ := hB
                          rw [ht] at hP1
                          have hK1 := va_K.moved hvm.symm hK1
                          try dsimp only at hw
                          obtain ⟨hP, hD⟩ := va_join (wr := [(h0, .inr (8, [w0, w1, w2, w3, w4, w5, w6, w7, .ref qt, w9, w10, w11, w12]))]) (w1 := [(qt, .inr (7, [.ref qb, .int 4])), (qb, .inl (kb, 80, .inl u50))]) hP hD [1, 2] [0] rfl rfl (by decide) (by decide) hk1 hFc hP1 hD1
                          have hK := (hK.sub (tys' := []) [] rfl).app hK1
                          generalize H1 = H at hP hS ⊢
                          have hP : va_P (dC, dI) vwCl [(h0, .inr (8, [w0, w1, w2, w3, w4, w5, w6, w7, .ref qt, w9, w10, w11, w12])), (qt, .inr (7, [.ref qb, .int 4])), (qb, .inl (kb, 80, .inl u50))] H := hP
                          have hD : va_D A [(h0, .inr (8, [w0, w1, w2, w3, w4, w5, w6, w7, .ref qt, w9, w10, w11, w12])), (qt, .inr (7, [.ref qb, .int 4])), (qb, .inl (kb, 80, .inl u50))] := hD
                          have hK : va_K (dC, dI) vwCl [(kb, .int)] s := hK
                          refine lv_aload_n hx hb dX9_feed_134 rfl (lv_at hl 0 rfl) ?_
                          refine va_get (D := (dC, dI)) (ci := 8) (v := .ref qt) (C := RX9) (T := TX9) (N := 13) hx hb hts in_X9_feed_X9 hown hK hP 0 rfl rfl 8 (by decide) (hts (.fieldLink RX9 54 "ClearingGates" "tape" "LClearingGates$Tape;") (List.mem_of_getElem? (i := 1) (by decide +kernel))) (fun _ h9 => h9) rfl dX9_feed_135 ?_
                          refine va_get (D := (dC, dI)) (ci := 7) (v := .int 4) (C := RX8) (T := TX8) (N := 2) hx hb hts in_X9_feed_X8 hown hK hP 1 rfl rfl 1 (by decide) (hts (.fieldLink RX9 160 "ClearingGates$Tape" "size" "I") (List.mem_of_getElem? (i := 2) (by decide +kernel))) (fun _ h9 => h9) rfl dX9_feed_138 ?_
                          have hP9 := hP.sub (ws' := []) [] rfl
                          have hD9 := hD.sub (ws' := []) [] (by decide) rfl
                          have hK9 := hK.sub (tys' := []) [] rfl
                          exact W.iret (v := 4) hx hb hr (fun t ht hW => ⟨⟨4, (), rfl, Or.inl ⟨Int32.toInt_inj.mp (by omega), by omega⟩, by rw [ht]; exact hP9, va_K.moved hW.alike hK9, hD9⟩, hS.F ht⟩) hS.2.2 dX9_feed_141
                    · skip
                      have f_c41 := i_nle c41
                      refine lv_aload_n hx hb dX9_feed_97 rfl (lv_at hl 0 rfl) ?_
                      refine va_get (D := (dC, dI)) (ci := 8) (v := .ref qt) (C := RX9) (T := TX9) (N := 13) hx hb hts in_X9_feed_X9 hown hK hP 0 rfl rfl 8 (by decide) (hts (.fieldLink RX9 54 "ClearingGates" "tape" "LClearingGates$Tape;") (List.mem_of_getElem? (i := 1) (by decide +kernel))) (fun _ h9 => h9) rfl dX9_feed_98 ?_
                      refine lv_iload hx hb dX9_feed_101 (lv_at hl 4 rfl) ?_
                      have hPc := hP.sub (ws' := [(qt, .inr (7, [.ref qb, .int 2])), (qb, .inl (kb, 80, .inl u40))]) [1, 2] rfl
                      have hDc := hD.sub (ws' := [(qt, .inr (7, [.ref qb, .int 2])), (qb, .inl (kb, 80, .inl u40))]) [1, 2] (by decide) rfl
                      have hKc := hK.sub (tys' := [(kb, .int)]) [0] rfl
                      have hFc := va_free (wc := [(qt, .inr (7, [.ref qb, .int 2])), (qb, .inl (kb, 80, .inl u40))]) hD hS hA [1, 2] rfl
                      refine va_callv (va_runV (As := [.int p3]) (rest := []) ⟨hx, hb, hml, hown, hts⟩ (c_X8_add l dC dI qt p3 qb 2 kb u40 3 H.size (by decide) (by decide) (by decide)) (cwV 1 hts gX9_feed_X8_add rfl rfl rfl (by decide +kernel) ⟨Nat.le_of_ble_eq_true rfl, Nat.le_of_ble_eq_true rfl⟩) ⟨fun a U g mk q => by obtain ⟨q0, q1, qP, qK, qD⟩ := q; exact ⟨q0, q1, qP, va_K.moved (u := U) (U := U.calling g mk a) (Vm.Alike.refl U.vm) qK, qD⟩, va_recv hKc hPc (ci := 7) (q0 := 0) rfl rfl, fun U hU hW => ⟨rfl, by rw [hU], by rw [hU]; exact hPc, va_K.moved hW.alike hKc, hDc.weaken (fun _ _ _ _ => trivial)⟩⟩ rfl rfl hl.1 rfl (lv_room (Nat.le_of_ble_eq_true rfl)) dX9_feed_103 ⟨Nat.le_of_ble_eq_true rfl, Nat.le_of_ble_eq_true rfl⟩) hS (fun q _ h => hFc q h) hFc (fun u t H1 locs ht hvm hw hB hz1 hk1 hS => ?_)
                      obtain ⟨u52, rfl⟩ : ∃ z, z = u := ⟨_, rfl⟩
                      obtain ⟨hP1, hK1, hD1⟩ := hB
                      rw [ht] at hP1
                      have hK1 := va_K.moved hvm.symm hK1
                      try dsimp only at hw
                      obtain ⟨hP, hD⟩ := va_join (wr := [(h0, .inr (8, [w0, w1, w2, w3, w4, w5, w6, w7, .ref qt, w9, w10, w11, w12]))]) (w1 := [(qt, .inr (7, [.ref qb, .int 3])), (qb, .inl (kb, 80, .inl u52))]) hP hD [1, 2] [0] rfl rfl (by decide) (by decide) hk1 hFc hP1 hD1
                      have hK := (hK.sub (tys' := []) [] rfl).app hK1
                      generalize H1 = H at hP hS ⊢
                      have hP : va_P (dC, dI) vwCl [(h0, .inr (8, [w0, w1, w2, w3, w4, w5, w6, w7, .ref qt, w9, w10, w11, w12])), (qt, .inr (7, [.ref qb, .int 3])), (qb, .inl (kb, 80, .inl u52))] H := hP
                      have hD : va_D A [(h0, .inr (8, [w0, w1, w2, w3, w4, w5, w6, w7, .ref qt, w9, w10, w11, w12])), (qt, .inr (7, [.ref qb, .int 3])), (qb, .inl (kb, 80, .inl u52))] := hD
                      have hK : va_K (dC, dI) vwCl [(kb, .int)] s := hK
                      refine lv_iload_n hx hb dX9_feed_106 rfl (lv_at hl 1 rfl) ?_
                      refine lv_iconst (v := 3) hx hb dX9_feed_107 (by decide) ?_
                      refine lv_icmp_le (tgt := 120) hx hb dX9_feed_108 (by decide) (fun c53 => ?_) (fun c53 => ?_)
                      · skip
                        have f_c53 := i_le c53
                        refine lv_iload_n hx hb dX9_feed_120 rfl (lv_at hl 1 rfl) ?_
                        refine lv_iconst (v := 4) hx hb dX9_feed_121 (by decide) ?_
                        refine lv_icmp_le (tgt := 134) hx hb dX9_feed_122 (by decide) (fun c54 => ?_) (fun c54 => ?_)
                        · skip
                          have f_c54 := i_le c54
                          refine lv_aload_n hx hb dX9_feed_134 rfl (lv_at hl 0 rfl) ?_
                          refine va_get (D := (dC, dI)) (ci := 8) (v := .ref qt) (C := RX9) (T := TX9) (N := 13) hx hb hts in_X9_feed_X9 hown hK hP 0 rfl rfl 8 (by decide) (hts (.fieldLink RX9 54 "ClearingGates" "tape" "LClearingGates$Tape;") (List.mem_of_getElem? (i := 1) (by decide +kernel))) (fun _ h9 => h9) rfl dX9_feed_135 ?_
                          refine va_get (D := (dC, dI)) (ci := 7) (v := .int 3) (C := RX8) (T := TX8) (N := 2) hx hb hts in_X9_feed_X8 hown hK hP 1 rfl rfl 1 (by decide) (hts (.fieldLink RX9 160 "ClearingGates$Tape" "size" "I") (List.mem_of_getElem? (i := 2) (by decide +kernel))) (fun _ h9 => h9) rfl dX9_feed_138 ?_
                          have hP9 := hP.sub (ws' := []) [] rfl
                          have hD9 := hD.sub (ws' := []) [] (by decide) rfl
                          have hK9 := hK.sub (tys' := []) [] rfl
                          exact W.iret (v := 3) hx hb hr (fun t ht hW => ⟨⟨3, (), rfl, Or.inl ⟨Int32.toInt_inj.mp (by omega), by omega⟩, by rw [ht]; exact hP9, va_K.moved hW.alike hK9, hD9⟩, hS.F ht⟩) hS.2.2 dX9_feed_141
                        · skip
                          have f_c54 := i_nle c54
                          refine lv_aload_n hx hb dX9_feed_125 rfl (lv_at hl 0 rfl) ?_
                          refine va_get (D := (dC, dI)) (ci := 8) (v := .ref qt) (C := RX9) (T := TX9) (N := 13) hx hb hts in_X9_feed_X9 hown hK hP 0 rfl rfl 8 (by decide) (hts (.fieldLink RX9 54 "ClearingGates" "tape" "LClearingGates$Tape;") (List.mem_of_getElem? (i := 1) (by decide +kernel))) (fun _ h9 => h9) rfl dX9_feed_126 ?_
                          refine lv_iload hx hb dX9_feed_129 (lv_at hl 6 rfl) ?_
                          have hPc := hP.sub (ws' := [(qt, .inr (7, [.ref qb, .int 3])), (qb, .inl (kb, 80, .inl u52))]) [1, 2] rfl
                          have hDc := hD.sub (ws' := [(qt, .inr (7, [.ref qb, .int 3])), (qb, .inl (kb, 80, .inl u52))]) [1, 2] (by decide) rfl
                          have hKc := hK.sub (tys' := [(kb, .int)]) [0] rfl
                          have hFc := va_free (wc := [(qt, .inr (7, [.ref qb, .int 3])), (qb, .inl (kb, 80, .inl u52))]) hD hS hA [1, 2] rfl
                          refine va_callv (va_runV (As := [.int p5]) (rest := []) ⟨hx, hb, hml, hown, hts⟩ (c_X8_add l dC dI qt p5 qb 3 kb u52 4 H.size (by decide) (by decide) (by decide)) (cwV 1 hts gX9_feed_X8_add rfl rfl rfl (by decide +kernel) ⟨Nat.le_of_ble_eq_true rfl, Nat.le_of_ble_eq_true rfl⟩) ⟨fun a U g mk q => by obtain ⟨q0, q1, qP, qK, qD⟩ := q; exact ⟨q0, q1, qP, va_K.moved (u := U) (U := U.calling g mk a) (Vm.Alike.refl U.vm) qK, qD⟩, va_recv hKc hPc (ci := 7) (q0 := 0) rfl rfl, fun U hU hW => ⟨rfl, by rw [hU], by rw [hU]; exact hPc, va_K.moved hW.alike hKc, hDc.weaken (fun _ _ _ _ => trivial)⟩⟩ rfl rfl hl.1 rfl (lv_room (Nat.le_of_ble_eq_true rfl)) dX9_feed_131 ⟨Nat.le_of_ble_eq_true rfl, Nat.le_of_ble_eq_true rfl⟩) hS (fun q _ h => hFc q h) hFc (fun u t H1 locs ht hvm hw hB hz1 hk1 hS => ?_)
                          obtain ⟨u56, rfl⟩ : ∃ z, z = u := ⟨_, rfl⟩
                          obtain ⟨hP1, hK1, hD1⟩ := hB
                          rw [ht] at hP1
                          have hK1 := va_K.moved hvm.symm hK1
                          try dsimp only at hw
                          obtain ⟨hP, hD⟩ := va_join (wr := [(h0, .inr (8, [w0, w1, w2, w3, w4, w5, w6, w7, .ref qt, w9, w10, w11, w12]))]) (w1 := [(qt, .inr (7, [.ref qb, .int 4])), (qb, .inl (kb, 80, .inl u56))]) hP hD [1, 2] [0] rfl rfl (by decide) (by decide) hk1 hFc hP1 hD1
                          have hK := (hK.sub (tys' := []) [] rfl).app hK1
                          generalize H1 = H at hP hS ⊢
                          have hP : va_P (dC, dI) vwCl [(h0, .inr (8, [w0, w1, w2, w3, w4, w5, w6, w7, .ref qt, w9, w10, w11, w12])), (qt, .inr (7, [.ref qb, .int 4])), (qb, .inl (kb, 80, .inl u56))] H := hP
                          have hD : va_D A [(h0, .inr (8, [w0, w1, w2, w3, w4, w5, w6, w7, .ref qt, w9, w10, w11, w12])), (qt, .inr (7, [.ref qb, .int 4])), (qb, .inl (kb, 80, .inl u56))] := hD
                          have hK : va_K (dC, dI) vwCl [(kb, .int)] s := hK
                          refine lv_aload_n hx hb dX9_feed_134 rfl (lv_at hl 0 rfl) ?_
                          refine va_get (D := (dC, dI)) (ci := 8) (v := .ref qt) (C := RX9) (T := TX9) (N := 13) hx hb hts in_X9_feed_X9 hown hK hP 0 rfl rfl 8 (by decide) (hts (.fieldLink RX9 54 "ClearingGates" "tape" "LClearingGates$Tape;") (List.mem_of_getElem? (i := 1) (by decide +kernel))) (fun _ h9 => h9) rfl dX9_feed_135 ?_
                          refine va_get (D := (dC, dI)) (ci := 7) (v := .int 4) (C := RX8) (T := TX8) (N := 2) hx hb hts in_X9_feed_X8 hown hK hP 1 rfl rfl 1 (by decide) (hts (.fieldLink RX9 160 "ClearingGates$Tape" "size" "I") (List.mem_of_getElem? (i := 2) (by decide +kernel))) (fun _ h9 => h9) rfl dX9_feed_138 ?_
                          have hP9 := hP.sub (ws' := []) [] rfl
                          have hD9 := hD.sub (ws' := []) [] (by decide) rfl
                          have hK9 := hK.sub (tys' := []) [] rfl
                          exact W.iret (v := 4) hx hb hr (fun t ht hW => ⟨⟨4, (), rfl, Or.inl ⟨Int32.toInt_inj.mp (by omega), by omega⟩, by rw [ht]; exact hP9, va_K.moved hW.alike hK9, hD9⟩, hS.F ht⟩) hS.2.2 dX9_feed_141
                      · skip
                        have f_c53 := i_nle c53
                        refine lv_aload_n hx hb dX9_feed_111 rfl (lv_at hl 0 rfl) ?_
                        refine va_get (D := (dC, dI)) (ci := 8) (v := .ref qt) (C := RX9) (T := TX9) (N := 13) hx hb hts in_X9_feed_X9 hown hK hP 0 rfl rfl 8 (by decide) (hts (.fieldLink RX9 54 "ClearingGates" "tape" "LClearingGates$Tape;") (List.mem_of_getElem? (i := 1) (by decide +kernel))) (fun _ h9 => h9) rfl dX9_feed_112 ?_
                        refine lv_iload hx hb dX9_feed_115 (lv_at hl 5 rfl) ?_
                        have hPc := hP.sub (ws' := [(qt, .inr (7, [.ref qb, .int 3])), (qb, .inl (kb, 80, .inl u52))]) [1, 2] rfl
                        have hDc := hD.sub (ws' := [(qt, .inr (7, [.ref qb, .int 3])), (qb, .inl (kb, 80, .inl u52))]) [1, 2] (by decide) rfl
                        have hKc := hK.sub (tys' := [(kb, .int)]) [0] rfl
                        have hFc := va_free (wc := [(qt, .inr (7, [.ref qb, .int 3])), (qb, .inl (kb, 80, .inl u52))]) hD hS hA [1, 2] rfl
                        refine va_callv (va_runV (As := [.int p4]) (rest := []) ⟨hx, hb, hml, hown, hts⟩ (c_X8_add l dC dI qt p4 qb 3 kb u52 4 H.size (by decide) (by decide) (by decide)) (cwV 1 hts gX9_feed_X8_add rfl rfl rfl (by decide +kernel) ⟨Nat.le_of_ble_eq_true rfl, Nat.le_of_ble_eq_true rfl⟩) ⟨fun a U g mk q => by obtain ⟨q0, q1, qP, qK, qD⟩ := q; exact ⟨q0, q1, qP, va_K.moved (u := U) (U := U.calling g mk a) (Vm.Alike.refl U.vm) qK, qD⟩, va_recv hKc hPc (ci := 7) (q0 := 0) rfl rfl, fun U hU hW => ⟨rfl, by rw [hU], by rw [hU]; exact hPc, va_K.moved hW.alike hKc, hDc.weaken (fun _ _ _ _ => trivial)⟩⟩ rfl rfl hl.1 rfl (lv_room (Nat.le_of_ble_eq_true rfl)) dX9_feed_117 ⟨Nat.le_of_ble_eq_true rfl, Nat.le_of_ble_eq_true rfl⟩) hS (fun q _ h => hFc q h) hFc (fun u t H1 locs ht hvm hw hB hz1 hk1 hS => ?_)
                        obtain ⟨u58, rfl⟩ : ∃ z, z = u := ⟨_, rfl⟩
                        obtain ⟨hP1, hK1, hD1⟩ := hB
                        rw [ht] at hP1
                        have hK1 := va_K.moved hvm.symm hK1
                        try dsimp only at hw
                        obtain ⟨hP, hD⟩ := va_join (wr := [(h0, .inr (8, [w0, w1, w2, w3, w4, w5, w6, w7, .ref qt, w9, w10, w11, w12]))]) (w1 := [(qt, .inr (7, [.ref qb, .int 4])), (qb, .inl (kb, 80, .inl u58))]) hP hD [1, 2] [0] rfl rfl (by decide) (by decide) hk1 hFc hP1 hD1
                        have hK := (hK.sub (tys' := []) [] rfl).app hK1
                        generalize H1 = H at hP hS ⊢
                        have hP : va_P (dC, dI) vwCl [(h0, .inr (8, [w0, w1, w2, w3, w4, w5, w6, w7, .ref qt, w9, w10, w11, w12])), (qt, .inr (7, [.ref qb, .int 4])), (qb, .inl (kb, 80, .inl u58))] H := hP
                        have hD : va_D A [(h0, .inr (8, [w0, w1, w2, w3, w4, w5, w6, w7, .ref qt, w9, w10, w11, w12])), (qt, .inr (7, [.ref qb, .int 4])), (qb, .inl (kb, 80, .inl u58))] := hD
                        have hK : va_K (dC, dI) vwCl [(kb, .int)] s := hK
                        refine lv_iload_n hx hb dX9_feed_120 rfl (lv_at hl 1 rfl) ?_
                        refine lv_iconst (v := 4) hx hb dX9_feed_121 (by decide) ?_
                        refine lv_icmp_le (tgt := 134) hx hb dX9_feed_122 (by decide) (fun c59 => ?_) (fun c59 => ?_)
                        · skip
                          have f_c59 := i_le c59
                          refine lv_aload_n hx hb dX9_feed_134 rfl (lv_at hl 0 rfl) ?_
                          refine va_get (D := (dC, dI)) (ci := 8) (v := .ref qt) (C := RX9) (T := TX9) (N := 13) hx hb hts in_X9_feed_X9 hown hK hP 0 rfl rfl 8 (by decide) (hts (.fieldLink RX9 54 "ClearingGates" "tape" "LClearingGates$Tape;") (List.mem_of_getElem? (i := 1) (by decide +kernel))) (fun _ h9 => h9) rfl dX9_feed_135 ?_
                          refine va_get (D := (dC, dI)) (ci := 7) (v := .int 4) (C := RX8) (T := TX8) (N := 2) hx hb hts in_X9_feed_X8 hown hK hP 1 rfl rfl 1 (by decide) (hts (.fieldLink RX9 160 "ClearingGates$Tape" "size" "I") (List.mem_of_getElem? (i := 2) (by decide +kernel))) (fun _ h9 => h9) rfl dX9_feed_138 ?_
                          have hP9 := hP.sub (ws' := []) [] rfl
                          have hD9 := hD.sub (ws' := []) [] (by decide) rfl
                          have hK9 := hK.sub (tys' := []) [] rfl
                          exact W.iret (v := 4) hx hb hr (fun t ht hW => ⟨⟨4, (), rfl, Or.inl ⟨Int32.toInt_inj.mp (by omega), by omega⟩, by rw [ht]; exact hP9, va_K.moved hW.alike hK9, hD9⟩, hS.F ht⟩) hS.2.2 dX9_feed_141
                        · skip
                          have f_c59 := i_nle c59
                          refine lv_aload_n hx hb dX9_feed_125 rfl (lv_at hl 0 rfl) ?_
                          refine va_get (D := (dC, dI)) (ci := 8) (v := .ref qt) (C := RX9) (T := TX9) (N := 13) hx hb hts in_X9_feed_X9 hown hK hP 0 rfl rfl 8 (by decide) (hts (.fieldLink RX9 54 "ClearingGates" "tape" "LClearingGates$Tape;") (List.mem_of_getElem? (i := 1) (by decide +kernel))) (fun _ h9 => h9) rfl dX9_feed_126 ?_
                          refine lv_iload hx hb dX9_feed_129 (lv_at hl 6 rfl) ?_
                          have hPc := hP.sub (ws' := [(qt, .inr (7, [.ref qb, .int 4])), (qb, .inl (kb, 80, .inl u58))]) [1, 2] rfl
                          have hDc := hD.sub (ws' := [(qt, .inr (7, [.ref qb, .int 4])), (qb, .inl (kb, 80, .inl u58))]) [1, 2] (by decide) rfl
                          have hKc := hK.sub (tys' := [(kb, .int)]) [0] rfl
                          have hFc := va_free (wc := [(qt, .inr (7, [.ref qb, .int 4])), (qb, .inl (kb, 80, .inl u58))]) hD hS hA [1, 2] rfl
                          refine va_callv (va_runV (As := [.int p5]) (rest := []) ⟨hx, hb, hml, hown, hts⟩ (c_X8_add l dC dI qt p5 qb 4 kb u58 5 H.size (by decide) (by decide) (by decide)) (cwV 1 hts gX9_feed_X8_add rfl rfl rfl (by decide +kernel) ⟨Nat.le_of_ble_eq_true rfl, Nat.le_of_ble_eq_true rfl⟩) ⟨fun a U g mk q => by obtain ⟨q0, q1, qP, qK, qD⟩ := q; exact ⟨q0, q1, qP, va_K.moved (u := U) (U := U.calling g mk a) (Vm.Alike.refl U.vm) qK, qD⟩, va_recv hKc hPc (ci := 7) (q0 := 0) rfl rfl, fun U hU hW => ⟨rfl, by rw [hU], by rw [hU]; exact hPc, va_K.moved hW.alike hKc, hDc.weaken (fun _ _ _ _ => trivial)⟩⟩ rfl rfl hl.1 rfl (lv_room (Nat.le_of_ble_eq_true rfl)) dX9_feed_131 ⟨Nat.le_of_ble_eq_true rfl, Nat.le_of_ble_eq_true rfl⟩) hS (fun q _ h => hFc q h) hFc (fun u t H1 locs ht hvm hw hB hz1 hk1 hS => ?_)
                          obtain ⟨u61, rfl⟩ : ∃ z, z = u := ⟨_, rfl⟩
                          obtain ⟨hP1, hK1, hD1⟩ := hB
                          rw [ht] at hP1
                          have hK1 := va_K.moved hvm.symm hK1
                          try dsimp only at hw
                          obtain ⟨hP, hD⟩ := va_join (wr := [(h0, .inr (8, [w0, w1, w2, w3, w4, w5, w6, w7, .ref qt, w9, w10, w11, w12]))]) (w1 := [(qt, .inr (7, [.ref qb, .int 5])), (qb, .inl (kb, 80, .inl u61))]) hP hD [1, 2] [0] rfl rfl (by decide) (by decide) hk1 hFc hP1 hD1
                          have hK := (hK.sub (tys' := []) [] rfl).app hK1
                          generalize H1 = H at hP hS ⊢
                          have hP : va_P (dC, dI) vwCl [(h0, .inr (8, [w0, w1, w2, w3, w4, w5, w6, w7, .ref qt, w9, w10, w11, w12])), (qt, .inr (7, [.ref qb, .int 5])), (qb, .inl (kb, 80, .inl u61))] H := hP
                          have hD : va_D A [(h0, .inr (8, [w0, w1, w2, w3, w4, w5, w6, w7, .ref qt, w9, w10, w11, w12])), (qt, .inr (7, [.ref qb, .int 5])), (qb, .inl (kb, 80, .inl u61))] := hD
                          have hK : va_K (dC, dI) vwCl [(kb, .int)] s := hK
                          refine lv_aload_n hx hb dX9_feed_134 rfl (lv_at hl 0 rfl) ?_
                          refine va_get (D := (dC, dI)) (ci := 8) (v := .ref qt) (C := RX9) (T := TX9) (N := 13) hx hb hts in_X9_feed_X9 hown hK hP 0 rfl rfl 8 (by decide) (hts (.fieldLink RX9 54 "ClearingGates" "tape" "LClearingGates$Tape;") (List.mem_of_getElem? (i := 1) (by decide +kernel))) (fun _ h9 => h9) rfl dX9_feed_135 ?_
                          refine va_get (D := (dC, dI)) (ci := 7) (v := .int 5) (C := RX8) (T := TX8) (N := 2) hx hb hts in_X9_feed_X8 hown hK hP 1 rfl rfl 1 (by decide) (hts (.fieldLink RX9 160 "ClearingGates$Tape" "size" "I") (List.mem_of_getElem? (i := 2) (by decide +kernel))) (fun _ h9 => h9) rfl dX9_feed_138 ?_
                          have hP9 := hP.sub (ws' := []) [] rfl
                          have hD9 := hD.sub (ws' := []) [] (by decide) rfl
                          have hK9 := hK.sub (tys' := []) [] rfl
                          exact W.iret (v := 5) hx hb hr (fun t ht hW => ⟨⟨5, (), rfl, Or.inl ⟨Int32.toInt_inj.mp (by omega), by omega⟩, by rw [ht]; exact hP9, va_K.moved hW.alike hK9, hD9⟩, hS.F ht⟩) hS.2.2 dX9_feed_141
                · skip
                  have f_c14 := i_nle c14
                  exfalso; omega
              · subst e_r11
                refine lv_if_ne (tgt := 54) hx hb dX9_feed_48 (by decide) (fun c62 => absurd (by decide) c62) (fun c62 => ?_)
                refine lv_bipush (v := -2) hx hb dX9_feed_51 (by decide) ?_
                have hP9 := hP.sub (ws' := []) [] rfl
                have hD9 := hD.sub (ws' := []) [] (by decide) rfl
                have hK9 := hK.sub (tys' := []) [] rfl
                exact W.iret (v := (-2)) hx hb hr (fun t ht hW => ⟨⟨(-2), (), rfl, Or.inr (⟨rfl, by omega⟩), by rw [ht]; exact hP9, va_K.moved hW.alike hK9, hD9⟩, hS.F ht⟩) hS.2.2 dX9_feed_53
            · subst e_r9
              refine lv_if_eq (tgt := 51) hx hb dX9_feed_40 (by decide) (fun c63 => ?_) (fun c63 => absurd (by decide) c63)
              refine lv_bipush (v := -2) hx hb dX9_feed_51 (by decide) ?_
              have hP9 := hP.sub (ws' := []) [] rfl
              have hD9 := hD.sub (ws' := []) [] (by decide) rfl
              have hK9 := hK.sub (tys' := []) [] rfl
              exact W.iret (v := (-2)) hx hb hr (fun t ht hW => ⟨⟨(-2), (), rfl, Or.inr (⟨rfl, by omega⟩), by rw [ht]; exact hP9, va_K.moved hW.alike hK9, hD9⟩, hS.F ht⟩) hS.2.2 dX9_feed_53
          · subst e_r7
            refine lv_if_eq (tgt := 51) hx hb dX9_feed_32 (by decide) (fun c64 => ?_) (fun c64 => absurd (by decide) c64)
            refine lv_bipush (v := -2) hx hb dX9_feed_51 (by decide) ?_
            have hP9 := hP.sub (ws' := []) [] rfl
            have hD9 := hD.sub (ws' := []) [] (by decide) rfl
            have hK9 := hK.sub (tys' := []) [] rfl
            exact W.iret (v := (-2)) hx hb hr (fun t ht hW => ⟨⟨(-2), (), rfl, Or.inr (⟨rfl, by omega⟩), by rw [ht]; exact hP9, va_K.moved hW.alike hK9, hD9⟩, hS.F ht⟩) hS.2.2 dX9_feed_53
        · subst e_r5
          refine lv_if_eq (tgt := 51) hx hb dX9_feed_24 (by decide) (fun c65 => ?_) (fun c65 => absurd (by decide) c65)
          refine lv_bipush (v := -2) hx hb dX9_feed_51 (by decide) ?_
          have hP9 := hP.sub (ws' := []) [] rfl
          have hD9 := hD.sub (ws' := []) [] (by decide) rfl
          have hK9 := hK.sub (tys' := []) [] rfl
          exact W.iret (v := (-2)) hx hb hr (fun t ht hW => ⟨⟨(-2), (), rfl, Or.inr (⟨rfl, by omega⟩), by rw [ht]; exact hP9, va_K.moved hW.alike hK9, hD9⟩, hS.F ht⟩) hS.2.2 dX9_feed_53
      · subst e_r3
        refine lv_if_eq (tgt := 51) hx hb dX9_feed_17 (by decide) (fun c66 => ?_) (fun c66 => absurd (by decide) c66)
        refine lv_bipush (v := -2) hx hb dX9_feed_51 (by decide) ?_
        have hP9 := hP.sub (ws' := []) [] rfl
        have hD9 := hD.sub (ws' := []) [] (by decide) rfl
        have hK9 := hK.sub (tys' := []) [] rfl
        exact W.iret (v := (-2)) hx hb hr (fun t ht hW => ⟨⟨(-2), (), rfl, Or.inr (⟨rfl, by omega⟩), by rw [ht]; exact hP9, va_K.moved hW.alike hK9, hD9⟩, hS.F ht⟩) hS.2.2 dX9_feed_53
    · skip
      have f_c2 := i_nle c2
      refine lv_bipush (v := -2) hx hb dX9_feed_10 (by decide) ?_
      have hP9 := hP.sub (ws' := []) [] rfl
      have hD9 := hD.sub (ws' := []) [] (by decide) rfl
      have hK9 := hK.sub (tys' := []) [] rfl
      exact W.iret (v := (-2)) hx hb hr (fun t ht hW => ⟨⟨(-2), (), rfl, Or.inr (⟨rfl, by omega⟩), by rw [ht]; exact hP9, va_K.moved hW.alike hK9, hD9⟩, hS.F ht⟩) hS.2.2 dX9_feed_12

theorem in_X9_program_X9 : ∀ w ∈ wsX90, w ∈ wsX9_program := fun _ h => List.mem_cons_of_mem _ (List.mem_append_left _ (List.mem_append_left _ (List.mem_append_left _ (List.mem_append_right _ h))))
theorem in_X9_program_X8 : ∀ w ∈ wsX80, w ∈ wsX9_program := fun _ h => List.mem_cons_of_mem _ (List.mem_append_left _ (List.mem_append_left _ (List.mem_append_right _ h)))
set_option maxRecDepth 100000 in
set_option maxHeartbeats 4000000 in
/-- program on a fresh object -/
theorem c_X9_program (l : Launch) (dC : Nat → ClassId) (dI : Nat → Nat → Nat) (h0 : Nat) (w0 : Value) (w1 : Value) (w2 : Value) (w3 : Value) (w4 : Value) (qpa : Nat) (w7 : Value) (qt : Nat) (qr : Nat) (w10 : Value) (w11 : Value) (w12 : Value) (kpa : ClassId) (fpa : Nat → Option Nat) (qp : Nat) (qb : Nat) (y1 : Value) (y2 : Value) (kb : ClassId) (fb : Nat → Int32) (qc : Nat) (kc : ClassId) (fc : Nat → Int32) (u0 : Value) (u1 : Value) (u2 : Value) (u3 : Value) (u4 : Value) (sz : Nat) (hfp : fpa 0 = some qp) : Met l yX9_program wsX9_program ({ frames := 2, cells := 0, slots := 0, locals := 81 }) (va_Pc [.ref h0] (fun U => U.heap.size = sz ∧ va_P (dC, dI) vwCl [(h0, .inr (8, [w0, w1, w2, w3, w4, .ref qpa, .int 0, w7, .ref qt, .ref qr, w10, w11, w12])), (qpa, .inl (kpa, 4, .inr (.inr (.inr (.inr fpa))))), (qp, .inr (2, [.ref qb, y1, y2])), (qb, .inl (kb, 80, .inl fb)), (qt, .inr (7, [.ref qc, .int 0])), (qc, .inl (kc, 80, .inl fc)), (qr, .inr (3, [u0, u1, u2, u3, u4]))] U.heap ∧ va_K (dC, dI) vwCl [(kpa, .object "ClearingGates$Program"), (kb, .int), (kc, .int)] U ∧ va_D (fun _ => True) [(h0, .inr (8, [w0, w1, w2, w3, w4, .ref qpa, .int 0, w7, .ref qt, .ref qr, w10, w11, w12])), (qpa, .inl (kpa, 4, .inr (.inr (.inr (.inr fpa))))), (qp, .inr (2, [.ref qb, y1, y2])), (qb, .inl (kb, 80, .inl fb)), (qt, .inr (7, [.ref qc, .int 0])), (qc, .inl (kc, 80, .inl fc)), (qr, .inr (3, [u0, u1, u2, u3, u4]))])) (va_Qi (fun (r : Int32) (_ : Unit) => r = (-100)) (fun (_ : Unit) (t : State) => va_P (dC, dI) vwCl [] t.heap ∧ va_K (dC, dI) vwCl [] t ∧ va_D (va_A [(h0, .inr (8, [w0, w1, w2, w3, w4, .ref qpa, .int 0, w7, .ref qt, .ref qr, w10, w11, w12])), (qpa, .inl (kpa, 4, .inr (.inr (.inr (.inr fpa))))), (qp, .inr (2, [.ref qb, y1, y2])), (qb, .inl (kb, 80, .inl fb)), (qt, .inr (7, [.ref qc, .int 0])), (qc, .inl (kc, 80, .inl fc)), (qr, .inr (3, [u0, u1, u2, u3, u4]))] sz) []) (va_A [(h0, .inr (8, [w0, w1, w2, w3, w4, .ref qpa, .int 0, w7, .ref qt, .ref qr, w10, w11, w12])), (qpa, .inl (kpa, 4, .inr (.inr (.inr (.inr fpa))))), (qp, .inr (2, [.ref qb, y1, y2])), (qb, .inl (kb, 80, .inl fb)), (qt, .inr (7, [.ref qc, .int 0])), (qc, .inl (kc, 80, .inl fc)), (qr, .inr (3, [u0, u1, u2, u3, u4]))] sz)) 0 0 (va_A [(h0, .inr (8, [w0, w1, w2, w3, w4, .ref qpa, .int 0, w7, .ref qt, .ref qr, w10, w11, w12])), (qpa, .inl (kpa, 4, .inr (.inr (.inr (.inr fpa))))), (qp, .inr (2, [.ref qb, y1, y2])), (qb, .inl (kb, 80, .inl fb)), (qt, .inr (7, [.ref qc, .int 0])), (qc, .inl (kc, 80, .inl fc)), (qr, .inr (3, [u0, u1, u2, u3, u4]))] sz) := by
  refine Met.ofW (cc := cX9_program) (maxL := 3) (ret := (some .int)) (by decide) rfl ?_
  intro p e s m args below meth c s₁ B hml hv
  obtain ⟨rfl, hsz, hP, hK, hD0⟩ := hv
  have hx := B.exec
  have hb := B.bytes
  have hr := B.returns
  have hts := atoms_spec (ws := wsX9_program) B.pre
  have hown : s.vm.findClass RX9 = some m.cls := findClass_of_methodNamed B.named
  have hlocks := B.notSynchronized
  subst hsz
  have hD := hD0.self (sz := s.heap.size)
  generalize hAe : va_A [(h0, .inr (8, [w0, w1, w2, w3, w4, .ref qpa, .int 0, w7, .ref qt, .ref qr, w10, w11, w12])), (qpa, .inl (kpa, 4, .inr (.inr (.inr (.inr fpa))))), (qp, .inr (2, [.ref qb, y1, y2])), (qb, .inl (kb, 80, .inl fb)), (qt, .inr (7, [.ref qc, .int 0])), (qc, .inl (kc, 80, .inl fc)), (qr, .inr (3, [u0, u1, u2, u3, u4]))] s.heap.size = A at hD ⊢
  have hA : ∀ q : Nat, s.heap.size ≤ q → A q := fun q h => by rw [← hAe]; exact Or.inr h
  have hS : va_S A s.heap s.heap [] := va_S.rf
  have hP : va_P (dC, dI) vwCl [(h0, .inr (8, [w0, w1, w2, w3, w4, .ref qpa, .int 0, w7, .ref qt, .ref qr, w10, w11, w12])), (qpa, .inl (kpa, 4, .inr (.inr (.inr (.inr fpa))))), (qp, .inr (2, [.ref qb, y1, y2])), (qb, .inl (kb, 80, .inl fb)), (qt, .inr (7, [.ref qc, .int 0])), (qc, .inl (kc, 80, .inl fc)), (qr, .inr (3, [u0, u1, u2, u3, u4]))] s.heap := hP
  have hl := lv_entry ([.ref h0]) (n := 3) (Nat.le_of_ble_eq_true rfl)
  rw [lg_entry_eq]
  generalize (lg_sl ([.ref h0]) ++ List.replicate (3 - (lg_sl ([.ref h0])).length) Slot.unset).toArray = ls at hl ⊢
  have hl : lv_has ls 3 [(0, .ref h0)] := hl
  have k_m100 : ((-100) : Int32).toInt = (-100) := by decide
  have k_0 : (0 : Int32).toInt = 0 := by decide
  refine lv_aload_n hx hb dX9_program_0 rfl (lv_at hl 0 rfl) ?_
  refine va_get (D := (dC, dI)) (ci := 8) (v := .int 0) (C := RX9) (T := TX9) (N := 13) hx hb hts in_X9_program_X9 hown hK hP 0 rfl rfl 6 (by decide) (hts (.fieldLink RX9 141 "ClearingGates" "programCount" "I") (List.mem_of_getElem? (i := 1) (by decide +kernel))) (fun _ h9 => h9) rfl dX9_program_1 ?_
  refine lv_iconst (v := 4) hx hb dX9_program_4 (by decide) ?_
  refine lv_icmp_lt (tgt := 11) hx hb dX9_program_5 (by decide) (fun c1 => ?_) (fun c1 => absurd (by decide) c1)
  refine lv_aload_n hx hb dX9_program_11 rfl (lv_at hl 0 rfl) ?_
  refine va_get (D := (dC, dI)) (ci := 8) (v := .ref qpa) (C := RX9) (T := TX9) (N := 13) hx hb hts in_X9_program_X9 hown hK hP 0 rfl rfl 5 (by decide) (hts (.fieldLink RX9 42 "ClearingGates" "programs" "[LClearingGates$Program;") (List.mem_of_getElem? (i := 2) (by decide +kernel))) (fun _ h9 => h9) rfl dX9_program_12 ?_
  refine lv_aload_n hx hb dX9_program_15 rfl (lv_at hl 0 rfl) ?_
  refine va_get (D := (dC, dI)) (ci := 8) (v := .int 0) (C := RX9) (T := TX9) (N := 13) hx hb hts in_X9_program_X9 hown hK hP 0 rfl rfl 6 (by decide) (hts (.fieldLink RX9 141 "ClearingGates" "programCount" "I") (List.mem_of_getElem? (i := 1) (by decide +kernel))) (fun _ h9 => h9) rfl dX9_program_16 ?_
  refine va_aldq (D := (dC, dI)) hx hb hK hP 1 0 rfl rfl (vp_in_iff.mpr ⟨by decide, by decide⟩) dX9_program_19 ?_
  rw [show va_rf (fpa (0 : Int32).toNatClampNeg) = .ref qp from by rw [show (0 : Int32).toNatClampNeg = 0 from rfl, hfp]; rfl]
  refine lv_astore_n (lv' := [(1, .ref qp), (0, .ref h0)]) hx hb dX9_program_20 rfl hl (by decide) rfl (fun ls hl => ?_)
  refine lv_aload_n hx hb dX9_program_21 rfl (lv_at hl 0 rfl) ?_
  refine lv_aload_n hx hb dX9_program_22 rfl (lv_at hl 1 rfl) ?_
  refine va_get (D := (dC, dI)) (ci := 8) (v := .ref qt) (C := RX9) (T := TX9) (N := 13) hx hb hts in_X9_program_X9 hown hK hP 0 rfl rfl 8 (by decide) (hts (.fieldLink RX9 54 "ClearingGates" "tape" "LClearingGates$Tape;") (List.mem_of_getElem? (i := 3) (by decide +kernel))) (fun _ h9 => h9) rfl dX9_program_23 ?_
  have hPc := hP.sub (ws' := [(qp, .inr (2, [.ref qb, y1, y2])), (qb, .inl (kb, 80, .inl fb)), (qt, .inr (7, [.ref qc, .int 0])), (qc, .inl (kc, 80, .inl fc))]) [2, 3, 4, 5] rfl
  have hDc := hD.sub (ws' := [(qp, .inr (2, [.ref qb, y1, y2])), (qb, .inl (kb, 80, .inl fb)), (qt, .inr (7, [.ref qc, .int 0])), (qc, .inl (kc, 80, .inl fc))]) [2, 3, 4, 5] (by decide) rfl
  have hKc := hK.sub (tys' := [(kb, .int), (kc, .int)]) [1, 2] rfl
  have hFc := va_free (wc := [(qp, .inr (2, [.ref qb, y1, y2])), (qb, .inl (kb, 80, .inl fb)), (qt, .inr (7, [.ref qc, .int 0])), (qc, .inl (kc, 80, .inl fc))]) hD hS hA [2, 3, 4, 5] rfl
  refine va_callv (va_runV (As := [.ref qt]) (rest := []) ⟨hx, hb, hml, hown, hts⟩ (c_X3_takeOver l dC dI qp qt qb (y1) (y2) kb fb qc 0 kc fc s.heap.size) (cwV 1 hts gX9_program_X3_takeOver rfl rfl rfl (by decide +kernel) ⟨Nat.le_of_ble_eq_true rfl, Nat.le_of_ble_eq_true rfl⟩) ⟨fun a U g mk q => by obtain ⟨q0, q1, qP, qK, qD⟩ := q; exact ⟨q0, q1, qP, va_K.moved (u := U) (U := U.calling g mk a) (Vm.Alike.refl U.vm) qK, qD⟩, va_recv hKc hPc (ci := 2) (q0 := 0) rfl rfl, fun U hU hW => ⟨rfl, by rw [hU], by rw [hU]; exact hPc, va_K.moved hW.alike hKc, hDc.weaken (fun _ _ _ _ => trivial)⟩⟩ rfl rfl hl.1 rfl (lv_room (Nat.le_of_ble_eq_true rfl)) dX9_program_26 ⟨Nat.le_of_ble_eq_true rfl, Nat.le_of_ble_eq_true rfl⟩) hS (fun q _ h => hFc q h) hFc (fun u t H1 locs ht hvm hw hB hz1 hk1 hS => ?_)
  obtain ⟨hP1, hK1, hD1⟩ := hB
  rw [ht] at hP1
  have hK1 := va_K.moved hvm.symm hK1
  try dsimp only at hw
  obtain ⟨hP, hD⟩ := va_join (wr := [(h0, .inr (8, [w0, w1, w2, w3, w4, .ref qpa, .int 0, w7, .ref qt, .ref qr, w10, w11, w12])), (qpa, .inl (kpa, 4, .inr (.inr (.inr (.inr fpa))))), (qr, .inr (3, [u0, u1, u2, u3, u4]))]) (w1 := [(qp, .inr (2, [.ref qb, y1, .int 0])), (qt, .inr (7, [.ref qc, .int 0])), (qc, .inl (kc, 80, .inl fc))]) hP hD [2, 3, 4, 5] [0, 1, 6] rfl rfl (by decide) (by decide) hk1 hFc hP1 hD1
  have hK := (hK.sub (tys' := [(kpa, .object "ClearingGates$Program")]) [0] rfl).app hK1
  generalize H1 = H at hP hS ⊢
  have hP : va_P (dC, dI) vwCl [(h0, .inr (8, [w0, w1, w2, w3, w4, .ref qpa, .int 0, w7, .ref qt, .ref qr, w10, w11, w12])), (qpa, .inl (kpa, 4, .inr (.inr (.inr (.inr fpa))))), (qr, .inr (3, [u0, u1, u2, u3, u4])), (qp, .inr (2, [.ref qb, y1, .int 0])), (qt, .inr (7, [.ref qc, .int 0])), (qc, .inl (kc, 80, .inl fc))] H := hP
  have hD : va_D A [(h0, .inr (8, [w0, w1, w2, w3, w4, .ref qpa, .int 0, w7, .ref qt, .ref qr, w10, w11, w12])), (qpa, .inl (kpa, 4, .inr (.inr (.inr (.inr fpa))))), (qr, .inr (3, [u0, u1, u2, u3, u4])), (qp, .inr (2, [.ref qb, y1, .int 0])), (qt, .inr (7, [.ref qc, .int 0])), (qc, .inl (kc, 80, .inl fc))] := hD
  have hK : va_K (dC, dI) vwCl [(kpa, .object "ClearingGates$Program"), (kc, .int)] s := hK
  refine lv_aload_n hx hb dX9_program_29 rfl (lv_at hl 1 rfl) ?_
  refine va_get (D := (dC, dI)) (ci := 8) (v := .ref qt) (C := RX9) (T := TX9) (N := 13) hx hb hts in_X9_program_X9 hown hK hP 0 rfl rfl 8 (by decide) (hts (.fieldLink RX9 54 "ClearingGates" "tape" "LClearingGates$Tape;") (List.mem_of_getElem? (i := 3) (by decide +kernel))) (fun _ h9 => h9) rfl dX9_program_30 ?_
  refine lv_iconst (v := 0) hx hb dX9_program_33 (by decide) ?_
  refine va_put (D := (dC, dI)) (ci := 7) (v := .int 0) (ty := .int) (C := RX8) (T := TX8) (N := 2) hx hb hts in_X9_program_X8 tyX8 tyX8_ok nmX8 hown hK hP hD hS 4 rfl rfl 1 (by decide) (hts (.fieldLink RX9 160 "ClearingGates$Tape" "size" "I") (List.mem_of_getElem? (i := 4) (by decide +kernel))) (fun _ h9 => h9) rfl (by decide +kernel) rfl rfl (Nat.le_of_ble_eq_true rfl) dX9_program_34 (fun H locs hP hD hS => ?_)
  have hP : va_P (dC, dI) vwCl [(h0, .inr (8, [w0, w1, w2, w3, w4, .ref qpa, .int 0, w7, .ref qt, .ref qr, w10, w11, w12])), (qpa, .inl (kpa, 4, .inr (.inr (.inr (.inr fpa))))), (qr, .inr (3, [u0, u1, u2, u3, u4])), (qp, .inr (2, [.ref qb, y1, .int 0])), (qt, .inr (7, [.ref qc, .int 0])), (qc, .inl (kc, 80, .inl fc))] H := hP
  have hD : va_D A [(h0, .inr (8, [w0, w1, w2, w3, w4, .ref qpa, .int 0, w7, .ref qt, .ref qr, w10, w11, w12])), (qpa, .inl (kpa, 4, .inr (.inr (.inr (.inr fpa))))), (qr, .inr (3, [u0, u1, u2, u3, u4])), (qp, .inr (2, [.ref qb, y1, .int 0])), (qt, .inr (7, [.ref qc, .int 0])), (qc, .inl (kc, 80, .inl fc))] := hD
  refine lv_aload_n hx hb dX9_program_37 rfl (lv_at hl 1 rfl) ?_
  refine va_get (D := (dC, dI)) (ci := 8) (v := .ref qr) (C := RX9) (T := TX9) (N := 13) hx hb hts in_X9_program_X9 hown hK hP 0 rfl rfl 9 (by decide) (hts (.fieldLink RX9 61 "ClearingGates" "reader" "LClearingGates$Reader;") (List.mem_of_getElem? (i := 5) (by decide +kernel))) (fun _ h9 => h9) rfl dX9_program_38 ?_
  refine lv_aload_n hx hb dX9_program_41 rfl (lv_at hl 0 rfl) ?_
  have hPc := hP.sub (ws' := [(qr, .inr (3, [u0, u1, u2, u3, u4])), (qp, .inr (2, [.ref qb, y1, .int 0]))]) [2, 3] rfl
  have hDc := hD.sub (ws' := [(qr, .inr (3, [u0, u1, u2, u3, u4])), (qp, .inr (2, [.ref qb, y1, .int 0]))]) [2, 3] (by decide) rfl
  have hKc := hK.sub (tys' := []) [] rfl
  have hFc := va_free (wc := [(qr, .inr (3, [u0, u1, u2, u3, u4])), (qp, .inr (2, [.ref qb, y1, .int 0]))]) hD hS hA [2, 3] rfl
  refine va_calli (va_runV (As := [.ref qp]) (rest := []) ⟨hx, hb, hml, hown, hts⟩ (c_X4_faultOf l dC dI qr qp (u0) (u1) (u2) (u3) (u4) (.ref qb) (y1) H.size) (cwV 1 hts gX9_program_X4_faultOf rfl rfl rfl (by decide +kernel) ⟨Nat.le_of_ble_eq_true rfl, Nat.le_of_ble_eq_true rfl⟩) ⟨fun a U g mk q => by obtain ⟨q0, q1, qP, qK, qD⟩ := q; exact ⟨q0, q1, qP, va_K.moved (u := U) (U := U.calling g mk a) (Vm.Alike.refl U.vm) qK, qD⟩, va_recv hKc hPc (ci := 3) (q0 := 0) rfl rfl, fun U hU hW => ⟨rfl, by rw [hU], by rw [hU]; exact hPc, va_K.moved hW.alike hKc, hDc.weaken (fun _ _ _ _ => trivial)⟩⟩ rfl rfl hl.1 rfl (lv_room (Nat.le_of_ble_eq_true rfl)) dX9_program_42 ⟨Nat.le_of_ble_eq_true rfl, Nat.le_of_ble_eq_true rfl⟩) hS (fun q _ h => hFc q h) hFc (fun r3 u t H1 locs ht hvm hw hB hz1 hk1 hS => ?_)
  obtain ⟨hP1, hK1, hD1⟩ := hB
  rw [ht] at hP1
  have hK1 := va_K.moved hvm.symm hK1
  try dsimp only at hw
  obtain ⟨hP, hD⟩ := va_join (wr := [(h0, .inr (8, [w0, w1, w2, w3, w4, .ref qpa, .int 0, w7, .ref qt, .ref qr, w10, w11, w12])), (qpa, .inl (kpa, 4, .inr (.inr (.inr (.inr fpa))))), (qt, .inr (7, [.ref qc, .int 0])), (qc, .inl (kc, 80, .inl fc))]) (w1 := []) hP hD [2, 3] [0, 1, 4, 5] rfl rfl (by decide) (by decide) hk1 hFc hP1 hD1
  have hK := (hK.sub (tys' := [(kpa, .object "ClearingGates$Program"), (kc, .int)]) [0, 1] rfl).app hK1
  generalize H1 = H at hP hS ⊢
  have hP : va_P (dC, dI) vwCl [(h0, .inr (8, [w0, w1, w2, w3, w4, .ref qpa, .int 0, w7, .ref qt, .ref qr, w10, w11, w12])), (qpa, .inl (kpa, 4, .inr (.inr (.inr (.inr fpa))))), (qt, .inr (7, [.ref qc, .int 0])), (qc, .inl (kc, 80, .inl fc))] H := hP
  have hD : va_D A [(h0, .inr (8, [w0, w1, w2, w3, w4, .ref qpa, .int 0, w7, .ref qt, .ref qr, w10, w11, w12])), (qpa, .inl (kpa, 4, .inr (.inr (.inr (.inr fpa))))), (qt, .inr (7, [.ref qc, .int 0])), (qc, .inl (kc, 80, .inl fc))] := hD
  have hK : va_K (dC, dI) vwCl [(kpa, .object "ClearingGates$Program"), (kc, .int)] s := hK
  subst hw
  refine lv_istore_n (lv' := [(2, .int 0), (1, .ref qp), (0, .ref h0)]) hx hb dX9_program_45 rfl hl (by decide) rfl (fun ls hl => ?_)
  refine lv_iload_n hx hb dX9_program_46 rfl (lv_at hl 0 rfl) ?_
  refine lv_iconst (v := -1) hx hb dX9_program_47 (by decide) ?_
  refine lv_icmp_eq (tgt := 56) hx hb dX9_program_48 (by decide) (fun c4 => absurd c4 (by decide)) (fun c4 => ?_)
  refine lv_bipush (v := -100) hx hb dX9_program_51 (by decide) ?_
  refine lv_iload_n hx hb dX9_program_53 rfl (lv_at hl 0 rfl) ?_
  refine lv_isub hx hb dX9_program_54 ?_
  refine lv_topi (fun z5 e_z5 => ?_)
  have e_z5 : z5 = (-100) := e_z5.trans (by first | rfl | decide)
  subst e_z5
  have hP9 := hP.sub (ws' := []) [] rfl
  have hD9 := hD.sub (ws' := []) [] (by decide) rfl
  have hK9 := hK.sub (tys' := []) [] rfl
  exact W.iret (v := (-100)) hx hb hr (fun t ht hW => ⟨⟨(-100), (), rfl, (by first | rfl | (simp only [if_pos, if_neg, *]; done)), by rw [ht]; exact hP9, va_K.moved hW.alike hK9, hD9⟩, hS.F ht⟩) hS.2.2 dX9_program_55
