theorem in_X9_put_X9 : ∀ w ∈ wsX90, w ∈ wsX9_put := fun _ h => List.mem_cons_of_mem _ (List.mem_append_left _ (List.mem_append_right _ h))
set_option maxRecDepth 100000 in
set_option maxHeartbeats 4000000 in
/-- put on a fresh object -/
theorem c_X9_put (l : Launch) (dC : Nat → ClassId) (dI : Nat → Nat → Nat) (h0 : Nat) (p0 : Int32) (p1 : Int32) (p2 : Int32) (w0 : Value) (w1 : Value) (w2 : Value) (w3 : Value) (w4 : Value) (w5 : Value) (w6 : Value) (w7 : Value) (w8 : Value) (w9 : Value) (w10 : Value) (w11 : Value) (qsa : Nat) (ksa : ClassId) (fsa : Nat → Option Nat) (qs0 : Nat) (y0_1 : Value) (y0_2 : Value) (qs1 : Nat) (y1_1 : Value) (y1_2 : Value) (qs2 : Nat) (y2_1 : Value) (y2_2 : Value) (qs3 : Nat) (y3_1 : Value) (y3_2 : Value) (sz : Nat) (hs0 : fsa 0 = some qs0) (hs1 : fsa 1 = some qs1) (hs2 : fsa 2 = some qs2) (hs3 : fsa 3 = some qs3) : Met l yX9_put wsX9_put ({ frames := 1, cells := 0, slots := 0, locals := 20 }) (va_Pc [.ref h0, .int p0, .int p1, .int p2] (fun U => U.heap.size = sz ∧ va_P (dC, dI) vwCl [(h0, .inr (8, [w0, w1, w2, w3, w4, w5, w6, w7, w8, w9, w10, w11, .ref qsa])), (qsa, .inl (ksa, 4, .inr (.inr (.inr (.inr fsa))))), (qs0, .inr (6, [.int (-1), y0_1, y0_2])), (qs1, .inr (6, [.int (-1), y1_1, y1_2])), (qs2, .inr (6, [.int (-1), y2_1, y2_2])), (qs3, .inr (6, [.int (-1), y3_1, y3_2]))] U.heap ∧ va_K (dC, dI) vwCl [(ksa, .object "ClearingGates$Sheet")] U ∧ va_D (fun _ => True) [(h0, .inr (8, [w0, w1, w2, w3, w4, w5, w6, w7, w8, w9, w10, w11, .ref qsa])), (qsa, .inl (ksa, 4, .inr (.inr (.inr (.inr fsa))))), (qs0, .inr (6, [.int (-1), y0_1, y0_2])), (qs1, .inr (6, [.int (-1), y1_1, y1_2])), (qs2, .inr (6, [.int (-1), y2_1, y2_2])), (qs3, .inr (6, [.int (-1), y3_1, y3_2]))])) (va_Qi (fun (r : Int32) (_ : Unit) => (r = (-11) ∧ 0 ≤ p0.toInt ∧ p0.toInt < 4) ∨ (r = (-2) ∧ ¬(0 ≤ p0.toInt ∧ p0.toInt < 4))) (fun (_ : Unit) (t : State) => va_P (dC, dI) vwCl [] t.heap ∧ va_K (dC, dI) vwCl [] t ∧ va_D (va_A [(h0, .inr (8, [w0, w1, w2, w3, w4, w5, w6, w7, w8, w9, w10, w11, .ref qsa])), (qsa, .inl (ksa, 4, .inr (.inr (.inr (.inr fsa))))), (qs0, .inr (6, [.int (-1), y0_1, y0_2])), (qs1, .inr (6, [.int (-1), y1_1, y1_2])), (qs2, .inr (6, [.int (-1), y2_1, y2_2])), (qs3, .inr (6, [.int (-1), y3_1, y3_2]))] sz) []) (va_A [(h0, .inr (8, [w0, w1, w2, w3, w4, w5, w6, w7, w8, w9, w10, w11, .ref qsa])), (qsa, .inl (ksa, 4, .inr (.inr (.inr (.inr fsa))))), (qs0, .inr (6, [.int (-1), y0_1, y0_2])), (qs1, .inr (6, [.int (-1), y1_1, y1_2])), (qs2, .inr (6, [.int (-1), y2_1, y2_2])), (qs3, .inr (6, [.int (-1), y3_1, y3_2]))] sz)) 0 0 (va_A [(h0, .inr (8, [w0, w1, w2, w3, w4, w5, w6, w7, w8, w9, w10, w11, .ref qsa])), (qsa, .inl (ksa, 4, .inr (.inr (.inr (.inr fsa))))), (qs0, .inr (6, [.int (-1), y0_1, y0_2])), (qs1, .inr (6, [.int (-1), y1_1, y1_2])), (qs2, .inr (6, [.int (-1), y2_1, y2_2])), (qs3, .inr (6, [.int (-1), y3_1, y3_2]))] sz) := by
  refine Met.ofW (cc := cX9_put) (maxL := 5) (ret := (some .int)) (by decide) rfl ?_
  intro p e s m args below meth c s₁ B hml hv
  obtain ⟨rfl, hsz, hP, hK, hD0⟩ := hv
  have hx := B.exec
  have hb := B.bytes
  have hr := B.returns
  have hts := atoms_spec (ws := wsX9_put) B.pre
  have hown : s.vm.findClass RX9 = some m.cls := findClass_of_methodNamed B.named
  have hlocks := B.notSynchronized
  subst hsz
  have hD := hD0.self (sz := s.heap.size)
  generalize hAe : va_A [(h0, .inr (8, [w0, w1, w2, w3, w4, w5, w6, w7, w8, w9, w10, w11, .ref qsa])), (qsa, .inl (ksa, 4, .inr (.inr (.inr (.inr fsa))))), (qs0, .inr (6, [.int (-1), y0_1, y0_2])), (qs1, .inr (6, [.int (-1), y1_1, y1_2])), (qs2, .inr (6, [.int (-1), y2_1, y2_2])), (qs3, .inr (6, [.int (-1), y3_1, y3_2]))] s.heap.size = A at hD ⊢
  have hA : ∀ q : Nat, s.heap.size ≤ q → A q := fun q h => by rw [← hAe]; exact Or.inr h
  have hS : va_S A s.heap s.heap [] := va_S.rf
  have hP : va_P (dC, dI) vwCl [(h0, .inr (8, [w0, w1, w2, w3, w4, w5, w6, w7, w8, w9, w10, w11, .ref qsa])), (qsa, .inl (ksa, 4, .inr (.inr (.inr (.inr fsa))))), (qs0, .inr (6, [.int (-1), y0_1, y0_2])), (qs1, .inr (6, [.int (-1), y1_1, y1_2])), (qs2, .inr (6, [.int (-1), y2_1, y2_2])), (qs3, .inr (6, [.int (-1), y3_1, y3_2]))] s.heap := hP
  have hl := lv_entry ([.ref h0, .int p0, .int p1, .int p2]) (n := 5) (Nat.le_of_ble_eq_true rfl)
  rw [lg_entry_eq]
  generalize (lg_sl ([.ref h0, .int p0, .int p1, .int p2]) ++ List.replicate (5 - (lg_sl ([.ref h0, .int p0, .int p1, .int p2])).length) Slot.unset).toArray = ls at hl ⊢
  have hl : lv_has ls 5 [(0, .ref h0), (1, .int p0), (2, .int p1), (3, .int p2)] := hl
  have k_m11 : ((-11) : Int32).toInt = (-11) := by decide
  have k_m2 : ((-2) : Int32).toInt = (-2) := by decide
  refine lv_iload_n hx hb dX9_put_0 rfl (lv_at hl 1 rfl) ?_
  have hPc := hP.sub (ws' := []) [] rfl
  have hDc := hD.sub (ws' := []) [] (by decide) rfl
  have hKc := hK.sub (tys' := []) [] rfl
  have hFc := va_free (wc := []) hD hS hA [] rfl
  refine va_calli (va_runS (As := [.int p0]) (rest := []) ⟨hx, hb, hml, hown, hts⟩ (c_X9_isSheet l dC dI p0 s.heap.size) (va_cwS 1 hts gX9_put_X9_isSheet rfl rfl rfl (by decide +kernel) ⟨Nat.le_of_ble_eq_true rfl, Nat.le_of_ble_eq_true rfl⟩) ⟨fun a U g mk q => by obtain ⟨q0, q1, qP, qK, qD⟩ := q; exact ⟨q0, q1, qP, va_K.moved (u := U) (U := U.calling g mk a) (Vm.Alike.refl U.vm) qK, qD⟩, fun U hU hW => ⟨rfl, by rw [hU], by rw [hU]; exact hPc, va_K.moved hW.alike hKc, hDc.weaken (fun _ _ _ _ => trivial)⟩⟩ rfl rfl hl.1 rfl (lv_room (Nat.le_of_ble_eq_true rfl)) dX9_put_1 ⟨Nat.le_of_ble_eq_true rfl, Nat.le_of_ble_eq_true rfl⟩) hS (fun q _ h => hFc q h) hFc (fun r1 u t H1 locs ht hvm hw hB hz1 hk1 hS => ?_)
  obtain ⟨hP1, hK1, hD1⟩ := hB
  rw [ht] at hP1
  have hK1 := va_K.moved hvm.symm hK1
  try dsimp only at hw
  obtain ⟨hP, hD⟩ := va_join (wr := [(h0, .inr (8, [w0, w1, w2, w3, w4, w5, w6, w7, w8, w9, w10, w11, .ref qsa])), (qsa, .inl (ksa, 4, .inr (.inr (.inr (.inr fsa))))), (qs0, .inr (6, [.int (-1), y0_1, y0_2])), (qs1, .inr (6, [.int (-1), y1_1, y1_2])), (qs2, .inr (6, [.int (-1), y2_1, y2_2])), (qs3, .inr (6, [.int (-1), y3_1, y3_2]))]) (w1 := []) hP hD [] [0, 1, 2, 3, 4, 5] rfl rfl (by decide) (by decide) hk1 hFc hP1 hD1
  have hK := (hK.sub (tys' := [(ksa, .object "ClearingGates$Sheet")]) [0] rfl).app hK1
  generalize H1 = H at hP hS ⊢
  have hP : va_P (dC, dI) vwCl [(h0, .inr (8, [w0, w1, w2, w3, w4, w5, w6, w7, w8, w9, w10, w11, .ref qsa])), (qsa, .inl (ksa, 4, .inr (.inr (.inr (.inr fsa))))), (qs0, .inr (6, [.int (-1), y0_1, y0_2])), (qs1, .inr (6, [.int (-1), y1_1, y1_2])), (qs2, .inr (6, [.int (-1), y2_1, y2_2])), (qs3, .inr (6, [.int (-1), y3_1, y3_2]))] H := hP
  have hD : va_D A [(h0, .inr (8, [w0, w1, w2, w3, w4, w5, w6, w7, w8, w9, w10, w11, .ref qsa])), (qsa, .inl (ksa, 4, .inr (.inr (.inr (.inr fsa))))), (qs0, .inr (6, [.int (-1), y0_1, y0_2])), (qs1, .inr (6, [.int (-1), y1_1, y1_2])), (qs2, .inr (6, [.int (-1), y2_1, y2_2])), (qs3, .inr (6, [.int (-1), y3_1, y3_2]))] := hD
  have hK : va_K (dC, dI) vwCl [(ksa, .object "ClearingGates$Sheet")] s := hK
  rcases hw with ⟨e_r1, f_r1⟩ | ⟨e_r1, f_r1⟩
  · subst e_r1
    refine lv_if_ne (tgt := 10) hx hb dX9_put_4 (by decide) (fun c2 => ?_) (fun c2 => absurd c2 (by decide))
    refine lv_aload_n hx hb dX9_put_10 rfl (lv_at hl 0 rfl) ?_
    refine va_get (D := (dC, dI)) (ci := 8) (v := .ref qsa) (C := RX9) (T := TX9) (N := 13) hx hb hts in_X9_put_X9 hown hK hP 0 rfl rfl 12 (by decide) (hts (.fieldLink RX9 79 "ClearingGates" "sheets" "[LClearingGates$Sheet;") (List.mem_of_getElem? (i := 1) (by decide +kernel))) (fun _ h9 => h9) rfl dX9_put_11 ?_
    refine lv_iload_n hx hb dX9_put_14 rfl (lv_at hl 1 rfl) ?_
    refine va_aldq (D := (dC, dI)) hx hb hK hP 1 0 rfl rfl (vp_in_iff.mpr ⟨by omega, by omega⟩) dX9_put_15 ?_
    rcases (show p0.toInt = 0 ∨ p0.toInt = 1 ∨ p0.toInt = 2 ∨ p0.toInt = 3 by omega) with j0 | j0 | j0 | j0
    · rw [show va_rf (fsa p0.toNatClampNeg) = .ref qs0 from by rw [i_nat j0, hs0]; rfl]
      refine lv_astore (lv' := [(4, .ref qs0), (0, .ref h0), (1, .int p0), (2, .int p1), (3, .int p2)]) hx hb dX9_put_16 hl (by decide) rfl (fun ls hl => ?_)
      refine lv_aload hx hb dX9_put_18 (lv_at hl 0 rfl) ?_
      have hPc := hP.sub (ws' := [(qs0, .inr (6, [.int (-1), y0_1, y0_2]))]) [2] rfl
      have hDc := hD.sub (ws' := [(qs0, .inr (6, [.int (-1), y0_1, y0_2]))]) [2] (by decide) rfl
      have hKc := hK.sub (tys' := []) [] rfl
      have hFc := va_free (wc := [(qs0, .inr (6, [.int (-1), y0_1, y0_2]))]) hD hS hA [2] rfl
      refine va_calli (va_runV (As := []) (rest := []) ⟨hx, hb, hml, hown, hts⟩ (c_X7_isMissing l dC dI qs0 (y0_1) (y0_2) H.size) (cwV 0 hts gX9_put_X7_isMissing rfl rfl rfl (by decide +kernel) ⟨Nat.le_of_ble_eq_true rfl, Nat.le_of_ble_eq_true rfl⟩) ⟨fun a U g mk q => by obtain ⟨q0, q1, qP, qK, qD⟩ := q; exact ⟨q0, q1, qP, va_K.moved (u := U) (U := U.calling g mk a) (Vm.Alike.refl U.vm) qK, qD⟩, va_recv hKc hPc (ci := 6) (q0 := 0) rfl rfl, fun U hU hW => ⟨rfl, by rw [hU], by rw [hU]; exact hPc, va_K.moved hW.alike hKc, hDc.weaken (fun _ _ _ _ => trivial)⟩⟩ rfl rfl hl.1 rfl (lv_room (Nat.le_of_ble_eq_true rfl)) dX9_put_20 ⟨Nat.le_of_ble_eq_true rfl, Nat.le_of_ble_eq_true rfl⟩) hS (fun q _ h => hFc q h) hFc (fun r3 u t H1 locs ht hvm hw hB hz1 hk1 hS => ?_)
      obtain ⟨hP1, hK1, hD1⟩ := hB
      rw [ht] at hP1
      have hK1 := va_K.moved hvm.symm hK1
      try dsimp only at hw
      obtain ⟨hP, hD⟩ := va_join (wr := [(h0, .inr (8, [w0, w1, w2, w3, w4, w5, w6, w7, w8, w9, w10, w11, .ref qsa])), (qsa, .inl (ksa, 4, .inr (.inr (.inr (.inr fsa))))), (qs1, .inr (6, [.int (-1), y1_1, y1_2])), (qs2, .inr (6, [.int (-1), y2_1, y2_2])), (qs3, .inr (6, [.int (-1), y3_1, y3_2]))]) (w1 := [(qs0, .inr (6, [.int (-1), y0_1, y0_2]))]) hP hD [2] [0, 1, 3, 4, 5] rfl rfl (by decide) (by decide) hk1 hFc hP1 hD1
      have hK := (hK.sub (tys' := [(ksa, .object "ClearingGates$Sheet")]) [0] rfl).app hK1
      generalize H1 = H at hP hS ⊢
      have hP : va_P (dC, dI) vwCl [(h0, .inr (8, [w0, w1, w2, w3, w4, w5, w6, w7, w8, w9, w10, w11, .ref qsa])), (qsa, .inl (ksa, 4, .inr (.inr (.inr (.inr fsa))))), (qs1, .inr (6, [.int (-1), y1_1, y1_2])), (qs2, .inr (6, [.int (-1), y2_1, y2_2])), (qs3, .inr (6, [.int (-1), y3_1, y3_2])), (qs0, .inr (6, [.int (-1), y0_1, y0_2]))] H := hP
      have hD : va_D A [(h0, .inr (8, [w0, w1, w2, w3, w4, w5, w6, w7, w8, w9, w10, w11, .ref qsa])), (qsa, .inl (ksa, 4, .inr (.inr (.inr (.inr fsa))))), (qs1, .inr (6, [.int (-1), y1_1, y1_2])), (qs2, .inr (6, [.int (-1), y2_1, y2_2])), (qs3, .inr (6, [.int (-1), y3_1, y3_2])), (qs0, .inr (6, [.int (-1), y0_1, y0_2]))] := hD
      have hK : va_K (dC, dI) vwCl [(ksa, .object "ClearingGates$Sheet")] s := hK
      subst hw
      refine lv_if_eq (tgt := 29) hx hb dX9_put_23 (by decide) (fun c4 => absurd c4 (by decide)) (fun c4 => ?_)
      refine lv_bipush (v := -11) hx hb dX9_put_26 (by decide) ?_
      have hP9 := hP.sub (ws' := []) [] rfl
      have hD9 := hD.sub (ws' := []) [] (by decide) rfl
      have hK9 := hK.sub (tys' := []) [] rfl
      exact W.iret (v := (-11)) hx hb hr (fun t ht hW => ⟨⟨(-11), (), rfl, Or.inl ⟨rfl, by omega⟩, by rw [ht]; exact hP9, va_K.moved hW.alike hK9, hD9⟩, hS.F ht⟩) hS.2.2 dX9_put_28
    · rw [show va_rf (fsa p0.toNatClampNeg) = .ref qs1 from by rw [i_nat j0, hs1]; rfl]
      refine lv_astore (lv' := [(4, .ref qs1), (0, .ref h0), (1, .int p0), (2, .int p1), (3, .int p2)]) hx hb dX9_put_16 hl (by decide) rfl (fun ls hl => ?_)
      refine lv_aload hx hb dX9_put_18 (lv_at hl 0 rfl) ?_
      have hPc := hP.sub (ws' := [(qs1, .inr (6, [.int (-1), y1_1, y1_2]))]) [3] rfl
      have hDc := hD.sub (ws' := [(qs1, .inr (6, [.int (-1), y1_1, y1_2]))]) [3] (by decide) rfl
      have hKc := hK.sub (tys' := []) [] rfl
      have hFc := va_free (wc := [(qs1, .inr (6, [.int (-1), y1_1, y1_2]))]) hD hS hA [3] rfl
      refine va_calli (va_runV (As := []) (rest := []) ⟨hx, hb, hml, hown, hts⟩ (c_X7_isMissing l dC dI qs1 (y1_1) (y1_2) H.size) (cwV 0 hts gX9_put_X7_isMissing rfl rfl rfl (by decide +kernel) ⟨Nat.le_of_ble_eq_true rfl, Nat.le_of_ble_eq_true rfl⟩) ⟨fun a U g mk q => by obtain ⟨q0, q1, qP, qK, qD⟩ := q; exact ⟨q0, q1, qP, va_K.moved (u := U) (U := U.calling g mk a) (Vm.Alike.refl U.vm) qK, qD⟩, va_recv hKc hPc (ci := 6) (q0 := 0) rfl rfl, fun U hU hW => ⟨rfl, by rw [hU], by rw [hU]; exact hPc, va_K.moved hW.alike hKc, hDc.weaken (fun _ _ _ _ => trivial)⟩⟩ rfl rfl hl.1 rfl (lv_room (Nat.le_of_ble_eq_true rfl)) dX9_put_20 ⟨Nat.le_of_ble_eq_true rfl, Nat.le_of_ble_eq_true rfl⟩) hS (fun q _ h => hFc q h) hFc (fun r5 u t H1 locs ht hvm hw hB hz1 hk1 hS => ?_)
      obtain ⟨hP1, hK1, hD1⟩ := hB
      rw [ht] at hP1
      have hK1 := va_K.moved hvm.symm hK1
      try dsimp only at hw
      obtain ⟨hP, hD⟩ := va_join (wr := [(h0, .inr (8, [w0, w1, w2, w3, w4, w5, w6, w7, w8, w9, w10, w11, .ref qsa])), (qsa, .inl (ksa, 4, .inr (.inr (.inr (.inr fsa))))), (qs0, .inr (6, [.int (-1), y0_1, y0_2])), (qs2, .inr (6, [.int (-1), y2_1, y2_2])), (qs3, .inr (6, [.int (-1), y3_1, y3_2]))]) (w1 := [(qs1, .inr (6, [.int (-1), y1_1, y1_2]))]) hP hD [3] [0, 1, 2, 4, 5] rfl rfl (by decide) (by decide) hk1 hFc hP1 hD1
      have hK := (hK.sub (tys' := [(ksa, .object "ClearingGates$Sheet")]) [0] rfl).app hK1
      generalize H1 = H at hP hS ⊢
      have hP : va_P (dC, dI) vwCl [(h0, .inr (8, [w0, w1, w2, w3, w4, w5, w6, w7, w8, w9, w10, w11, .ref qsa])), (qsa, .inl (ksa, 4, .inr (.inr (.inr (.inr fsa))))), (qs0, .inr (6, [.int (-1), y0_1, y0_2])), (qs2, .inr (6, [.int (-1), y2_1, y2_2])), (qs3, .inr (6, [.int (-1), y3_1, y3_2])), (qs1, .inr (6, [.int (-1), y1_1, y1_2]))] H := hP
      have hD : va_D A [(h0, .inr (8, [w0, w1, w2, w3, w4, w5, w6, w7, w8, w9, w10, w11, .ref qsa])), (qsa, .inl (ksa, 4, .inr (.inr (.inr (.inr fsa))))), (qs0, .inr (6, [.int (-1), y0_1, y0_2])), (qs2, .inr (6, [.int (-1), y2_1, y2_2])), (qs3, .inr (6, [.int (-1), y3_1, y3_2])), (qs1, .inr (6, [.int (-1), y1_1, y1_2]))] := hD
      have hK : va_K (dC, dI) vwCl [(ksa, .object "ClearingGates$Sheet")] s := hK
      subst hw
      refine lv_if_eq (tgt := 29) hx hb dX9_put_23 (by decide) (fun c6 => absurd c6 (by decide)) (fun c6 => ?_)
      refine lv_bipush (v := -11) hx hb dX9_put_26 (by decide) ?_
      have hP9 := hP.sub (ws' := []) [] rfl
      have hD9 := hD.sub (ws' := []) [] (by decide) rfl
      have hK9 := hK.sub (tys' := []) [] rfl
      exact W.iret (v := (-11)) hx hb hr (fun t ht hW => ⟨⟨(-11), (), rfl, Or.inl ⟨rfl, by omega⟩, by rw [ht]; exact hP9, va_K.moved hW.alike hK9, hD9⟩, hS.F ht⟩) hS.2.2 dX9_put_28
    · rw [show va_rf (fsa p0.toNatClampNeg) = .ref qs2 from by rw [i_nat j0, hs2]; rfl]
      refine lv_astore (lv' := [(4, .ref qs2), (0, .ref h0), (1, .int p0), (2, .int p1), (3, .int p2)]) hx hb dX9_put_16 hl (by decide) rfl (fun ls hl => ?_)
      refine lv_aload hx hb dX9_put_18 (lv_at hl 0 rfl) ?_
      have hPc := hP.sub (ws' := [(qs2, .inr (6, [.int (-1), y2_1, y2_2]))]) [4] rfl
      have hDc := hD.sub (ws' := [(qs2, .inr (6, [.int (-1), y2_1, y2_2]))]) [4] (by decide) rfl
      have hKc := hK.sub (tys' := []) [] rfl
      have hFc := va_free (wc := [(qs2, .inr (6, [.int (-1), y2_1, y2_2]))]) hD hS hA [4] rfl
      refine va_calli (va_runV (As := []) (rest := []) ⟨hx, hb, hml, hown, hts⟩ (c_X7_isMissing l dC dI qs2 (y2_1) (y2_2) H.size) (cwV 0 hts gX9_put_X7_isMissing rfl rfl rfl (by decide +kernel) ⟨Nat.le_of_ble_eq_true rfl, Nat.le_of_ble_eq_true rfl⟩) ⟨fun a U g mk q => by obtain ⟨q0, q1, qP, qK, qD⟩ := q; exact ⟨q0, q1, qP, va_K.moved (u := U) (U := U.calling g mk a) (Vm.Alike.refl U.vm) qK, qD⟩, va_recv hKc hPc (ci := 6) (q0 := 0) rfl rfl, fun U hU hW => ⟨rfl, by rw [hU], by rw [hU]; exact hPc, va_K.moved hW.alike hKc, hDc.weaken (fun _ _ _ _ => trivial)⟩⟩ rfl rfl hl.1 rfl (lv_room (Nat.le_of_ble_eq_true rfl)) dX9_put_20 ⟨Nat.le_of_ble_eq_true rfl, Nat.le_of_ble_eq_true rfl⟩) hS (fun q _ h => hFc q h) hFc (fun r7 u t H1 locs ht hvm hw hB hz1 hk1 hS => ?_)
      obtain ⟨hP1, hK1, hD1⟩ := hB
      rw [ht] at hP1
      have hK1 := va_K.moved hvm.symm hK1
      try dsimp only at hw
      obtain ⟨hP, hD⟩ := va_join (wr := [(h0, .inr (8, [w0, w1, w2, w3, w4, w5, w6, w7, w8, w9, w10, w11, .ref qsa])), (qsa, .inl (ksa, 4, .inr (.inr (.inr (.inr fsa))))), (qs0, .inr (6, [.int (-1), y0_1, y0_2])), (qs1, .inr (6, [.int (-1), y1_1, y1_2])), (qs3, .inr (6, [.int (-1), y3_1, y3_2]))]) (w1 := [(qs2, .inr (6, [.int (-1), y2_1, y2_2]))]) hP hD [4] [0, 1, 2, 3, 5] rfl rfl (by decide) (by decide) hk1 hFc hP1 hD1
      have hK := (hK.sub (tys' := [(ksa, .object "ClearingGates$Sheet")]) [0] rfl).app hK1
      generalize H1 = H at hP hS ⊢
      have hP : va_P (dC, dI) vwCl [(h0, .inr (8, [w0, w1, w2, w3, w4, w5, w6, w7, w8, w9, w10, w11, .ref qsa])), (qsa, .inl (ksa, 4, .inr (.inr (.inr (.inr fsa))))), (qs0, .inr (6, [.int (-1), y0_1, y0_2])), (qs1, .inr (6, [.int (-1), y1_1, y1_2])), (qs3, .inr (6, [.int (-1), y3_1, y3_2])), (qs2, .inr (6, [.int (-1), y2_1, y2_2]))] H := hP
      have hD : va_D A [(h0, .inr (8, [w0, w1, w2, w3, w4, w5, w6, w7, w8, w9, w10, w11, .ref qsa])), (qsa, .inl (ksa, 4, .inr (.inr (.inr (.inr fsa))))), (qs0, .inr (6, [.int (-1), y0_1, y0_2])), (qs1, .inr (6, [.int (-1), y1_1, y1_2])), (qs3, .inr (6, [.int (-1), y3_1, y3_2])), (qs2, .inr (6, [.int (-1), y2_1, y2_2]))] := hD
      have hK : va_K (dC, dI) vwCl [(ksa, .object "ClearingGates$Sheet")] s := hK
      subst hw
      refine lv_if_eq (tgt := 29) hx hb dX9_put_23 (by decide) (fun c8 => absurd c8 (by decide)) (fun c8 => ?_)
      refine lv_bipush (v := -11) hx hb dX9_put_26 (by decide) ?_
      have hP9 := hP.sub (ws' := []) [] rfl
      have hD9 := hD.sub (ws' := []) [] (by decide) rfl
      have hK9 := hK.sub (tys' := []) [] rfl
      exact W.iret (v := (-11)) hx hb hr (fun t ht hW => ⟨⟨(-11), (), rfl, Or.inl ⟨rfl, by omega⟩, by rw [ht]; exact hP9, va_K.moved hW.alike hK9, hD9⟩, hS.F ht⟩) hS.2.2 dX9_put_28
    · rw [show va_rf (fsa p0.toNatClampNeg) = .ref qs3 from by rw [i_nat j0, hs3]; rfl]
      refine lv_astore (lv' := [(4, .ref qs3), (0, .ref h0), (1, .int p0), (2, .int p1), (3, .int p2)]) hx hb dX9_put_16 hl (by decide) rfl (fun ls hl => ?_)
      refine lv_aload hx hb dX9_put_18 (lv_at hl 0 rfl) ?_
      have hPc := hP.sub (ws' := [(qs3, .inr (6, [.int (-1), y3_1, y3_2]))]) [5] rfl
      have hDc := hD.sub (ws' := [(qs3, .inr (6, [.int (-1), y3_1, y3_2]))]) [5] (by decide) rfl
      have hKc := hK.sub (tys' := []) [] rfl
      have hFc := va_free (wc := [(qs3, .inr (6, [.int (-1), y3_1, y3_2]))]) hD hS hA [5] rfl
      refine va_calli (va_runV (As := []) (rest := []) ⟨hx, hb, hml, hown, hts⟩ (c_X7_isMissing l dC dI qs3 (y3_1) (y3_2) H.size) (cwV 0 hts gX9_put_X7_isMissing rfl rfl rfl (by decide +kernel) ⟨Nat.le_of_ble_eq_true rfl, Nat.le_of_ble_eq_true rfl⟩) ⟨fun a U g mk q => by obtain ⟨q0, q1, qP, qK, qD⟩ := q; exact ⟨q0, q1, qP, va_K.moved (u := U) (U := U.calling g mk a) (Vm.Alike.refl U.vm) qK, qD⟩, va_recv hKc hPc (ci := 6) (q0 := 0) rfl rfl, fun U hU hW => ⟨rfl, by rw [hU], by rw [hU]; exact hPc, va_K.moved hW.alike hKc, hDc.weaken (fun _ _ _ _ => trivial)⟩⟩ rfl rfl hl.1 rfl (lv_room (Nat.le_of_ble_eq_true rfl)) dX9_put_20 ⟨Nat.le_of_ble_eq_true rfl, Nat.le_of_ble_eq_true rfl⟩) hS (fun q _ h => hFc q h) hFc (fun r9 u t H1 locs ht hvm hw hB hz1 hk1 hS => ?_)
      obtain ⟨hP1, hK1, hD1⟩ := hB
      rw [ht] at hP1
      have hK1 := va_K.moved hvm.symm hK1
      try dsimp only at hw
      obtain ⟨hP, hD⟩ := va_join (wr := [(h0, .inr (8, [w0, w1, w2, w3, w4, w5, w6, w7, w8, w9, w10, w11, .ref qsa])), (qsa, .inl (ksa, 4, .inr (.inr (.inr (.inr fsa))))), (qs0, .inr (6, [.int (-1), y0_1, y0_2])), (qs1, .inr (6, [.int (-1), y1_1, y1_2])), (qs2, .inr (6, [.int (-1), y2_1, y2_2]))]) (w1 := [(qs3, .inr (6, [.int (-1), y3_1, y3_2]))]) hP hD [5] [0, 1, 2, 3, 4] rfl rfl (by decide) (by decide) hk1 hFc hP1 hD1
      have hK := (hK.sub (tys' := [(ksa, .object "ClearingGates$Sheet")]) [0] rfl).app hK1
      generalize H1 = H at hP hS ⊢
      have hP : va_P (dC, dI) vwCl [(h0, .inr (8, [w0, w1, w2, w3, w4, w5, w6, w7, w8, w9, w10, w11, .ref qsa])), (qsa, .inl (ksa, 4, .inr (.inr (.inr (.inr fsa))))), (qs0, .inr (6, [.int (-1), y0_1, y0_2])), (qs1, .inr (6, [.int (-1), y1_1, y1_2])), (qs2, .inr (6, [.int (-1), y2_1, y2_2])), (qs3, .inr (6, [.int (-1), y3_1, y3_2]))] H := hP
      have hD : va_D A [(h0, .inr (8, [w0, w1, w2, w3, w4, w5, w6, w7, w8, w9, w10, w11, .ref qsa])), (qsa, .inl (ksa, 4, .inr (.inr (.inr (.inr fsa))))), (qs0, .inr (6, [.int (-1), y0_1, y0_2])), (qs1, .inr (6, [.int (-1), y1_1, y1_2])), (qs2, .inr (6, [.int (-1), y2_1, y2_2])), (qs3, .inr (6, [.int (-1), y3_1, y3_2]))] := hD
      have hK : va_K (dC, dI) vwCl [(ksa, .object "ClearingGates$Sheet")] s := hK
      subst hw
      refine lv_if_eq (tgt := 29) hx hb dX9_put_23 (by decide) (fun c10 => absurd c10 (by decide)) (fun c10 => ?_)
      refine lv_bipush (v := -11) hx hb dX9_put_26 (by decide) ?_
      have hP9 := hP.sub (ws' := []) [] rfl
      have hD9 := hD.sub (ws' := []) [] (by decide) rfl
      have hK9 := hK.sub (tys' := []) [] rfl
      exact W.iret (v := (-11)) hx hb hr (fun t ht hW => ⟨⟨(-11), (), rfl, Or.inl ⟨rfl, by omega⟩, by rw [ht]; exact hP9, va_K.moved hW.alike hK9, hD9⟩, hS.F ht⟩) hS.2.2 dX9_put_28
  · subst e_r1
    refine lv_if_ne (tgt := 10) hx hb dX9_put_4 (by decide) (fun c11 => absurd (by decide) c11) (fun c11 => ?_)
    refine lv_bipush (v := -2) hx hb dX9_put_7 (by decide) ?_
    have hP9 := hP.sub (ws' := []) [] rfl
    have hD9 := hD.sub (ws' := []) [] (by decide) rfl
    have hK9 := hK.sub (tys' := []) [] rfl
    exact W.iret (v := (-2)) hx hb hr (fun t ht hW => ⟨⟨(-2), (), rfl, Or.inr (⟨rfl, by omega⟩), by rw [ht]; exact hP9, va_K.moved hW.alike hK9, hD9⟩, hS.F ht⟩) hS.2.2 dX9_put_9

theorem in_X9_load_X9 : ∀ w ∈ wsX90, w ∈ wsX9_load := fun _ h => List.mem_cons_of_mem _ (List.mem_append_left _ (List.mem_append_left _ (List.mem_append_left _ (List.mem_append_right _ h))))
set_option maxRecDepth 100000 in
set_option maxHeartbeats 4000000 in
/-- load on a fresh object -/
theorem c_X9_load (l : Launch) (dC : Nat → ClassId) (dI : Nat → Nat → Nat) (h0 : Nat) (p0 : Int32) (p1 : Int32) (p2 : Int32) (p3 : Int32) (w0 : Value) (w1 : Value) (w2 : Value) (w3 : Value) (w4 : Value) (w5 : Value) (w6 : Value) (w7 : Value) (w8 : Value) (w9 : Value) (w10 : Value) (w11 : Value) (qsa : Nat) (ksa : ClassId) (fsa : Nat → Option Nat) (qs0 : Nat) (y0_1 : Value) (y0_2 : Value) (qs1 : Nat) (y1_1 : Value) (y1_2 : Value) (qs2 : Nat) (y2_1 : Value) (y2_2 : Value) (qs3 : Nat) (y3_1 : Value) (y3_2 : Value) (sz : Nat) (hs0 : fsa 0 = some qs0) (hs1 : fsa 1 = some qs1) (hs2 : fsa 2 = some qs2) (hs3 : fsa 3 = some qs3) : Met l yX9_load wsX9_load ({ frames := 1, cells := 0, slots := 0, locals := 21 }) (va_Pc [.ref h0, .int p0, .int p1, .int p2, .int p3] (fun U => U.heap.size = sz ∧ va_P (dC, dI) vwCl [(h0, .inr (8, [w0, w1, w2, w3, w4, w5, w6, w7, w8, w9, w10, w11, .ref qsa])), (qsa, .inl (ksa, 4, .inr (.inr (.inr (.inr fsa))))), (qs0, .inr (6, [.int (-1), y0_1, y0_2])), (qs1, .inr (6, [.int (-1), y1_1, y1_2])), (qs2, .inr (6, [.int (-1), y2_1, y2_2])), (qs3, .inr (6, [.int (-1), y3_1, y3_2]))] U.heap ∧ va_K (dC, dI) vwCl [(ksa, .object "ClearingGates$Sheet")] U ∧ va_D (fun _ => True) [(h0, .inr (8, [w0, w1, w2, w3, w4, w5, w6, w7, w8, w9, w10, w11, .ref qsa])), (qsa, .inl (ksa, 4, .inr (.inr (.inr (.inr fsa))))), (qs0, .inr (6, [.int (-1), y0_1, y0_2])), (qs1, .inr (6, [.int (-1), y1_1, y1_2])), (qs2, .inr (6, [.int (-1), y2_1, y2_2])), (qs3, .inr (6, [.int (-1), y3_1, y3_2]))])) (va_Qi (fun (r : Int32) (_ : Unit) => (r = (-11) ∧ 0 ≤ p0.toInt ∧ p0.toInt < 4 ∧ 0 ≤ p1.toInt ∧ p1.toInt ≤ 1 ∧ 0 ≤ p3.toInt ∧ p3.toInt ≤ 20) ∨ (r = (-2) ∧ ¬(0 ≤ p0.toInt ∧ p0.toInt < 4 ∧ 0 ≤ p1.toInt ∧ p1.toInt ≤ 1 ∧ 0 ≤ p3.toInt ∧ p3.toInt ≤ 20))) (fun (_ : Unit) (t : State) => va_P (dC, dI) vwCl [] t.heap ∧ va_K (dC, dI) vwCl [] t ∧ va_D (va_A [(h0, .inr (8, [w0, w1, w2, w3, w4, w5, w6, w7, w8, w9, w10, w11, .ref qsa])), (qsa, .inl (ksa, 4, .inr (.inr (.inr (.inr fsa))))), (qs0, .inr (6, [.int (-1), y0_1, y0_2])), (qs1, .inr (6, [.int (-1), y1_1, y1_2])), (qs2, .inr (6, [.int (-1), y2_1, y2_2])), (qs3, .inr (6, [.int (-1), y3_1, y3_2]))] sz) []) (va_A [(h0, .inr (8, [w0, w1, w2, w3, w4, w5, w6, w7, w8, w9, w10, w11, .ref qsa])), (qsa, .inl (ksa, 4, .inr (.inr (.inr (.inr fsa))))), (qs0, .inr (6, [.int (-1), y0_1, y0_2])), (qs1, .inr (6, [.int (-1), y1_1, y1_2])), (qs2, .inr (6, [.int (-1), y2_1, y2_2])), (qs3, .inr (6, [.int (-1), y3_1, y3_2]))] sz)) 0 0 (va_A [(h0, .inr (8, [w0, w1, w2, w3, w4, w5, w6, w7, w8, w9, w10, w11, .ref qsa])), (qsa, .inl (ksa, 4, .inr (.inr (.inr (.inr fsa))))), (qs0, .inr (6, [.int (-1), y0_1, y0_2])), (qs1, .inr (6, [.int (-1), y1_1, y1_2])), (qs2, .inr (6, [.int (-1), y2_1, y2_2])), (qs3, .inr (6, [.int (-1), y3_1, y3_2]))] sz) := by
  refine Met.ofW (cc := cX9_load) (maxL := 9) (ret := (some .int)) (by decide) rfl ?_
  intro p e s m args below meth c s₁ B hml hv
  obtain ⟨rfl, hsz, hP, hK, hD0⟩ := hv
  have hx := B.exec
  have hb := B.bytes
  have hr := B.returns
  have hts := atoms_spec (ws := wsX9_load) B.pre
  have hown : s.vm.findClass RX9 = some m.cls := findClass_of_methodNamed B.named
  have hlocks := B.notSynchronized
  subst hsz
  have hD := hD0.self (sz := s.heap.size)
  generalize hAe : va_A [(h0, .inr (8, [w0, w1, w2, w3, w4, w5, w6, w7, w8, w9, w10, w11, .ref qsa])), (qsa, .inl (ksa, 4, .inr (.inr (.inr (.inr fsa))))), (qs0, .inr (6, [.int (-1), y0_1, y0_2])), (qs1, .inr (6, [.int (-1), y1_1, y1_2])), (qs2, .inr (6, [.int (-1), y2_1, y2_2])), (qs3, .inr (6, [.int (-1), y3_1, y3_2]))] s.heap.size = A at hD ⊢
  have hA : ∀ q : Nat, s.heap.size ≤ q → A q := fun q h => by rw [← hAe]; exact Or.inr h
  have hS : va_S A s.heap s.heap [] := va_S.rf
  have hP : va_P (dC, dI) vwCl [(h0, .inr (8, [w0, w1, w2, w3, w4, w5, w6, w7, w8, w9, w10, w11, .ref qsa])), (qsa, .inl (ksa, 4, .inr (.inr (.inr (.inr fsa))))), (qs0, .inr (6, [.int (-1), y0_1, y0_2])), (qs1, .inr (6, [.int (-1), y1_1, y1_2])), (qs2, .inr (6, [.int (-1), y2_1, y2_2])), (qs3, .inr (6, [.int (-1), y3_1, y3_2]))] s.heap := hP
  have hl := lv_entry ([.ref h0, .int p0, .int p1, .int p2, .int p3]) (n := 9) (Nat.le_of_ble_eq_true rfl)
  rw [lg_entry_eq]
  generalize (lg_sl ([.ref h0, .int p0, .int p1, .int p2, .int p3]) ++ List.replicate (9 - (lg_sl ([.ref h0, .int p0, .int p1, .int p2, .int p3])).length) Slot.unset).toArray = ls at hl ⊢
  have hl : lv_has ls 9 [(0, .ref h0), (1, .int p0), (2, .int p1), (3, .int p2), (4, .int p3)] := hl
  have k_m11 : ((-11) : Int32).toInt = (-11) := by decide
  have k_m2 : ((-2) : Int32).toInt = (-2) := by decide
  have k_0 : (0 : Int32).toInt = 0 := by decide
  have k_1 : (1 : Int32).toInt = 1 := by decide
  have k_20 : (20 : Int32).toInt = 20 := by decide
  refine lv_iload_n hx hb dX9_load_0 rfl (lv_at hl 1 rfl) ?_
  have hPc := hP.sub (ws' := []) [] rfl
  have hDc := hD.sub (ws' := []) [] (by decide) rfl
  have hKc := hK.sub (tys' := []) [] rfl
  have hFc := va_free (wc := []) hD hS hA [] rfl
  refine va_calli (va_runS (As := [.int p0]) (rest := []) ⟨hx, hb, hml, hown, hts⟩ (c_X9_isSheet l dC dI p0 s.heap.size) (va_cwS 1 hts gX9_load_X9_isSheet rfl rfl rfl (by decide +kernel) ⟨Nat.le_of_ble_eq_true rfl, Nat.le_of_ble_eq_true rfl⟩) ⟨fun a U g mk q => by obtain ⟨q0, q1, qP, qK, qD⟩ := q; exact ⟨q0, q1, qP, va_K.moved (u := U) (U := U.calling g mk a) (Vm.Alike.refl U.vm) qK, qD⟩, fun U hU hW => ⟨rfl, by rw [hU], by rw [hU]; exact hPc, va_K.moved hW.alike hKc, hDc.weaken (fun _ _ _ _ => trivial)⟩⟩ rfl rfl hl.1 rfl (lv_room (Nat.le_of_ble_eq_true rfl)) dX9_load_1 ⟨Nat.le_of_ble_eq_true rfl, Nat.le_of_ble_eq_true rfl⟩) hS (fun q _ h => hFc q h) hFc (fun r1 u t H1 locs ht hvm hw hB hz1 hk1 hS => ?_)
  obtain ⟨hP1, hK1, hD1⟩ := hB
  rw [ht] at hP1
  have hK1 := va_K.moved hvm.symm hK1
  try dsimp only at hw
  obtain ⟨hP, hD⟩ := va_join (wr := [(h0, .inr (8, [w0, w1, w2, w3, w4, w5, w6, w7, w8, w9, w10, w11, .ref qsa])), (qsa, .inl (ksa, 4, .inr (.inr (.inr (.inr fsa))))), (qs0, .inr (6, [.int (-1), y0_1, y0_2])), (qs1, .inr (6, [.int (-1), y1_1, y1_2])), (qs2, .inr (6, [.int (-1), y2_1, y2_2])), (qs3, .inr (6, [.int (-1), y3_1, y3_2]))]) (w1 := []) hP hD [] [0, 1, 2, 3, 4, 5] rfl rfl (by decide) (by decide) hk1 hFc hP1 hD1
  have hK := (hK.sub (tys' := [(ksa, .object "ClearingGates$Sheet")]) [0] rfl).app hK1
  generalize H1 = H at hP hS ⊢
  have hP : va_P (dC, dI) vwCl [(h0, .inr (8, [w0, w1, w2, w3, w4, w5, w6, w7, w8, w9, w10, w11, .ref qsa])), (qsa, .inl (ksa, 4, .inr (.inr (.inr (.inr fsa))))), (qs0, .inr (6, [.int (-1), y0_1, y0_2])), (qs1, .inr (6, [.int (-1), y1_1, y1_2])), (qs2, .inr (6, [.int (-1), y2_1, y2_2])), (qs3, .inr (6, [.int (-1), y3_1, y3_2]))] H := hP
  have hD : va_D A [(h0, .inr (8, [w0, w1, w2, w3, w4, w5, w6, w7, w8, w9, w10, w11, .ref qsa])), (qsa, .inl (ksa, 4, .inr (.inr (.inr (.inr fsa))))), (qs0, .inr (6, [.int (-1), y0_1, y0_2])), (qs1, .inr (6, [.int (-1), y1_1, y1_2])), (qs2, .inr (6, [.int (-1), y2_1, y2_2])), (qs3, .inr (6, [.int (-1), y3_1, y3_2]))] := hD
  have hK : va_K (dC, dI) vwCl [(ksa, .object "ClearingGates$Sheet")] s := hK
  rcases hw with ⟨e_r1, f_r1⟩ | ⟨e_r1, f_r1⟩
  · subst e_r1
    refine lv_if_eq (tgt := 26) hx hb dX9_load_4 (by decide) (fun c2 => absurd c2 (by decide)) (fun c2 => ?_)
    refine lv_iload_n hx hb dX9_load_7 rfl (lv_at hl 2 rfl) ?_
    refine lv_if_lt (tgt := 26) hx hb dX9_load_8 (by decide) (fun c3 => ?_) (fun c3 => ?_)
    · skip
      have f_c3 := i_lt c3
      refine lv_bipush (v := -2) hx hb dX9_load_26 (by decide) ?_
      have hP9 := hP.sub (ws' := []) [] rfl
      have hD9 := hD.sub (ws' := []) [] (by decide) rfl
      have hK9 := hK.sub (tys' := []) [] rfl
      exact W.iret (v := (-2)) hx hb hr (fun t ht hW => ⟨⟨(-2), (), rfl, Or.inr (⟨rfl, by omega⟩), by rw [ht]; exact hP9, va_K.moved hW.alike hK9, hD9⟩, hS.F ht⟩) hS.2.2 dX9_load_28
    · skip
      have f_c3 := i_nlt c3
      refine lv_iload_n hx hb dX9_load_11 rfl (lv_at hl 2 rfl) ?_
      refine lv_iconst (v := 1) hx hb dX9_load_12 (by decide) ?_
      refine lv_icmp_gt (tgt := 26) hx hb dX9_load_13 (by decide) (fun c4 => ?_) (fun c4 => ?_)
      · skip
        have f_c4 := i_lt c4
        refine lv_bipush (v := -2) hx hb dX9_load_26 (by decide) ?_
        have hP9 := hP.sub (ws' := []) [] rfl
        have hD9 := hD.sub (ws' := []) [] (by decide) rfl
        have hK9 := hK.sub (tys' := []) [] rfl
        exact W.iret (v := (-2)) hx hb hr (fun t ht hW => ⟨⟨(-2), (), rfl, Or.inr (⟨rfl, by omega⟩), by rw [ht]; exact hP9, va_K.moved hW.alike hK9, hD9⟩, hS.F ht⟩) hS.2.2 dX9_load_28
      · skip
        have f_c4 := i_nlt c4
        refine lv_iload hx hb dX9_load_16 (lv_at hl 4 rfl) ?_
        refine lv_bipush (v := 20) hx hb dX9_load_18 (by decide) ?_
        have hPc := hP.sub (ws' := []) [] rfl
        have hDc := hD.sub (ws' := []) [] (by decide) rfl
        have hKc := hK.sub (tys' := []) [] rfl
        have hFc := va_free (wc := []) hD hS hA [] rfl
        refine va_calli (va_runS (As := [.int p3, .int 20]) (rest := []) ⟨hx, hb, hml, hown, hts⟩ (c_X9_isWithin l dC dI p3 20 H.size) (va_cwS 2 hts gX9_load_X9_isWithin rfl rfl rfl (by decide +kernel) ⟨Nat.le_of_ble_eq_true rfl, Nat.le_of_ble_eq_true rfl⟩) ⟨fun a U g mk q => by obtain ⟨q0, q1, qP, qK, qD⟩ := q; exact ⟨q0, q1, qP, va_K.moved (u := U) (U := U.calling g mk a) (Vm.Alike.refl U.vm) qK, qD⟩, fun U hU hW => ⟨rfl, by rw [hU], by rw [hU]; exact hPc, va_K.moved hW.alike hKc, hDc.weaken (fun _ _ _ _ => trivial)⟩⟩ rfl rfl hl.1 rfl (lv_room (Nat.le_of_ble_eq_true rfl)) dX9_load_20 ⟨Nat.le_of_ble_eq_true rfl, Nat.le_of_ble_eq_true rfl⟩) hS (fun q _ h => hFc q h) hFc (fun r5 u t H1 locs ht hvm hw hB hz1 hk1 hS => ?_)
        obtain ⟨hP1, hK1, hD1⟩ := hB
        rw [ht] at hP1
        have hK1 := va_K.moved hvm.symm hK1
        try dsimp only at hw
        obtain ⟨hP, hD⟩ := va_join (wr := [(h0, .inr (8, [w0, w1, w2, w3, w4, w5, w6, w7, w8, w9, w10, w11, .ref qsa])), (qsa, .inl (ksa, 4, .inr (.inr (.inr (.inr fsa))))), (qs0, .inr (6, [.int (-1), y0_1, y0_2])), (qs1, .inr (6, [.int (-1), y1_1, y1_2])), (qs2, .inr (6, [.int (-1), y2_1, y2_2])), (qs3, .inr (6, [.int (-1), y3_1, y3_2]))]) (w1 := []) hP hD [] [0, 1, 2, 3, 4, 5] rfl rfl (by decide) (by decide) hk1 hFc hP1 hD1
        have hK := (hK.sub (tys' := [(ksa, .object "ClearingGates$Sheet")]) [0] rfl).app hK1
        generalize H1 = H at hP hS ⊢
        have hP : va_P (dC, dI) vwCl [(h0, .inr (8, [w0, w1, w2, w3, w4, w5, w6, w7, w8, w9, w10, w11, .ref qsa])), (qsa, .inl (ksa, 4, .inr (.inr (.inr (.inr fsa))))), (qs0, .inr (6, [.int (-1), y0_1, y0_2])), (qs1, .inr (6, [.int (-1), y1_1, y1_2])), (qs2, .inr (6, [.int (-1), y2_1, y2_2])), (qs3, .inr (6, [.int (-1), y3_1, y3_2]))] H := hP
        have hD : va_D A [(h0, .inr (8, [w0, w1, w2, w3, w4, w5, w6, w7, w8, w9, w10, w11, .ref qsa])), (qsa, .inl (ksa, 4, .inr (.inr (.inr (.inr fsa))))), (qs0, .inr (6, [.int (-1), y0_1, y0_2])), (qs1, .inr (6, [.int (-1), y1_1, y1_2])), (qs2, .inr (6, [.int (-1), y2_1, y2_2])), (qs3, .inr (6, [.int (-1), y3_1, y3_2]))] := hD
        have hK : va_K (dC, dI) vwCl [(ksa, .object "ClearingGates$Sheet")] s := hK
        rcases hw with ⟨e_r5, f_r5⟩ | ⟨e_r5, f_r5⟩
        · subst e_r5
          refine lv_if_ne (tgt := 29) hx hb dX9_load_23 (by decide) (fun c6 => ?_) (fun c6 => absurd c6 (by decide))
          refine lv_aload_n hx hb dX9_load_29 rfl (lv_at hl 0 rfl) ?_
          refine va_get (D := (dC, dI)) (ci := 8) (v := .ref qsa) (C := RX9) (T := TX9) (N := 13) hx hb hts in_X9_load_X9 hown hK hP 0 rfl rfl 12 (by decide) (hts (.fieldLink RX9 79 "ClearingGates" "sheets" "[LClearingGates$Sheet;") (List.mem_of_getElem? (i := 1) (by decide +kernel))) (fun _ h9 => h9) rfl dX9_load_30 ?_
          refine lv_iload_n hx hb dX9_load_33 rfl (lv_at hl 1 rfl) ?_
          refine va_aldq (D := (dC, dI)) hx hb hK hP 1 0 rfl rfl (vp_in_iff.mpr ⟨by omega, by omega⟩) dX9_load_34 ?_
          rcases (show p0.toInt = 0 ∨ p0.toInt = 1 ∨ p0.toInt = 2 ∨ p0.toInt = 3 by omega) with j0 | j0 | j0 | j0
          · rw [show va_rf (fsa p0.toNatClampNeg) = .ref qs0 from by rw [i_nat j0, hs0]; rfl]
            refine lv_astore (lv' := [(5, .ref qs0), (0, .ref h0), (1, .int p0), (2, .int p1), (3, .int p2), (4, .int p3)]) hx hb dX9_load_35 hl (by decide) rfl (fun ls hl => ?_)
            refine lv_aload hx hb dX9_load_37 (lv_at hl 0 rfl) ?_
            have hPc := hP.sub (ws' := [(qs0, .inr (6, [.int (-1), y0_1, y0_2]))]) [2] rfl
            have hDc := hD.sub (ws' := [(qs0, .inr (6, [.int (-1), y0_1, y0_2]))]) [2] (by decide) rfl
            have hKc := hK.sub (tys' := []) [] rfl
            have hFc := va_free (wc := [(qs0, .inr (6, [.int (-1), y0_1, y0_2]))]) hD hS hA [2] rfl
            refine va_calli (va_runV (As := []) (rest := []) ⟨hx, hb, hml, hown, hts⟩ (c_X7_isMissing l dC dI qs0 (y0_1) (y0_2) H.size) (cwV 0 hts gX9_load_X7_isMissing rfl rfl rfl (by decide +kernel) ⟨Nat.le_of_ble_eq_true rfl, Nat.le_of_ble_eq_true rfl⟩) ⟨fun a U g mk q => by obtain ⟨q0, q1, qP, qK, qD⟩ := q; exact ⟨q0, q1, qP, va_K.moved (u := U) (U := U.calling g mk a) (Vm.Alike.refl U.vm) qK, qD⟩, va_recv hKc hPc (ci := 6) (q0 := 0) rfl rfl, fun U hU hW => ⟨rfl, by rw [hU], by rw [hU]; exact hPc, va_K.moved hW.alike hKc, hDc.weaken (fun _ _ _ _ => trivial)⟩⟩ rfl rfl hl.1 rfl (lv_room (Nat.le_of_ble_eq_true rfl)) dX9_load_39 ⟨Nat.le_of_ble_eq_true rfl, Nat.le_of_ble_eq_true rfl⟩) hS (fun q _ h => hFc q h) hFc (fun r7 u t H1 locs ht hvm hw hB hz1 hk1 hS => ?_)
            obtain ⟨hP1, hK1, hD1⟩ := hB
            rw [ht] at hP1
            have hK1 := va_K.moved hvm.symm hK1
            try dsimp only at hw
            obtain ⟨hP, hD⟩ := va_join (wr := [(h0, .inr (8, [w0, w1, w2, w3, w4, w5, w6, w7, w8, w9, w10, w11, .ref qsa])), (qsa, .inl (ksa, 4, .inr (.inr (.inr (.inr fsa))))), (qs1, .inr (6, [.int (-1), y1_1, y1_2])), (qs2, .inr (6, [.int (-1), y2_1, y2_2])), (qs3, .inr (6, [.int (-1), y3_1, y3_2]))]) (w1 := [(qs0, .inr (6, [.int (-1), y0_1, y0_2]))]) hP hD [2] [0, 1, 3, 4, 5] rfl rfl (by decide) (by decide) hk1 hFc hP1 hD1
            have hK := (hK.sub (tys' := [(ksa, .object "ClearingGates$Sheet")]) [0] rfl).app hK1
            generalize H1 = H at hP hS ⊢
            have hP : va_P (dC, dI) vwCl [(h0, .inr (8, [w0, w1, w2, w3, w4, w5, w6, w7, w8, w9, w10, w11, .ref qsa])), (qsa, .inl (ksa, 4, .inr (.inr (.inr (.inr fsa))))), (qs1, .inr (6, [.int (-1), y1_1, y1_2])), (qs2, .inr (6, [.int (-1), y2_1, y2_2])), (qs3, .inr (6, [.int (-1), y3_1, y3_2])), (qs0, .inr (6, [.int (-1), y0_1, y0_2]))] H := hP
            have hD : va_D A [(h0, .inr (8, [w0, w1, w2, w3, w4, w5, w6, w7, w8, w9, w10, w11, .ref qsa])), (qsa, .inl (ksa, 4, .inr (.inr (.inr (.inr fsa))))), (qs1, .inr (6, [.int (-1), y1_1, y1_2])), (qs2, .inr (6, [.int (-1), y2_1, y2_2])), (qs3, .inr (6, [.int (-1), y3_1, y3_2])), (qs0, .inr (6, [.int (-1), y0_1, y0_2]))] := hD
            have hK : va_K (dC, dI) vwCl [(ksa, .object "ClearingGates$Sheet")] s := hK
            subst hw
            refine lv_if_eq (tgt := 48) hx hb dX9_load_42 (by decide) (fun c8 => absurd c8 (by decide)) (fun c8 => ?_)
            refine lv_bipush (v := -11) hx hb dX9_load_45 (by decide) ?_
            have hP9 := hP.sub (ws' := []) [] rfl
            have hD9 := hD.sub (ws' := []) [] (by decide) rfl
            have hK9 := hK.sub (tys' := []) [] rfl
            exact W.iret (v := (-11)) hx hb hr (fun t ht hW => ⟨⟨(-11), (), rfl, Or.inl ⟨rfl, by omega⟩, by rw [ht]; exact hP9, va_K.moved hW.alike hK9, hD9⟩, hS.F ht⟩) hS.2.2 dX9_load_47
          · rw [show va_rf (fsa p0.toNatClampNeg) = .ref qs1 from by rw [i_nat j0, hs1]; rfl]
            refine lv_astore (lv' := [(5, .ref qs1), (0, .ref h0), (1, .int p0), (2, .int p1), (3, .int p2), (4, .int p3)]) hx hb dX9_load_35 hl (by decide) rfl (fun ls hl => ?_)
            refine lv_aload hx hb dX9_load_37 (lv_at hl 0 rfl) ?_
            have hPc := hP.sub (ws' := [(qs1, .inr (6, [.int (-1), y1_1, y1_2]))]) [3] rfl
            have hDc := hD.sub (ws' := [(qs1, .inr (6, [.int (-1), y1_1, y1_2]))]) [3] (by decide) rfl
            have hKc := hK.sub (tys' := []) [] rfl
            have hFc := va_free (wc := [(qs1, .inr (6, [.int (-1), y1_1, y1_2]))]) hD hS hA [3] rfl
            refine va_calli (va_runV (As := []) (rest := []) ⟨hx, hb, hml, hown, hts⟩ (c_X7_isMissing l dC dI qs1 (y1_1) (y1_2) H.size) (cwV 0 hts gX9_load_X7_isMissing rfl rfl rfl (by decide +kernel) ⟨Nat.le_of_ble_eq_true rfl, Nat.le_of_ble_eq_true rfl⟩) ⟨fun a U g mk q => by obtain ⟨q0, q1, qP, qK, qD⟩ := q; exact ⟨q0, q1, qP, va_K.moved (u := U) (U := U.calling g mk a) (Vm.Alike.refl U.vm) qK, qD⟩, va_recv hKc hPc (ci := 6) (q0 := 0) rfl rfl, fun U hU hW => ⟨rfl, by rw [hU], by rw [hU]; exact hPc, va_K.moved hW.alike hKc, hDc.weaken (fun _ _ _ _ => trivial)⟩⟩ rfl rfl hl.1 rfl (lv_room (Nat.le_of_ble_eq_true rfl)) dX9_load_39 ⟨Nat.le_of_ble_eq_true rfl, Nat.le_of_ble_eq_true rfl⟩) hS (fun q _ h => hFc q h) hFc (fun r9 u t H1 locs ht hvm hw hB hz1 hk1 hS => ?_)
            obtain ⟨hP1, hK1, hD1⟩ := hB
            rw [ht] at hP1
            have hK1 := va_K.moved hvm.symm hK1
            try dsimp only at hw
            obtain ⟨hP, hD⟩ := va_join (wr := [(h0, .inr (8, [w0, w1, w2, w3, w4, w5, w6, w7, w8, w9, w10, w11, .ref qsa])), (qsa, .inl (ksa, 4, .inr (.inr (.inr (.inr fsa))))), (qs0, .inr (6, [.int (-1), y0_1, y0_2])), (qs2, .inr (6, [.int (-1), y2_1, y2_2])), (qs3, .inr (6, [.int (-1), y3_1, y3_2]))]) (w1 := [(qs1, .inr (6, [.int (-1), y1_1, y1_2]))]) hP hD [3] [0, 1, 2, 4, 5] rfl rfl (by decide) (by decide) hk1 hFc hP1 hD1
            have hK := (hK.sub (tys' := [(ksa, .object "ClearingGates$Sheet")]) [0] rfl).app hK1
            generalize H1 = H at hP hS ⊢
            have hP : va_P (dC, dI) vwCl [(h0, .inr (8, [w0, w1, w2, w3, w4, w5, w6, w7, w8, w9, w10, w11, .ref qsa])), (qsa, .inl (ksa, 4, .inr (.inr (.inr (.inr fsa))))), (qs0, .inr (6, [.int (-1), y0_1, y0_2])), (qs2, .inr (6, [.int (-1), y2_1, y2_2])), (qs3, .inr (6, [.int (-1), y3_1, y3_2])), (qs1, .inr (6, [.int (-1), y1_1, y1_2]))] H := hP
            have hD : va_D A [(h0, .inr (8, [w0, w1, w2, w3, w4, w5, w6, w7, w8, w9, w10, w11, .ref qsa])), (qsa, .inl (ksa, 4, .inr (.inr (.inr (.inr fsa))))), (qs0, .inr (6, [.int (-1), y0_1, y0_2])), (qs2, .inr (6, [.int (-1), y2_1, y2_2])), (qs3, .inr (6, [.int (-1), y3_1, y3_2])), (qs1, .inr (6, [.int (-1), y1_1, y1_2]))] := hD
            have hK : va_K (dC, dI) vwCl [(ksa, .object "ClearingGates$Sheet")] s := hK
            subst hw
            refine lv_if_eq (tgt := 48) hx hb dX9_load_42 (by decide) (fun c10 => absurd c10 (by decide)) (fun c10 => ?_)
            refine lv_bipush (v := -11) hx hb dX9_load_45 (by decide) ?_
            have hP9 := hP.sub (ws' := []) [] rfl
            have hD9 := hD.sub (ws' := []) [] (by decide) rfl
            have hK9 := hK.sub (tys' := []) [] rfl
            exact W.iret (v := (-11)) hx hb hr (fun t ht hW => ⟨⟨(-11), (), rfl, Or.inl ⟨rfl, by omega⟩, by rw [ht]; exact hP9, va_K.moved hW.alike hK9, hD9⟩, hS.F ht⟩) hS.2.2 dX9_load_47
          · rw [show va_rf (fsa p0.toNatClampNeg) = .ref qs2 from by rw [i_nat j0, hs2]; rfl]
            refine lv_astore (lv' := [(5, .ref qs2), (0, .ref h0), (1, .int p0), (2, .int p1), (3, .int p2), (4, .int p3)]) hx hb dX9_load_35 hl (by decide) rfl (fun ls hl => ?_)
            refine lv_aload hx hb dX9_load_37 (lv_at hl 0 rfl) ?_
            have hPc := hP.sub (ws' := [(qs2, .inr (6, [.int (-1), y2_1, y2_2]))]) [4] rfl
            have hDc := hD.sub (ws' := [(qs2, .inr (6, [.int (-1), y2_1, y2_2]))]) [4] (by decide) rfl
            have hKc := hK.sub (tys' := []) [] rfl
            have hFc := va_free (wc := [(qs2, .inr (6, [.int (-1), y2_1, y2_2]))]) hD hS hA [4] rfl
            refine va_calli (va_runV (As := []) (rest := []) ⟨hx, hb, hml, hown, hts⟩ (c_X7_isMissing l dC dI qs2 (y2_1) (y2_2) H.size) (cwV 0 hts gX9_load_X7_isMissing rfl rfl rfl (by decide +kernel) ⟨Nat.le_of_ble_eq_true rfl, Nat.le_of_ble_eq_true rfl⟩) ⟨fun a U g mk q => by obtain ⟨q0, q1, qP, qK, qD⟩ := q; exact ⟨q0, q1, qP, va_K.moved (u := U) (U := U.calling g mk a) (Vm.Alike.refl U.vm) qK, qD⟩, va_recv hKc hPc (ci := 6) (q0 := 0) rfl rfl, fun U hU hW => ⟨rfl, by rw [hU], by rw [hU]; exact hPc, va_K.moved hW.alike hKc, hDc.weaken (fun _ _ _ _ => trivial)⟩⟩ rfl rfl hl.1 rfl (lv_room (Nat.le_of_ble_eq_true rfl)) dX9_load_39 ⟨Nat.le_of_ble_eq_true rfl, Nat.le_of_ble_eq_true rfl⟩) hS (fun q _ h => hFc q h) hFc (fun r11 u t H1 locs ht hvm hw hB hz1 hk1 hS => ?_)
            obtain ⟨hP1, hK1, hD1⟩ := hB
            rw [ht] at hP1
            have hK1 := va_K.moved hvm.symm hK1
            try dsimp only at hw
            obtain ⟨hP, hD⟩ := va_join (wr := [(h0, .inr (8, [w0, w1, w2, w3, w4, w5, w6, w7, w8, w9, w10, w11, .ref qsa])), (qsa, .inl (ksa, 4, .inr (.inr (.inr (.inr fsa))))), (qs0, .inr (6, [.int (-1), y0_1, y0_2])), (qs1, .inr (6, [.int (-1), y1_1, y1_2])), (qs3, .inr (6, [.int (-1), y3_1, y3_2]))]) (w1 := [(qs2, .inr (6, [.int (-1), y2_1, y2_2]))]) hP hD [4] [0, 1, 2, 3, 5] rfl rfl (by decide) (by decide) hk1 hFc hP1 hD1
            have hK := (hK.sub (tys' := [(ksa, .object "ClearingGates$Sheet")]) [0] rfl).app hK1
            generalize H1 = H at hP hS ⊢
            have hP : va_P (dC, dI) vwCl [(h0, .inr (8, [w0, w1, w2, w3, w4, w5, w6, w7, w8, w9, w10, w11, .ref qsa])), (qsa, .inl (ksa, 4, .inr (.inr (.inr (.inr fsa))))), (qs0, .inr (6, [.int (-1), y0_1, y0_2])), (qs1, .inr (6, [.int (-1), y1_1, y1_2])), (qs3, .inr (6, [.int (-1), y3_1, y3_2])), (qs2, .inr (6, [.int (-1), y2_1, y2_2]))] H := hP
            have hD : va_D A [(h0, .inr (8, [w0, w1, w2, w3, w4, w5, w6, w7, w8, w9, w10, w11, .ref qsa])), (qsa, .inl (ksa, 4, .inr (.inr (.inr (.inr fsa))))), (qs0, .inr (6, [.int (-1), y0_1, y0_2])), (qs1, .inr (6, [.int (-1), y1_1, y1_2])), (qs3, .inr (6, [.int (-1), y3_1, y3_2])), (qs2, .inr (6, [.int (-1), y2_1, y2_2]))] := hD
            have hK : va_K (dC, dI) vwCl [(ksa, .object "ClearingGates$Sheet")] s := hK
            subst hw
            refine lv_if_eq (tgt := 48) hx hb dX9_load_42 (by decide) (fun c12 => absurd c12 (by decide)) (fun c12 => ?_)
            refine lv_bipush (v := -11) hx hb dX9_load_45 (by decide) ?_
            have hP9 := hP.sub (ws' := []) [] rfl
            have hD9 := hD.sub (ws' := []) [] (by decide) rfl
            have hK9 := hK.sub (tys' := []) [] rfl
            exact W.iret (v := (-11)) hx hb hr (fun t ht hW => ⟨⟨(-11), (), rfl, Or.inl ⟨rfl, by omega⟩, by rw [ht]; exact hP9, va_K.moved hW.alike hK9, hD9⟩, hS.F ht⟩) hS.2.2 dX9_load_47
          · rw [show va_rf (fsa p0.toNatClampNeg) = .ref qs3 from by rw [i_nat j0, hs3]; rfl]
            refine lv_astore (lv' := [(5, .ref qs3), (0, .ref h0), (1, .int p0), (2, .int p1), (3, .int p2), (4, .int p3)]) hx hb dX9_load_35 hl (by decide) rfl (fun ls hl => ?_)
            refine lv_aload hx hb dX9_load_37 (lv_at hl 0 rfl) ?_
            have hPc := hP.sub (ws' := [(qs3, .inr (6, [.int (-1), y3_1, y3_2]))]) [5] rfl
            have hDc := hD.sub (ws' := [(qs3, .inr (6, [.int (-1), y3_1, y3_2]))]) [5] (by decide) rfl
            have hKc := hK.sub (tys' := []) [] rfl
            have hFc := va_free (wc := [(qs3, .inr (6, [.int (-1), y3_1, y3_2]))]) hD hS hA [5] rfl
            refine va_calli (va_runV (As := []) (rest := []) ⟨hx, hb, hml, hown, hts⟩ (c_X7_isMissing l dC dI qs3 (y3_1) (y3_2) H.size) (cwV 0 hts gX9_load_X7_isMissing rfl rfl rfl (by decide +kernel) ⟨Nat.le_of_ble_eq_true rfl, Nat.le_of_ble_eq_true rfl⟩) ⟨fun a U g mk q => by obtain ⟨q0, q1, qP, qK, qD⟩ := q; exact ⟨q0, q1, qP, va_K.moved (u := U) (U := U.calling g mk a) (Vm.Alike.refl U.vm) qK, qD⟩, va_recv hKc hPc (ci := 6) (q0 := 0) rfl rfl, fun U hU hW => ⟨rfl, by rw [hU], by rw [hU]; exact hPc, va_K.moved hW.alike hKc, hDc.weaken (fun _ _ _ _ => trivial)⟩⟩ rfl rfl hl.1 rfl (lv_room (Nat.le_of_ble_eq_true rfl)) dX9_load_39 ⟨Nat.le_of_ble_eq_true rfl, Nat.le_of_ble_eq_true rfl⟩) hS (fun q _ h => hFc q h) hFc (fun r13 u t H1 locs ht hvm hw hB hz1 hk1 hS => ?_)
            obtain ⟨hP1, hK1, hD1⟩ := hB
            rw [ht] at hP1
            have hK1 := va_K.moved hvm.symm hK1
            try dsimp only at hw
            obtain ⟨hP, hD⟩ := va_join (wr := [(h0, .inr (8, [w0, w1, w2, w3, w4, w5, w6, w7, w8, w9, w10, w11, .ref qsa])), (qsa, .inl (ksa, 4, .inr (.inr (.inr (.inr fsa))))), (qs0, .inr (6, [.int (-1), y0_1, y0_2])), (qs1, .inr (6, [.int (-1), y1_1, y1_2])), (qs2, .inr (6, [.int (-1), y2_1, y2_2]))]) (w1 := [(qs3, .inr (6, [.int (-1), y3_1, y3_2]))]) hP hD [5] [0, 1, 2, 3, 4] rfl rfl (by decide) (by decide) hk1 hFc hP1 hD1
            have hK := (hK.sub (tys' := [(ksa, .object "ClearingGates$Sheet")]) [0] rfl).app hK1
            generalize H1 = H at hP hS ⊢
            have hP : va_P (dC, dI) vwCl [(h0, .inr (8, [w0, w1, w2, w3, w4, w5, w6, w7, w8, w9, w10, w11, .ref qsa])), (qsa, .inl (ksa, 4, .inr (.inr (.inr (.inr fsa))))), (qs0, .inr (6, [.int (-1), y0_1, y0_2])), (qs1, .inr (6, [.int (-1), y1_1, y1_2])), (qs2, .inr (6, [.int (-1), y2_1, y2_2])), (qs3, .inr (6, [.int (-1), y3_1, y3_2]))] H := hP
            have hD : va_D A [(h0, .inr (8, [w0, w1, w2, w3, w4, w5, w6, w7, w8, w9, w10, w11, .ref qsa])), (qsa, .inl (ksa, 4, .inr (.inr (.inr (.inr fsa))))), (qs0, .inr (6, [.int (-1), y0_1, y0_2])), (qs1, .inr (6, [.int (-1), y1_1, y1_2])), (qs2, .inr (6, [.int (-1), y2_1, y2_2])), (qs3, .inr (6, [.int (-1), y3_1, y3_2]))] := hD
            have hK : va_K (dC, dI) vwCl [(ksa, .object "ClearingGates$Sheet")] s := hK
            subst hw
            refine lv_if_eq (tgt := 48) hx hb dX9_load_42 (by decide) (fun c14 => absurd c14 (by decide)) (fun c14 => ?_)
            refine lv_bipush (v := -11) hx hb dX9_load_45 (by decide) ?_
            have hP9 := hP.sub (ws' := []) [] rfl
            have hD9 := hD.sub (ws' := []) [] (by decide) rfl
            have hK9 := hK.sub (tys' := []) [] rfl
            exact W.iret (v := (-11)) hx hb hr (fun t ht hW => ⟨⟨(-11), (), rfl, Or.inl ⟨rfl, by omega⟩, by rw [ht]; exact hP9, va_K.moved hW.alike hK9, hD9⟩, hS.F ht⟩) hS.2.2 dX9_load_47
        · subst e_r5
          refine lv_if_ne (tgt := 29) hx hb dX9_load_23 (by decide) (fun c15 => absurd (by decide) c15) (fun c15 => ?_)
          refine lv_bipush (v := -2) hx hb dX9_load_26 (by decide) ?_
          have hP9 := hP.sub (ws' := []) [] rfl
          have hD9 := hD.sub (ws' := []) [] (by decide) rfl
          have hK9 := hK.sub (tys' := []) [] rfl
          exact W.iret (v := (-2)) hx hb hr (fun t ht hW => ⟨⟨(-2), (), rfl, Or.inr (⟨rfl, by omega⟩), by rw [ht]; exact hP9, va_K.moved hW.alike hK9, hD9⟩, hS.F ht⟩) hS.2.2 dX9_load_28
  · subst e_r1
    refine lv_if_eq (tgt := 26) hx hb dX9_load_4 (by decide) (fun c16 => ?_) (fun c16 => absurd (by decide) c16)
    refine lv_bipush (v := -2) hx hb dX9_load_26 (by decide) ?_
    have hP9 := hP.sub (ws' := []) [] rfl
    have hD9 := hD.sub (ws' := []) [] (by decide) rfl
    have hK9 := hK.sub (tys' := []) [] rfl
    exact W.iret (v := (-2)) hx hb hr (fun t ht hW => ⟨⟨(-2), (), rfl, Or.inr (⟨rfl, by omega⟩), by rw [ht]; exact hP9, va_K.moved hW.alike hK9, hD9⟩, hS.F ht⟩) hS.2.2 dX9_load_28

theorem in_X9_copy_X9 : ∀ w ∈ wsX90, w ∈ wsX9_copy := fun _ h => List.mem_cons_of_mem _ (List.mem_append_left _ (List.mem_append_right _ h))
set_option maxRecDepth 100000 in
set_option maxHeartbeats 4000000 in
/-- copy on a fresh object -/
theorem c_X9_copy (l : Launch) (dC : Nat → ClassId) (dI : Nat → Nat → Nat) (h0 : Nat) (p0 : Int32) (p1 : Int32) (p2 : Int32) (p3 : Int32) (p4 : Int32) (w0 : Value) (w1 : Value) (w2 : Value) (w3 : Value) (w4 : Value) (w5 : Value) (w6 : Value) (w7 : Value) (w8 : Value) (w9 : Value) (w10 : Value) (w11 : Value) (qsa : Nat) (ksa : ClassId) (fsa : Nat → Option Nat) (qs0 : Nat) (y0_1 : Value) (y0_2 : Value) (qs1 : Nat) (y1_1 : Value) (y1_2 : Value) (qs2 : Nat) (y2_1 : Value) (y2_2 : Value) (qs3 : Nat) (y3_1 : Value) (y3_2 : Value) (sz : Nat) (hs0 : fsa 0 = some qs0) (hs1 : fsa 1 = some qs1) (hs2 : fsa 2 = some qs2) (hs3 : fsa 3 = some qs3) : Met l yX9_copy wsX9_copy ({ frames := 1, cells := 0, slots := 0, locals := 20 }) (va_Pc [.ref h0, .int p0, .int p1, .int p2, .int p3, .int p4] (fun U => U.heap.size = sz ∧ va_P (dC, dI) vwCl [(h0, .inr (8, [w0, w1, w2, w3, w4, w5, w6, w7, w8, w9, w10, w11, .ref qsa])), (qsa, .inl (ksa, 4, .inr (.inr (.inr (.inr fsa))))), (qs0, .inr (6, [.int (-1), y0_1, y0_2])), (qs1, .inr (6, [.int (-1), y1_1, y1_2])), (qs2, .inr (6, [.int (-1), y2_1, y2_2])), (qs3, .inr (6, [.int (-1), y3_1, y3_2]))] U.heap ∧ va_K (dC, dI) vwCl [(ksa, .object "ClearingGates$Sheet")] U ∧ va_D (fun _ => True) [(h0, .inr (8, [w0, w1, w2, w3, w4, w5, w6, w7, w8, w9, w10, w11, .ref qsa])), (qsa, .inl (ksa, 4, .inr (.inr (.inr (.inr fsa))))), (qs0, .inr (6, [.int (-1), y0_1, y0_2])), (qs1, .inr (6, [.int (-1), y1_1, y1_2])), (qs2, .inr (6, [.int (-1), y2_1, y2_2])), (qs3, .inr (6, [.int (-1), y3_1, y3_2]))])) (va_Qi (fun (r : Int32) (_ : Unit) => (r = (-11) ∧ 0 ≤ p0.toInt ∧ p0.toInt < 4 ∧ 0 ≤ p2.toInt ∧ p2.toInt < 4) ∨ (r = (-2) ∧ ¬(0 ≤ p0.toInt ∧ p0.toInt < 4 ∧ 0 ≤ p2.toInt ∧ p2.toInt < 4))) (fun (_ : Unit) (t : State) => va_P (dC, dI) vwCl [] t.heap ∧ va_K (dC, dI) vwCl [] t ∧ va_D (va_A [(h0, .inr (8, [w0, w1, w2, w3, w4, w5, w6, w7, w8, w9, w10, w11, .ref qsa])), (qsa, .inl (ksa, 4, .inr (.inr (.inr (.inr fsa))))), (qs0, .inr (6, [.int (-1), y0_1, y0_2])), (qs1, .inr (6, [.int (-1), y1_1, y1_2])), (qs2, .inr (6, [.int (-1), y2_1, y2_2])), (qs3, .inr (6, [.int (-1), y3_1, y3_2]))] sz) []) (va_A [(h0, .inr (8, [w0, w1, w2, w3, w4, w5, w6, w7, w8, w9, w10, w11, .ref qsa])), (qsa, .inl (ksa, 4, .inr (.inr (.inr (.inr fsa))))), (qs0, .inr (6, [.int (-1), y0_1, y0_2])), (qs1, .inr (6, [.int (-1), y1_1, y1_2])), (qs2, .inr (6, [.int (-1), y2_1, y2_2])), (qs3, .inr (6, [.int (-1), y3_1, y3_2]))] sz)) 0 0 (va_A [(h0, .inr (8, [w0, w1, w2, w3, w4, w5, w6, w7, w8, w9, w10, w11, .ref qsa])), (qsa, .inl (ksa, 4, .inr (.inr (.inr (.inr fsa))))), (qs0, .inr (6, [.int (-1), y0_1, y0_2])), (qs1, .inr (6, [.int (-1), y1_1, y1_2])), (qs2, .inr (6, [.int (-1), y2_1, y2_2])), (qs3, .inr (6, [.int (-1), y3_1, y3_2]))] sz) := by
  refine Met.ofW (cc := cX9_copy) (maxL := 8) (ret := (some .int)) (by decide) rfl ?_
  intro p e s m args below meth c s₁ B hml hv
  obtain ⟨rfl, hsz, hP, hK, hD0⟩ := hv
  have hx := B.exec
  have hb := B.bytes
  have hr := B.returns
  have hts := atoms_spec (ws := wsX9_copy) B.pre
  have hown : s.vm.findClass RX9 = some m.cls := findClass_of_methodNamed B.named
  have hlocks := B.notSynchronized
  subst hsz
  have hD := hD0.self (sz := s.heap.size)
  generalize hAe : va_A [(h0, .inr (8, [w0, w1, w2, w3, w4, w5, w6, w7, w8, w9, w10, w11, .ref qsa])), (qsa, .inl (ksa, 4, .inr (.inr (.inr (.inr fsa))))), (qs0, .inr (6, [.int (-1), y0_1, y0_2])), (qs1, .inr (6, [.int (-1), y1_1, y1_2])), (qs2, .inr (6, [.int (-1), y2_1, y2_2])), (qs3, .inr (6, [.int (-1), y3_1, y3_2]))] s.heap.size = A at hD ⊢
  have hA : ∀ q : Nat, s.heap.size ≤ q → A q := fun q h => by rw [← hAe]; exact Or.inr h
  have hS : va_S A s.heap s.heap [] := va_S.rf
  have hP : va_P (dC, dI) vwCl [(h0, .inr (8, [w0, w1, w2, w3, w4, w5, w6, w7, w8, w9, w10, w11, .ref qsa])), (qsa, .inl (ksa, 4, .inr (.inr (.inr (.inr fsa))))), (qs0, .inr (6, [.int (-1), y0_1, y0_2])), (qs1, .inr (6, [.int (-1), y1_1, y1_2])), (qs2, .inr (6, [.int (-1), y2_1, y2_2])), (qs3, .inr (6, [.int (-1), y3_1, y3_2]))] s.heap := hP
  have hl := lv_entry ([.ref h0, .int p0, .int p1, .int p2, .int p3, .int p4]) (n := 8) (Nat.le_of_ble_eq_true rfl)
  rw [lg_entry_eq]
  generalize (lg_sl ([.ref h0, .int p0, .int p1, .int p2, .int p3, .int p4]) ++ List.replicate (8 - (lg_sl ([.ref h0, .int p0, .int p1, .int p2, .int p3, .int p4])).length) Slot.unset).toArray = ls at hl ⊢
  have hl : lv_has ls 8 [(0, .ref h0), (1, .int p0), (2, .int p1), (3, .int p2), (4, .int p3), (5, .int p4)] := hl
  have k_m11 : ((-11) : Int32).toInt = (-11) := by decide
  have k_m2 : ((-2) : Int32).toInt = (-2) := by decide
  refine lv_iload_n hx hb dX9_copy_0 rfl (lv_at hl 1 rfl) ?_
  have hPc := hP.sub (ws' := []) [] rfl
  have hDc := hD.sub (ws' := []) [] (by decide) rfl
  have hKc := hK.sub (tys' := []) [] rfl
  have hFc := va_free (wc := []) hD hS hA [] rfl
  refine va_calli (va_runS (As := [.int p0]) (rest := []) ⟨hx, hb, hml, hown, hts⟩ (c_X9_isSheet l dC dI p0 s.heap.size) (va_cwS 1 hts gX9_copy_X9_isSheet rfl rfl rfl (by decide +kernel) ⟨Nat.le_of_ble_eq_true rfl, Nat.le_of_ble_eq_true rfl⟩) ⟨fun a U g mk q => by obtain ⟨q0, q1, qP, qK, qD⟩ := q; exact ⟨q0, q1, qP, va_K.moved (u := U) (U := U.calling g mk a) (Vm.Alike.refl U.vm) qK, qD⟩, fun U hU hW => ⟨rfl, by rw [hU], by rw [hU]; exact hPc, va_K.moved hW.alike hKc, hDc.weaken (fun _ _ _ _ => trivial)⟩⟩ rfl rfl hl.1 rfl (lv_room (Nat.le_of_ble_eq_true rfl)) dX9_copy_1 ⟨Nat.le_of_ble_eq_true rfl, Nat.le_of_ble_eq_true rfl⟩) hS (fun q _ h => hFc q h) hFc (fun r1 u t H1 locs ht hvm hw hB hz1 hk1 hS => ?_)
  obtain ⟨hP1, hK1, hD1⟩ := hB
  rw [ht] at hP1
  have hK1 := va_K.moved hvm.symm hK1
  try dsimp only at hw
  obtain ⟨hP, hD⟩ := va_join (wr := [(h0, .inr (8, [w0, w1, w2, w3, w4, w5, w6, w7, w8, w9, w10, w11, .ref qsa])), (qsa, .inl (ksa, 4, .inr (.inr (.inr (.inr fsa))))), (qs0, .inr (6, [.int (-1), y0_1, y0_2])), (qs1, .inr (6, [.int (-1), y1_1, y1_2])), (qs2, .inr (6, [.int (-1), y2_1, y2_2])), (qs3, .inr (6, [.int (-1), y3_1, y3_2]))]) (w1 := []) hP hD [] [0, 1, 2, 3, 4, 5] rfl rfl (by decide) (by decide) hk1 hFc hP1 hD1
  have hK := (hK.sub (tys' := [(ksa, .object "ClearingGates$Sheet")]) [0] rfl).app hK1
  generalize H1 = H at hP hS ⊢
  have hP : va_P (dC, dI) vwCl [(h0, .inr (8, [w0, w1, w2, w3, w4, w5, w6, w7, w8, w9, w10, w11, .ref qsa])), (qsa, .inl (ksa, 4, .inr (.inr (.inr (.inr fsa))))), (qs0, .inr (6, [.int (-1), y0_1, y0_2])), (qs1, .inr (6, [.int (-1), y1_1, y1_2])), (qs2, .inr (6, [.int (-1), y2_1, y2_2])), (qs3, .inr (6, [.int (-1), y3_1, y3_2]))] H := hP
  have hD : va_D A [(h0, .inr (8, [w0, w1, w2, w3, w4, w5, w6, w7, w8, w9, w10, w11, .ref qsa])), (qsa, .inl (ksa, 4, .inr (.inr (.inr (.inr fsa))))), (qs0, .inr (6, [.int (-1), y0_1, y0_2])), (qs1, .inr (6, [.int (-1), y1_1, y1_2])), (qs2, .inr (6, [.int (-1), y2_1, y2_2])), (qs3, .inr (6, [.int (-1), y3_1, y3_2]))] := hD
  have hK : va_K (dC, dI) vwCl [(ksa, .object "ClearingGates$Sheet")] s := hK
  rcases hw with ⟨e_r1, f_r1⟩ | ⟨e_r1, f_r1⟩
  · subst e_r1
    refine lv_if_eq (tgt := 14) hx hb dX9_copy_4 (by decide) (fun c2 => absurd c2 (by decide)) (fun c2 => ?_)
    refine lv_iload_n hx hb dX9_copy_7 rfl (lv_at hl 3 rfl) ?_
    have hPc := hP.sub (ws' := []) [] rfl
    have hDc := hD.sub (ws' := []) [] (by decide) rfl
    have hKc := hK.sub (tys' := []) [] rfl
    have hFc := va_free (wc := []) hD hS hA [] rfl
    refine va_calli (va_runS (As := [.int p2]) (rest := []) ⟨hx, hb, hml, hown, hts⟩ (c_X9_isSheet l dC dI p2 H.size) (va_cwS 1 hts gX9_copy_X9_isSheet rfl rfl rfl (by decide +kernel) ⟨Nat.le_of_ble_eq_true rfl, Nat.le_of_ble_eq_true rfl⟩) ⟨fun a U g mk q => by obtain ⟨q0, q1, qP, qK, qD⟩ := q; exact ⟨q0, q1, qP, va_K.moved (u := U) (U := U.calling g mk a) (Vm.Alike.refl U.vm) qK, qD⟩, fun U hU hW => ⟨rfl, by rw [hU], by rw [hU]; exact hPc, va_K.moved hW.alike hKc, hDc.weaken (fun _ _ _ _ => trivial)⟩⟩ rfl rfl hl.1 rfl (lv_room (Nat.le_of_ble_eq_true rfl)) dX9_copy_8 ⟨Nat.le_of_ble_eq_true rfl, Nat.le_of_ble_eq_true rfl⟩) hS (fun q _ h => hFc q h) hFc (fun r3 u t H1 locs ht hvm hw hB hz1 hk1 hS => ?_)
    obtain ⟨hP1, hK1, hD1⟩ := hB
    rw [ht] at hP1
    have hK1 := va_K.moved hvm.symm hK1
    try dsimp only at hw
    obtain ⟨hP, hD⟩ := va_join (wr := [(h0, .inr (8, [w0, w1, w2, w3, w4, w5, w6, w7, w8, w9, w10, w11, .ref qsa])), (qsa, .inl (ksa, 4, .inr (.inr (.inr (.inr fsa))))), (qs0, .inr (6, [.int (-1), y0_1, y0_2])), (qs1, .inr (6, [.int (-1), y1_1, y1_2])), (qs2, .inr (6, [.int (-1), y2_1, y2_2])), (qs3, .inr (6, [.int (-1), y3_1, y3_2]))]) (w1 := []) hP hD [] [0, 1, 2, 3, 4, 5] rfl rfl (by decide) (by decide) hk1 hFc hP1 hD1
    have hK := (hK.sub (tys' := [(ksa, .object "ClearingGates$Sheet")]) [0] rfl).app hK1
    generalize H1 = H at hP hS ⊢
    have hP : va_P (dC, dI) vwCl [(h0, .inr (8, [w0, w1, w2, w3, w4, w5, w6, w7, w8, w9, w10, w11, .ref qsa])), (qsa, .inl (ksa, 4, .inr (.inr (.inr (.inr fsa))))), (qs0, .inr (6, [.int (-1), y0_1, y0_2])), (qs1, .inr (6, [.int (-1), y1_1, y1_2])), (qs2, .inr (6, [.int (-1), y2_1, y2_2])), (qs3, .inr (6, [.int (-1), y3_1, y3_2]))] H := hP
    have hD : va_D A [(h0, .inr (8, [w0, w1, w2, w3, w4, w5, w6, w7, w8, w9, w10, w11, .ref qsa])), (qsa, .inl (ksa, 4, .inr (.inr (.inr (.inr fsa))))), (qs0, .inr (6, [.int (-1), y0_1, y0_2])), (qs1, .inr (6, [.int (-1), y1_1, y1_2])), (qs2, .inr (6, [.int (-1), y2_1, y2_2])), (qs3, .inr (6, [.int (-1), y3_1, y3_2]))] := hD
    have hK : va_K (dC, dI) vwCl [(ksa, .object "ClearingGates$Sheet")] s := hK
    rcases hw with ⟨e_r3, f_r3⟩ | ⟨e_r3, f_r3⟩
    · subst e_r3
      refine lv_if_ne (tgt := 17) hx hb dX9_copy_11 (by decide) (fun c4 => ?_) (fun c4 => absurd c4 (by decide))
      refine lv_aload_n hx hb dX9_copy_17 rfl (lv_at hl 0 rfl) ?_
      refine va_get (D := (dC, dI)) (ci := 8) (v := .ref qsa) (C := RX9) (T := TX9) (N := 13) hx hb hts in_X9_copy_X9 hown hK hP 0 rfl rfl 12 (by decide) (hts (.fieldLink RX9 79 "ClearingGates" "sheets" "[LClearingGates$Sheet;") (List.mem_of_getElem? (i := 1) (by decide +kernel))) (fun _ h9 => h9) rfl dX9_copy_18 ?_
      refine lv_iload_n hx hb dX9_copy_21 rfl (lv_at hl 1 rfl) ?_
      refine va_aldq (D := (dC, dI)) hx hb hK hP 1 0 rfl rfl (vp_in_iff.mpr ⟨by omega, by omega⟩) dX9_copy_22 ?_
      rcases (show p0.toInt = 0 ∨ p0.toInt = 1 ∨ p0.toInt = 2 ∨ p0.toInt = 3 by omega) with j0 | j0 | j0 | j0
      · rw [show va_rf (fsa p0.toNatClampNeg) = .ref qs0 from by rw [i_nat j0, hs0]; rfl]
        refine lv_astore (lv' := [(6, .ref qs0), (0, .ref h0), (1, .int p0), (2, .int p1), (3, .int p2), (4, .int p3), (5, .int p4)]) hx hb dX9_copy_23 hl (by decide) rfl (fun ls hl => ?_)
        refine lv_aload_n hx hb dX9_copy_25 rfl (lv_at hl 1 rfl) ?_
        refine va_get (D := (dC, dI)) (ci := 8) (v := .ref qsa) (C := RX9) (T := TX9) (N := 13) hx hb hts in_X9_copy_X9 hown hK hP 0 rfl rfl 12 (by decide) (hts (.fieldLink RX9 79 "ClearingGates" "sheets" "[LClearingGates$Sheet;") (List.mem_of_getElem? (i := 1) (by decide +kernel))) (fun _ h9 => h9) rfl dX9_copy_26 ?_
        refine lv_iload_n hx hb dX9_copy_29 rfl (lv_at hl 4 rfl) ?_
        refine va_aldq (D := (dC, dI)) hx hb hK hP 1 0 rfl rfl (vp_in_iff.mpr ⟨by omega, by omega⟩) dX9_copy_30 ?_
        rcases (show p2.toInt = 0 ∨ p2.toInt = 1 ∨ p2.toInt = 2 ∨ p2.toInt = 3 by omega) with j0 | j0 | j0 | j0
        · rw [show va_rf (fsa p2.toNatClampNeg) = .ref qs0 from by rw [i_nat j0, hs0]; rfl]
          refine lv_astore (lv' := [(7, .ref qs0), (6, .ref qs0), (0, .ref h0), (1, .int p0), (2, .int p1), (3, .int p2), (4, .int p3), (5, .int p4)]) hx hb dX9_copy_31 hl (by decide) rfl (fun ls hl => ?_)
          refine lv_aload hx hb dX9_copy_33 (lv_at hl 1 rfl) ?_
          have hPc := hP.sub (ws' := [(qs0, .inr (6, [.int (-1), y0_1, y0_2]))]) [2] rfl
          have hDc := hD.sub (ws' := [(qs0, .inr (6, [.int (-1), y0_1, y0_2]))]) [2] (by decide) rfl
          have hKc := hK.sub (tys' := []) [] rfl
          have hFc := va_free (wc := [(qs0, .inr (6, [.int (-1), y0_1, y0_2]))]) hD hS hA [2] rfl
          refine va_calli (va_runV (As := []) (rest := []) ⟨hx, hb, hml, hown, hts⟩ (c_X7_isMissing l dC dI qs0 (y0_1) (y0_2) H.size) (cwV 0 hts gX9_copy_X7_isMissing rfl rfl rfl (by decide +kernel) ⟨Nat.le_of_ble_eq_true rfl, Nat.le_of_ble_eq_true rfl⟩) ⟨fun a U g mk q => by obtain ⟨q0, q1, qP, qK, qD⟩ := q; exact ⟨q0, q1, qP, va_K.moved (u := U) (U := U.calling g mk a) (Vm.Alike.refl U.vm) qK, qD⟩, va_recv hKc hPc (ci := 6) (q0 := 0) rfl rfl, fun U hU hW => ⟨rfl, by rw [hU], by rw [hU]; exact hPc, va_K.moved hW.alike hKc, hDc.weaken (fun _ _ _ _ => trivial)⟩⟩ rfl rfl hl.1 rfl (lv_room (Nat.le_of_ble_eq_true rfl)) dX9_copy_35 ⟨Nat.le_of_ble_eq_true rfl, Nat.le_of_ble_eq_true rfl⟩) hS (fun q _ h => hFc q h) hFc (fun r5 u t H1 locs ht hvm hw hB hz1 hk1 hS => ?_)
          obtain ⟨hP1, hK1, hD1⟩ := hB
          rw [ht] at hP1
          have hK1 := va_K.moved hvm.symm hK1
          try dsimp only at hw
          obtain ⟨hP, hD⟩ := va_join (wr := [(h0, .inr (8, [w0, w1, w2, w3, w4, w5, w6, w7, w8, w9, w10, w11, .ref qsa])), (qsa, .inl (ksa, 4, .inr (.inr (.inr (.inr fsa))))), (qs1, .inr (6, [.int (-1), y1_1, y1_2])), (qs2, .inr (6, [.int (-1), y2_1, y2_2])), (qs3, .inr (6, [.int (-1), y3_1, y3_2]))]) (w1 := [(qs0, .inr (6, [.int (-1), y0_1, y0_2]))]) hP hD [2] [0, 1, 3, 4, 5] rfl rfl (by decide) (by decide) hk1 hFc hP1 hD1
          have hK := (hK.sub (tys' := [(ksa, .object "ClearingGates$Sheet")]) [0] rfl).app hK1
          generalize H1 = H at hP hS ⊢
          have hP : va_P (dC, dI) vwCl [(h0, .inr (8, [w0, w1, w2, w3, w4, w5, w6, w7, w8, w9, w10, w11, .ref qsa])), (qsa, .inl (ksa, 4, .inr (.inr (.inr (.inr fsa))))), (qs1, .inr (6, [.int (-1), y1_1, y1_2])), (qs2, .inr (6, [.int (-1), y2_1, y2_2])), (qs3, .inr (6, [.int (-1), y3_1, y3_2])), (qs0, .inr (6, [.int (-1), y0_1, y0_2]))] H := hP
          have hD : va_D A [(h0, .inr (8, [w0, w1, w2, w3, w4, w5, w6, w7, w8, w9, w10, w11, .ref qsa])), (qsa, .inl (ksa, 4, .inr (.inr (.inr (.inr fsa))))), (qs1, .inr (6, [.int (-1), y1_1, y1_2])), (qs2, .inr (6, [.int (-1), y2_1, y2_2])), (qs3, .inr (6, [.int (-1), y3_1, y3_2])), (qs0, .inr (6, [.int (-1), y0_1, y0_2]))] := hD
          have hK : va_K (dC, dI) vwCl [(ksa, .object "ClearingGates$Sheet")] s := hK
          subst hw
          refine lv_if_ne (tgt := 49) hx hb dX9_copy_38 (by decide) (fun c6 => ?_) (fun c6 => absurd c6 (by decide))
          refine lv_bipush (v := -11) hx hb dX9_copy_49 (by decide) ?_
          have hP9 := hP.sub (ws' := []) [] rfl
          have hD9 := hD.sub (ws' := []) [] (by decide) rfl
          have hK9 := hK.sub (tys' := []) [] rfl
          exact W.iret (v := (-11)) hx hb hr (fun t ht hW => ⟨⟨(-11), (), rfl, Or.inl ⟨rfl, by omega⟩, by rw [ht]; exact hP9, va_K.moved hW.alike hK9, hD9⟩, hS.F ht⟩) hS.2.2 dX9_copy_51
        · rw [show va_rf (fsa p2.toNatClampNeg) = .ref qs1 from by rw [i_nat j0, hs1]; rfl]
          refine lv_astore (lv' := [(7, .ref qs1), (6, .ref qs0), (0, .ref h0), (1, .int p0), (2, .int p1), (3, .int p2), (4, .int p3), (5, .int p4)]) hx hb dX9_copy_31 hl (by decide) rfl (fun ls hl => ?_)
          refine lv_aload hx hb dX9_copy_33 (lv_at hl 1 rfl) ?_
          have hPc := hP.sub (ws' := [(qs0, .inr (6, [.int (-1), y0_1, y0_2]))]) [2] rfl
          have hDc := hD.sub (ws' := [(qs0, .inr (6, [.int (-1), y0_1, y0_2]))]) [2] (by decide) rfl
          have hKc := hK.sub (tys' := []) [] rfl
          have hFc := va_free (wc := [(qs0, .inr (6, [.int (-1), y0_1, y0_2]))]) hD hS hA [2] rfl
          refine va_calli (va_runV (As := []) (rest := []) ⟨hx, hb, hml, hown, hts⟩ (c_X7_isMissing l dC dI qs0 (y0_1) (y0_2) H.size) (cwV 0 hts gX9_copy_X7_isMissing rfl rfl rfl (by decide +kernel) ⟨Nat.le_of_ble_eq_true rfl, Nat.le_of_ble_eq_true rfl⟩) ⟨fun a U g mk q => by obtain ⟨q0, q1, qP, qK, qD⟩ := q; exact ⟨q0, q1, qP, va_K.moved (u := U) (U := U.calling g mk a) (Vm.Alike.refl U.vm) qK, qD⟩, va_recv hKc hPc (ci := 6) (q0 := 0) rfl rfl, fun U hU hW => ⟨rfl, by rw [hU], by rw [hU]; exact hPc, va_K.moved hW.alike hKc, hDc.weaken (fun _ _ _ _ => trivial)⟩⟩ rfl rfl hl.1 rfl (lv_room (Nat.le_of_ble_eq_true rfl)) dX9_copy_35 ⟨Nat.le_of_ble_eq_true rfl, Nat.le_of_ble_eq_true rfl⟩) hS (fun q _ h => hFc q h) hFc (fun r7 u t H1 locs ht hvm hw hB hz1 hk1 hS => ?_)
          obtain ⟨hP1, hK1, hD1⟩ := hB
          rw [ht] at hP1
          have hK1 := va_K.moved hvm.symm hK1
          try dsimp only at hw
          obtain ⟨hP, hD⟩ := va_join (wr := [(h0, .inr (8, [w0, w1, w2, w3, w4, w5, w6, w7, w8, w9, w10, w11, .ref qsa])), (qsa, .inl (ksa, 4, .inr (.inr (.inr (.inr fsa))))), (qs1, .inr (6, [.int (-1), y1_1, y1_2])), (qs2, .inr (6, [.int (-1), y2_1, y2_2])), (qs3, .inr (6, [.int (-1), y3_1, y3_2]))]) (w1 := [(qs0, .inr (6, [.int (-1), y0_1, y0_2]))]) hP hD [2] [0, 1, 3, 4, 5] rfl rfl (by decide) (by decide) hk1 hFc hP1 hD1
          have hK := (hK.sub (tys' := [(ksa, .object "ClearingGates$Sheet")]) [0] rfl).app hK1
          generalize H1 = H at hP hS ⊢
          have hP : va_P (dC, dI) vwCl [(h0, .inr (8, [w0, w1, w2, w3, w4, w5, w6, w7, w8, w9, w10, w11, .ref qsa])), (qsa, .inl (ksa, 4, .inr (.inr (.inr (.inr fsa))))), (qs1, .inr (6, [.int (-1), y1_1, y1_2])), (qs2, .inr (6, [.int (-1), y2_1, y2_2])), (qs3, .inr (6, [.int (-1), y3_1, y3_2])), (qs0, .inr (6, [.int (-1), y0_1, y0_2]))] H := hP
          have hD : va_D A [(h0, .inr (8, [w0, w1, w2, w3, w4, w5, w6, w7, w8, w9, w10, w11, .ref qsa])), (qsa, .inl (ksa, 4, .inr (.inr (.inr (.inr fsa))))), (qs1, .inr (6, [.int (-1), y1_1, y1_2])), (qs2, .inr (6, [.int (-1), y2_1, y2_2])), (qs3, .inr (6, [.int (-1), y3_1, y3_2])), (qs0, .inr (6, [.int (-1), y0_1, y0_2]))] := hD
          have hK : va_K (dC, dI) vwCl [(ksa, .object "ClearingGates$Sheet")] s := hK
          subst hw
          refine lv_if_ne (tgt := 49) hx hb dX9_copy_38 (by decide) (fun c8 => ?_) (fun c8 => absurd c8 (by decide))
          refine lv_bipush (v := -11) hx hb dX9_copy_49 (by decide) ?_
          have hP9 := hP.sub (ws' := []) [] rfl
          have hD9 := hD.sub (ws' := []) [] (by decide) rfl
          have hK9 := hK.sub (tys' := []) [] rfl
          exact W.iret (v := (-11)) hx hb hr (fun t ht hW => ⟨⟨(-11), (), rfl, Or.inl ⟨rfl, by omega⟩, by rw [ht]; exact hP9, va_K.moved hW.alike hK9, hD9⟩, hS.F ht⟩) hS.2.2 dX9_copy_51
        · rw [show va_rf (fsa p2.toNatClampNeg) = .ref qs2 from by rw [i_nat j0, hs2]; rfl]
          refine lv_astore (lv' := [(7, .ref qs2), (6, .ref qs0), (0, .ref h0), (1, .int p0), (2, .int p1), (3, .int p2), (4, .int p3), (5, .int p4)]) hx hb dX9_copy_31 hl (by decide) rfl (fun ls hl => ?_)
          refine lv_aload hx hb dX9_copy_33 (lv_at hl 1 rfl) ?_
          have hPc := hP.sub (ws' := [(qs0, .inr (6, [.int (-1), y0_1, y0_2]))]) [2] rfl
          have hDc := hD.sub (ws' := [(qs0, .inr (6, [.int (-1), y0_1, y0_2]))]) [2] (by decide) rfl
          have hKc := hK.sub (tys' := []) [] rfl
          have hFc := va_free (wc := [(qs0, .inr (6, [.int (-1), y0_1, y0_2]))]) hD hS hA [2] rfl
          refine va_calli (va_runV (As := []) (rest := []) ⟨hx, hb, hml, hown, hts⟩ (c_X7_isMissing l dC dI qs0 (y0_1) (y0_2) H.size) (cwV 0 hts gX9_copy_X7_isMissing rfl rfl rfl (by decide +kernel) ⟨Nat.le_of_ble_eq_true rfl, Nat.le_of_ble_eq_true rfl⟩) ⟨fun a U g mk q => by obtain ⟨q0, q1, qP, qK, qD⟩ := q; exact ⟨q0, q1, qP, va_K.moved (u := U) (U := U.calling g mk a) (Vm.Alike.refl U.vm) qK, qD⟩, va_recv hKc hPc (ci := 6) (q0 := 0) rfl rfl, fun U hU hW => ⟨rfl, by rw [hU], by rw [hU]; exact hPc, va_K.moved hW.alike hKc, hDc.weaken (fun _ _ _ _ => trivial)⟩⟩ rfl rfl hl.1 rfl (lv_room (Nat.le_of_ble_eq_true rfl)) dX9_copy_35 ⟨Nat.le_of_ble_eq_true rfl, Nat.le_of_ble_eq_true rfl⟩) hS (fun q _ h => hFc q h) hFc (fun r9 u t H1 locs ht hvm hw hB hz1 hk1 hS => ?_)
          obtain ⟨hP1, hK1, hD1⟩ := hB
          rw [ht] at hP1
          have hK1 := va_K.moved hvm.symm hK1
          try dsimp only at hw
          obtain ⟨hP, hD⟩ := va_join (wr := [(h0, .inr (8, [w0, w1, w2, w3, w4, w5, w6, w7, w8, w9, w10, w11, .ref qsa])), (qsa, .inl (ksa, 4, .inr (.inr (.inr (.inr fsa))))), (qs1, .inr (6, [.int (-1), y1_1, y1_2])), (qs2, .inr (6, [.int (-1), y2_1, y2_2])), (qs3, .inr (6, [.int (-1), y3_1, y3_2]))]) (w1 := [(qs0, .inr (6, [.int (-1), y0_1, y0_2]))]) hP hD [2] [0, 1, 3, 4, 5] rfl rfl (by decide) (by decide) hk1 hFc hP1 hD1
          have hK := (hK.sub (tys' := [(ksa, .object "ClearingGates$Sheet")]) [0] rfl).app hK1
          generalize H1 = H at hP hS ⊢
          have hP : va_P (dC, dI) vwCl [(h0, .inr (8, [w0, w1, w2, w3, w4, w5, w6, w7, w8, w9, w10, w11, .ref qsa])), (qsa, .inl (ksa, 4, .inr (.inr (.inr (.inr fsa))))), (qs1, .inr (6, [.int (-1), y1_1, y1_2])), (qs2, .inr (6, [.int (-1), y2_1, y2_2])), (qs3, .inr (6, [.int (-1), y3_1, y3_2])), (qs0, .inr (6, [.int (-1), y0_1, y0_2]))] H := hP
          have hD : va_D A [(h0, .inr (8, [w0, w1, w2, w3, w4, w5, w6, w7, w8, w9, w10, w11, .ref qsa])), (qsa, .inl (ksa, 4, .inr (.inr (.inr (.inr fsa))))), (qs1, .inr (6, [.int (-1), y1_1, y1_2])), (qs2, .inr (6, [.int (-1), y2_1, y2_2])), (qs3, .inr (6, [.int (-1), y3_1, y3_2])), (qs0, .inr (6, [.int (-1), y0_1, y0_2]))] := hD
          have hK : va_K (dC, dI) vwCl [(ksa, .object "ClearingGates$Sheet")] s := hK
          subst hw
          refine lv_if_ne (tgt := 49) hx hb dX9_copy_38 (by decide) (fun c10 => ?_) (fun c10 => absurd c10 (by decide))
          refine lv_bipush (v := -11) hx hb dX9_copy_49 (by decide) ?_
          have hP9 := hP.sub (ws' := []) [] rfl
          have hD9 := hD.sub (ws' := []) [] (by decide) rfl
          have hK9 := hK.sub (tys' := []) [] rfl
          exact W.iret (v := (-11)) hx hb hr (fun t ht hW => ⟨⟨(-11), (), rfl, Or.inl ⟨rfl, by omega⟩, by rw [ht]; exact hP9, va_K.moved hW.alike hK9, hD9⟩, hS.F ht⟩) hS.2.2 dX9_copy_51
        · rw [show va_rf (fsa p2.toNatClampNeg) = .ref qs3 from by rw [i_nat j0, hs3]; rfl]
          refine lv_astore (lv' := [(7, .ref qs3), (6, .ref qs0), (0, .ref h0), (1, .int p0), (2, .int p1), (3, .int p2), (4, .int p3), (5, .int p4)]) hx hb dX9_copy_31 hl (by decide) rfl (fun ls hl => ?_)
          refine lv_aload hx hb dX9_copy_33 (lv_at hl 1 rfl) ?_
          have hPc := hP.sub (ws' := [(qs0, .inr (6, [.int (-1), y0_1, y0_2]))]) [2] rfl
          have hDc := hD.sub (ws' := [(qs0, .inr (6, [.int (-1), y0_1, y0_2]))]) [2] (by decide) rfl
          have hKc := hK.sub (tys' := []) [] rfl
          have hFc := va_free (wc := [(qs0, .inr (6, [.int (-1), y0_1, y0_2]))]) hD hS hA [2] rfl
          refine va_calli (va_runV (As := []) (rest := []) ⟨hx, hb, hml, hown, hts⟩ (c_X7_isMissing l dC dI qs0 (y0_1) (y0_2) H.size) (cwV 0 hts gX9_copy_X7_isMissing rfl rfl rfl (by decide +kernel) ⟨Nat.le_of_ble_eq_true rfl, Nat.le_of_ble_eq_true rfl⟩) ⟨fun a U g mk q => by obtain ⟨q0, q1, qP, qK, qD⟩ := q; exact ⟨q0, q1, qP, va_K.moved (u := U) (U := U.calling g mk a) (Vm.Alike.refl U.vm) qK, qD⟩, va_recv hKc hPc (ci := 6) (q0 := 0) rfl rfl, fun U hU hW => ⟨rfl, by rw [hU], by rw [hU]; exact hPc, va_K.moved hW.alike hKc, hDc.weaken (fun _ _ _ _ => trivial)⟩⟩ rfl rfl hl.1 rfl (lv_room (Nat.le_of_ble_eq_true rfl)) dX9_copy_35 ⟨Nat.le_of_ble_eq_true rfl, Nat.le_of_ble_eq_true rfl⟩) hS (fun q _ h => hFc q h) hFc (fun r11 u t H1 locs ht hvm hw hB hz1 hk1 hS => ?_)
          obtain ⟨hP1, hK1, hD1⟩ := hB
          rw [ht] at hP1
          have hK1 := va_K.moved hvm.symm hK1
          try dsimp only at hw
          obtain ⟨hP, hD⟩ := va_join (wr := [(h0, .inr (8, [w0, w1, w2, w3, w4, w5, w6, w7, w8, w9, w10, w11, .ref qsa])), (qsa, .inl (ksa, 4, .inr (.inr (.inr (.inr fsa))))), (qs1, .inr (6, [.int (-1), y1_1, y1_2])), (qs2, .inr (6, [.int (-1), y2_1, y2_2])), (qs3, .inr (6, [.int (-1), y3_1, y3_2]))]) (w1 := [(qs0, .inr (6, [.int (-1), y0_1, y0_2]))]) hP hD [2] [0, 1, 3, 4, 5] rfl rfl (by decide) (by decide) hk1 hFc hP1 hD1
          have hK := (hK.sub (tys' := [(ksa, .object "ClearingGates$Sheet")]) [0] rfl).app hK1
          generalize H1 = H at hP hS ⊢
          have hP : va_P (dC, dI) vwCl [(h0, .inr (8, [w0, w1, w2, w3, w4, w5, w6, w7, w8, w9, w10, w11, .ref qsa])), (qsa, .inl (ksa, 4, .inr (.inr (.inr (.inr fsa))))), (qs1, .inr (6, [.int (-1), y1_1, y1_2])), (qs2, .inr (6, [.int (-1), y2_1, y2_2])), (qs3, .inr (6, [.int (-1), y3_1, y3_2])), (qs0, .inr (6, [.int (-1), y0_1, y0_2]))] H := hP
          have hD : va_D A [(h0, .inr (8, [w0, w1, w2, w3, w4, w5, w6, w7, w8, w9, w10, w11, .ref qsa])), (qsa, .inl (ksa, 4, .inr (.inr (.inr (.inr fsa))))), (qs1, .inr (6, [.int (-1), y1_1, y1_2])), (qs2, .inr (6, [.int (-1), y2_1, y2_2])), (qs3, .inr (6, [.int (-1), y3_1, y3_2])), (qs0, .inr (6, [.int (-1), y0_1, y0_2]))] := hD
          have hK : va_K (dC, dI) vwCl [(ksa, .object "ClearingGates$Sheet")] s := hK
          subst hw
          refine lv_if_ne (tgt := 49) hx hb dX9_copy_38 (by decide) (fun c12 => ?_) (fun c12 => absurd c12 (by decide))
          refine lv_bipush (v := -11) hx hb dX9_copy_49 (by decide) ?_
          have hP9 := hP.sub (ws' := []) [] rfl
          have hD9 := hD.sub (ws' := []) [] (by decide) rfl
          have hK9 := hK.sub (tys' := []) [] rfl
          exact W.iret (v := (-11)) hx hb hr (fun t ht hW => ⟨⟨(-11), (), rfl, Or.inl ⟨rfl, by omega⟩, by rw [ht]; exact hP9, va_K.moved hW.alike hK9, hD9⟩, hS.F ht⟩) hS.2.2 dX9_copy_51
      · rw [show va_rf (fsa p0.toNatClampNeg) = .ref qs1 from by rw [i_nat j0, hs1]; rfl]
        refine lv_astore (lv' := [(6, .ref qs1), (0, .ref h0), (1, .int p0), (2, .int p1), (3, .int p2), (4, .int p3), (5, .int p4)]) hx hb dX9_copy_23 hl (by decide) rfl (fun ls hl => ?_)
        refine lv_aload_n hx hb dX9_copy_25 rfl (lv_at hl 1 rfl) ?_
        refine va_get (D := (dC, dI)) (ci := 8) (v := .ref qsa) (C := RX9) (T := TX9) (N := 13) hx hb hts in_X9_copy_X9 hown hK hP 0 rfl rfl 12 (by decide) (hts (.fieldLink RX9 79 "ClearingGates" "sheets" "[LClearingGates$Sheet;") (List.mem_of_getElem? (i := 1) (by decide +kernel))) (fun _ h9 => h9) rfl dX9_copy_26 ?_
        refine lv_iload_n hx hb dX9_copy_29 rfl (lv_at hl 4 rfl) ?_
        refine va_aldq (D := (dC, dI)) hx hb hK hP 1 0 rfl rfl (vp_in_iff.mpr ⟨by omega, by omega⟩) dX9_copy_30 ?_
        rcases (show p2.toInt = 0 ∨ p2.toInt = 1 ∨ p2.toInt = 2 ∨ p2.toInt = 3 by omega) with j0 | j0 | j0 | j0
        · rw [show va_rf (fsa p2.toNatClampNeg) = .ref qs0 from by rw [i_nat j0, hs0]; rfl]
          refine lv_astore (lv' := [(7, .ref qs0), (6, .ref qs1), (0, .ref h0), (1, .int p0), (2, .int p1), (3, .int p2), (4, .int p3), (5, .int p4)]) hx hb dX9_copy_31 hl (by decide) rfl (fun ls hl => ?_)
          refine lv_aload hx hb dX9_copy_33 (lv_at hl 1 rfl) ?_
          have hPc := hP.sub (ws' := [(qs1, .inr (6, [.int (-1), y1_1, y1_2]))]) [3] rfl
          have hDc := hD.sub (ws' := [(qs1, .inr (6, [.int (-1), y1_1, y1_2]))]) [3] (by decide) rfl
          have hKc := hK.sub (tys' := []) [] rfl
          have hFc := va_free (wc := [(qs1, .inr (6, [.int (-1), y1_1, y1_2]))]) hD hS hA [3] rfl
          refine va_calli (va_runV (As := []) (rest := []) ⟨hx, hb, hml, hown, hts⟩ (c_X7_isMissing l dC dI qs1 (y1_1) (y1_2) H.size) (cwV 0 hts gX9_copy_X7_isMissing rfl rfl rfl (by decide +kernel) ⟨Nat.le_of_ble_eq_true rfl, Nat.le_of_ble_eq_true rfl⟩) ⟨fun a U g mk q => by obtain ⟨q0, q1, qP, qK, qD⟩ := q; exact ⟨q0, q1, qP, va_K.moved (u := U) (U := U.calling g mk a) (Vm.Alike.refl U.vm) qK, qD⟩, va_recv hKc hPc (ci := 6) (q0 := 0) rfl rfl, fun U hU hW => ⟨rfl, by rw [hU], by rw [hU]; exact hPc, va_K.moved hW.alike hKc, hDc.weaken (fun _ _ _ _ => trivial)⟩⟩ rfl rfl hl.1 rfl (lv_room (Nat.le_of_ble_eq_true rfl)) dX9_copy_35 ⟨Nat.le_of_ble_eq_true rfl, Nat.le_of_ble_eq_true rfl⟩) hS (fun q _ h => hFc q h) hFc (fun r13 u t H1 locs ht hvm hw hB hz1 hk1 hS => ?_)
          obtain ⟨hP1, hK1, hD1⟩ := hB
          rw [ht] at hP1
          have hK1 := va_K.moved hvm.symm hK1
          try dsimp only at hw
          obtain ⟨hP, hD⟩ := va_join (wr := [(h0, .inr (8, [w0, w1, w2, w3, w4, w5, w6, w7, w8, w9, w10, w11, .ref qsa])), (qsa, .inl (ksa, 4, .inr (.inr (.inr (.inr fsa))))), (qs0, .inr (6, [.int (-1), y0_1, y0_2])), (qs2, .inr (6, [.int (-1), y2_1, y2_2])), (qs3, .inr (6, [.int (-1), y3_1, y3_2]))]) (w1 := [(qs1, .inr (6, [.int (-1), y1_1, y1_2]))]) hP hD [3] [0, 1, 2, 4, 5] rfl rfl (by decide) (by decide) hk1 hFc hP1 hD1
          have hK := (hK.sub (tys' := [(ksa, .object "ClearingGates$Sheet")]) [0] rfl).app hK1
          generalize H1 = H at hP hS ⊢
          have hP : va_P (dC, dI) vwCl [(h0, .inr (8, [w0, w1, w2, w3, w4, w5, w6, w7, w8, w9, w10, w11, .ref qsa])), (qsa, .inl (ksa, 4, .inr (.inr (.inr (.inr fsa))))), (qs0, .inr (6, [.int (-1), y0_1, y0_2])), (qs2, .inr (6, [.int (-1), y2_1, y2_2])), (qs3, .inr (6, [.int (-1), y3_1, y3_2])), (qs1, .inr (6, [.int (-1), y1_1, y1_2]))] H := hP
          have hD : va_D A [(h0, .inr (8, [w0, w1, w2, w3, w4, w5, w6, w7, w8, w9, w10, w11, .ref qsa])), (qsa, .inl (ksa, 4, .inr (.inr (.inr (.inr fsa))))), (qs0, .inr (6, [.int (-1), y0_1, y0_2])), (qs2, .inr (6, [.int (-1), y2_1, y2_2])), (qs3, .inr (6, [.int (-1), y3_1, y3_2])), (qs1, .inr (6, [.int (-1), y1_1, y1_2]))] := hD
          have hK : va_K (dC, dI) vwCl [(ksa, .object "ClearingGates$Sheet")] s := hK
          subst hw
          refine lv_if_ne (tgt := 49) hx hb dX9_copy_38 (by decide) (fun c14 => ?_) (fun c14 => absurd c14 (by decide))
          refine lv_bipush (v := -11) hx hb dX9_copy_49 (by decide) ?_
          have hP9 := hP.sub (ws' := []) [] rfl
          have hD9 := hD.sub (ws' := []) [] (by decide) rfl
          have hK9 := hK.sub (tys' := []) [] rfl
          exact W.iret (v := (-11)) hx hb hr (fun t ht hW => ⟨⟨(-11), (), rfl, Or.inl ⟨rfl, by omega⟩, by rw [ht]; exact hP9, va_K.moved hW.alike hK9, hD9⟩, hS.F ht⟩) hS.2.2 dX9_copy_51
        · rw [show va_rf (fsa p2.toNatClampNeg) = .ref qs1 from by rw [i_nat j0, hs1]; rfl]
          refine lv_astore (lv' := [(7, .ref qs1), (6, .ref qs1), (0, .ref h0), (1, .int p0), (2, .int p1), (3, .int p2), (4, .int p3), (5, .int p4)]) hx hb dX9_copy_31 hl (by decide) rfl (fun ls hl => ?_)
          refine lv_aload hx hb dX9_copy_33 (lv_at hl 1 rfl) ?_
          have hPc := hP.sub (ws' := [(qs1, .inr (6, [.int (-1), y1_1, y1_2]))]) [3] rfl
          have hDc := hD.sub (ws' := [(qs1, .inr (6, [.int (-1), y1_1, y1_2]))]) [3] (by decide) rfl
          have hKc := hK.sub (tys' := []) [] rfl
          have hFc := va_free (wc := [(qs1, .inr (6, [.int (-1), y1_1, y1_2]))]) hD hS hA [3] rfl
          refine va_calli (va_runV (As := []) (rest := []) ⟨hx, hb, hml, hown, hts⟩ (c_X7_isMissing l dC dI qs1 (y1_1) (y1_2) H.size) (cwV 0 hts gX9_copy_X7_isMissing rfl rfl rfl (by decide +kernel) ⟨Nat.le_of_ble_eq_true rfl, Nat.le_of_ble_eq_true rfl⟩) ⟨fun a U g mk q => by obtain ⟨q0, q1, qP, qK, qD⟩ := q; exact ⟨q0, q1, qP, va_K.moved (u := U) (U := U.calling g mk a) (Vm.Alike.refl U.vm) qK, qD⟩, va_recv hKc hPc (ci := 6) (q0 := 0) rfl rfl, fun U hU hW => ⟨rfl, by rw [hU], by rw [hU]; exact hPc, va_K.moved hW.alike hKc, hDc.weaken (fun _ _ _ _ => trivial)⟩⟩ rfl rfl hl.1 rfl (lv_room (Nat.le_of_ble_eq_true rfl)) dX9_copy_35 ⟨Nat.le_of_ble_eq_true rfl, Nat.le_of_ble_eq_true rfl⟩) hS (fun q _ h => hFc q h) hFc (fun r15 u t H1 locs ht hvm hw hB hz1 hk1 hS => ?_)
          obtain ⟨hP1, hK1, hD1⟩ := hB
          rw [ht] at hP1
          have hK1 := va_K.moved hvm.symm hK1
          try dsimp only at hw
          obtain ⟨hP, hD⟩ := va_join (wr := [(h0, .inr (8, [w0, w1, w2, w3, w4, w5, w6, w7, w8, w9, w10, w11, .ref qsa])), (qsa, .inl (ksa, 4, .inr (.inr (.inr (.inr fsa))))), (qs0, .inr (6, [.int (-1), y0_1, y0_2])), (qs2, .inr (6, [.int (-1), y2_1, y2_2])), (qs3, .inr (6, [.int (-1), y3_1, y3_2]))]) (w1 := [(qs1, .inr (6, [.int (-1), y1_1, y1_2]))]) hP hD [3] [0, 1, 2, 4, 5] rfl rfl (by decide) (by decide) hk1 hFc hP1 hD1
          have hK := (hK.sub (tys' := [(ksa, .object "ClearingGates$Sheet")]) [0] rfl).app hK1
          generalize H1 = H at hP hS ⊢
          have hP : va_P (dC, dI) vwCl [(h0, .inr (8, [w0, w1, w2, w3, w4, w5, w6, w7, w8, w9, w10, w11, .ref qsa])), (qsa, .inl (ksa, 4, .inr (.inr (.inr (.inr fsa))))), (qs0, .inr (6, [.int (-1), y0_1, y0_2])), (qs2, .inr (6, [.int (-1), y2_1, y2_2])), (qs3, .inr (6, [.int (-1), y3_1, y3_2])), (qs1, .inr (6, [.int (-1), y1_1, y1_2]))] H := hP
          have hD : va_D A [(h0, .inr (8, [w0, w1, w2, w3, w4, w5, w6, w7, w8, w9, w10, w11, .ref qsa])), (qsa, .inl (ksa, 4, .inr (.inr (.inr (.inr fsa))))), (qs0, .inr (6, [.int (-1), y0_1, y0_2])), (qs2, .inr (6, [.int (-1), y2_1, y2_2])), (qs3, .inr (6, [.int (-1), y3_1, y3_2])), (qs1, .inr (6, [.int (-1), y1_1, y1_2]))] := hD
          have hK : va_K (dC, dI) vwCl [(ksa, .object "ClearingGates$Sheet")] s := hK
          subst hw
          refine lv_if_ne (tgt := 49) hx hb dX9_copy_38 (by decide) (fun c16 => ?_) (fun c16 => absurd c16 (by decide))
          refine lv_bipush (v := -11) hx hb dX9_copy_49 (by decide) ?_
          have hP9 := hP.sub (ws' := []) [] rfl
          have hD9 := hD.sub (ws' := []) [] (by decide) rfl
          have hK9 := hK.sub (tys' := []) [] rfl
          exact W.iret (v := (-11)) hx hb hr (fun t ht hW => ⟨⟨(-11), (), rfl, Or.inl ⟨rfl, by omega⟩, by rw [ht]; exact hP9, va_K.moved hW.alike hK9, hD9⟩, hS.F ht⟩) hS.2.2 dX9_copy_51
        · rw [show va_rf (fsa p2.toNatClampNeg) = .ref qs2 from by rw [i_nat j0, hs2]; rfl]
          refine lv_astore (lv' := [(7, .ref qs2), (6, .ref qs1), (0, .ref h0), (1, .int p0), (2, .int p1), (3, .int p2), (4, .int p3), (5, .int p4)]) hx hb dX9_copy_31 hl (by decide) rfl (fun ls hl => ?_)
          refine lv_aload hx hb dX9_copy_33 (lv_at hl 1 rfl) ?_
          have hPc := hP.sub (ws' := [(qs1, .inr (6, [.int (-1), y1_1, y1_2]))]) [3] rfl
          have hDc := hD.sub (ws' := [(qs1, .inr (6, [.int (-1), y1_1, y1_2]))]) [3] (by decide) rfl
          have hKc := hK.sub (tys' := []) [] rfl
          have hFc := va_free (wc := [(qs1, .inr (6, [.int (-1), y1_1, y1_2]))]) hD hS hA [3] rfl
          refine va_calli (va_runV (As := []) (rest := []) ⟨hx, hb, hml, hown, hts⟩ (c_X7_isMissing l dC dI qs1 (y1_1) (y1_2) H.size) (cwV 0 hts gX9_copy_X7_isMissing rfl rfl rfl (by decide +kernel) ⟨Nat.le_of_ble_eq_true rfl, Nat.le_of_ble_eq_true rfl⟩) ⟨fun a U g mk q => by obtain ⟨q0, q1, qP, qK, qD⟩ := q; exact ⟨q0, q1, qP, va_K.moved (u := U) (U := U.calling g mk a) (Vm.Alike.refl U.vm) qK, qD⟩, va_recv hKc hPc (ci := 6) (q0 := 0) rfl rfl, fun U hU hW => ⟨rfl, by rw [hU], by rw [hU]; exact hPc, va_K.moved hW.alike hKc, hDc.weaken (fun _ _ _ _ => trivial)⟩⟩ rfl rfl hl.1 rfl (lv_room (Nat.le_of_ble_eq_true rfl)) dX9_copy_35 ⟨Nat.le_of_ble_eq_true rfl, Nat.le_of_ble_eq_true rfl⟩) hS (fun q _ h => hFc q h) hFc (fun r17 u t H1 locs ht hvm hw hB hz1 hk1 hS => ?_)
          obtain ⟨hP1, hK1, hD1⟩ := hB
          rw [ht] at hP1
          have hK1 := va_K.moved hvm.symm hK1
          try dsimp only at hw
          obtain ⟨hP, hD⟩ := va_join (wr := [(h0, .inr (8, [w0, w1, w2, w3, w4, w5, w6, w7, w8, w9, w10, w11, .ref qsa])), (qsa, .inl (ksa, 4, .inr (.inr (.inr (.inr fsa))))), (qs0, .inr (6, [.int (-1), y0_1, y0_2])), (qs2, .inr (6, [.int (-1), y2_1, y2_2])), (qs3, .inr (6, [.int (-1), y3_1, y3_2]))]) (w1 := [(qs1, .inr (6, [.int (-1), y1_1, y1_2]))]) hP hD [3] [0, 1, 2, 4, 5] rfl rfl (by decide) (by decide) hk1 hFc hP1 hD1
          have hK := (hK.sub (tys' := [(ksa, .object "ClearingGates$Sheet")]) [0] rfl).app hK1
          generalize H1 = H at hP hS ⊢
          have hP : va_P (dC, dI) vwCl [(h0, .inr (8, [w0, w1, w2, w3, w4, w5, w6, w7, w8, w9, w10, w11, .ref qsa])), (qsa, .inl (ksa, 4, .inr (.inr (.inr (.inr fsa))))), (qs0, .inr (6, [.int (-1), y0_1, y0_2])), (qs2, .inr (6, [.int (-1), y2_1, y2_2])), (qs3, .inr (6, [.int (-1), y3_1, y3_2])), (qs1, .inr (6, [.int (-1), y1_1, y1_2]))] H := hP
          have hD : va_D A [(h0, .inr (8, [w0, w1, w2, w3, w4, w5, w6, w7, w8, w9, w10, w11, .ref qsa])), (qsa, .inl (ksa, 4, .inr (.inr (.inr (.inr fsa))))), (qs0, .inr (6, [.int (-1), y0_1, y0_2])), (qs2, .inr (6, [.int (-1), y2_1, y2_2])), (qs3, .inr (6, [.int (-1), y3_1, y3_2])), (qs1, .inr (6, [.int (-1), y1_1, y1_2]))] := hD
          have hK : va_K (dC, dI) vwCl [(ksa, .object "ClearingGates$Sheet")] s := hK
          subst hw
          refine lv_if_ne (tgt := 49) hx hb dX9_copy_38 (by decide) (fun c18 => ?_) (fun c18 => absurd c18 (by decide))
          refine lv_bipush (v := -11) hx hb dX9_copy_49 (by decide) ?_
          have hP9 := hP.sub (ws' := []) [] rfl
          have hD9 := hD.sub (ws' := []) [] (by decide) rfl
          have hK9 := hK.sub (tys' := []) [] rfl
          exact W.iret (v := (-11)) hx hb hr (fun t ht hW => ⟨⟨(-11), (), rfl, Or.inl ⟨rfl, by omega⟩, by rw [ht]; exact hP9, va_K.moved hW.alike hK9, hD9⟩, hS.F ht⟩) hS.2.2 dX9_copy_51
        · rw [show va_rf (fsa p2.toNatClampNeg) = .ref qs3 from by rw [i_nat j0, hs3]; rfl]
          refine lv_astore (lv' := [(7, .ref qs3), (6, .ref qs1), (0, .ref h0), (1, .int p0), (2, .int p1), (3, .int p2), (4, .int p3), (5, .int p4)]) hx hb dX9_copy_31 hl (by decide) rfl (fun ls hl => ?_)
          refine lv_aload hx hb dX9_copy_33 (lv_at hl 1 rfl) ?_
          have hPc := hP.sub (ws' := [(qs1, .inr (6, [.int (-1), y1_1, y1_2]))]) [3] rfl
          have hDc := hD.sub (ws' := [(qs1, .inr (6, [.int (-1), y1_1, y1_2]))]) [3] (by decide) rfl
          have hKc := hK.sub (tys' := []) [] rfl
          have hFc := va_free (wc := [(qs1, .inr (6, [.int (-1), y1_1, y1_2]))]) hD hS hA [3] rfl
          refine va_calli (va_runV (As := []) (rest := []) ⟨hx, hb, hml, hown, hts⟩ (c_X7_isMissing l dC dI qs1 (y1_1) (y1_2) H.size) (cwV 0 hts gX9_copy_X7_isMissing rfl rfl rfl (by decide +kernel) ⟨Nat.le_of_ble_eq_true rfl, Nat.le_of_ble_eq_true rfl⟩) ⟨fun a U g mk q => by obtain ⟨q0, q1, qP, qK, qD⟩ := q; exact ⟨q0, q1, qP, va_K.moved (u := U) (U := U.calling g mk a) (Vm.Alike.refl U.vm) qK, qD⟩, va_recv hKc hPc (ci := 6) (q0 := 0) rfl rfl, fun U hU hW => ⟨rfl, by rw [hU], by rw [hU]; exact hPc, va_K.moved hW.alike hKc, hDc.weaken (fun _ _ _ _ => trivial)⟩⟩ rfl rfl hl.1 rfl (lv_room (Nat.le_of_ble_eq_true rfl)) dX9_copy_35 ⟨Nat.le_of_ble_eq_true rfl, Nat.le_of_ble_eq_true rfl⟩) hS (fun q _ h => hFc q h) hFc (fun r19 u t H1 locs ht hvm hw hB hz1 hk1 hS => ?_)
          obtain ⟨hP1, hK1, hD1⟩ := hB
          rw [ht] at hP1
          have hK1 := va_K.moved hvm.symm hK1
          try dsimp only at hw
          obtain ⟨hP, hD⟩ := va_join (wr := [(h0, .inr (8, [w0, w1, w2, w3, w4, w5, w6, w7, w8, w9, w10, w11, .ref qsa])), (qsa, .inl (ksa, 4, .inr (.inr (.inr (.inr fsa))))), (qs0, .inr (6, [.int (-1), y0_1, y0_2])), (qs2, .inr (6, [.int (-1), y2_1, y2_2])), (qs3, .inr (6, [.int (-1), y3_1, y3_2]))]) (w1 := [(qs1, .inr (6, [.int (-1), y1_1, y1_2]))]) hP hD [3] [0, 1, 2, 4, 5] rfl rfl (by decide) (by decide) hk1 hFc hP1 hD1
          have hK := (hK.sub (tys' := [(ksa, .object "ClearingGates$Sheet")]) [0] rfl).app hK1
          generalize H1 = H at hP hS ⊢
          have hP : va_P (dC, dI) vwCl [(h0, .inr (8, [w0, w1, w2, w3, w4, w5, w6, w7, w8, w9, w10, w11, .ref qsa])), (qsa, .inl (ksa, 4, .inr (.inr (.inr (.inr fsa))))), (qs0, .inr (6, [.int (-1), y0_1, y0_2])), (qs2, .inr (6, [.int (-1), y2_1, y2_2])), (qs3, .inr (6, [.int (-1), y3_1, y3_2])), (qs1, .inr (6, [.int (-1), y1_1, y1_2]))] H := hP
          have hD : va_D A [(h0, .inr (8, [w0, w1, w2, w3, w4, w5, w6, w7, w8, w9, w10, w11, .ref qsa])), (qsa, .inl (ksa, 4, .inr (.inr (.inr (.inr fsa))))), (qs0, .inr (6, [.int (-1), y0_1, y0_2])), (qs2, .inr (6, [.int (-1), y2_1, y2_2])), (qs3, .inr (6, [.int (-1), y3_1, y3_2])), (qs1, .inr (6, [.int (-1), y1_1, y1_2]))] := hD
          have hK : va_K (dC, dI) vwCl [(ksa, .object "ClearingGates$Sheet")] s := hK
          subst hw
          refine lv_if_ne (tgt := 49) hx hb dX9_copy_38 (by decide) (fun c20 => ?_) (fun c20 => absurd c20 (by decide))
          refine lv_bipush (v := -11) hx hb dX9_copy_49 (by decide) ?_
          have hP9 := hP.sub (ws' := []) [] rfl
          have hD9 := hD.sub (ws' := []) [] (by decide) rfl
          have hK9 := hK.sub (tys' := []) [] rfl
          exact W.iret (v := (-11)) hx hb hr (fun t ht hW => ⟨⟨(-11), (), rfl, Or.inl ⟨rfl, by omega⟩, by rw [ht]; exact hP9, va_K.moved hW.alike hK9, hD9⟩, hS.F ht⟩) hS.2.2 dX9_copy_51
      · rw [show va_rf (fsa p0.toNatClampNeg) = .ref qs2 from by rw [i_nat j0, hs2]; rfl]
        refine lv_astore (lv' := [(6, .ref qs2), (0, .ref h0), (1, .int p0), (2, .int p1), (3, .int p2), (4, .int p3), (5, .int p4)]) hx hb dX9_copy_23 hl (by decide) rfl (fun ls hl => ?_)
        refine lv_aload_n hx hb dX9_copy_25 rfl (lv_at hl 1 rfl) ?_
        refine va_get (D := (dC, dI)) (ci := 8) (v := .ref qsa) (C := RX9) (T := TX9) (N := 13) hx hb hts in_X9_copy_X9 hown hK hP 0 rfl rfl 12 (by decide) (hts (.fieldLink RX9 79 "ClearingGates" "sheets" "[LClearingGates$Sheet;") (List.mem_of_getElem? (i := 1) (by decide +kernel))) (fun _ h9 => h9) rfl dX9_copy_26 ?_
        refine lv_iload_n hx hb dX9_copy_29 rfl (lv_at hl 4 rfl) ?_
        refine va_aldq (D := (dC, dI)) hx hb hK hP 1 0 rfl rfl (vp_in_iff.mpr ⟨by omega, by omega⟩) dX9_copy_30 ?_
        rcases (show p2.toInt = 0 ∨ p2.toInt = 1 ∨ p2.toInt = 2 ∨ p2.toInt = 3 by omega) with j0 | j0 | j0 | j0
        · rw [show va_rf (fsa p2.toNatClampNeg) = .ref qs0 from by rw [i_nat j0, hs0]; rfl]
          refine lv_astore (lv' := [(7, .ref qs0), (6, .ref qs2), (0, .ref h0), (1, .int p0), (2, .int p1), (3, .int p2), (4, .int p3), (5, .int p4)]) hx hb dX9_copy_31 hl (by decide) rfl (fun ls hl => ?_)
          refine lv_aload hx hb dX9_copy_33 (lv_at hl 1 rfl) ?_
          have hPc := hP.sub (ws' := [(qs2, .inr (6, [.int (-1), y2_1, y2_2]))]) [4] rfl
          have hDc := hD.sub (ws' := [(qs2, .inr (6, [.int (-1), y2_1, y2_2]))]) [4] (by decide) rfl
          have hKc := hK.sub (tys' := []) [] rfl
          have hFc := va_free (wc := [(qs2, .inr (6, [.int (-1), y2_1, y2_2]))]) hD hS hA [4] rfl
          refine va_calli (va_runV (As := []) (rest := []) ⟨hx, hb, hml, hown, hts⟩ (c_X7_isMissing l dC dI qs2 (y2_1) (y2_2) H.size) (cwV 0 hts gX9_copy_X7_isMissing rfl rfl rfl (by decide +kernel) ⟨Nat.le_of_ble_eq_true rfl, Nat.le_of_ble_eq_true rfl⟩) ⟨fun a U g mk q => by obtain ⟨q0, q1, qP, qK, qD⟩ := q; exact ⟨q0, q1, qP, va_K.moved (u := U) (U := U.calling g mk a) (Vm.Alike.refl U.vm) qK, qD⟩, va_recv hKc hPc (ci := 6) (q0 := 0) rfl rfl, fun U hU hW => ⟨rfl, by rw [hU], by rw [hU]; exact hPc, va_K.moved hW.alike hKc, hDc.weaken (fun _ _ _ _ => trivial)⟩⟩ rfl rfl hl.1 rfl (lv_room (Nat.le_of_ble_eq_true rfl)) dX9_copy_35 ⟨Nat.le_of_ble_eq_true rfl, Nat.le_of_ble_eq_true rfl⟩) hS (fun q _ h => hFc q h) hFc (fun r21 u t H1 locs ht hvm hw hB hz1 hk1 hS => ?_)
          obtain ⟨hP1, hK1, hD1⟩ := hB
          rw [ht] at hP1
          have hK1 := va_K.moved hvm.symm hK1
          try dsimp only at hw
          obtain ⟨hP, hD⟩ := va_join (wr := [(h0, .inr (8, [w0, w1, w2, w3, w4, w5, w6, w7, w8, w9, w10, w11, .ref qsa])), (qsa, .inl (ksa, 4, .inr (.inr (.inr (.inr fsa))))), (qs0, .inr (6, [.int (-1), y0_1, y0_2])), (qs1, .inr (6, [.int (-1), y1_1, y1_2])), (qs3, .inr (6, [.int (-1), y3_1, y3_2]))]) (w1 := [(qs2, .inr (6, [.int (-1), y2_1, y2_2]))]) hP hD [4] [0, 1, 2, 3, 5] rfl rfl (by decide) (by decide) hk1 hFc hP1 hD1
          have hK := (hK.sub (tys' := [(ksa, .object "ClearingGates$Sheet")]) [0] rfl).app hK1
          generalize H1 = H at hP hS ⊢
          have hP : va_P (dC, dI) vwCl [(h0, .inr (8, [w0, w1, w2, w3, w4, w5, w6, w7, w8, w9, w10, w11, .ref qsa])), (qsa, .inl (ksa, 4, .inr (.inr (.inr (.inr fsa))))), (qs0, .inr (6, [.int (-1), y0_1, y0_2])), (qs1, .inr (6, [.int (-1), y1_1, y1_2])), (qs3, .inr (6, [.int (-1), y3_1, y3_2])), (qs2, .inr (6, [.int (-1), y2_1, y2_2]))] H := hP
          have hD : va_D A [(h0, .inr (8, [w0, w1, w2, w3, w4, w5, w6, w7, w8, w9, w10, w11, .ref qsa])), (qsa, .inl (ksa, 4, .inr (.inr (.inr (.inr fsa))))), (qs0, .inr (6, [.int (-1), y0_1, y0_2])), (qs1, .inr (6, [.int (-1), y1_1, y1_2])), (qs3, .inr (6, [.int (-1), y3_1, y3_2])), (qs2, .inr (6, [.int (-1), y2_1, y2_2]))] := hD
          have hK : va_K (dC, dI) vwCl [(ksa, .object "ClearingGates$Sheet")] s := hK
          subst hw
          refine lv_if_ne (tgt := 49) hx hb dX9_copy_38 (by decide) (fun c22 => ?_) (fun c22 => absurd c22 (by decide))
          refine lv_bipush (v := -11) hx hb dX9_copy_49 (by decide) ?_
          have hP9 := hP.sub (ws' := []) [] rfl
          have hD9 := hD.sub (ws' := []) [] (by decide) rfl
          have hK9 := hK.sub (tys' := []) [] rfl
          exact W.iret (v := (-11)) hx hb hr (fun t ht hW => ⟨⟨(-11), (), rfl, Or.inl ⟨rfl, by omega⟩, by rw [ht]; exact hP9, va_K.moved hW.alike hK9, hD9⟩, hS.F ht⟩) hS.2.2 dX9_copy_51
        · rw [show va_rf (fsa p2.toNatClampNeg) = .ref qs1 from by rw [i_nat j0, hs1]; rfl]
          refine lv_astore (lv' := [(7, .ref qs1), (6, .ref qs2), (0, .ref h0), (1, .int p0), (2, .int p1), (3, .int p2), (4, .int p3), (5, .int p4)]) hx hb dX9_copy_31 hl (by decide) rfl (fun ls hl => ?_)
          refine lv_aload hx hb dX9_copy_33 (lv_at hl 1 rfl) ?_
          have hPc := hP.sub (ws' := [(qs2, .inr (6, [.int (-1), y2_1, y2_2]))]) [4] rfl
          have hDc := hD.sub (ws' := [(qs2, .inr (6, [.int (-1), y2_1, y2_2]))]) [4] (by decide) rfl
          have hKc := hK.sub (tys' := []) [] rfl
          have hFc := va_free (wc := [(qs2, .inr (6, [.int (-1), y2_1, y2_2]))]) hD hS hA [4] rfl
          refine va_calli (va_runV (As := []) (rest := []) ⟨hx, hb, hml, hown, hts⟩ (c_X7_isMissing l dC dI qs2 (y2_1) (y2_2) H.size) (cwV 0 hts gX9_copy_X7_isMissing rfl rfl rfl (by decide +kernel) ⟨Nat.le_of_ble_eq_true rfl, Nat.le_of_ble_eq_true rfl⟩) ⟨fun a U g mk q => by obtain ⟨q0, q1, qP, qK, qD⟩ := q; exact ⟨q0, q1, qP, va_K.moved (u := U) (U := U.calling g mk a) (Vm.Alike.refl U.vm) qK, qD⟩, va_recv hKc hPc (ci := 6) (q0 := 0) rfl rfl, fun U hU hW => ⟨rfl, by rw [hU], by rw [hU]; exact hPc, va_K.moved hW.alike hKc, hDc.weaken (fun _ _ _ _ => trivial)⟩⟩ rfl rfl hl.1 rfl (lv_room (Nat.le_of_ble_eq_true rfl)) dX9_copy_35 ⟨Nat.le_of_ble_eq_true rfl, Nat.le_of_ble_eq_true rfl⟩) hS (fun q _ h => hFc q h) hFc (fun r23 u t H1 locs ht hvm hw hB hz1 hk1 hS => ?_)
          obtain ⟨hP1, hK1, hD1⟩ := hB
          rw [ht] at hP1
          have hK1 := va_K.moved hvm.symm hK1
          try dsimp only at hw
          obtain ⟨hP, hD⟩ := va_join (wr := [(h0, .inr (8, [w0, w1, w2, w3, w4, w5, w6, w7, w8, w9, w10, w11, .ref qsa])), (qsa, .inl (ksa, 4, .inr (.inr (.inr (.inr fsa))))), (qs0, .inr (6, [.int (-1), y0_1, y0_2])), (qs1, .inr (6, [.int (-1), y1_1, y1_2])), (qs3, .inr (6, [.int (-1), y3_1, y3_2]))]) (w1 := [(qs2, .inr (6, [.int (-1), y2_1, y2_2]))]) hP hD [4] [0, 1, 2, 3, 5] rfl rfl (by decide) (by decide) hk1 hFc hP1 hD1
          have hK := (hK.sub (tys' := [(ksa, .object "ClearingGates$Sheet")]) [0] rfl).app hK1
          generalize H1 = H at hP hS ⊢
          have hP : va_P (dC, dI) vwCl [(h0, .inr (8, [w0, w1, w2, w3, w4, w5, w6, w7, w8, w9, w10, w11, .ref qsa])), (qsa, .inl (ksa, 4, .inr (.inr (.inr (.inr fsa))))), (qs0, .inr (6, [.int (-1), y0_1, y0_2])), (qs1, .inr (6, [.int (-1), y1_1, y1_2])), (qs3, .inr (6, [.int (-1), y3_1, y3_2])), (qs2, .inr (6, [.int (-1), y2_1, y2_2]))] H := hP
          have hD : va_D A [(h0, .inr (8, [w0, w1, w2, w3, w4, w5, w6, w7, w8, w9, w10, w11, .ref qsa])), (qsa, .inl (ksa, 4, .inr (.inr (.inr (.inr fsa))))), (qs0, .inr (6, [.int (-1), y0_1, y0_2])), (qs1, .inr (6, [.int (-1), y1_1, y1_2])), (qs3, .inr (6, [.int (-1), y3_1, y3_2])), (qs2, .inr (6, [.int (-1), y2_1, y2_2]))] := hD
          have hK : va_K (dC, dI) vwCl [(ksa, .object "ClearingGates$Sheet")] s := hK
          subst hw
          refine lv_if_ne (tgt := 49) hx hb dX9_copy_38 (by decide) (fun c24 => ?_) (fun c24 => absurd c24 (by decide))
          refine lv_bipush (v := -11) hx hb dX9_copy_49 (by decide) ?_
          have hP9 := hP.sub (ws' := []) [] rfl
          have hD9 := hD.sub (ws' := []) [] (by decide) rfl
          have hK9 := hK.sub (tys' := []) [] rfl
          exact W.iret (v := (-11)) hx hb hr (fun t ht hW => ⟨⟨(-11), (), rfl, Or.inl ⟨rfl, by omega⟩, by rw [ht]; exact hP9, va_K.moved hW.alike hK9, hD9⟩, hS.F ht⟩) hS.2.2 dX9_copy_51
        · rw [show va_rf (fsa p2.toNatClampNeg) = .ref qs2 from by rw [i_nat j0, hs2]; rfl]
          refine lv_astore (lv' := [(7, .ref qs2), (6, .ref qs2), (0, .ref h0), (1, .int p0), (2, .int p1), (3, .int p2), (4, .int p3), (5, .int p4)]) hx hb dX9_copy_31 hl (by decide) rfl (fun ls hl => ?_)
          refine lv_aload hx hb dX9_copy_33 (lv_at hl 1 rfl) ?_
          have hPc := hP.sub (ws' := [(qs2, .inr (6, [.int (-1), y2_1, y2_2]))]) [4] rfl
          have hDc := hD.sub (ws' := [(qs2, .inr (6, [.int (-1), y2_1, y2_2]))]) [4] (by decide) rfl
          have hKc := hK.sub (tys' := []) [] rfl
          have hFc := va_free (wc := [(qs2, .inr (6, [.int (-1), y2_1, y2_2]))]) hD hS hA [4] rfl
          refine va_calli (va_runV (As := []) (rest := []) ⟨hx, hb, hml, hown, hts⟩ (c_X7_isMissing l dC dI qs2 (y2_1) (y2_2) H.size) (cwV 0 hts gX9_copy_X7_isMissing rfl rfl rfl (by decide +kernel) ⟨Nat.le_of_ble_eq_true rfl, Nat.le_of_ble_eq_true rfl⟩) ⟨fun a U g mk q => by obtain ⟨q0, q1, qP, qK, qD⟩ := q; exact ⟨q0, q1, qP, va_K.moved (u := U) (U := U.calling g mk a) (Vm.Alike.refl U.vm) qK, qD⟩, va_recv hKc hPc (ci := 6) (q0 := 0) rfl rfl, fun U hU hW => ⟨rfl, by rw [hU], by rw [hU]; exact hPc, va_K.moved hW.alike hKc, hDc.weaken (fun _ _ _ _ => trivial)⟩⟩ rfl rfl hl.1 rfl (lv_room (Nat.le_of_ble_eq_true rfl)) dX9_copy_35 ⟨Nat.le_of_ble_eq_true rfl, Nat.le_of_ble_eq_true rfl⟩) hS (fun q _ h => hFc q h) hFc (fun r25 u t H1 locs ht hvm hw hB hz1 hk1 hS => ?_)
          obtain ⟨hP1, hK1, hD1⟩ := hB
          rw [ht] at hP1
          have hK1 := va_K.moved hvm.symm hK1
          try dsimp only at hw
          obtain ⟨hP, hD⟩ := va_join (wr := [(h0, .inr (8, [w0, w1, w2, w3, w4, w5, w6, w7, w8, w9, w10, w11, .ref qsa])), (qsa, .inl (ksa, 4, .inr (.inr (.inr (.inr fsa))))), (qs0, .inr (6, [.int (-1), y0_1, y0_2])), (qs1, .inr (6, [.int (-1), y1_1, y1_2])), (qs3, .inr (6, [.int (-1), y3_1, y3_2]))]) (w1 := [(qs2, .inr (6, [.int (-1), y2_1, y2_2]))]) hP hD [4] [0, 1, 2, 3, 5] rfl rfl (by decide) (by decide) hk1 hFc hP1 hD1
          have hK := (hK.sub (tys' := [(ksa, .object "ClearingGates$Sheet")]) [0] rfl).app hK1
          generalize H1 = H at hP hS ⊢
          have hP : va_P (dC, dI) vwCl [(h0, .inr (8, [w0, w1, w2, w3, w4, w5, w6, w7, w8, w9, w10, w11, .ref qsa])), (qsa, .inl (ksa, 4, .inr (.inr (.inr (.inr fsa))))), (qs0, .inr (6, [.int (-1), y0_1, y0_2])), (qs1, .inr (6, [.int (-1), y1_1, y1_2])), (qs3, .inr (6, [.int (-1), y3_1, y3_2])), (qs2, .inr (6, [.int (-1), y2_1, y2_2]))] H := hP
          have hD : va_D A [(h0, .inr (8, [w0, w1, w2, w3, w4, w5, w6, w7, w8, w9, w10, w11, .ref qsa])), (qsa, .inl (ksa, 4, .inr (.inr (.inr (.inr fsa))))), (qs0, .inr (6, [.int (-1), y0_1, y0_2])), (qs1, .inr (6, [.int (-1), y1_1, y1_2])), (qs3, .inr (6, [.int (-1), y3_1, y3_2])), (qs2, .inr (6, [.int (-1), y2_1, y2_2]))] := hD
          have hK : va_K (dC, dI) vwCl [(ksa, .object "ClearingGates$Sheet")] s := hK
          subst hw
          refine lv_if_ne (tgt := 49) hx hb dX9_copy_38 (by decide) (fun c26 => ?_) (fun c26 => absurd c26 (by decide))
          refine lv_bipush (v := -11) hx hb dX9_copy_49 (by decide) ?_
          have hP9 := hP.sub (ws' := []) [] rfl
          have hD9 := hD.sub (ws' := []) [] (by decide) rfl
          have hK9 := hK.sub (tys' := []) [] rfl
          exact W.iret (v := (-11)) hx hb hr (fun t ht hW => ⟨⟨(-11), (), rfl, Or.inl ⟨rfl, by omega⟩, by rw [ht]; exact hP9, va_K.moved hW.alike hK9, hD9⟩, hS.F ht⟩) hS.2.2 dX9_copy_51
        · rw [show va_rf (fsa p2.toNatClampNeg) = .ref qs3 from by rw [i_nat j0, hs3]; rfl]
          refine lv_astore (lv' := [(7, .ref qs3), (6, .ref qs2), (0, .ref h0), (1, .int p0), (2, .int p1), (3, .int p2), (4, .int p3), (5, .int p4)]) hx hb dX9_copy_31 hl (by decide) rfl (fun ls hl => ?_)
          refine lv_aload hx hb dX9_copy_33 (lv_at hl 1 rfl) ?_
          have hPc := hP.sub (ws' := [(qs2, .inr (6, [.int (-1), y2_1, y2_2]))]) [4] rfl
          have hDc := hD.sub (ws' := [(qs2, .inr (6, [.int (-1), y2_1, y2_2]))]) [4] (by decide) rfl
          have hKc := hK.sub (tys' := []) [] rfl
          have hFc := va_free (wc := [(qs2, .inr (6, [.int (-1), y2_1, y2_2]))]) hD hS hA [4] rfl
          refine va_calli (va_runV (As := []) (rest := []) ⟨hx, hb, hml, hown, hts⟩ (c_X7_isMissing l dC dI qs2 (y2_1) (y2_2) H.size) (cwV 0 hts gX9_copy_X7_isMissing rfl rfl rfl (by decide +kernel) ⟨Nat.le_of_ble_eq_true rfl, Nat.le_of_ble_eq_true rfl⟩) ⟨fun a U g mk q => by obtain ⟨q0, q1, qP, qK, qD⟩ := q; exact ⟨q0, q1, qP, va_K.moved (u := U) (U := U.calling g mk a) (Vm.Alike.refl U.vm) qK, qD⟩, va_recv hKc hPc (ci := 6) (q0 := 0) rfl rfl, fun U hU hW => ⟨rfl, by rw [hU], by rw [hU]; exact hPc, va_K.moved hW.alike hKc, hDc.weaken (fun _ _ _ _ => trivial)⟩⟩ rfl rfl hl.1 rfl (lv_room (Nat.le_of_ble_eq_true rfl)) dX9_copy_35 ⟨Nat.le_of_ble_eq_true rfl, Nat.le_of_ble_eq_true rfl⟩) hS (fun q _ h => hFc q h) hFc (fun r27 u t H1 locs ht hvm hw hB hz1 hk1 hS => ?_)
          obtain ⟨hP1, hK1, hD1⟩ := hB
          rw [ht] at hP1
          have hK1 := va_K.moved hvm.symm hK1
          try dsimp only at hw
          obtain ⟨hP, hD⟩ := va_join (wr := [(h0, .inr (8, [w0, w1, w2, w3, w4, w5, w6, w7, w8, w9, w10, w11, .ref qsa])), (qsa, .inl (ksa, 4, .inr (.inr (.inr (.inr fsa))))), (qs0, .inr (6, [.int (-1), y0_1, y0_2])), (qs1, .inr (6, [.int (-1), y1_1, y1_2])), (qs3, .inr (6, [.int (-1), y3_1, y3_2]))]) (w1 := [(qs2, .inr (6, [.int (-1), y2_1, y2_2]))]) hP hD [4] [0, 1, 2, 3, 5] rfl rfl (by decide) (by decide) hk1 hFc hP1 hD1
          have hK := (hK.sub (tys' := [(ksa, .object "ClearingGates$Sheet")]) [0] rfl).app hK1
          generalize H1 = H at hP hS ⊢
          have hP : va_P (dC, dI) vwCl [(h0, .inr (8, [w0, w1, w2, w3, w4, w5, w6, w7, w8, w9, w10, w11, .ref qsa])), (qsa, .inl (ksa, 4, .inr (.inr (.inr (.inr fsa))))), (qs0, .inr (6, [.int (-1), y0_1, y0_2])), (qs1, .inr (6, [.int (-1), y1_1, y1_2])), (qs3, .inr (6, [.int (-1), y3_1, y3_2])), (qs2, .inr (6, [.int (-1), y2_1, y2_2]))] H := hP
          have hD : va_D A [(h0, .inr (8, [w0, w1, w2, w3, w4, w5, w6, w7, w8, w9, w10, w11, .ref qsa])), (qsa, .inl (ksa, 4, .inr (.inr (.inr (.inr fsa))))), (qs0, .inr (6, [.int (-1), y0_1, y0_2])), (qs1, .inr (6, [.int (-1), y1_1, y1_2])), (qs3, .inr (6, [.int (-1), y3_1, y3_2])), (qs2, .inr (6, [.int (-1), y2_1, y2_2]))] := hD
          have hK : va_K (dC, dI) vwCl [(ksa, .object "ClearingGates$Sheet")] s := hK
          subst hw
          refine lv_if_ne (tgt := 49) hx hb dX9_copy_38 (by decide) (fun c28 => ?_) (fun c28 => absurd c28 (by decide))
          refine lv_bipush (v := -11) hx hb dX9_copy_49 (by decide) ?_
          have hP9 := hP.sub (ws' := []) [] rfl
          have hD9 := hD.sub (ws' := []) [] (by decide) rfl
          have hK9 := hK.sub (tys' := []) [] rfl
          exact W.iret (v := (-11)) hx hb hr (fun t ht hW => ⟨⟨(-11), (), rfl, Or.inl ⟨rfl, by omega⟩, by rw [ht]; exact hP9, va_K.moved hW.alike hK9, hD9⟩, hS.F ht⟩) hS.2.2 dX9_copy_51
      · rw [show va_rf (fsa p0.toNatClampNeg) = .ref qs3 from by rw [i_nat j0, hs3]; rfl]
        refine lv_astore (lv' := [(6, .ref qs3), (0, .ref h0), (1, .int p0), (2, .int p1), (3, .int p2), (4, .int p3), (5, .int p4)]) hx hb dX9_copy_23 hl (by decide) rfl (fun ls hl => ?_)
        refine lv_aload_n hx hb dX9_copy_25 rfl (lv_at hl 1 rfl) ?_
        refine va_get (D := (dC, dI)) (ci := 8) (v := .ref qsa) (C := RX9) (T := TX9) (N := 13) hx hb hts in_X9_copy_X9 hown hK hP 0 rfl rfl 12 (by decide) (hts (.fieldLink RX9 79 "ClearingGates" "sheets" "[LClearingGates$Sheet;") (List.mem_of_getElem? (i := 1) (by decide +kernel))) (fun _ h9 => h9) rfl dX9_copy_26 ?_
        refine lv_iload_n hx hb dX9_copy_29 rfl (lv_at hl 4 rfl) ?_
        refine va_aldq (D := (dC, dI)) hx hb hK hP 1 0 rfl rfl (vp_in_iff.mpr ⟨by omega, by omega⟩) dX9_copy_30 ?_
        rcases (show p2.toInt = 0 ∨ p2.toInt = 1 ∨ p2.toInt = 2 ∨ p2.toInt = 3 by omega) with j0 | j0 | j0 | j0
        · rw [show va_rf (fsa p2.toNatClampNeg) = .ref qs0 from by rw [i_nat j0, hs0]; rfl]
          refine lv_astore (lv' := [(7, .ref qs0), (6, .ref qs3), (0, .ref h0), (1, .int p0), (2, .int p1), (3, .int p2), (4, .int p3), (5, .int p4)]) hx hb dX9_copy_31 hl (by decide) rfl (fun ls hl => ?_)
          refine lv_aload hx hb dX9_copy_33 (lv_at hl 1 rfl) ?_
          have hPc := hP.sub (ws' := [(qs3, .inr (6, [.int (-1), y3_1, y3_2]))]) [5] rfl
          have hDc := hD.sub (ws' := [(qs3, .inr (6, [.int (-1), y3_1, y3_2]))]) [5] (by decide) rfl
          have hKc := hK.sub (tys' := []) [] rfl
          have hFc := va_free (wc := [(qs3, .inr (6, [.int (-1), y3_1, y3_2]))]) hD hS hA [5] rfl
          refine va_calli (va_runV (As := []) (rest := []) ⟨hx, hb, hml, hown, hts⟩ (c_X7_isMissing l dC dI qs3 (y3_1) (y3_2) H.size) (cwV 0 hts gX9_copy_X7_isMissing rfl rfl rfl (by decide +kernel) ⟨Nat.le_of_ble_eq_true rfl, Nat.le_of_ble_eq_true rfl⟩) ⟨fun a U g mk q => by obtain ⟨q0, q1, qP, qK, qD⟩ := q; exact ⟨q0, q1, qP, va_K.moved (u := U) (U := U.calling g mk a) (Vm.Alike.refl U.vm) qK, qD⟩, va_recv hKc hPc (ci := 6) (q0 := 0) rfl rfl, fun U hU hW => ⟨rfl, by rw [hU], by rw [hU]; exact hPc, va_K.moved hW.alike hKc, hDc.weaken (fun _ _ _ _ => trivial)⟩⟩ rfl rfl hl.1 rfl (lv_room (Nat.le_of_ble_eq_true rfl)) dX9_copy_35 ⟨Nat.le_of_ble_eq_true rfl, Nat.le_of_ble_eq_true rfl⟩) hS (fun q _ h => hFc q h) hFc (fun r29 u t H1 locs ht hvm hw hB hz1 hk1 hS => ?_)
          obtain ⟨hP1, hK1, hD1⟩ := hB
          rw [ht] at hP1
          have hK1 := va_K.moved hvm.symm hK1
          try dsimp only at hw
          obtain ⟨hP, hD⟩ := va_join (wr := [(h0, .inr (8, [w0, w1, w2, w3, w4, w5, w6, w7, w8, w9, w10, w11, .ref qsa])), (qsa, .inl (ksa, 4, .inr (.inr (.inr (.inr fsa))))), (qs0, .inr (6, [.int (-1), y0_1, y0_2])), (qs1, .inr (6, [.int (-1), y1_1, y1_2])), (qs2, .inr (6, [.int (-1), y2_1, y2_2]))]) (w1 := [(qs3, .inr (6, [.int (-1), y3_1, y3_2]))]) hP hD [5] [0, 1, 2, 3, 4] rfl rfl (by decide) (by decide) hk1 hFc hP1 hD1
          have hK := (hK.sub (tys' := [(ksa, .object "ClearingGates$Sheet")]) [0] rfl).app hK1
          generalize H1 = H at hP hS ⊢
          have hP : va_P (dC, dI) vwCl [(h0, .inr (8, [w0, w1, w2, w3, w4, w5, w6, w7, w8, w9, w10, w11, .ref qsa])), (qsa, .inl (ksa, 4, .inr (.inr (.inr (.inr fsa))))), (qs0, .inr (6, [.int (-1), y0_1, y0_2])), (qs1, .inr (6, [.int (-1), y1_1, y1_2])), (qs2, .inr (6, [.int (-1), y2_1, y2_2])), (qs3, .inr (6, [.int (-1), y3_1, y3_2]))] H := hP
          have hD : va_D A [(h0, .inr (8, [w0, w1, w2, w3, w4, w5, w6, w7, w8, w9, w10, w11, .ref qsa])), (qsa, .inl (ksa, 4, .inr (.inr (.inr (.inr fsa))))), (qs0, .inr (6, [.int (-1), y0_1, y0_2])), (qs1, .inr (6, [.int (-1), y1_1, y1_2])), (qs2, .inr (6, [.int (-1), y2_1, y2_2])), (qs3, .inr (6, [.int (-1), y3_1, y3_2]))] := hD
          have hK : va_K (dC, dI) vwCl [(ksa, .object "ClearingGates$Sheet")] s := hK
          subst hw
          refine lv_if_ne (tgt := 49) hx hb dX9_copy_38 (by decide) (fun c30 => ?_) (fun c30 => absurd c30 (by decide))
          refine lv_bipush (v := -11) hx hb dX9_copy_49 (by decide) ?_
          have hP9 := hP.sub (ws' := []) [] rfl
          have hD9 := hD.sub (ws' := []) [] (by decide) rfl
          have hK9 := hK.sub (tys' := []) [] rfl
          exact W.iret (v := (-11)) hx hb hr (fun t ht hW => ⟨⟨(-11), (), rfl, Or.inl ⟨rfl, by omega⟩, by rw [ht]; exact hP9, va_K.moved hW.alike hK9, hD9⟩, hS.F ht⟩) hS.2.2 dX9_copy_51
        · rw [show va_rf (fsa p2.toNatClampNeg) = .ref qs1 from by rw [i_nat j0, hs1]; rfl]
          refine lv_astore (lv' := [(7, .ref qs1), (6, .ref qs3), (0, .ref h0), (1, .int p0), (2, .int p1), (3, .int p2), (4, .int p3), (5, .int p4)]) hx hb dX9_copy_31 hl (by decide) rfl (fun ls hl => ?_)
          refine lv_aload hx hb dX9_copy_33 (lv_at hl 1 rfl) ?_
          have hPc := hP.sub (ws' := [(qs3, .inr (6, [.int (-1), y3_1, y3_2]))]) [5] rfl
          have hDc := hD.sub (ws' := [(qs3, .inr (6, [.int (-1), y3_1, y3_2]))]) [5] (by decide) rfl
          have hKc := hK.sub (tys' := []) [] rfl
          have hFc := va_free (wc := [(qs3, .inr (6, [.int (-1), y3_1, y3_2]))]) hD hS hA [5] rfl
          refine va_calli (va_runV (As := []) (rest := []) ⟨hx, hb, hml, hown, hts⟩ (c_X7_isMissing l dC dI qs3 (y3_1) (y3_2) H.size) (cwV 0 hts gX9_copy_X7_isMissing rfl rfl rfl (by decide +kernel) ⟨Nat.le_of_ble_eq_true rfl, Nat.le_of_ble_eq_true rfl⟩) ⟨fun a U g mk q => by obtain ⟨q0, q1, qP, qK, qD⟩ := q; exact ⟨q0, q1, qP, va_K.moved (u := U) (U := U.calling g mk a) (Vm.Alike.refl U.vm) qK, qD⟩, va_recv hKc hPc (ci := 6) (q0 := 0) rfl rfl, fun U hU hW => ⟨rfl, by rw [hU], by rw [hU]; exact hPc, va_K.moved hW.alike hKc, hDc.weaken (fun _ _ _ _ => trivial)⟩⟩ rfl rfl hl.1 rfl (lv_room (Nat.le_of_ble_eq_true rfl)) dX9_copy_35 ⟨Nat.le_of_ble_eq_true rfl, Nat.le_of_ble_eq_true rfl⟩) hS (fun q _ h => hFc q h) hFc (fun r31 u t H1 locs ht hvm hw hB hz1 hk1 hS => ?_)
          obtain ⟨hP1, hK1, hD1⟩ := hB
          rw [ht] at hP1
          have hK1 := va_K.moved hvm.symm hK1
          try dsimp only at hw
          obtain ⟨hP, hD⟩ := va_join (wr := [(h0, .inr (8, [w0, w1, w2, w3, w4, w5, w6, w7, w8, w9, w10, w11, .ref qsa])), (qsa, .inl (ksa, 4, .inr (.inr (.inr (.inr fsa))))), (qs0, .inr (6, [.int (-1), y0_1, y0_2])), (qs1, .inr (6, [.int (-1), y1_1, y1_2])), (qs2, .inr (6, [.int (-1), y2_1, y2_2]))]) (w1 := [(qs3, .inr (6, [.int (-1), y3_1, y3_2]))]) hP hD [5] [0, 1, 2, 3, 4] rfl rfl (by decide) (by decide) hk1 hFc hP1 hD1
          have hK := (hK.sub (tys' := [(ksa, .object "ClearingGates$Sheet")]) [0] rfl).app hK1
          generalize H1 = H at hP hS ⊢
          have hP : va_P (dC, dI) vwCl [(h0, .inr (8, [w0, w1, w2, w3, w4, w5, w6, w7, w8, w9, w10, w11, .ref qsa])), (qsa, .inl (ksa, 4, .inr (.inr (.inr (.inr fsa))))), (qs0, .inr (6, [.int (-1), y0_1, y0_2])), (qs1, .inr (6, [.int (-1), y1_1, y1_2])), (qs2, .inr (6, [.int (-1), y2_1, y2_2])), (qs3, .inr (6, [.int (-1), y3_1, y3_2]))] H := hP
          have hD : va_D A [(h0, .inr (8, [w0, w1, w2, w3, w4, w5, w6, w7, w8, w9, w10, w11, .ref qsa])), (qsa, .inl (ksa, 4, .inr (.inr (.inr (.inr fsa))))), (qs0, .inr (6, [.int (-1), y0_1, y0_2])), (qs1, .inr (6, [.int (-1), y1_1, y1_2])), (qs2, .inr (6, [.int (-1), y2_1, y2_2])), (qs3, .inr (6, [.int (-1), y3_1, y3_2]))] := hD
          have hK : va_K (dC, dI) vwCl [(ksa, .object "ClearingGates$Sheet")] s := hK
          subst hw
          refine lv_if_ne (tgt := 49) hx hb dX9_copy_38 (by decide) (fun c32 => ?_) (fun c32 => absurd c32 (by decide))
          refine lv_bipush (v := -11) hx hb dX9_copy_49 (by decide) ?_
          have hP9 := hP.sub (ws' := []) [] rfl
          have hD9 := hD.sub (ws' := []) [] (by decide) rfl
          have hK9 := hK.sub (tys' := []) [] rfl
          exact W.iret (v := (-11)) hx hb hr (fun t ht hW => ⟨⟨(-11), (), rfl, Or.inl ⟨rfl, by omega⟩, by rw [ht]; exact hP9, va_K.moved hW.alike hK9, hD9⟩, hS.F ht⟩) hS.2.2 dX9_copy_51
        · rw [show va_rf (fsa p2.toNatClampNeg) = .ref qs2 from by rw [i_nat j0, hs2]; rfl]
          refine lv_astore (lv' := [(7, .ref qs2), (6, .ref qs3), (0, .ref h0), (1, .int p0), (2, .int p1), (3, .int p2), (4, .int p3), (5, .int p4)]) hx hb dX9_copy_31 hl (by decide) rfl (fun ls hl => ?_)
          refine lv_aload hx hb dX9_copy_33 (lv_at hl 1 rfl) ?_
          have hPc := hP.sub (ws' := [(qs3, .inr (6, [.int (-1), y3_1, y3_2]))]) [5] rfl
          have hDc := hD.sub (ws' := [(qs3, .inr (6, [.int (-1), y3_1, y3_2]))]) [5] (by decide) rfl
          have hKc := hK.sub (tys' := []) [] rfl
          have hFc := va_free (wc := [(qs3, .inr (6, [.int (-1), y3_1, y3_2]))]) hD hS hA [5] rfl
          refine va_calli (va_runV (As := []) (rest := []) ⟨hx, hb, hml, hown, hts⟩ (c_X7_isMissing l dC dI qs3 (y3_1) (y3_2) H.size) (cwV 0 hts gX9_copy_X7_isMissing rfl rfl rfl (by decide +kernel) ⟨Nat.le_of_ble_eq_true rfl, Nat.le_of_ble_eq_true rfl⟩) ⟨fun a U g mk q => by obtain ⟨q0, q1, qP, qK, qD⟩ := q; exact ⟨q0, q1, qP, va_K.moved (u := U) (U := U.calling g mk a) (Vm.Alike.refl U.vm) qK, qD⟩, va_recv hKc hPc (ci := 6) (q0 := 0) rfl rfl, fun U hU hW => ⟨rfl, by rw [hU], by rw [hU]; exact hPc, va_K.moved hW.alike hKc, hDc.weaken (fun _ _ _ _ => trivial)⟩⟩ rfl rfl hl.1 rfl (lv_room (Nat.le_of_ble_eq_true rfl)) dX9_copy_35 ⟨Nat.le_of_ble_eq_true rfl, Nat.le_of_ble_eq_true rfl⟩) hS (fun q _ h => hFc q h) hFc (fun r33 u t H1 locs ht hvm hw hB hz1 hk1 hS => ?_)
          obtain ⟨hP1, hK1, hD1⟩ := hB
          rw [ht] at hP1
          have hK1 := va_K.moved hvm.symm hK1
          try dsimp only at hw
          obtain ⟨hP, hD⟩ := va_join (wr := [(h0, .inr (8, [w0, w1, w2, w3, w4, w5, w6, w7, w8, w9, w10, w11, .ref qsa])), (qsa, .inl (ksa, 4, .inr (.inr (.inr (.inr fsa))))), (qs0, .inr (6, [.int (-1), y0_1, y0_2])), (qs1, .inr (6, [.int (-1), y1_1, y1_2])), (qs2, .inr (6, [.int (-1), y2_1, y2_2]))]) (w1 := [(qs3, .inr (6, [.int (-1), y3_1, y3_2]))]) hP hD [5] [0, 1, 2, 3, 4] rfl rfl (by decide) (by decide) hk1 hFc hP1 hD1
          have hK := (hK.sub (tys' := [(ksa, .object "ClearingGates$Sheet")]) [0] rfl).app hK1
          generalize H1 = H at hP hS ⊢
          have hP : va_P (dC, dI) vwCl [(h0, .inr (8, [w0, w1, w2, w3, w4, w5, w6, w7, w8, w9, w10, w11, .ref qsa])), (qsa, .inl (ksa, 4, .inr (.inr (.inr (.inr fsa))))), (qs0, .inr (6, [.int (-1), y0_1, y0_2])), (qs1, .inr (6, [.int (-1), y1_1, y1_2])), (qs2, .inr (6, [.int (-1), y2_1, y2_2])), (qs3, .inr (6, [.int (-1), y3_1, y3_2]))] H := hP
          have hD : va_D A [(h0, .inr (8, [w0, w1, w2, w3, w4, w5, w6, w7, w8, w9, w10, w11, .ref qsa])), (qsa, .inl (ksa, 4, .inr (.inr (.inr (.inr fsa))))), (qs0, .inr (6, [.int (-1), y0_1, y0_2])), (qs1, .inr (6, [.int (-1), y1_1, y1_2])), (qs2, .inr (6, [.int (-1), y2_1, y2_2])), (qs3, .inr (6, [.int (-1), y3_1, y3_2]))] := hD
          have hK : va_K (dC, dI) vwCl [(ksa, .object "ClearingGates$Sheet")] s := hK
          subst hw
          refine lv_if_ne (tgt := 49) hx hb dX9_copy_38 (by decide) (fun c34 => ?_) (fun c34 => absurd c34 (by decide))
          refine lv_bipush (v := -11) hx hb dX9_copy_49 (by decide) ?_
          have hP9 := hP.sub (ws' := []) [] rfl
          have hD9 := hD.sub (ws' := []) [] (by decide) rfl
          have hK9 := hK.sub (tys' := []) [] rfl
          exact W.iret (v := (-11)) hx hb hr (fun t ht hW => ⟨⟨(-11), (), rfl, Or.inl ⟨rfl, by omega⟩, by rw [ht]; exact hP9, va_K.moved hW.alike hK9, hD9⟩, hS.F ht⟩) hS.2.2 dX9_copy_51
        · rw [show va_rf (fsa p2.toNatClampNeg) = .ref qs3 from by rw [i_nat j0, hs3]; rfl]
          refine lv_astore (lv' := [(7, .ref qs3), (6, .ref qs3), (0, .ref h0), (1, .int p0), (2, .int p1), (3, .int p2), (4, .int p3), (5, .int p4)]) hx hb dX9_copy_31 hl (by decide) rfl (fun ls hl => ?_)
          refine lv_aload hx hb dX9_copy_33 (lv_at hl 1 rfl) ?_
          have hPc := hP.sub (ws' := [(qs3, .inr (6, [.int (-1), y3_1, y3_2]))]) [5] rfl
          have hDc := hD.sub (ws' := [(qs3, .inr (6, [.int (-1), y3_1, y3_2]))]) [5] (by decide) rfl
          have hKc := hK.sub (tys' := []) [] rfl
          have hFc := va_free (wc := [(qs3, .inr (6, [.int (-1), y3_1, y3_2]))]) hD hS hA [5] rfl
          refine va_calli (va_runV (As := []) (rest := []) ⟨hx, hb, hml, hown, hts⟩ (c_X7_isMissing l dC dI qs3 (y3_1) (y3_2) H.size) (cwV 0 hts gX9_copy_X7_isMissing rfl rfl rfl (by decide +kernel) ⟨Nat.le_of_ble_eq_true rfl, Nat.le_of_ble_eq_true rfl⟩) ⟨fun a U g mk q => by obtain ⟨q0, q1, qP, qK, qD⟩ := q; exact ⟨q0, q1, qP, va_K.moved (u := U) (U := U.calling g mk a) (Vm.Alike.refl U.vm) qK, qD⟩, va_recv hKc hPc (ci := 6) (q0 := 0) rfl rfl, fun U hU hW => ⟨rfl, by rw [hU], by rw [hU]; exact hPc, va_K.moved hW.alike hKc, hDc.weaken (fun _ _ _ _ => trivial)⟩⟩ rfl rfl hl.1 rfl (lv_room (Nat.le_of_ble_eq_true rfl)) dX9_copy_35 ⟨Nat.le_of_ble_eq_true rfl, Nat.le_of_ble_eq_true rfl⟩) hS (fun q _ h => hFc q h) hFc (fun r35 u t H1 locs ht hvm hw hB hz1 hk1 hS => ?_)
          obtain ⟨hP1, hK1, hD1⟩ := hB
          rw [ht] at hP1
          have hK1 := va_K.moved hvm.symm hK1
          try dsimp only at hw
          obtain ⟨hP, hD⟩ := va_join (wr := [(h0, .inr (8, [w0, w1, w2, w3, w4, w5, w6, w7, w8, w9, w10, w11, .ref qsa])), (qsa, .inl (ksa, 4, .inr (.inr (.inr (.inr fsa))))), (qs0, .inr (6, [.int (-1), y0_1, y0_2])), (qs1, .inr (6, [.int (-1), y1_1, y1_2])), (qs2, .inr (6, [.int (-1), y2_1, y2_2]))]) (w1 := [(qs3, .inr (6, [.int (-1), y3_1, y3_2]))]) hP hD [5] [0, 1, 2, 3, 4] rfl rfl (by decide) (by decide) hk1 hFc hP1 hD1
          have hK := (hK.sub (tys' := [(ksa, .object "ClearingGates$Sheet")]) [0] rfl).app hK1
          generalize H1 = H at hP hS ⊢
          have hP : va_P (dC, dI) vwCl [(h0, .inr (8, [w0, w1, w2, w3, w4, w5, w6, w7, w8, w9, w10, w11, .ref qsa])), (qsa, .inl (ksa, 4, .inr (.inr (.inr (.inr fsa))))), (qs0, .inr (6, [.int (-1), y0_1, y0_2])), (qs1, .inr (6, [.int (-1), y1_1, y1_2])), (qs2, .inr (6, [.int (-1), y2_1, y2_2])), (qs3, .inr (6, [.int (-1), y3_1, y3_2]))] H := hP
          have hD : va_D A [(h0, .inr (8, [w0, w1, w2, w3, w4, w5, w6, w7, w8, w9, w10, w11, .ref qsa])), (qsa, .inl (ksa, 4, .inr (.inr (.inr (.inr fsa))))), (qs0, .inr (6, [.int (-1), y0_1, y0_2])), (qs1, .inr (6, [.int (-1), y1_1, y1_2])), (qs2, .inr (6, [.int (-1), y2_1, y2_2])), (qs3, .inr (6, [.int (-1), y3_1, y3_2]))] := hD
          have hK : va_K (dC, dI) vwCl [(ksa, .object "ClearingGates$Sheet")] s := hK
          subst hw
          refine lv_if_ne (tgt := 49) hx hb dX9_copy_38 (by decide) (fun c36 => ?_) (fun c36 => absurd c36 (by decide))
          refine lv_bipush (v := -11) hx hb dX9_copy_49 (by decide) ?_
          have hP9 := hP.sub (ws' := []) [] rfl
          have hD9 := hD.sub (ws' := []) [] (by decide) rfl
          have hK9 := hK.sub (tys' := []) [] rfl
          exact W.iret (v := (-11)) hx hb hr (fun t ht hW => ⟨⟨(-11), (), rfl, Or.inl ⟨rfl, by omega⟩, by rw [ht]; exact hP9, va_K.moved hW.alike hK9, hD9⟩, hS.F ht⟩) hS.2.2 dX9_copy_51
    · subst e_r3
      refine lv_if_ne (tgt := 17) hx hb dX9_copy_11 (by decide) (fun c37 => absurd (by decide) c37) (fun c37 => ?_)
      refine lv_bipush (v := -2) hx hb dX9_copy_14 (by decide) ?_
      have hP9 := hP.sub (ws' := []) [] rfl
      have hD9 := hD.sub (ws' := []) [] (by decide) rfl
      have hK9 := hK.sub (tys' := []) [] rfl
      exact W.iret (v := (-2)) hx hb hr (fun t ht hW => ⟨⟨(-2), (), rfl, Or.inr (⟨rfl, by omega⟩), by rw [ht]; exact hP9, va_K.moved hW.alike hK9, hD9⟩, hS.F ht⟩) hS.2.2 dX9_copy_16
  · subst e_r1
    refine lv_if_eq (tgt := 14) hx hb dX9_copy_4 (by decide) (fun c38 => ?_) (fun c38 => absurd (by decide) c38)
    refine lv_bipush (v := -2) hx hb dX9_copy_14 (by decide) ?_
    have hP9 := hP.sub (ws' := []) [] rfl
    have hD9 := hD.sub (ws' := []) [] (by decide) rfl
    have hK9 := hK.sub (tys' := []) [] rfl
    exact W.iret (v := (-2)) hx hb hr (fun t ht hW => ⟨⟨(-2), (), rfl, Or.inr (⟨rfl, by omega⟩), by rw [ht]; exact hP9, va_K.moved hW.alike hK9, hD9⟩, hS.F ht⟩) hS.2.2 dX9_copy_16

theorem in_X9_sheet_X9 : ∀ w ∈ wsX90, w ∈ wsX9_sheet := fun _ h => List.mem_cons_of_mem _ (List.mem_append_left _ (List.mem_append_right _ h))
set_option maxRecDepth 100000 in
set_option maxHeartbeats 4000000 in
/-- sheet on a fresh object -/
theorem c_X9_sheet (l : Launch) (dC : Nat → ClassId) (dI : Nat → Nat → Nat) (h0 : Nat) (p0 : Int32) (p1 : Int32) (p2 : Int32) (w0 : Value) (w1 : Value) (w2 : Value) (w3 : Value) (w4 : Value) (w5 : Value) (w6 : Value) (w7 : Value) (w8 : Value) (w9 : Value) (w10 : Value) (w11 : Value) (qsa : Nat) (ksa : ClassId) (fsa : Nat → Option Nat) (qs0 : Nat) (y0_1 : Value) (qi0 : Nat) (ki0 : ClassId) (fi0 : Nat → Int32) (qs1 : Nat) (y1_1 : Value) (qi1 : Nat) (ki1 : ClassId) (fi1 : Nat → Int32) (qs2 : Nat) (y2_1 : Value) (qi2 : Nat) (ki2 : ClassId) (fi2 : Nat → Int32) (qs3 : Nat) (y3_1 : Value) (qi3 : Nat) (ki3 : ClassId) (fi3 : Nat → Int32) (sz : Nat) (hs0 : fsa 0 = some qs0) (hs1 : fsa 1 = some qs1) (hs2 : fsa 2 = some qs2) (hs3 : fsa 3 = some qs3) : Met l yX9_sheet wsX9_sheet ({ frames := 1, cells := 0, slots := 0, locals := 23 }) (va_Pc [.ref h0, .int p0, .int p1, .int p2] (fun U => U.heap.size = sz ∧ va_P (dC, dI) vwCl [(h0, .inr (8, [w0, w1, w2, w3, w4, w5, w6, w7, w8, w9, w10, w11, .ref qsa])), (qsa, .inl (ksa, 4, .inr (.inr (.inr (.inr fsa))))), (qs0, .inr (6, [.int (-1), y0_1, .ref qi0])), (qi0, .inl (ki0, 60, .inl fi0)), (qs1, .inr (6, [.int (-1), y1_1, .ref qi1])), (qi1, .inl (ki1, 60, .inl fi1)), (qs2, .inr (6, [.int (-1), y2_1, .ref qi2])), (qi2, .inl (ki2, 60, .inl fi2)), (qs3, .inr (6, [.int (-1), y3_1, .ref qi3])), (qi3, .inl (ki3, 60, .inl fi3))] U.heap ∧ va_K (dC, dI) vwCl [(ksa, .object "ClearingGates$Sheet"), (ki0, .int), (ki1, .int), (ki2, .int), (ki3, .int)] U ∧ va_D (fun _ => True) [(h0, .inr (8, [w0, w1, w2, w3, w4, w5, w6, w7, w8, w9, w10, w11, .ref qsa])), (qsa, .inl (ksa, 4, .inr (.inr (.inr (.inr fsa))))), (qs0, .inr (6, [.int (-1), y0_1, .ref qi0])), (qi0, .inl (ki0, 60, .inl fi0)), (qs1, .inr (6, [.int (-1), y1_1, .ref qi1])), (qi1, .inl (ki1, 60, .inl fi1)), (qs2, .inr (6, [.int (-1), y2_1, .ref qi2])), (qi2, .inl (ki2, 60, .inl fi2)), (qs3, .inr (6, [.int (-1), y3_1, .ref qi3])), (qi3, .inl (ki3, 60, .inl fi3))])) (va_Qi (fun (r : Int32) (_ : Unit) => (r = 1 ∧ (0 ≤ p0.toInt ∧ p0.toInt < 4 ∧ -1 ≤ p1.toInt ∧ p1.toInt ≤ 1 ∧ (p1.toInt = -1 ∨ p2.toInt ≤ 60)) ∧ ¬(p1.toInt ≠ -1 ∧ p2.toInt < 0)) ∨ (r = (-14) ∧ (0 ≤ p0.toInt ∧ p0.toInt < 4 ∧ -1 ≤ p1.toInt ∧ p1.toInt ≤ 1 ∧ (p1.toInt = -1 ∨ p2.toInt ≤ 60)) ∧ (p1.toInt ≠ -1 ∧ p2.toInt < 0)) ∨ (r = (-2) ∧ ¬(0 ≤ p0.toInt ∧ p0.toInt < 4 ∧ -1 ≤ p1.toInt ∧ p1.toInt ≤ 1 ∧ (p1.toInt = -1 ∨ p2.toInt ≤ 60)))) (fun (_ : Unit) (t : State) => va_P (dC, dI) vwCl [] t.heap ∧ va_K (dC, dI) vwCl [] t ∧ va_D (va_A [(h0, .inr (8, [w0, w1, w2, w3, w4, w5, w6, w7, w8, w9, w10, w11, .ref qsa])), (qsa, .inl (ksa, 4, .inr (.inr (.inr (.inr fsa))))), (qs0, .inr (6, [.int (-1), y0_1, .ref qi0])), (qi0, .inl (ki0, 60, .inl fi0)), (qs1, .inr (6, [.int (-1), y1_1, .ref qi1])), (qi1, .inl (ki1, 60, .inl fi1)), (qs2, .inr (6, [.int (-1), y2_1, .ref qi2])), (qi2, .inl (ki2, 60, .inl fi2)), (qs3, .inr (6, [.int (-1), y3_1, .ref qi3])), (qi3, .inl (ki3, 60, .inl fi3))] sz) []) (va_A [(h0, .inr (8, [w0, w1, w2, w3, w4, w5, w6, w7, w8, w9, w10, w11, .ref qsa])), (qsa, .inl (ksa, 4, .inr (.inr (.inr (.inr fsa))))), (qs0, .inr (6, [.int (-1), y0_1, .ref qi0])), (qi0, .inl (ki0, 60, .inl fi0)), (qs1, .inr (6, [.int (-1), y1_1, .ref qi1])), (qi1, .inl (ki1, 60, .inl fi1)), (qs2, .inr (6, [.int (-1), y2_1, .ref qi2])), (qi2, .inl (ki2, 60, .inl fi2)), (qs3, .inr (6, [.int (-1), y3_1, .ref qi3])), (qi3, .inl (ki3, 60, .inl fi3))] sz)) 0 0 (va_A [(h0, .inr (8, [w0, w1, w2, w3, w4, w5, w6, w7, w8, w9, w10, w11, .ref qsa])), (qsa, .inl (ksa, 4, .inr (.inr (.inr (.inr fsa))))), (qs0, .inr (6, [.int (-1), y0_1, .ref qi0])), (qi0, .inl (ki0, 60, .inl fi0)), (qs1, .inr (6, [.int (-1), y1_1, .ref qi1])), (qi1, .inl (ki1, 60, .inl fi1)), (qs2, .inr (6, [.int (-1), y2_1, .ref qi2])), (qi2, .inl (ki2, 60, .inl fi2)), (qs3, .inr (6, [.int (-1), y3_1, .ref qi3])), (qi3, .inl (ki3, 60, .inl fi3))] sz) := by
  refine Met.ofW (cc := cX9_sheet) (maxL := 4) (ret := (some .int)) (by decide) rfl ?_
  intro p e s m args below meth c s₁ B hml hv
  obtain ⟨rfl, hsz, hP, hK, hD0⟩ := hv
  have hx := B.exec
  have hb := B.bytes
  have hr := B.returns
  have hts := atoms_spec (ws := wsX9_sheet) B.pre
  have hown : s.vm.findClass RX9 = some m.cls := findClass_of_methodNamed B.named
  have hlocks := B.notSynchronized
  subst hsz
  have hD := hD0.self (sz := s.heap.size)
  generalize hAe : va_A [(h0, .inr (8, [w0, w1, w2, w3, w4, w5, w6, w7, w8, w9, w10, w11, .ref qsa])), (qsa, .inl (ksa, 4, .inr (.inr (.inr (.inr fsa))))), (qs0, .inr (6, [.int (-1), y0_1, .ref qi0])), (qi0, .inl (ki0, 60, .inl fi0)), (qs1, .inr (6, [.int (-1), y1_1, .ref qi1])), (qi1, .inl (ki1, 60, .inl fi1)), (qs2, .inr (6, [.int (-1), y2_1, .ref qi2])), (qi2, .inl (ki2, 60, .inl fi2)), (qs3, .inr (6, [.int (-1), y3_1, .ref qi3])), (qi3, .inl (ki3, 60, .inl fi3))] s.heap.size = A at hD ⊢
  have hA : ∀ q : Nat, s.heap.size ≤ q → A q := fun q h => by rw [← hAe]; exact Or.inr h
  have hS : va_S A s.heap s.heap [] := va_S.rf
  have hP : va_P (dC, dI) vwCl [(h0, .inr (8, [w0, w1, w2, w3, w4, w5, w6, w7, w8, w9, w10, w11, .ref qsa])), (qsa, .inl (ksa, 4, .inr (.inr (.inr (.inr fsa))))), (qs0, .inr (6, [.int (-1), y0_1, .ref qi0])), (qi0, .inl (ki0, 60, .inl fi0)), (qs1, .inr (6, [.int (-1), y1_1, .ref qi1])), (qi1, .inl (ki1, 60, .inl fi1)), (qs2, .inr (6, [.int (-1), y2_1, .ref qi2])), (qi2, .inl (ki2, 60, .inl fi2)), (qs3, .inr (6, [.int (-1), y3_1, .ref qi3])), (qi3, .inl (ki3, 60, .inl fi3))] s.heap := hP
  have hl := lv_entry ([.ref h0, .int p0, .int p1, .int p2]) (n := 4) (Nat.le_of_ble_eq_true rfl)
  rw [lg_entry_eq]
  generalize (lg_sl ([.ref h0, .int p0, .int p1, .int p2]) ++ List.replicate (4 - (lg_sl ([.ref h0, .int p0, .int p1, .int p2])).length) Slot.unset).toArray = ls at hl ⊢
  have hl : lv_has ls 4 [(0, .ref h0), (1, .int p0), (2, .int p1), (3, .int p2)] := hl
  have k_m14 : ((-14) : Int32).toInt = (-14) := by decide
  have k_m2 : ((-2) : Int32).toInt = (-2) := by decide
  have k_m1 : ((-1) : Int32).toInt = (-1) := by decide
  have k_0 : (0 : Int32).toInt = 0 := by decide
  have k_1 : (1 : Int32).toInt = 1 := by decide
  have k_60 : (60 : Int32).toInt = 60 := by decide
  refine lv_iload_n hx hb dX9_sheet_0 rfl (lv_at hl 1 rfl) ?_
  have hPc := hP.sub (ws' := []) [] rfl
  have hDc := hD.sub (ws' := []) [] (by decide) rfl
  have hKc := hK.sub (tys' := []) [] rfl
  have hFc := va_free (wc := []) hD hS hA [] rfl
  refine va_calli (va_runS (As := [.int p0]) (rest := []) ⟨hx, hb, hml, hown, hts⟩ (c_X9_isSheet l dC dI p0 s.heap.size) (va_cwS 1 hts gX9_sheet_X9_isSheet rfl rfl rfl (by decide +kernel) ⟨Nat.le_of_ble_eq_true rfl, Nat.le_of_ble_eq_true rfl⟩) ⟨fun a U g mk q => by obtain ⟨q0, q1, qP, qK, qD⟩ := q; exact ⟨q0, q1, qP, va_K.moved (u := U) (U := U.calling g mk a) (Vm.Alike.refl U.vm) qK, qD⟩, fun U hU hW => ⟨rfl, by rw [hU], by rw [hU]; exact hPc, va_K.moved hW.alike hKc, hDc.weaken (fun _ _ _ _ => trivial)⟩⟩ rfl rfl hl.1 rfl (lv_room (Nat.le_of_ble_eq_true rfl)) dX9_sheet_1 ⟨Nat.le_of_ble_eq_true rfl, Nat.le_of_ble_eq_true rfl⟩) hS (fun q _ h => hFc q h) hFc (fun r1 u t H1 locs ht hvm hw hB hz1 hk1 hS => ?_)
  obtain ⟨hP1, hK1, hD1⟩ := hB
  rw [ht] at hP1
  have hK1 := va_K.moved hvm.symm hK1
  try dsimp only at hw
  obtain ⟨hP, hD⟩ := va_join (wr := [(h0, .inr (8, [w0, w1, w2, w3, w4, w5, w6, w7, w8, w9, w10, w11, .ref qsa])), (qsa, .inl (ksa, 4, .inr (.inr (.inr (.inr fsa))))), (qs0, .inr (6, [.int (-1), y0_1, .ref qi0])), (qi0, .inl (ki0, 60, .inl fi0)), (qs1, .inr (6, [.int (-1), y1_1, .ref qi1])), (qi1, .inl (ki1, 60, .inl fi1)), (qs2, .inr (6, [.int (-1), y2_1, .ref qi2])), (qi2, .inl (ki2, 60, .inl fi2)), (qs3, .inr (6, [.int (-1), y3_1, .ref qi3])), (qi3, .inl (ki3, 60, .inl fi3))]) (w1 := []) hP hD [] [0, 1, 2, 3, 4, 5, 6, 7, 8, 9] rfl rfl (by decide) (by decide) hk1 hFc hP1 hD1
  have hK := (hK.sub (tys' := [(ksa, .object "ClearingGates$Sheet"), (ki0, .int), (ki1, .int), (ki2, .int), (ki3, .int)]) [0, 1, 2, 3, 4] rfl).app hK1
  generalize H1 = H at hP hS ⊢
  have hP : va_P (dC, dI) vwCl [(h0, .inr (8, [w0, w1, w2, w3, w4, w5, w6, w7, w8, w9, w10, w11, .ref qsa])), (qsa, .inl (ksa, 4, .inr (.inr (.inr (.inr fsa))))), (qs0, .inr (6, [.int (-1), y0_1, .ref qi0])), (qi0, .inl (ki0, 60, .inl fi0)), (qs1, .inr (6, [.int (-1), y1_1, .ref qi1])), (qi1, .inl (ki1, 60, .inl fi1)), (qs2, .inr (6, [.int (-1), y2_1, .ref qi2])), (qi2, .inl (ki2, 60, .inl fi2)), (qs3, .inr (6, [.int (-1), y3_1, .ref qi3])), (qi3, .inl (ki3, 60, .inl fi3))] H := hP
  have hD : va_D A [(h0, .inr (8, [w0, w1, w2, w3, w4, w5, w6, w7, w8, w9, w10, w11, .ref qsa])), (qsa, .inl (ksa, 4, .inr (.inr (.inr (.inr fsa))))), (qs0, .inr (6, [.int (-1), y0_1, .ref qi0])), (qi0, .inl (ki0, 60, .inl fi0)), (qs1, .inr (6, [.int (-1), y1_1, .ref qi1])), (qi1, .inl (ki1, 60, .inl fi1)), (qs2, .inr (6, [.int (-1), y2_1, .ref qi2])), (qi2, .inl (ki2, 60, .inl fi2)), (qs3, .inr (6, [.int (-1), y3_1, .ref qi3])), (qi3, .inl (ki3, 60, .inl fi3))] := hD
  have hK : va_K (dC, dI) vwCl [(ksa, .object "ClearingGates$Sheet"), (ki0, .int), (ki1, .int), (ki2, .int), (ki3, .int)] s := hK
  rcases hw with ⟨e_r1, f_r1⟩ | ⟨e_r1, f_r1⟩
  · subst e_r1
    refine lv_if_eq (tgt := 17) hx hb dX9_sheet_4 (by decide) (fun c2 => absurd c2 (by decide)) (fun c2 => ?_)
    refine lv_iload_n hx hb dX9_sheet_7 rfl (lv_at hl 2 rfl) ?_
    refine lv_iconst (v := -1) hx hb dX9_sheet_8 (by decide) ?_
    refine lv_icmp_lt (tgt := 17) hx hb dX9_sheet_9 (by decide) (fun c3 => ?_) (fun c3 => ?_)
    · skip
      have f_c3 := i_lt c3
      refine lv_bipush (v := -2) hx hb dX9_sheet_17 (by decide) ?_
      have hP9 := hP.sub (ws' := []) [] rfl
      have hD9 := hD.sub (ws' := []) [] (by decide) rfl
      have hK9 := hK.sub (tys' := []) [] rfl
      exact W.iret (v := (-2)) hx hb hr (fun t ht hW => ⟨⟨(-2), (), rfl, Or.inr (Or.inr (⟨rfl, by omega⟩)), by rw [ht]; exact hP9, va_K.moved hW.alike hK9, hD9⟩, hS.F ht⟩) hS.2.2 dX9_sheet_19
    · skip
      have f_c3 := i_nlt c3
      refine lv_iload_n hx hb dX9_sheet_12 rfl (lv_at hl 2 rfl) ?_
      refine lv_iconst (v := 1) hx hb dX9_sheet_13 (by decide) ?_
      refine lv_icmp_le (tgt := 20) hx hb dX9_sheet_14 (by decide) (fun c4 => ?_) (fun c4 => ?_)
      · skip
        have f_c4 := i_le c4
        refine lv_iload_n hx hb dX9_sheet_20 rfl (lv_at hl 2 rfl) ?_
        refine lv_iconst (v := -1) hx hb dX9_sheet_21 (by decide) ?_
        refine lv_icmp_ne (tgt := 38) hx hb dX9_sheet_22 (by decide) (fun c5 => ?_) (fun c5 => ?_)
        · skip
          have f_c5 := i_ne c5
          refine lv_iload_n hx hb dX9_sheet_38 rfl (lv_at hl 3 rfl) ?_
          refine lv_bipush (v := 60) hx hb dX9_sheet_39 (by decide) ?_
          refine lv_icmp_le (tgt := 47) hx hb dX9_sheet_41 (by decide) (fun c6 => ?_) (fun c6 => ?_)
          · skip
            have f_c6 := i_le c6
            refine lv_iload_n hx hb dX9_sheet_47 rfl (lv_at hl 3 rfl) ?_
            refine lv_if_ge (tgt := 54) hx hb dX9_sheet_48 (by decide) (fun c7 => ?_) (fun c7 => ?_)
            · skip
              have f_c7 := i_le c7
              refine lv_aload_n hx hb dX9_sheet_54 rfl (lv_at hl 0 rfl) ?_
              refine va_get (D := (dC, dI)) (ci := 8) (v := .ref qsa) (C := RX9) (T := TX9) (N := 13) hx hb hts in_X9_sheet_X9 hown hK hP 0 rfl rfl 12 (by decide) (hts (.fieldLink RX9 79 "ClearingGates" "sheets" "[LClearingGates$Sheet;") (List.mem_of_getElem? (i := 1) (by decide +kernel))) (fun _ h9 => h9) rfl dX9_sheet_55 ?_
              refine lv_iload_n hx hb dX9_sheet_58 rfl (lv_at hl 1 rfl) ?_
              refine va_aldq (D := (dC, dI)) hx hb hK hP 1 0 rfl rfl (vp_in_iff.mpr ⟨by omega, by omega⟩) dX9_sheet_59 ?_
              rcases (show p0.toInt = 0 ∨ p0.toInt = 1 ∨ p0.toInt = 2 ∨ p0.toInt = 3 by omega) with j0 | j0 | j0 | j0
              · rw [show va_rf (fsa p0.toNatClampNeg) = .ref qs0 from by rw [i_nat j0, hs0]; rfl]
                refine lv_iload_n hx hb dX9_sheet_60 rfl (lv_at hl 2 rfl) ?_
                refine lv_iload_n hx hb dX9_sheet_61 rfl (lv_at hl 3 rfl) ?_
                have hPc := hP.sub (ws' := [(qs0, .inr (6, [.int (-1), y0_1, .ref qi0])), (qi0, .inl (ki0, 60, .inl fi0))]) [2, 3] rfl
                have hDc := hD.sub (ws' := [(qs0, .inr (6, [.int (-1), y0_1, .ref qi0])), (qi0, .inl (ki0, 60, .inl fi0))]) [2, 3] (by decide) rfl
                have hKc := hK.sub (tys' := [(ki0, .int)]) [1] rfl
                have hFc := va_free (wc := [(qs0, .inr (6, [.int (-1), y0_1, .ref qi0])), (qi0, .inl (ki0, 60, .inl fi0))]) hD hS hA [2, 3] rfl
                refine va_callv (va_runV (As := [.int p1, .int p2]) (rest := []) ⟨hx, hb, hml, hown, hts⟩ (c_X7_become l dC dI qs0 p1 p2 (.int (-1)) (y0_1) qi0 ki0 fi0 H.size) (cwV 2 hts gX9_sheet_X7_become rfl rfl rfl (by decide +kernel) ⟨Nat.le_of_ble_eq_true rfl, Nat.le_of_ble_eq_true rfl⟩) ⟨fun a U g mk q => by obtain ⟨q0, q1, qP, qK, qD⟩ := q; exact ⟨q0, q1, qP, va_K.moved (u := U) (U := U.calling g mk a) (Vm.Alike.refl U.vm) qK, qD⟩, va_recv hKc hPc (ci := 6) (q0 := 0) rfl rfl, fun U hU hW => ⟨rfl, by rw [hU], by rw [hU]; exact hPc, va_K.moved hW.alike hKc, hDc.weaken (fun _ _ _ _ => trivial)⟩⟩ rfl rfl hl.1 rfl (lv_room (Nat.le_of_ble_eq_true rfl)) dX9_sheet_62 ⟨Nat.le_of_ble_eq_true rfl, Nat.le_of_ble_eq_true rfl⟩) hS (fun q _ h => hFc q h) hFc (fun u t H1 locs ht hvm hw hB hz1 hk1 hS => ?_)
                obtain ⟨hP1, hK1, hD1⟩ := hB
                rw [ht] at hP1
                have hK1 := va_K.moved hvm.symm hK1
                try dsimp only at hw
                obtain ⟨hP, hD⟩ := va_join (wr := [(h0, .inr (8, [w0, w1, w2, w3, w4, w5, w6, w7, w8, w9, w10, w11, .ref qsa])), (qsa, .inl (ksa, 4, .inr (.inr (.inr (.inr fsa))))), (qs1, .inr (6, [.int (-1), y1_1, .ref qi1])), (qi1, .inl (ki1, 60, .inl fi1)), (qs2, .inr (6, [.int (-1), y2_1, .ref qi2])), (qi2, .inl (ki2, 60, .inl fi2)), (qs3, .inr (6, [.int (-1), y3_1, .ref qi3])), (qi3, .inl (ki3, 60, .inl fi3))]) (w1 := []) hP hD [2, 3] [0, 1, 4, 5, 6, 7, 8, 9] rfl rfl (by decide) (by decide) hk1 hFc hP1 hD1
                have hK := (hK.sub (tys' := [(ksa, .object "ClearingGates$Sheet"), (ki1, .int), (ki2, .int), (ki3, .int)]) [0, 2, 3, 4] rfl).app hK1
                generalize H1 = H at hP hS ⊢
                have hP : va_P (dC, dI) vwCl [(h0, .inr (8, [w0, w1, w2, w3, w4, w5, w6, w7, w8, w9, w10, w11, .ref qsa])), (qsa, .inl (ksa, 4, .inr (.inr (.inr (.inr fsa))))), (qs1, .inr (6, [.int (-1), y1_1, .ref qi1])), (qi1, .inl (ki1, 60, .inl fi1)), (qs2, .inr (6, [.int (-1), y2_1, .ref qi2])), (qi2, .inl (ki2, 60, .inl fi2)), (qs3, .inr (6, [.int (-1), y3_1, .ref qi3])), (qi3, .inl (ki3, 60, .inl fi3))] H := hP
                have hD : va_D A [(h0, .inr (8, [w0, w1, w2, w3, w4, w5, w6, w7, w8, w9, w10, w11, .ref qsa])), (qsa, .inl (ksa, 4, .inr (.inr (.inr (.inr fsa))))), (qs1, .inr (6, [.int (-1), y1_1, .ref qi1])), (qi1, .inl (ki1, 60, .inl fi1)), (qs2, .inr (6, [.int (-1), y2_1, .ref qi2])), (qi2, .inl (ki2, 60, .inl fi2)), (qs3, .inr (6, [.int (-1), y3_1, .ref qi3])), (qi3, .inl (ki3, 60, .inl fi3))] := hD
                have hK : va_K (dC, dI) vwCl [(ksa, .object "ClearingGates$Sheet"), (ki1, .int), (ki2, .int), (ki3, .int)] s := hK
                refine lv_iconst (v := 1) hx hb dX9_sheet_65 (by decide) ?_
                have hP9 := hP.sub (ws' := []) [] rfl
                have hD9 := hD.sub (ws' := []) [] (by decide) rfl
                have hK9 := hK.sub (tys' := []) [] rfl
                exact W.iret (v := 1) hx hb hr (fun t ht hW => ⟨⟨1, (), rfl, Or.inl ⟨rfl, by omega⟩, by rw [ht]; exact hP9, va_K.moved hW.alike hK9, hD9⟩, hS.F ht⟩) hS.2.2 dX9_sheet_66
              · rw [show va_rf (fsa p0.toNatClampNeg) = .ref qs1 from by rw [i_nat j0, hs1]; rfl]
                refine lv_iload_n hx hb dX9_sheet_60 rfl (lv_at hl 2 rfl) ?_
                refine lv_iload_n hx hb dX9_sheet_61 rfl (lv_at hl 3 rfl) ?_
                have hPc := hP.sub (ws' := [(qs1, .inr (6, [.int (-1), y1_1, .ref qi1])), (qi1, .inl (ki1, 60, .inl fi1))]) [4, 5] rfl
                have hDc := hD.sub (ws' := [(qs1, .inr (6, [.int (-1), y1_1, .ref qi1])), (qi1, .inl (ki1, 60, .inl fi1))]) [4, 5] (by decide) rfl
                have hKc := hK.sub (tys' := [(ki1, .int)]) [2] rfl
                have hFc := va_free (wc := [(qs1, .inr (6, [.int (-1), y1_1, .ref qi1])), (qi1, .inl (ki1, 60, .inl fi1))]) hD hS hA [4, 5] rfl
                refine va_callv (va_runV (As := [.int p1, .int p2]) (rest := []) ⟨hx, hb, hml, hown, hts⟩ (c_X7_become l dC dI qs1 p1 p2 (.int (-1)) (y1_1) qi1 ki1 fi1 H.size) (cwV 2 hts gX9_sheet_X7_become rfl rfl rfl (by decide +kernel) ⟨Nat.le_of_ble_eq_true rfl, Nat.le_of_ble_eq_true rfl⟩) ⟨fun a U g mk q => by obtain ⟨q0, q1, qP, qK, qD⟩ := q; exact ⟨q0, q1, qP, va_K.moved (u := U) (U := U.calling g mk a) (Vm.Alike.refl U.vm) qK, qD⟩, va_recv hKc hPc (ci := 6) (q0 := 0) rfl rfl, fun U hU hW => ⟨rfl, by rw [hU], by rw [hU]; exact hPc, va_K.moved hW.alike hKc, hDc.weaken (fun _ _ _ _ => trivial)⟩⟩ rfl rfl hl.1 rfl (lv_room (Nat.le_of_ble_eq_true rfl)) dX9_sheet_62 ⟨Nat.le_of_ble_eq_true rfl, Nat.le_of_ble_eq_true rfl⟩) hS (fun q _ h => hFc q h) hFc (fun u t H1 locs ht hvm hw hB hz1 hk1 hS => ?_)
                obtain ⟨hP1, hK1, hD1⟩ := hB
                rw [ht] at hP1
                have hK1 := va_K.moved hvm.symm hK1
                try dsimp only at hw
                obtain ⟨hP, hD⟩ := va_join (wr := [(h0, .inr (8, [w0, w1, w2, w3, w4, w5, w6, w7, w8, w9, w10, w11, .ref qsa])), (qsa, .inl (ksa, 4, .inr (.inr (.inr (.inr fsa))))), (qs0, .inr (6, [.int (-1), y0_1, .ref qi0])), (qi0, .inl (ki0, 60, .inl fi0)), (qs2, .inr (6, [.int (-1), y2_1, .ref qi2])), (qi2, .inl (ki2, 60, .inl fi2)), (qs3, .inr (6, [.int (-1), y3_1, .ref qi3])), (qi3, .inl (ki3, 60, .inl fi3))]) (w1 := []) hP hD [4, 5] [0, 1, 2, 3, 6, 7, 8, 9] rfl rfl (by decide) (by decide) hk1 hFc hP1 hD1
                have hK := (hK.sub (tys' := [(ksa, .object "ClearingGates$Sheet"), (ki0, .int), (ki2, .int), (ki3, .int)]) [0, 1, 3, 4] rfl).app hK1
                generalize H1 = H at hP hS ⊢
                have hP : va_P (dC, dI) vwCl [(h0, .inr (8, [w0, w1, w2, w3, w4, w5, w6, w7, w8, w9, w10, w11, .ref qsa])), (qsa, .inl (ksa, 4, .inr (.inr (.inr (.inr fsa))))), (qs0, .inr (6, [.int (-1), y0_1, .ref qi0])), (qi0, .inl (ki0, 60, .inl fi0)), (qs2, .inr (6, [.int (-1), y2_1, .ref qi2])), (qi2, .inl (ki2, 60, .inl fi2)), (qs3, .inr (6, [.int (-1), y3_1, .ref qi3])), (qi3, .inl (ki3, 60, .inl fi3))] H := hP
                have hD : va_D A [(h0, .inr (8, [w0, w1, w2, w3, w4, w5, w6, w7, w8, w9, w10, w11, .ref qsa])), (qsa, .inl (ksa, 4, .inr (.inr (.inr (.inr fsa))))), (qs0, .inr (6, [.int (-1), y0_1, .ref qi0])), (qi0, .inl (ki0, 60, .inl fi0)), (qs2, .inr (6, [.int (-1), y2_1, .ref qi2])), (qi2, .inl (ki2, 60, .inl fi2)), (qs3, .inr (6, [.int (-1), y3_1, .ref qi3])), (qi3, .inl (ki3, 60, .inl fi3))] := hD
                have hK : va_K (dC, dI) vwCl [(ksa, .object "ClearingGates$Sheet"), (ki0, .int), (ki2, .int), (ki3, .int)] s := hK
                refine lv_iconst (v := 1) hx hb dX9_sheet_65 (by decide) ?_
                have hP9 := hP.sub (ws' := []) [] rfl
                have hD9 := hD.sub (ws' := []) [] (by decide) rfl
                have hK9 := hK.sub (tys' := []) [] rfl
                exact W.iret (v := 1) hx hb hr (fun t ht hW => ⟨⟨1, (), rfl, Or.inl ⟨rfl, by omega⟩, by rw [ht]; exact hP9, va_K.moved hW.alike hK9, hD9⟩, hS.F ht⟩) hS.2.2 dX9_sheet_66
              · rw [show va_rf (fsa p0.toNatClampNeg) = .ref qs2 from by rw [i_nat j0, hs2]; rfl]
                refine lv_iload_n hx hb dX9_sheet_60 rfl (lv_at hl 2 rfl) ?_
                refine lv_iload_n hx hb dX9_sheet_61 rfl (lv_at hl 3 rfl) ?_
                have hPc := hP.sub (ws' := [(qs2, .inr (6, [.int (-1), y2_1, .ref qi2])), (qi2, .inl (ki2, 60, .inl fi2))]) [6, 7] rfl
                have hDc := hD.sub (ws' := [(qs2, .inr (6, [.int (-1), y2_1, .ref qi2])), (qi2, .inl (ki2, 60, .inl fi2))]) [6, 7] (by decide) rfl
                have hKc := hK.sub (tys' := [(ki2, .int)]) [3] rfl
                have hFc := va_free (wc := [(qs2, .inr (6, [.int (-1), y2_1, .ref qi2])), (qi2, .inl (ki2, 60, .inl fi2))]) hD hS hA [6, 7] rfl
                refine va_callv (va_runV (As := [.int p1, .int p2]) (rest := []) ⟨hx, hb, hml, hown, hts⟩ (c_X7_become l dC dI qs2 p1 p2 (.int (-1)) (y2_1) qi2 ki2 fi2 H.size) (cwV 2 hts gX9_sheet_X7_become rfl rfl rfl (by decide +kernel) ⟨Nat.le_of_ble_eq_true rfl, Nat.le_of_ble_eq_true rfl⟩) ⟨fun a U g mk q => by obtain ⟨q0, q1, qP, qK, qD⟩ := q; exact ⟨q0, q1, qP, va_K.moved (u := U) (U := U.calling g mk a) (Vm.Alike.refl U.vm) qK, qD⟩, va_recv hKc hPc (ci := 6) (q0 := 0) rfl rfl, fun U hU hW => ⟨rfl, by rw [hU], by rw [hU]; exact hPc, va_K.moved hW.alike hKc, hDc.weaken (fun _ _ _ _ => trivial)⟩⟩ rfl rfl hl.1 rfl (lv_room (Nat.le_of_ble_eq_true rfl)) dX9_sheet_62 ⟨Nat.le_of_ble_eq_true rfl, Nat.le_of_ble_eq_true rfl⟩) hS (fun q _ h => hFc q h) hFc (fun u t H1 locs ht hvm hw hB hz1 hk1 hS => ?_)
                obtain ⟨hP1, hK1, hD1⟩ := hB
                rw [ht] at hP1
                have hK1 := va_K.moved hvm.symm hK1
                try dsimp only at hw
                obtain ⟨hP, hD⟩ := va_join (wr := [(h0, .inr (8, [w0, w1, w2, w3, w4, w5, w6, w7, w8, w9, w10, w11, .ref qsa])), (qsa, .inl (ksa, 4, .inr (.inr (.inr (.inr fsa))))), (qs0, .inr (6, [.int (-1), y0_1, .ref qi0])), (qi0, .inl (ki0, 60, .inl fi0)), (qs1, .inr (6, [.int (-1), y1_1, .ref qi1])), (qi1, .inl (ki1, 60, .inl fi1)), (qs3, .inr (6, [.int (-1), y3_1, .ref qi3])), (qi3, .inl (ki3, 60, .inl fi3))]) (w1 := []) hP hD [6, 7] [0, 1, 2, 3, 4, 5, 8, 9] rfl rfl (by decide) (by decide) hk1 hFc hP1 hD1
                have hK := (hK.sub (tys' := [(ksa, .object "ClearingGates$Sheet"), (ki0, .int), (ki1, .int), (ki3, .int)]) [0, 1, 2, 4] rfl).app hK1
                generalize H1 = H at hP hS ⊢
                have hP : va_P (dC, dI) vwCl [(h0, .inr (8, [w0, w1, w2, w3, w4, w5, w6, w7, w8, w9, w10, w11, .ref qsa])), (qsa, .inl (ksa, 4, .inr (.inr (.inr (.inr fsa))))), (qs0, .inr (6, [.int (-1), y0_1, .ref qi0])), (qi0, .inl (ki0, 60, .inl fi0)), (qs1, .inr (6, [.int (-1), y1_1, .ref qi1])), (qi1, .inl (ki1, 60, .inl fi1)), (qs3, .inr (6, [.int (-1), y3_1, .ref qi3])), (qi3, .inl (ki3, 60, .inl fi3))] H := hP
                have hD : va_D A [(h0, .inr (8, [w0, w1, w2, w3, w4, w5, w6, w7, w8, w9, w10, w11, .ref qsa])), (qsa, .inl (ksa, 4, .inr (.inr (.inr (.inr fsa))))), (qs0, .inr (6, [.int (-1), y0_1, .ref qi0])), (qi0, .inl (ki0, 60, .inl fi0)), (qs1, .inr (6, [.int (-1), y1_1, .ref qi1])), (qi1, .inl (ki1, 60, .inl fi1)), (qs3, .inr (6, [.int (-1), y3_1, .ref qi3])), (qi3, .inl (ki3, 60, .inl fi3))] := hD
                have hK : va_K (dC, dI) vwCl [(ksa, .object "ClearingGates$Sheet"), (ki0, .int), (ki1, .int), (ki3, .int)] s := hK
                refine lv_iconst (v := 1) hx hb dX9_sheet_65 (by decide) ?_
                have hP9 := hP.sub (ws' := []) [] rfl
                have hD9 := hD.sub (ws' := []) [] (by decide) rfl
                have hK9 := hK.sub (tys' := []) [] rfl
                exact W.iret (v := 1) hx hb hr (fun t ht hW => ⟨⟨1, (), rfl, Or.inl ⟨rfl, by omega⟩, by rw [ht]; exact hP9, va_K.moved hW.alike hK9, hD9⟩, hS.F ht⟩) hS.2.2 dX9_sheet_66
              · rw [show va_rf (fsa p0.toNatClampNeg) = .ref qs3 from by rw [i_nat j0, hs3]; rfl]
                refine lv_iload_n hx hb dX9_sheet_60 rfl (lv_at hl 2 rfl) ?_
                refine lv_iload_n hx hb dX9_sheet_61 rfl (lv_at hl 3 rfl) ?_
                have hPc := hP.sub (ws' := [(qs3, .inr (6, [.int (-1), y3_1, .ref qi3])), (qi3, .inl (ki3, 60, .inl fi3))]) [8, 9] rfl
                have hDc := hD.sub (ws' := [(qs3, .inr (6, [.int (-1), y3_1, .ref qi3])), (qi3, .inl (ki3, 60, .inl fi3))]) [8, 9] (by decide) rfl
                have hKc := hK.sub (tys' := [(ki3, .int)]) [4] rfl
                have hFc := va_free (wc := [(qs3, .inr (6, [.int (-1), y3_1, .ref qi3])), (qi3, .inl (ki3, 60, .inl fi3))]) hD hS hA [8, 9] rfl
                refine va_callv (va_runV (As := [.int p1, .int p2]) (rest := []) ⟨hx, hb, hml, hown, hts⟩ (c_X7_become l dC dI qs3 p1 p2 (.int (-1)) (y3_1) qi3 ki3 fi3 H.size) (cwV 2 hts gX9_sheet_X7_become rfl rfl rfl (by decide +kernel) ⟨Nat.le_of_ble_eq_true rfl, Nat.le_of_ble_eq_true rfl⟩) ⟨fun a U g mk q => by obtain ⟨q0, q1, qP, qK, qD⟩ := q; exact ⟨q0, q1, qP, va_K.moved (u := U) (U := U.calling g mk a) (Vm.Alike.refl U.vm) qK, qD⟩, va_recv hKc hPc (ci := 6) (q0 := 0) rfl rfl, fun U hU hW => ⟨rfl, by rw [hU], by rw [hU]; exact hPc, va_K.moved hW.alike hKc, hDc.weaken (fun _ _ _ _ => trivial)⟩⟩ rfl rfl hl.1 rfl (lv_room (Nat.le_of_ble_eq_true rfl)) dX9_sheet_62 ⟨Nat.le_of_ble_eq_true rfl, Nat.le_of_ble_eq_true rfl⟩) hS (fun q _ h => hFc q h) hFc (fun u t H1 locs ht hvm hw hB hz1 hk1 hS => ?_)
                obtain ⟨hP1, hK1, hD1⟩ := hB
                rw [ht] at hP1
                have hK1 := va_K.moved hvm.symm hK1
                try dsimp only at hw
                obtain ⟨hP, hD⟩ := va_join (wr := [(h0, .inr (8, [w0, w1, w2, w3, w4, w5, w6, w7, w8, w9, w10, w11, .ref qsa])), (qsa, .inl (ksa, 4, .inr (.inr (.inr (.inr fsa))))), (qs0, .inr (6, [.int (-1), y0_1, .ref qi0])), (qi0, .inl (ki0, 60, .inl fi0)), (qs1, .inr (6, [.int (-1), y1_1, .ref qi1])), (qi1, .inl (ki1, 60, .inl fi1)), (qs2, .inr (6, [.int (-1), y2_1, .ref qi2])), (qi2, .inl (ki2, 60, .inl fi2))]) (w1 := []) hP hD [8, 9] [0, 1, 2, 3, 4, 5, 6, 7] rfl rfl (by decide) (by decide) hk1 hFc hP1 hD1
                have hK := (hK.sub (tys' := [(ksa, .object "ClearingGates$Sheet"), (ki0, .int), (ki1, .int), (ki2, .int)]) [0, 1, 2, 3] rfl).app hK1
                generalize H1 = H at hP hS ⊢
                have hP : va_P (dC, dI) vwCl [(h0, .inr (8, [w0, w1, w2, w3, w4, w5, w6, w7, w8, w9, w10, w11, .ref qsa])), (qsa, .inl (ksa, 4, .inr (.inr (.inr (.inr fsa))))), (qs0, .inr (6, [.int (-1), y0_1, .ref qi0])), (qi0, .inl (ki0, 60, .inl fi0)), (qs1, .inr (6, [.int (-1), y1_1, .ref qi1])), (qi1, .inl (ki1, 60, .inl fi1)), (qs2, .inr (6, [.int (-1), y2_1, .ref qi2])), (qi2, .inl (ki2, 60, .inl fi2))] H := hP
                have hD : va_D A [(h0, .inr (8, [w0, w1, w2, w3, w4, w5, w6, w7, w8, w9, w10, w11, .ref qsa])), (qsa, .inl (ksa, 4, .inr (.inr (.inr (.inr fsa))))), (qs0, .inr (6, [.int (-1), y0_1, .ref qi0])), (qi0, .inl (ki0, 60, .inl fi0)), (qs1, .inr (6, [.int (-1), y1_1, .ref qi1])), (qi1, .inl (ki1, 60, .inl fi1)), (qs2, .inr (6, [.int (-1), y2_1, .ref qi2])), (qi2, .inl (ki2, 60, .inl fi2))] := hD
                have hK : va_K (dC, dI) vwCl [(ksa, .object "ClearingGates$Sheet"), (ki0, .int), (ki1, .int), (ki2, .int)] s := hK
                refine lv_iconst (v := 1) hx hb dX9_sheet_65 (by decide) ?_
                have hP9 := hP.sub (ws' := []) [] rfl
                have hD9 := hD.sub (ws' := []) [] (by decide) rfl
                have hK9 := hK.sub (tys' := []) [] rfl
                exact W.iret (v := 1) hx hb hr (fun t ht hW => ⟨⟨1, (), rfl, Or.inl ⟨rfl, by omega⟩, by rw [ht]; exact hP9, va_K.moved hW.alike hK9, hD9⟩, hS.F ht⟩) hS.2.2 dX9_sheet_66
            · skip
              have f_c7 := i_nle c7
              refine lv_bipush (v := -14) hx hb dX9_sheet_51 (by decide) ?_
              have hP9 := hP.sub (ws' := []) [] rfl
              have hD9 := hD.sub (ws' := []) [] (by decide) rfl
              have hK9 := hK.sub (tys' := []) [] rfl
              exact W.iret (v := (-14)) hx hb hr (fun t ht hW => ⟨⟨(-14), (), rfl, Or.inr (Or.inl ⟨rfl, by omega⟩), by rw [ht]; exact hP9, va_K.moved hW.alike hK9, hD9⟩, hS.F ht⟩) hS.2.2 dX9_sheet_53
          · skip
            have f_c6 := i_nle c6
            refine lv_bipush (v := -2) hx hb dX9_sheet_44 (by decide) ?_
            have hP9 := hP.sub (ws' := []) [] rfl
            have hD9 := hD.sub (ws' := []) [] (by decide) rfl
            have hK9 := hK.sub (tys' := []) [] rfl
            exact W.iret (v := (-2)) hx hb hr (fun t ht hW => ⟨⟨(-2), (), rfl, Or.inr (Or.inr (⟨rfl, by omega⟩)), by rw [ht]; exact hP9, va_K.moved hW.alike hK9, hD9⟩, hS.F ht⟩) hS.2.2 dX9_sheet_46
        · skip
          have f_c5 := i_eq c5
          refine lv_aload_n hx hb dX9_sheet_25 rfl (lv_at hl 0 rfl) ?_
          refine va_get (D := (dC, dI)) (ci := 8) (v := .ref qsa) (C := RX9) (T := TX9) (N := 13) hx hb hts in_X9_sheet_X9 hown hK hP 0 rfl rfl 12 (by decide) (hts (.fieldLink RX9 79 "ClearingGates" "sheets" "[LClearingGates$Sheet;") (List.mem_of_getElem? (i := 1) (by decide +kernel))) (fun _ h9 => h9) rfl dX9_sheet_26 ?_
          refine lv_iload_n hx hb dX9_sheet_29 rfl (lv_at hl 1 rfl) ?_
          refine va_aldq (D := (dC, dI)) hx hb hK hP 1 0 rfl rfl (vp_in_iff.mpr ⟨by omega, by omega⟩) dX9_sheet_30 ?_
          rcases (show p0.toInt = 0 ∨ p0.toInt = 1 ∨ p0.toInt = 2 ∨ p0.toInt = 3 by omega) with j0 | j0 | j0 | j0
          · rw [show va_rf (fsa p0.toNatClampNeg) = .ref qs0 from by rw [i_nat j0, hs0]; rfl]
            refine lv_iconst (v := -1) hx hb dX9_sheet_31 (by decide) ?_
            refine lv_iconst (v := 0) hx hb dX9_sheet_32 (by decide) ?_
            have hPc := hP.sub (ws' := [(qs0, .inr (6, [.int (-1), y0_1, .ref qi0])), (qi0, .inl (ki0, 60, .inl fi0))]) [2, 3] rfl
            have hDc := hD.sub (ws' := [(qs0, .inr (6, [.int (-1), y0_1, .ref qi0])), (qi0, .inl (ki0, 60, .inl fi0))]) [2, 3] (by decide) rfl
            have hKc := hK.sub (tys' := [(ki0, .int)]) [1] rfl
            have hFc := va_free (wc := [(qs0, .inr (6, [.int (-1), y0_1, .ref qi0])), (qi0, .inl (ki0, 60, .inl fi0))]) hD hS hA [2, 3] rfl
            refine va_callv (va_runV (As := [.int (-1), .int 0]) (rest := []) ⟨hx, hb, hml, hown, hts⟩ (c_X7_become l dC dI qs0 (-1) 0 (.int (-1)) (y0_1) qi0 ki0 fi0 H.size) (cwV 2 hts gX9_sheet_X7_become rfl rfl rfl (by decide +kernel) ⟨Nat.le_of_ble_eq_true rfl, Nat.le_of_ble_eq_true rfl⟩) ⟨fun a U g mk q => by obtain ⟨q0, q1, qP, qK, qD⟩ := q; exact ⟨q0, q1, qP, va_K.moved (u := U) (U := U.calling g mk a) (Vm.Alike.refl U.vm) qK, qD⟩, va_recv hKc hPc (ci := 6) (q0 := 0) rfl rfl, fun U hU hW => ⟨rfl, by rw [hU], by rw [hU]; exact hPc, va_K.moved hW.alike hKc, hDc.weaken (fun _ _ _ _ => trivial)⟩⟩ rfl rfl hl.1 rfl (lv_room (Nat.le_of_ble_eq_true rfl)) dX9_sheet_33 ⟨Nat.le_of_ble_eq_true rfl, Nat.le_of_ble_eq_true rfl⟩) hS (fun q _ h => hFc q h) hFc (fun u t H1 locs ht hvm hw hB hz1 hk1 hS => ?_)
            obtain ⟨hP1, hK1, hD1⟩ := hB
            rw [ht] at hP1
            have hK1 := va_K.moved hvm.symm hK1
            try dsimp only at hw
            obtain ⟨hP, hD⟩ := va_join (wr := [(h0, .inr (8, [w0, w1, w2, w3, w4, w5, w6, w7, w8, w9, w10, w11, .ref qsa])), (qsa, .inl (ksa, 4, .inr (.inr (.inr (.inr fsa))))), (qs1, .inr (6, [.int (-1), y1_1, .ref qi1])), (qi1, .inl (ki1, 60, .inl fi1)), (qs2, .inr (6, [.int (-1), y2_1, .ref qi2])), (qi2, .inl (ki2, 60, .inl fi2)), (qs3, .inr (6, [.int (-1), y3_1, .ref qi3])), (qi3, .inl (ki3, 60, .inl fi3))]) (w1 := []) hP hD [2, 3] [0, 1, 4, 5, 6, 7, 8, 9] rfl rfl (by decide) (by decide) hk1 hFc hP1 hD1
            have hK := (hK.sub (tys' := [(ksa, .object "ClearingGates$Sheet"), (ki1, .int), (ki2, .int), (ki3, .int)]) [0, 2, 3, 4] rfl).app hK1
            generalize H1 = H at hP hS ⊢
            have hP : va_P (dC, dI) vwCl [(h0, .inr (8, [w0, w1, w2, w3, w4, w5, w6, w7, w8, w9, w10, w11, .ref qsa])), (qsa, .inl (ksa, 4, .inr (.inr (.inr (.inr fsa))))), (qs1, .inr (6, [.int (-1), y1_1, .ref qi1])), (qi1, .inl (ki1, 60, .inl fi1)), (qs2, .inr (6, [.int (-1), y2_1, .ref qi2])), (qi2, .inl (ki2, 60, .inl fi2)), (qs3, .inr (6, [.int (-1), y3_1, .ref qi3])), (qi3, .inl (ki3, 60, .inl fi3))] H := hP
            have hD : va_D A [(h0, .inr (8, [w0, w1, w2, w3, w4, w5, w6, w7, w8, w9, w10, w11, .ref qsa])), (qsa, .inl (ksa, 4, .inr (.inr (.inr (.inr fsa))))), (qs1, .inr (6, [.int (-1), y1_1, .ref qi1])), (qi1, .inl (ki1, 60, .inl fi1)), (qs2, .inr (6, [.int (-1), y2_1, .ref qi2])), (qi2, .inl (ki2, 60, .inl fi2)), (qs3, .inr (6, [.int (-1), y3_1, .ref qi3])), (qi3, .inl (ki3, 60, .inl fi3))] := hD
            have hK : va_K (dC, dI) vwCl [(ksa, .object "ClearingGates$Sheet"), (ki1, .int), (ki2, .int), (ki3, .int)] s := hK
            refine lv_iconst (v := 1) hx hb dX9_sheet_36 (by decide) ?_
            have hP9 := hP.sub (ws' := []) [] rfl
            have hD9 := hD.sub (ws' := []) [] (by decide) rfl
            have hK9 := hK.sub (tys' := []) [] rfl
            exact W.iret (v := 1) hx hb hr (fun t ht hW => ⟨⟨1, (), rfl, Or.inl ⟨rfl, by omega⟩, by rw [ht]; exact hP9, va_K.moved hW.alike hK9, hD9⟩, hS.F ht⟩) hS.2.2 dX9_sheet_37
          · rw [show va_rf (fsa p0.toNatClampNeg) = .ref qs1 from by rw [i_nat j0, hs1]; rfl]
            refine lv_iconst (v := -1) hx hb dX9_sheet_31 (by decide) ?_
            refine lv_iconst (v := 0) hx hb dX9_sheet_32 (by decide) ?_
            have hPc := hP.sub (ws' := [(qs1, .inr (6, [.int (-1), y1_1, .ref qi1])), (qi1, .inl (ki1, 60, .inl fi1))]) [4, 5] rfl
            have hDc := hD.sub (ws' := [(qs1, .inr (6, [.int (-1), y1_1, .ref qi1])), (qi1, .inl (ki1, 60, .inl fi1))]) [4, 5] (by decide) rfl
            have hKc := hK.sub (tys' := [(ki1, .int)]) [2] rfl
            have hFc := va_free (wc := [(qs1, .inr (6, [.int (-1), y1_1, .ref qi1])), (qi1, .inl (ki1, 60, .inl fi1))]) hD hS hA [4, 5] rfl
            refine va_callv (va_runV (As := [.int (-1), .int 0]) (rest := []) ⟨hx, hb, hml, hown, hts⟩ (c_X7_become l dC dI qs1 (-1) 0 (.int (-1)) (y1_1) qi1 ki1 fi1 H.size) (cwV 2 hts gX9_sheet_X7_become rfl rfl rfl (by decide +kernel) ⟨Nat.le_of_ble_eq_true rfl, Nat.le_of_ble_eq_true rfl⟩) ⟨fun a U g mk q => by obtain ⟨q0, q1, qP, qK, qD⟩ := q; exact ⟨q0, q1, qP, va_K.moved (u := U) (U := U.calling g mk a) (Vm.Alike.refl U.vm) qK, qD⟩, va_recv hKc hPc (ci := 6) (q0 := 0) rfl rfl, fun U hU hW => ⟨rfl, by rw [hU], by rw [hU]; exact hPc, va_K.moved hW.alike hKc, hDc.weaken (fun _ _ _ _ => trivial)⟩⟩ rfl rfl hl.1 rfl (lv_room (Nat.le_of_ble_eq_true rfl)) dX9_sheet_33 ⟨Nat.le_of_ble_eq_true rfl, Nat.le_of_ble_eq_true rfl⟩) hS (fun q _ h => hFc q h) hFc (fun u t H1 locs ht hvm hw hB hz1 hk1 hS => ?_)
            obtain ⟨hP1, hK1, hD1⟩ := hB
            rw [ht] at hP1
            have hK1 := va_K.moved hvm.symm hK1
            try dsimp only at hw
            obtain ⟨hP, hD⟩ := va_join (wr := [(h0, .inr (8, [w0, w1, w2, w3, w4, w5, w6, w7, w8, w9, w10, w11, .ref qsa])), (qsa, .inl (ksa, 4, .inr (.inr (.inr (.inr fsa))))), (qs0, .inr (6, [.int (-1), y0_1, .ref qi0])), (qi0, .inl (ki0, 60, .inl fi0)), (qs2, .inr (6, [.int (-1), y2_1, .ref qi2])), (qi2, .inl (ki2, 60, .inl fi2)), (qs3, .inr (6, [.int (-1), y3_1, .ref qi3])), (qi3, .inl (ki3, 60, .inl fi3))]) (w1 := []) hP hD [4, 5] [0, 1, 2, 3, 6, 7, 8, 9] rfl rfl (by decide) (by decide) hk1 hFc hP1 hD1
            have hK := (hK.sub (tys' := [(ksa, .object "ClearingGates$Sheet"), (ki0, .int), (ki2, .int), (ki3, .int)]) [0, 1, 3, 4] rfl).app hK1
            generalize H1 = H at hP hS ⊢
            have hP : va_P (dC, dI) vwCl [(h0, .inr (8, [w0, w1, w2, w3, w4, w5, w6, w7, w8, w9, w10, w11, .ref qsa])), (qsa, .inl (ksa, 4, .inr (.inr (.inr (.inr fsa))))), (qs0, .inr (6, [.int (-1), y0_1, .ref qi0])), (qi0, .inl (ki0, 60, .inl fi0)), (qs2, .inr (6, [.int (-1), y2_1, .ref qi2])), (qi2, .inl (ki2, 60, .inl fi2)), (qs3, .inr (6, [.int (-1), y3_1, .ref qi3])), (qi3, .inl (ki3, 60, .inl fi3))] H := hP
            have hD : va_D A [(h0, .inr (8, [w0, w1, w2, w3, w4, w5, w6, w7, w8, w9, w10, w11, .ref qsa])), (qsa, .inl (ksa, 4, .inr (.inr (.inr (.inr fsa))))), (qs0, .inr (6, [.int (-1), y0_1, .ref qi0])), (qi0, .inl (ki0, 60, .inl fi0)), (qs2, .inr (6, [.int (-1), y2_1, .ref qi2])), (qi2, .inl (ki2, 60, .inl fi2)), (qs3, .inr (6, [.int (-1), y3_1, .ref qi3])), (qi3, .inl (ki3, 60, .inl fi3))] := hD
            have hK : va_K (dC, dI) vwCl [(ksa, .object "ClearingGates$Sheet"), (ki0, .int), (ki2, .int), (ki3, .int)] s := hK
            refine lv_iconst (v := 1) hx hb dX9_sheet_36 (by decide) ?_
            have hP9 := hP.sub (ws' := []) [] rfl
            have hD9 := hD.sub (ws' := []) [] (by decide) rfl
            have hK9 := hK.sub (tys' := []) [] rfl
            exact W.iret (v := 1) hx hb hr (fun t ht hW => ⟨⟨1, (), rfl, Or.inl ⟨rfl, by omega⟩, by rw [ht]; exact hP9, va_K.moved hW.alike hK9, hD9⟩, hS.F ht⟩) hS.2.2 dX9_sheet_37
          · rw [show va_rf (fsa p0.toNatClampNeg) = .ref qs2 from by rw [i_nat j0, hs2]; rfl]
            refine lv_iconst (v := -1) hx hb dX9_sheet_31 (by decide) ?_
            refine lv_iconst (v := 0) hx hb dX9_sheet_32 (by decide) ?_
            have hPc := hP.sub (ws' := [(qs2, .inr (6, [.int (-1), y2_1, .ref qi2])), (qi2, .inl (ki2, 60, .inl fi2))]) [6, 7] rfl
            have hDc := hD.sub (ws' := [(qs2, .inr (6, [.int (-1), y2_1, .ref qi2])), (qi2, .inl (ki2, 60, .inl fi2))]) [6, 7] (by decide) rfl
            have hKc := hK.sub (tys' := [(ki2, .int)]) [3] rfl
            have hFc := va_free (wc := [(qs2, .inr (6, [.int (-1), y2_1, .ref qi2])), (qi2, .inl (ki2, 60, .inl fi2))]) hD hS hA [6, 7] rfl
            refine va_callv (va_runV (As := [.int (-1), .int 0]) (rest := []) ⟨hx, hb, hml, hown, hts⟩ (c_X7_become l dC dI qs2 (-1) 0 (.int (-1)) (y2_1) qi2 ki2 fi2 H.size) (cwV 2 hts gX9_sheet_X7_become rfl rfl rfl (by decide +kernel) ⟨Nat.le_of_ble_eq_true rfl, Nat.le_of_ble_eq_true rfl⟩) ⟨fun a U g mk q => by obtain ⟨q0, q1, qP, qK, qD⟩ := q; exact ⟨q0, q1, qP, va_K.moved (u := U) (U := U.calling g mk a) (Vm.Alike.refl U.vm) qK, qD⟩, va_recv hKc hPc (ci := 6) (q0 := 0) rfl rfl, fun U hU hW => ⟨rfl, by rw [hU], by rw [hU]; exact hPc, va_K.moved hW.alike hKc, hDc.weaken (fun _ _ _ _ => trivial)⟩⟩ rfl rfl hl.1 rfl (lv_room (Nat.le_of_ble_eq_true rfl)) dX9_sheet_33 ⟨Nat.le_of_ble_eq_true rfl, Nat.le_of_ble_eq_true rfl⟩) hS (fun q _ h => hFc q h) hFc (fun u t H1 locs ht hvm hw hB hz1 hk1 hS => ?_)
            obtain ⟨hP1, hK1, hD1⟩ := hB
            rw [ht] at hP1
            have hK1 := va_K.moved hvm.symm hK1
            try dsimp only at hw
            obtain ⟨hP, hD⟩ := va_join (wr := [(h0, .inr (8, [w0, w1, w2, w3, w4, w5, w6, w7, w8, w9, w10, w11, .ref qsa])), (qsa, .inl (ksa, 4, .inr (.inr (.inr (.inr fsa))))), (qs0, .inr (6, [.int (-1), y0_1, .ref qi0])), (qi0, .inl (ki0, 60, .inl fi0)), (qs1, .inr (6, [.int (-1), y1_1, .ref qi1])), (qi1, .inl (ki1, 60, .inl fi1)), (qs3, .inr (6, [.int (-1), y3_1, .ref qi3])), (qi3, .inl (ki3, 60, .inl fi3))]) (w1 := []) hP hD [6, 7] [0, 1, 2, 3, 4, 5, 8, 9] rfl rfl (by decide) (by decide) hk1 hFc hP1 hD1
            have hK := (hK.sub (tys' := [(ksa, .object "ClearingGates$Sheet"), (ki0, .int), (ki1, .int), (ki3, .int)]) [0, 1, 2, 4] rfl).app hK1
            generalize H1 = H at hP hS ⊢
            have hP : va_P (dC, dI) vwCl [(h0, .inr (8, [w0, w1, w2, w3, w4, w5, w6, w7, w8, w9, w10, w11, .ref qsa])), (qsa, .inl (ksa, 4, .inr (.inr (.inr (.inr fsa))))), (qs0, .inr (6, [.int (-1), y0_1, .ref qi0])), (qi0, .inl (ki0, 60, .inl fi0)), (qs1, .inr (6, [.int (-1), y1_1, .ref qi1])), (qi1, .inl (ki1, 60, .inl fi1)), (qs3, .inr (6, [.int (-1), y3_1, .ref qi3])), (qi3, .inl (ki3, 60, .inl fi3))] H := hP
            have hD : va_D A [(h0, .inr (8, [w0, w1, w2, w3, w4, w5, w6, w7, w8, w9, w10, w11, .ref qsa])), (qsa, .inl (ksa, 4, .inr (.inr (.inr (.inr fsa))))), (qs0, .inr (6, [.int (-1), y0_1, .ref qi0])), (qi0, .inl (ki0, 60, .inl fi0)), (qs1, .inr (6, [.int (-1), y1_1, .ref qi1])), (qi1, .inl (ki1, 60, .inl fi1)), (qs3, .inr (6, [.int (-1), y3_1, .ref qi3])), (qi3, .inl (ki3, 60, .inl fi3))] := hD
            have hK : va_K (dC, dI) vwCl [(ksa, .object "ClearingGates$Sheet"), (ki0, .int), (ki1, .int), (ki3, .int)] s := hK
            refine lv_iconst (v := 1) hx hb dX9_sheet_36 (by decide) ?_
            have hP9 := hP.sub (ws' := []) [] rfl
            have hD9 := hD.sub (ws' := []) [] (by decide) rfl
            have hK9 := hK.sub (tys' := []) [] rfl
            exact W.iret (v := 1) hx hb hr (fun t ht hW => ⟨⟨1, (), rfl, Or.inl ⟨rfl, by omega⟩, by rw [ht]; exact hP9, va_K.moved hW.alike hK9, hD9⟩, hS.F ht⟩) hS.2.2 dX9_sheet_37
          · rw [show va_rf (fsa p0.toNatClampNeg) = .ref qs3 from by rw [i_nat j0, hs3]; rfl]
            refine lv_iconst (v := -1) hx hb dX9_sheet_31 (by decide) ?_
            refine lv_iconst (v := 0) hx hb dX9_sheet_32 (by decide) ?_
            have hPc := hP.sub (ws' := [(qs3, .inr (6, [.int (-1), y3_1, .ref qi3])), (qi3, .inl (ki3, 60, .inl fi3))]) [8, 9] rfl
            have hDc := hD.sub (ws' := [(qs3, .inr (6, [.int (-1), y3_1, .ref qi3])), (qi3, .inl (ki3, 60, .inl fi3))]) [8, 9] (by decide) rfl
            have hKc := hK.sub (tys' := [(ki3, .int)]) [4] rfl
            have hFc := va_free (wc := [(qs3, .inr (6, [.int (-1), y3_1, .ref qi3])), (qi3, .inl (ki3, 60, .inl fi3))]) hD hS hA [8, 9] rfl
            refine va_callv (va_runV (As := [.int (-1), .int 0]) (rest := []) ⟨hx, hb, hml, hown, hts⟩ (c_X7_become l dC dI qs3 (-1) 0 (.int (-1)) (y3_1) qi3 ki3 fi3 H.size) (cwV 2 hts gX9_sheet_X7_become rfl rfl rfl (by decide +kernel) ⟨Nat.le_of_ble_eq_true rfl, Nat.le_of_ble_eq_true rfl⟩) ⟨fun a U g mk q => by obtain ⟨q0, q1, qP, qK, qD⟩ := q; exact ⟨q0, q1, qP, va_K.moved (u := U) (U := U.calling g mk a) (Vm.Alike.refl U.vm) qK, qD⟩, va_recv hKc hPc (ci := 6) (q0 := 0) rfl rfl, fun U hU hW => ⟨rfl, by rw [hU], by rw [hU]; exact hPc, va_K.moved hW.alike hKc, hDc.weaken (fun _ _ _ _ => trivial)⟩⟩ rfl rfl hl.1 rfl (lv_room (Nat.le_of_ble_eq_true rfl)) dX9_sheet_33 ⟨Nat.le_of_ble_eq_true rfl, Nat.le_of_ble_eq_true rfl⟩) hS (fun q _ h => hFc q h) hFc (fun u t H1 locs ht hvm hw hB hz1 hk1 hS => ?_)
            obtain ⟨hP1, hK1, hD1⟩ := hB
            rw [ht] at hP1
            have hK1 := va_K.moved hvm.symm hK1
            try dsimp only at hw
            obtain ⟨hP, hD⟩ := va_join (wr := [(h0, .inr (8, [w0, w1, w2, w3, w4, w5, w6, w7, w8, w9, w10, w11, .ref qsa])), (qsa, .inl (ksa, 4, .inr (.inr (.inr (.inr fsa))))), (qs0, .inr (6, [.int (-1), y0_1, .ref qi0])), (qi0, .inl (ki0, 60, .inl fi0)), (qs1, .inr (6, [.int (-1), y1_1, .ref qi1])), (qi1, .inl (ki1, 60, .inl fi1)), (qs2, .inr (6, [.int (-1), y2_1, .ref qi2])), (qi2, .inl (ki2, 60, .inl fi2))]) (w1 := []) hP hD [8, 9] [0, 1, 2, 3, 4, 5, 6, 7] rfl rfl (by decide) (by decide) hk1 hFc hP1 hD1
            have hK := (hK.sub (tys' := [(ksa, .object "ClearingGates$Sheet"), (ki0, .int), (ki1, .int), (ki2, .int)]) [0, 1, 2, 3] rfl).app hK1
            generalize H1 = H at hP hS ⊢
            have hP : va_P (dC, dI) vwCl [(h0, .inr (8, [w0, w1, w2, w3, w4, w5, w6, w7, w8, w9, w10, w11, .ref qsa])), (qsa, .inl (ksa, 4, .inr (.inr (.inr (.inr fsa))))), (qs0, .inr (6, [.int (-1), y0_1, .ref qi0])), (qi0, .inl (ki0, 60, .inl fi0)), (qs1, .inr (6, [.int (-1), y1_1, .ref qi1])), (qi1, .inl (ki1, 60, .inl fi1)), (qs2, .inr (6, [.int (-1), y2_1, .ref qi2])), (qi2, .inl (ki2, 60, .inl fi2))] H := hP
            have hD : va_D A [(h0, .inr (8, [w0, w1, w2, w3, w4, w5, w6, w7, w8, w9, w10, w11, .ref qsa])), (qsa, .inl (ksa, 4, .inr (.inr (.inr (.inr fsa))))), (qs0, .inr (6, [.int (-1), y0_1, .ref qi0])), (qi0, .inl (ki0, 60, .inl fi0)), (qs1, .inr (6, [.int (-1), y1_1, .ref qi1])), (qi1, .inl (ki1, 60, .inl fi1)), (qs2, .inr (6, [.int (-1), y2_1, .ref qi2])), (qi2, .inl (ki2, 60, .inl fi2))] := hD
            have hK : va_K (dC, dI) vwCl [(ksa, .object "ClearingGates$Sheet"), (ki0, .int), (ki1, .int), (ki2, .int)] s := hK
            refine lv_iconst (v := 1) hx hb dX9_sheet_36 (by decide) ?_
            have hP9 := hP.sub (ws' := []) [] rfl
            have hD9 := hD.sub (ws' := []) [] (by decide) rfl
            have hK9 := hK.sub (tys' := []) [] rfl
            exact W.iret (v := 1) hx hb hr (fun t ht hW => ⟨⟨1, (), rfl, Or.inl ⟨rfl, by omega⟩, by rw [ht]; exact hP9, va_K.moved hW.alike hK9, hD9⟩, hS.F ht⟩) hS.2.2 dX9_sheet_37
      · skip
        have f_c4 := i_nle c4
        refine lv_bipush (v := -2) hx hb dX9_sheet_17 (by decide) ?_
        have hP9 := hP.sub (ws' := []) [] rfl
        have hD9 := hD.sub (ws' := []) [] (by decide) rfl
        have hK9 := hK.sub (tys' := []) [] rfl
        exact W.iret (v := (-2)) hx hb hr (fun t ht hW => ⟨⟨(-2), (), rfl, Or.inr (Or.inr (⟨rfl, by omega⟩)), by rw [ht]; exact hP9, va_K.moved hW.alike hK9, hD9⟩, hS.F ht⟩) hS.2.2 dX9_sheet_19
  · subst e_r1
    refine lv_if_eq (tgt := 17) hx hb dX9_sheet_4 (by decide) (fun c16 => ?_) (fun c16 => absurd (by decide) c16)
    refine lv_bipush (v := -2) hx hb dX9_sheet_17 (by decide) ?_
    have hP9 := hP.sub (ws' := []) [] rfl
    have hD9 := hD.sub (ws' := []) [] (by decide) rfl
    have hK9 := hK.sub (tys' := []) [] rfl
    exact W.iret (v := (-2)) hx hb hr (fun t ht hW => ⟨⟨(-2), (), rfl, Or.inr (Or.inr (⟨rfl, by omega⟩)), by rw [ht]; exact hP9, va_K.moved hW.alike hK9, hD9⟩, hS.F ht⟩) hS.2.2 dX9_sheet_19
