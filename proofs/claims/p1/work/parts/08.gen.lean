theorem in_X10_put_X10 : ∀ w ∈ wsX100, w ∈ wsX10_put := fun _ h => List.mem_cons_of_mem _ (List.mem_append_right _ h)
set_option maxRecDepth 100000 in
set_option maxHeartbeats 4000000 in
/-- put of the model -/
theorem c_X10_put (l : Launch) (dC : Nat → ClassId) (dI : Nat → Nat → Nat) (h0 : Nat) (p0 : Int32) (p1 : Int32) (p2 : Int32) (w0 : Value) (w1 : Value) (w2 : Value) (w3 : Value) (w4 : Value) (w5 : Value) (w6 : Value) (w7 : Value) (w8 : Value) (w9 : Value) (w10 : Value) (w11 : Value) (w12 : Value) (w13 : Value) (w14 : Value) (w15 : Value) (w16 : Value) (w17 : Value) (w18 : Value) (w19 : Value) (w20 : Value) (w21 : Value) (w22 : Value) (w23 : Value) (w24 : Value) (w25 : Value) (w26 : Value) (w27 : Value) (qo : Nat) (w29 : Value) (w30 : Value) (w31 : Value) (ko : ClassId) (fso : Nat → Int32) (sz : Nat) (hso : ∀ k : Nat, k < 4 → fso k = -1) : Met l yX10_put wsX10_put ({ frames := 2, cells := 0, slots := 0, locals := 45 }) (va_Pc [.ref h0, .int p0, .int p1, .int p2] (fun U => U.heap.size = sz ∧ va_P (dC, dI) vwCl [(h0, .inr (9, [w0, w1, w2, w3, w4, w5, w6, w7, w8, w9, w10, w11, w12, w13, w14, w15, w16, w17, w18, w19, w20, w21, w22, w23, w24, w25, w26, w27, .ref qo, w29, w30, w31])), (qo, .inl (ko, 4, .inl fso))] U.heap ∧ va_K (dC, dI) vwCl [(ko, .int)] U ∧ va_D (fun _ => True) [(h0, .inr (9, [w0, w1, w2, w3, w4, w5, w6, w7, w8, w9, w10, w11, w12, w13, w14, w15, w16, w17, w18, w19, w20, w21, w22, w23, w24, w25, w26, w27, .ref qo, w29, w30, w31])), (qo, .inl (ko, 4, .inl fso))])) (va_Qi (fun (r : Int32) (_ : Unit) => (r = (-11) ∧ 0 ≤ p0.toInt ∧ p0.toInt < 4) ∨ (r = (-2) ∧ ¬(0 ≤ p0.toInt ∧ p0.toInt < 4))) (fun (_ : Unit) (t : State) => va_P (dC, dI) vwCl [] t.heap ∧ va_K (dC, dI) vwCl [] t ∧ va_D (va_A [(h0, .inr (9, [w0, w1, w2, w3, w4, w5, w6, w7, w8, w9, w10, w11, w12, w13, w14, w15, w16, w17, w18, w19, w20, w21, w22, w23, w24, w25, w26, w27, .ref qo, w29, w30, w31])), (qo, .inl (ko, 4, .inl fso))] sz) []) (va_A [(h0, .inr (9, [w0, w1, w2, w3, w4, w5, w6, w7, w8, w9, w10, w11, w12, w13, w14, w15, w16, w17, w18, w19, w20, w21, w22, w23, w24, w25, w26, w27, .ref qo, w29, w30, w31])), (qo, .inl (ko, 4, .inl fso))] sz)) 0 0 (va_A [(h0, .inr (9, [w0, w1, w2, w3, w4, w5, w6, w7, w8, w9, w10, w11, w12, w13, w14, w15, w16, w17, w18, w19, w20, w21, w22, w23, w24, w25, w26, w27, .ref qo, w29, w30, w31])), (qo, .inl (ko, 4, .inl fso))] sz) := by
  refine Met.ofW (cc := cX10_put) (maxL := 4) (ret := (some .int)) (by decide) rfl ?_
  intro p e s m args below meth c s₁ B hml hv
  obtain ⟨rfl, hsz, hP, hK, hD0⟩ := hv
  have hx := B.exec
  have hb := B.bytes
  have hr := B.returns
  have hts := atoms_spec (ws := wsX10_put) B.pre
  have hown : s.vm.findClass RX10 = some m.cls := findClass_of_methodNamed B.named
  have hlocks := B.notSynchronized
  subst hsz
  have hD := hD0.self (sz := s.heap.size)
  generalize hAe : va_A [(h0, .inr (9, [w0, w1, w2, w3, w4, w5, w6, w7, w8, w9, w10, w11, w12, w13, w14, w15, w16, w17, w18, w19, w20, w21, w22, w23, w24, w25, w26, w27, .ref qo, w29, w30, w31])), (qo, .inl (ko, 4, .inl fso))] s.heap.size = A at hD ⊢
  have hA : ∀ q : Nat, s.heap.size ≤ q → A q := fun q h => by rw [← hAe]; exact Or.inr h
  have hS : va_S A s.heap s.heap [] := va_S.rf
  have hP : va_P (dC, dI) vwCl [(h0, .inr (9, [w0, w1, w2, w3, w4, w5, w6, w7, w8, w9, w10, w11, w12, w13, w14, w15, w16, w17, w18, w19, w20, w21, w22, w23, w24, w25, w26, w27, .ref qo, w29, w30, w31])), (qo, .inl (ko, 4, .inl fso))] s.heap := hP
  have hl := lv_entry ([.ref h0, .int p0, .int p1, .int p2]) (n := 4) (Nat.le_of_ble_eq_true rfl)
  rw [lg_entry_eq]
  generalize (lg_sl ([.ref h0, .int p0, .int p1, .int p2]) ++ List.replicate (4 - (lg_sl ([.ref h0, .int p0, .int p1, .int p2])).length) Slot.unset).toArray = ls at hl ⊢
  have hl : lv_has ls 4 [(0, .ref h0), (1, .int p0), (2, .int p1), (3, .int p2)] := hl
  have k_m11 : ((-11) : Int32).toInt = (-11) := by decide
  have k_m2 : ((-2) : Int32).toInt = (-2) := by decide
  refine lv_iload_n hx hb dX10_put_0 rfl (lv_at hl 1 rfl) ?_
  have hPc := hP.sub (ws' := []) [] rfl
  have hDc := hD.sub (ws' := []) [] (by decide) rfl
  have hKc := hK.sub (tys' := []) [] rfl
  have hFc := va_free (wc := []) hD hS hA [] rfl
  refine va_calli (va_runS (As := [.int p0]) (rest := []) ⟨hx, hb, hml, hown, hts⟩ (c_X10_isSheet l dC dI p0 s.heap.size) (va_cwS 1 hts gX10_put_X10_isSheet rfl rfl rfl (by decide +kernel) ⟨Nat.le_of_ble_eq_true rfl, Nat.le_of_ble_eq_true rfl⟩) ⟨fun a U g mk q => by obtain ⟨q0, q1, qP, qK, qD⟩ := q; exact ⟨q0, q1, qP, va_K.moved (u := U) (U := U.calling g mk a) (Vm.Alike.refl U.vm) qK, qD⟩, fun U hU hW => ⟨rfl, by rw [hU], by rw [hU]; exact hPc, va_K.moved hW.alike hKc, hDc.weaken (fun _ _ _ _ => trivial)⟩⟩ rfl rfl hl.1 rfl (lv_room (Nat.le_of_ble_eq_true rfl)) dX10_put_1 ⟨Nat.le_of_ble_eq_true rfl, Nat.le_of_ble_eq_true rfl⟩) hS (fun q _ h => hFc q h) hFc (fun r1 u t H1 locs ht hvm hw hB hz1 hk1 hS => ?_)
  obtain ⟨hP1, hK1, hD1⟩ := hB
  rw [ht] at hP1
  have hK1 := va_K.moved hvm.symm hK1
  try dsimp only at hw
  obtain ⟨hP, hD⟩ := va_join (wr := [(h0, .inr (9, [w0, w1, w2, w3, w4, w5, w6, w7, w8, w9, w10, w11, w12, w13, w14, w15, w16, w17, w18, w19, w20, w21, w22, w23, w24, w25, w26, w27, .ref qo, w29, w30, w31])), (qo, .inl (ko, 4, .inl fso))]) (w1 := []) hP hD [] [0, 1] rfl rfl (by decide) (by decide) hk1 hFc hP1 hD1
  have hK := (hK.sub (tys' := [(ko, .int)]) [0] rfl).app hK1
  generalize H1 = H at hP hS ⊢
  have hP : va_P (dC, dI) vwCl [(h0, .inr (9, [w0, w1, w2, w3, w4, w5, w6, w7, w8, w9, w10, w11, w12, w13, w14, w15, w16, w17, w18, w19, w20, w21, w22, w23, w24, w25, w26, w27, .ref qo, w29, w30, w31])), (qo, .inl (ko, 4, .inl fso))] H := hP
  have hD : va_D A [(h0, .inr (9, [w0, w1, w2, w3, w4, w5, w6, w7, w8, w9, w10, w11, w12, w13, w14, w15, w16, w17, w18, w19, w20, w21, w22, w23, w24, w25, w26, w27, .ref qo, w29, w30, w31])), (qo, .inl (ko, 4, .inl fso))] := hD
  have hK : va_K (dC, dI) vwCl [(ko, .int)] s := hK
  rcases hw with ⟨e_r1, f_r1⟩ | ⟨e_r1, f_r1⟩
  · subst e_r1
    refine lv_if_ne (tgt := 10) hx hb dX10_put_4 (by decide) (fun c2 => ?_) (fun c2 => absurd c2 (by decide))
    refine lv_aload_n hx hb dX10_put_10 rfl (lv_at hl 0 rfl) ?_
    refine va_get (D := (dC, dI)) (ci := 9) (v := .ref qo) (C := RX10) (T := TX10) (N := 32) hx hb hts in_X10_put_X10 hown hK hP 0 rfl rfl 28 (by decide) (hts (.fieldLink RX10 55 "ClearingGatesModel" "sorts" "[I") (List.mem_of_getElem? (i := 1) (by decide +kernel))) (fun _ h9 => h9) rfl dX10_put_11 ?_
    refine lv_iload_n hx hb dX10_put_14 rfl (lv_at hl 1 rfl) ?_
    refine va_iald (D := (dC, dI)) hx hb hK hP 1 0 rfl rfl (vp_in_iff.mpr ⟨by omega, by omega⟩) dX10_put_15 ?_
    refine lv_topi (fun z3 e_z3 => ?_)
    have e_z3 : z3 = -1 := e_z3.trans (hso _ (i_natlt (by omega) (by omega)))
    subst e_z3
    refine lv_iconst (v := -1) hx hb dX10_put_16 (by decide) ?_
    refine lv_icmp_ne (tgt := 23) hx hb dX10_put_17 (by decide) (fun c4 => absurd (by decide) c4) (fun c4 => ?_)
    refine lv_bipush (v := -11) hx hb dX10_put_20 (by decide) ?_
    have hP9 := hP.sub (ws' := []) [] rfl
    have hD9 := hD.sub (ws' := []) [] (by decide) rfl
    have hK9 := hK.sub (tys' := []) [] rfl
    exact W.iret (v := (-11)) hx hb hr (fun t ht hW => ⟨⟨(-11), (), rfl, Or.inl ⟨rfl, by omega⟩, by rw [ht]; exact hP9, va_K.moved hW.alike hK9, hD9⟩, hS.F ht⟩) hS.2.2 dX10_put_22
  · subst e_r1
    refine lv_if_ne (tgt := 10) hx hb dX10_put_4 (by decide) (fun c5 => absurd (by decide) c5) (fun c5 => ?_)
    refine lv_bipush (v := -2) hx hb dX10_put_7 (by decide) ?_
    have hP9 := hP.sub (ws' := []) [] rfl
    have hD9 := hD.sub (ws' := []) [] (by decide) rfl
    have hK9 := hK.sub (tys' := []) [] rfl
    exact W.iret (v := (-2)) hx hb hr (fun t ht hW => ⟨⟨(-2), (), rfl, Or.inr (⟨rfl, by omega⟩), by rw [ht]; exact hP9, va_K.moved hW.alike hK9, hD9⟩, hS.F ht⟩) hS.2.2 dX10_put_9

theorem in_X10_copy_X10 : ∀ w ∈ wsX100, w ∈ wsX10_copy := fun _ h => List.mem_cons_of_mem _ (List.mem_append_right _ h)
set_option maxRecDepth 100000 in
set_option maxHeartbeats 4000000 in
/-- copy of the model -/
theorem c_X10_copy (l : Launch) (dC : Nat → ClassId) (dI : Nat → Nat → Nat) (h0 : Nat) (p0 : Int32) (p1 : Int32) (p2 : Int32) (p3 : Int32) (p4 : Int32) (w0 : Value) (w1 : Value) (w2 : Value) (w3 : Value) (w4 : Value) (w5 : Value) (w6 : Value) (w7 : Value) (w8 : Value) (w9 : Value) (w10 : Value) (w11 : Value) (w12 : Value) (w13 : Value) (w14 : Value) (w15 : Value) (w16 : Value) (w17 : Value) (w18 : Value) (w19 : Value) (w20 : Value) (w21 : Value) (w22 : Value) (w23 : Value) (w24 : Value) (w25 : Value) (w26 : Value) (w27 : Value) (qo : Nat) (w29 : Value) (w30 : Value) (w31 : Value) (ko : ClassId) (fso : Nat → Int32) (sz : Nat) (hso : ∀ k : Nat, k < 4 → fso k = -1) : Met l yX10_copy wsX10_copy ({ frames := 2, cells := 0, slots := 0, locals := 45 }) (va_Pc [.ref h0, .int p0, .int p1, .int p2, .int p3, .int p4] (fun U => U.heap.size = sz ∧ va_P (dC, dI) vwCl [(h0, .inr (9, [w0, w1, w2, w3, w4, w5, w6, w7, w8, w9, w10, w11, w12, w13, w14, w15, w16, w17, w18, w19, w20, w21, w22, w23, w24, w25, w26, w27, .ref qo, w29, w30, w31])), (qo, .inl (ko, 4, .inl fso))] U.heap ∧ va_K (dC, dI) vwCl [(ko, .int)] U ∧ va_D (fun _ => True) [(h0, .inr (9, [w0, w1, w2, w3, w4, w5, w6, w7, w8, w9, w10, w11, w12, w13, w14, w15, w16, w17, w18, w19, w20, w21, w22, w23, w24, w25, w26, w27, .ref qo, w29, w30, w31])), (qo, .inl (ko, 4, .inl fso))])) (va_Qi (fun (r : Int32) (_ : Unit) => (r = (-11) ∧ 0 ≤ p0.toInt ∧ p0.toInt < 4 ∧ 0 ≤ p2.toInt ∧ p2.toInt < 4) ∨ (r = (-2) ∧ ¬(0 ≤ p0.toInt ∧ p0.toInt < 4 ∧ 0 ≤ p2.toInt ∧ p2.toInt < 4))) (fun (_ : Unit) (t : State) => va_P (dC, dI) vwCl [] t.heap ∧ va_K (dC, dI) vwCl [] t ∧ va_D (va_A [(h0, .inr (9, [w0, w1, w2, w3, w4, w5, w6, w7, w8, w9, w10, w11, w12, w13, w14, w15, w16, w17, w18, w19, w20, w21, w22, w23, w24, w25, w26, w27, .ref qo, w29, w30, w31])), (qo, .inl (ko, 4, .inl fso))] sz) []) (va_A [(h0, .inr (9, [w0, w1, w2, w3, w4, w5, w6, w7, w8, w9, w10, w11, w12, w13, w14, w15, w16, w17, w18, w19, w20, w21, w22, w23, w24, w25, w26, w27, .ref qo, w29, w30, w31])), (qo, .inl (ko, 4, .inl fso))] sz)) 0 0 (va_A [(h0, .inr (9, [w0, w1, w2, w3, w4, w5, w6, w7, w8, w9, w10, w11, w12, w13, w14, w15, w16, w17, w18, w19, w20, w21, w22, w23, w24, w25, w26, w27, .ref qo, w29, w30, w31])), (qo, .inl (ko, 4, .inl fso))] sz) := by
  refine Met.ofW (cc := cX10_copy) (maxL := 6) (ret := (some .int)) (by decide) rfl ?_
  intro p e s m args below meth c s₁ B hml hv
  obtain ⟨rfl, hsz, hP, hK, hD0⟩ := hv
  have hx := B.exec
  have hb := B.bytes
  have hr := B.returns
  have hts := atoms_spec (ws := wsX10_copy) B.pre
  have hown : s.vm.findClass RX10 = some m.cls := findClass_of_methodNamed B.named
  have hlocks := B.notSynchronized
  subst hsz
  have hD := hD0.self (sz := s.heap.size)
  generalize hAe : va_A [(h0, .inr (9, [w0, w1, w2, w3, w4, w5, w6, w7, w8, w9, w10, w11, w12, w13, w14, w15, w16, w17, w18, w19, w20, w21, w22, w23, w24, w25, w26, w27, .ref qo, w29, w30, w31])), (qo, .inl (ko, 4, .inl fso))] s.heap.size = A at hD ⊢
  have hA : ∀ q : Nat, s.heap.size ≤ q → A q := fun q h => by rw [← hAe]; exact Or.inr h
  have hS : va_S A s.heap s.heap [] := va_S.rf
  have hP : va_P (dC, dI) vwCl [(h0, .inr (9, [w0, w1, w2, w3, w4, w5, w6, w7, w8, w9, w10, w11, w12, w13, w14, w15, w16, w17, w18, w19, w20, w21, w22, w23, w24, w25, w26, w27, .ref qo, w29, w30, w31])), (qo, .inl (ko, 4, .inl fso))] s.heap := hP
  have hl := lv_entry ([.ref h0, .int p0, .int p1, .int p2, .int p3, .int p4]) (n := 6) (Nat.le_of_ble_eq_true rfl)
  rw [lg_entry_eq]
  generalize (lg_sl ([.ref h0, .int p0, .int p1, .int p2, .int p3, .int p4]) ++ List.replicate (6 - (lg_sl ([.ref h0, .int p0, .int p1, .int p2, .int p3, .int p4])).length) Slot.unset).toArray = ls at hl ⊢
  have hl : lv_has ls 6 [(0, .ref h0), (1, .int p0), (2, .int p1), (3, .int p2), (4, .int p3), (5, .int p4)] := hl
  have k_m11 : ((-11) : Int32).toInt = (-11) := by decide
  have k_m2 : ((-2) : Int32).toInt = (-2) := by decide
  refine lv_iload_n hx hb dX10_copy_0 rfl (lv_at hl 1 rfl) ?_
  have hPc := hP.sub (ws' := []) [] rfl
  have hDc := hD.sub (ws' := []) [] (by decide) rfl
  have hKc := hK.sub (tys' := []) [] rfl
  have hFc := va_free (wc := []) hD hS hA [] rfl
  refine va_calli (va_runS (As := [.int p0]) (rest := []) ⟨hx, hb, hml, hown, hts⟩ (c_X10_isSheet l dC dI p0 s.heap.size) (va_cwS 1 hts gX10_copy_X10_isSheet rfl rfl rfl (by decide +kernel) ⟨Nat.le_of_ble_eq_true rfl, Nat.le_of_ble_eq_true rfl⟩) ⟨fun a U g mk q => by obtain ⟨q0, q1, qP, qK, qD⟩ := q; exact ⟨q0, q1, qP, va_K.moved (u := U) (U := U.calling g mk a) (Vm.Alike.refl U.vm) qK, qD⟩, fun U hU hW => ⟨rfl, by rw [hU], by rw [hU]; exact hPc, va_K.moved hW.alike hKc, hDc.weaken (fun _ _ _ _ => trivial)⟩⟩ rfl rfl hl.1 rfl (lv_room (Nat.le_of_ble_eq_true rfl)) dX10_copy_1 ⟨Nat.le_of_ble_eq_true rfl, Nat.le_of_ble_eq_true rfl⟩) hS (fun q _ h => hFc q h) hFc (fun r1 u t H1 locs ht hvm hw hB hz1 hk1 hS => ?_)
  obtain ⟨hP1, hK1, hD1⟩ := hB
  rw [ht] at hP1
  have hK1 := va_K.moved hvm.symm hK1
  try dsimp only at hw
  obtain ⟨hP, hD⟩ := va_join (wr := [(h0, .inr (9, [w0, w1, w2, w3, w4, w5, w6, w7, w8, w9, w10, w11, w12, w13, w14, w15, w16, w17, w18, w19, w20, w21, w22, w23, w24, w25, w26, w27, .ref qo, w29, w30, w31])), (qo, .inl (ko, 4, .inl fso))]) (w1 := []) hP hD [] [0, 1] rfl rfl (by decide) (by decide) hk1 hFc hP1 hD1
  have hK := (hK.sub (tys' := [(ko, .int)]) [0] rfl).app hK1
  generalize H1 = H at hP hS ⊢
  have hP : va_P (dC, dI) vwCl [(h0, .inr (9, [w0, w1, w2, w3, w4, w5, w6, w7, w8, w9, w10, w11, w12, w13, w14, w15, w16, w17, w18, w19, w20, w21, w22, w23, w24, w25, w26, w27, .ref qo, w29, w30, w31])), (qo, .inl (ko, 4, .inl fso))] H := hP
  have hD : va_D A [(h0, .inr (9, [w0, w1, w2, w3, w4, w5, w6, w7, w8, w9, w10, w11, w12, w13, w14, w15, w16, w17, w18, w19, w20, w21, w22, w23, w24, w25, w26, w27, .ref qo, w29, w30, w31])), (qo, .inl (ko, 4, .inl fso))] := hD
  have hK : va_K (dC, dI) vwCl [(ko, .int)] s := hK
  rcases hw with ⟨e_r1, f_r1⟩ | ⟨e_r1, f_r1⟩
  · subst e_r1
    refine lv_if_eq (tgt := 14) hx hb dX10_copy_4 (by decide) (fun c2 => absurd c2 (by decide)) (fun c2 => ?_)
    refine lv_iload_n hx hb dX10_copy_7 rfl (lv_at hl 3 rfl) ?_
    have hPc := hP.sub (ws' := []) [] rfl
    have hDc := hD.sub (ws' := []) [] (by decide) rfl
    have hKc := hK.sub (tys' := []) [] rfl
    have hFc := va_free (wc := []) hD hS hA [] rfl
    refine va_calli (va_runS (As := [.int p2]) (rest := []) ⟨hx, hb, hml, hown, hts⟩ (c_X10_isSheet l dC dI p2 H.size) (va_cwS 1 hts gX10_copy_X10_isSheet rfl rfl rfl (by decide +kernel) ⟨Nat.le_of_ble_eq_true rfl, Nat.le_of_ble_eq_true rfl⟩) ⟨fun a U g mk q => by obtain ⟨q0, q1, qP, qK, qD⟩ := q; exact ⟨q0, q1, qP, va_K.moved (u := U) (U := U.calling g mk a) (Vm.Alike.refl U.vm) qK, qD⟩, fun U hU hW => ⟨rfl, by rw [hU], by rw [hU]; exact hPc, va_K.moved hW.alike hKc, hDc.weaken (fun _ _ _ _ => trivial)⟩⟩ rfl rfl hl.1 rfl (lv_room (Nat.le_of_ble_eq_true rfl)) dX10_copy_8 ⟨Nat.le_of_ble_eq_true rfl, Nat.le_of_ble_eq_true rfl⟩) hS (fun q _ h => hFc q h) hFc (fun r3 u t H1 locs ht hvm hw hB hz1 hk1 hS => ?_)
    obtain ⟨hP1, hK1, hD1⟩ := hB
    rw [ht] at hP1
    have hK1 := va_K.moved hvm.symm hK1
    try dsimp only at hw
    obtain ⟨hP, hD⟩ := va_join (wr := [(h0, .inr (9, [w0, w1, w2, w3, w4, w5, w6, w7, w8, w9, w10, w11, w12, w13, w14, w15, w16, w17, w18, w19, w20, w21, w22, w23, w24, w25, w26, w27, .ref qo, w29, w30, w31])), (qo, .inl (ko, 4, .inl fso))]) (w1 := []) hP hD [] [0, 1] rfl rfl (by decide) (by decide) hk1 hFc hP1 hD1
    have hK := (hK.sub (tys' := [(ko, .int)]) [0] rfl).app hK1
    generalize H1 = H at hP hS ⊢
    have hP : va_P (dC, dI) vwCl [(h0, .inr (9, [w0, w1, w2, w3, w4, w5, w6, w7, w8, w9, w10, w11, w12, w13, w14, w15, w16, w17, w18, w19, w20, w21, w22, w23, w24, w25, w26, w27, .ref qo, w29, w30, w31])), (qo, .inl (ko, 4, .inl fso))] H := hP
    have hD : va_D A [(h0, .inr (9, [w0, w1, w2, w3, w4, w5, w6, w7, w8, w9, w10, w11, w12, w13, w14, w15, w16, w17, w18, w19, w20, w21, w22, w23, w24, w25, w26, w27, .ref qo, w29, w30, w31])), (qo, .inl (ko, 4, .inl fso))] := hD
    have hK : va_K (dC, dI) vwCl [(ko, .int)] s := hK
    rcases hw with ⟨e_r3, f_r3⟩ | ⟨e_r3, f_r3⟩
    · subst e_r3
      refine lv_if_ne (tgt := 17) hx hb dX10_copy_11 (by decide) (fun c4 => ?_) (fun c4 => absurd c4 (by decide))
      refine lv_aload_n hx hb dX10_copy_17 rfl (lv_at hl 0 rfl) ?_
      refine va_get (D := (dC, dI)) (ci := 9) (v := .ref qo) (C := RX10) (T := TX10) (N := 32) hx hb hts in_X10_copy_X10 hown hK hP 0 rfl rfl 28 (by decide) (hts (.fieldLink RX10 55 "ClearingGatesModel" "sorts" "[I") (List.mem_of_getElem? (i := 1) (by decide +kernel))) (fun _ h9 => h9) rfl dX10_copy_18 ?_
      refine lv_iload_n hx hb dX10_copy_21 rfl (lv_at hl 1 rfl) ?_
      refine va_iald (D := (dC, dI)) hx hb hK hP 1 0 rfl rfl (vp_in_iff.mpr ⟨by omega, by omega⟩) dX10_copy_22 ?_
      refine lv_topi (fun z5 e_z5 => ?_)
      have e_z5 : z5 = -1 := e_z5.trans (hso _ (i_natlt (by omega) (by omega)))
      subst e_z5
      refine lv_iconst (v := -1) hx hb dX10_copy_23 (by decide) ?_
      refine lv_icmp_eq (tgt := 37) hx hb dX10_copy_24 (by decide) (fun c6 => ?_) (fun c6 => absurd (by decide) c6)
      refine lv_bipush (v := -11) hx hb dX10_copy_37 (by decide) ?_
      have hP9 := hP.sub (ws' := []) [] rfl
      have hD9 := hD.sub (ws' := []) [] (by decide) rfl
      have hK9 := hK.sub (tys' := []) [] rfl
      exact W.iret (v := (-11)) hx hb hr (fun t ht hW => ⟨⟨(-11), (), rfl, Or.inl ⟨rfl, by omega⟩, by rw [ht]; exact hP9, va_K.moved hW.alike hK9, hD9⟩, hS.F ht⟩) hS.2.2 dX10_copy_39
    · subst e_r3
      refine lv_if_ne (tgt := 17) hx hb dX10_copy_11 (by decide) (fun c7 => absurd (by decide) c7) (fun c7 => ?_)
      refine lv_bipush (v := -2) hx hb dX10_copy_14 (by decide) ?_
      have hP9 := hP.sub (ws' := []) [] rfl
      have hD9 := hD.sub (ws' := []) [] (by decide) rfl
      have hK9 := hK.sub (tys' := []) [] rfl
      exact W.iret (v := (-2)) hx hb hr (fun t ht hW => ⟨⟨(-2), (), rfl, Or.inr (⟨rfl, by omega⟩), by rw [ht]; exact hP9, va_K.moved hW.alike hK9, hD9⟩, hS.F ht⟩) hS.2.2 dX10_copy_16
  · subst e_r1
    refine lv_if_eq (tgt := 14) hx hb dX10_copy_4 (by decide) (fun c8 => ?_) (fun c8 => absurd (by decide) c8)
    refine lv_bipush (v := -2) hx hb dX10_copy_14 (by decide) ?_
    have hP9 := hP.sub (ws' := []) [] rfl
    have hD9 := hD.sub (ws' := []) [] (by decide) rfl
    have hK9 := hK.sub (tys' := []) [] rfl
    exact W.iret (v := (-2)) hx hb hr (fun t ht hW => ⟨⟨(-2), (), rfl, Or.inr (⟨rfl, by omega⟩), by rw [ht]; exact hP9, va_K.moved hW.alike hK9, hD9⟩, hS.F ht⟩) hS.2.2 dX10_copy_16

theorem in_X10_load_X10 : ∀ w ∈ wsX100, w ∈ wsX10_load := fun _ h => List.mem_cons_of_mem _ (List.mem_append_right _ h)
set_option maxRecDepth 100000 in
set_option maxHeartbeats 4000000 in
/-- load of the model -/
theorem c_X10_load (l : Launch) (dC : Nat → ClassId) (dI : Nat → Nat → Nat) (h0 : Nat) (p0 : Int32) (p1 : Int32) (p2 : Int32) (p3 : Int32) (w0 : Value) (w1 : Value) (w2 : Value) (w3 : Value) (w4 : Value) (w5 : Value) (w6 : Value) (w7 : Value) (w8 : Value) (w9 : Value) (w10 : Value) (w11 : Value) (w12 : Value) (w13 : Value) (w14 : Value) (w15 : Value) (w16 : Value) (w17 : Value) (w18 : Value) (w19 : Value) (w20 : Value) (w21 : Value) (w22 : Value) (w23 : Value) (w24 : Value) (w25 : Value) (w26 : Value) (w27 : Value) (qo : Nat) (w29 : Value) (w30 : Value) (w31 : Value) (ko : ClassId) (fso : Nat → Int32) (sz : Nat) (hso : ∀ k : Nat, k < 4 → fso k = -1) : Met l yX10_load wsX10_load ({ frames := 2, cells := 0, slots := 0, locals := 45 }) (va_Pc [.ref h0, .int p0, .int p1, .int p2, .int p3] (fun U => U.heap.size = sz ∧ va_P (dC, dI) vwCl [(h0, .inr (9, [w0, w1, w2, w3, w4, w5, w6, w7, w8, w9, w10, w11, w12, w13, w14, w15, w16, w17, w18, w19, w20, w21, w22, w23, w24, w25, w26, w27, .ref qo, w29, w30, w31])), (qo, .inl (ko, 4, .inl fso))] U.heap ∧ va_K (dC, dI) vwCl [(ko, .int)] U ∧ va_D (fun _ => True) [(h0, .inr (9, [w0, w1, w2, w3, w4, w5, w6, w7, w8, w9, w10, w11, w12, w13, w14, w15, w16, w17, w18, w19, w20, w21, w22, w23, w24, w25, w26, w27, .ref qo, w29, w30, w31])), (qo, .inl (ko, 4, .inl fso))])) (va_Qi (fun (r : Int32) (_ : Unit) => (r = (-11) ∧ 0 ≤ p0.toInt ∧ p0.toInt < 4 ∧ 0 ≤ p1.toInt ∧ p1.toInt ≤ 1 ∧ 0 ≤ p3.toInt ∧ p3.toInt ≤ 20) ∨ (r = (-2) ∧ ¬(0 ≤ p0.toInt ∧ p0.toInt < 4 ∧ 0 ≤ p1.toInt ∧ p1.toInt ≤ 1 ∧ 0 ≤ p3.toInt ∧ p3.toInt ≤ 20))) (fun (_ : Unit) (t : State) => va_P (dC, dI) vwCl [] t.heap ∧ va_K (dC, dI) vwCl [] t ∧ va_D (va_A [(h0, .inr (9, [w0, w1, w2, w3, w4, w5, w6, w7, w8, w9, w10, w11, w12, w13, w14, w15, w16, w17, w18, w19, w20, w21, w22, w23, w24, w25, w26, w27, .ref qo, w29, w30, w31])), (qo, .inl (ko, 4, .inl fso))] sz) []) (va_A [(h0, .inr (9, [w0, w1, w2, w3, w4, w5, w6, w7, w8, w9, w10, w11, w12, w13, w14, w15, w16, w17, w18, w19, w20, w21, w22, w23, w24, w25, w26, w27, .ref qo, w29, w30, w31])), (qo, .inl (ko, 4, .inl fso))] sz)) 0 0 (va_A [(h0, .inr (9, [w0, w1, w2, w3, w4, w5, w6, w7, w8, w9, w10, w11, w12, w13, w14, w15, w16, w17, w18, w19, w20, w21, w22, w23, w24, w25, w26, w27, .ref qo, w29, w30, w31])), (qo, .inl (ko, 4, .inl fso))] sz) := by
  refine Met.ofW (cc := cX10_load) (maxL := 10) (ret := (some .int)) (by decide) rfl ?_
  intro p e s m args below meth c s₁ B hml hv
  obtain ⟨rfl, hsz, hP, hK, hD0⟩ := hv
  have hx := B.exec
  have hb := B.bytes
  have hr := B.returns
  have hts := atoms_spec (ws := wsX10_load) B.pre
  have hown : s.vm.findClass RX10 = some m.cls := findClass_of_methodNamed B.named
  have hlocks := B.notSynchronized
  subst hsz
  have hD := hD0.self (sz := s.heap.size)
  generalize hAe : va_A [(h0, .inr (9, [w0, w1, w2, w3, w4, w5, w6, w7, w8, w9, w10, w11, w12, w13, w14, w15, w16, w17, w18, w19, w20, w21, w22, w23, w24, w25, w26, w27, .ref qo, w29, w30, w31])), (qo, .inl (ko, 4, .inl fso))] s.heap.size = A at hD ⊢
  have hA : ∀ q : Nat, s.heap.size ≤ q → A q := fun q h => by rw [← hAe]; exact Or.inr h
  have hS : va_S A s.heap s.heap [] := va_S.rf
  have hP : va_P (dC, dI) vwCl [(h0, .inr (9, [w0, w1, w2, w3, w4, w5, w6, w7, w8, w9, w10, w11, w12, w13, w14, w15, w16, w17, w18, w19, w20, w21, w22, w23, w24, w25, w26, w27, .ref qo, w29, w30, w31])), (qo, .inl (ko, 4, .inl fso))] s.heap := hP
  have hl := lv_entry ([.ref h0, .int p0, .int p1, .int p2, .int p3]) (n := 10) (Nat.le_of_ble_eq_true rfl)
  rw [lg_entry_eq]
  generalize (lg_sl ([.ref h0, .int p0, .int p1, .int p2, .int p3]) ++ List.replicate (10 - (lg_sl ([.ref h0, .int p0, .int p1, .int p2, .int p3])).length) Slot.unset).toArray = ls at hl ⊢
  have hl : lv_has ls 10 [(0, .ref h0), (1, .int p0), (2, .int p1), (3, .int p2), (4, .int p3)] := hl
  have k_m11 : ((-11) : Int32).toInt = (-11) := by decide
  have k_m2 : ((-2) : Int32).toInt = (-2) := by decide
  have kl_0 : (0 : Int64).toInt = 0 := by decide
  have kl_1 : (1 : Int64).toInt = 1 := by decide
  have kl_20 : (20 : Int64).toInt = 20 := by decide
  refine lv_iload_n hx hb dX10_load_0 rfl (lv_at hl 1 rfl) ?_
  have hPc := hP.sub (ws' := []) [] rfl
  have hDc := hD.sub (ws' := []) [] (by decide) rfl
  have hKc := hK.sub (tys' := []) [] rfl
  have hFc := va_free (wc := []) hD hS hA [] rfl
  refine va_calli (va_runS (As := [.int p0]) (rest := []) ⟨hx, hb, hml, hown, hts⟩ (c_X10_isSheet l dC dI p0 s.heap.size) (va_cwS 1 hts gX10_load_X10_isSheet rfl rfl rfl (by decide +kernel) ⟨Nat.le_of_ble_eq_true rfl, Nat.le_of_ble_eq_true rfl⟩) ⟨fun a U g mk q => by obtain ⟨q0, q1, qP, qK, qD⟩ := q; exact ⟨q0, q1, qP, va_K.moved (u := U) (U := U.calling g mk a) (Vm.Alike.refl U.vm) qK, qD⟩, fun U hU hW => ⟨rfl, by rw [hU], by rw [hU]; exact hPc, va_K.moved hW.alike hKc, hDc.weaken (fun _ _ _ _ => trivial)⟩⟩ rfl rfl hl.1 rfl (lv_room (Nat.le_of_ble_eq_true rfl)) dX10_load_1 ⟨Nat.le_of_ble_eq_true rfl, Nat.le_of_ble_eq_true rfl⟩) hS (fun q _ h => hFc q h) hFc (fun r1 u t H1 locs ht hvm hw hB hz1 hk1 hS => ?_)
  obtain ⟨hP1, hK1, hD1⟩ := hB
  rw [ht] at hP1
  have hK1 := va_K.moved hvm.symm hK1
  try dsimp only at hw
  obtain ⟨hP, hD⟩ := va_join (wr := [(h0, .inr (9, [w0, w1, w2, w3, w4, w5, w6, w7, w8, w9, w10, w11, w12, w13, w14, w15, w16, w17, w18, w19, w20, w21, w22, w23, w24, w25, w26, w27, .ref qo, w29, w30, w31])), (qo, .inl (ko, 4, .inl fso))]) (w1 := []) hP hD [] [0, 1] rfl rfl (by decide) (by decide) hk1 hFc hP1 hD1
  have hK := (hK.sub (tys' := [(ko, .int)]) [0] rfl).app hK1
  generalize H1 = H at hP hS ⊢
  have hP : va_P (dC, dI) vwCl [(h0, .inr (9, [w0, w1, w2, w3, w4, w5, w6, w7, w8, w9, w10, w11, w12, w13, w14, w15, w16, w17, w18, w19, w20, w21, w22, w23, w24, w25, w26, w27, .ref qo, w29, w30, w31])), (qo, .inl (ko, 4, .inl fso))] H := hP
  have hD : va_D A [(h0, .inr (9, [w0, w1, w2, w3, w4, w5, w6, w7, w8, w9, w10, w11, w12, w13, w14, w15, w16, w17, w18, w19, w20, w21, w22, w23, w24, w25, w26, w27, .ref qo, w29, w30, w31])), (qo, .inl (ko, 4, .inl fso))] := hD
  have hK : va_K (dC, dI) vwCl [(ko, .int)] s := hK
  rcases hw with ⟨e_r1, f_r1⟩ | ⟨e_r1, f_r1⟩
  · subst e_r1
    refine lv_if_eq (tgt := 30) hx hb dX10_load_4 (by decide) (fun c2 => absurd c2 (by decide)) (fun c2 => ?_)
    refine lv_iload_n hx hb dX10_load_7 rfl (lv_at hl 2 rfl) ?_
    refine lv_i2l (v := p1.toInt64) hx hb dX10_load_8 rfl ?_
    have t_t3 := Int32.toInt_toInt64 p1
    refine lv_lconst (v := 0) hx hb dX10_load_9 (by decide) ?_
    refine lv_lconst (v := 1) hx hb dX10_load_10 (by decide) ?_
    have hPc := hP.sub (ws' := []) [] rfl
    have hDc := hD.sub (ws' := []) [] (by decide) rfl
    have hKc := hK.sub (tys' := []) [] rfl
    have hFc := va_free (wc := []) hD hS hA [] rfl
    refine va_calli (va_runS (As := [.long p1.toInt64, .long 0, .long 1]) (rest := []) ⟨hx, hb, hml, hown, hts⟩ (c_X10_isIn l dC dI (p1.toInt64) 0 1 H.size) (va_cwS 3 hts gX10_load_X10_isIn rfl rfl rfl (by decide +kernel) ⟨Nat.le_of_ble_eq_true rfl, Nat.le_of_ble_eq_true rfl⟩) ⟨fun a U g mk q => by obtain ⟨q0, q1, qP, qK, qD⟩ := q; exact ⟨q0, q1, qP, va_K.moved (u := U) (U := U.calling g mk a) (Vm.Alike.refl U.vm) qK, qD⟩, fun U hU hW => ⟨rfl, by rw [hU], by rw [hU]; exact hPc, va_K.moved hW.alike hKc, hDc.weaken (fun _ _ _ _ => trivial)⟩⟩ rfl rfl hl.1 rfl (lv_room (Nat.le_of_ble_eq_true rfl)) dX10_load_11 ⟨Nat.le_of_ble_eq_true rfl, Nat.le_of_ble_eq_true rfl⟩) hS (fun q _ h => hFc q h) hFc (fun r4 u t H1 locs ht hvm hw hB hz1 hk1 hS => ?_)
    obtain ⟨hP1, hK1, hD1⟩ := hB
    rw [ht] at hP1
    have hK1 := va_K.moved hvm.symm hK1
    try dsimp only at hw
    obtain ⟨hP, hD⟩ := va_join (wr := [(h0, .inr (9, [w0, w1, w2, w3, w4, w5, w6, w7, w8, w9, w10, w11, w12, w13, w14, w15, w16, w17, w18, w19, w20, w21, w22, w23, w24, w25, w26, w27, .ref qo, w29, w30, w31])), (qo, .inl (ko, 4, .inl fso))]) (w1 := []) hP hD [] [0, 1] rfl rfl (by decide) (by decide) hk1 hFc hP1 hD1
    have hK := (hK.sub (tys' := [(ko, .int)]) [0] rfl).app hK1
    generalize H1 = H at hP hS ⊢
    have hP : va_P (dC, dI) vwCl [(h0, .inr (9, [w0, w1, w2, w3, w4, w5, w6, w7, w8, w9, w10, w11, w12, w13, w14, w15, w16, w17, w18, w19, w20, w21, w22, w23, w24, w25, w26, w27, .ref qo, w29, w30, w31])), (qo, .inl (ko, 4, .inl fso))] H := hP
    have hD : va_D A [(h0, .inr (9, [w0, w1, w2, w3, w4, w5, w6, w7, w8, w9, w10, w11, w12, w13, w14, w15, w16, w17, w18, w19, w20, w21, w22, w23, w24, w25, w26, w27, .ref qo, w29, w30, w31])), (qo, .inl (ko, 4, .inl fso))] := hD
    have hK : va_K (dC, dI) vwCl [(ko, .int)] s := hK
    rcases hw with ⟨e_r4, f_r4⟩ | ⟨e_r4, f_r4⟩
    · subst e_r4
      refine lv_if_eq (tgt := 30) hx hb dX10_load_14 (by decide) (fun c5 => absurd c5 (by decide)) (fun c5 => ?_)
      refine lv_iload hx hb dX10_load_17 (lv_at hl 4 rfl) ?_
      refine lv_i2l (v := p3.toInt64) hx hb dX10_load_19 rfl ?_
      have t_t6 := Int32.toInt_toInt64 p3
      refine lv_lconst (v := 0) hx hb dX10_load_20 (by decide) ?_
      refine lv_ldc2 hx hb hown (hts (.constantLong RX10 295 (20)) (List.mem_of_getElem? (i := 1) (by decide +kernel))) dX10_load_21 ?_
      have hPc := hP.sub (ws' := []) [] rfl
      have hDc := hD.sub (ws' := []) [] (by decide) rfl
      have hKc := hK.sub (tys' := []) [] rfl
      have hFc := va_free (wc := []) hD hS hA [] rfl
      refine va_calli (va_runS (As := [.long p3.toInt64, .long 0, .long 20]) (rest := []) ⟨hx, hb, hml, hown, hts⟩ (c_X10_isIn l dC dI (p3.toInt64) 0 20 H.size) (va_cwS 3 hts gX10_load_X10_isIn rfl rfl rfl (by decide +kernel) ⟨Nat.le_of_ble_eq_true rfl, Nat.le_of_ble_eq_true rfl⟩) ⟨fun a U g mk q => by obtain ⟨q0, q1, qP, qK, qD⟩ := q; exact ⟨q0, q1, qP, va_K.moved (u := U) (U := U.calling g mk a) (Vm.Alike.refl U.vm) qK, qD⟩, fun U hU hW => ⟨rfl, by rw [hU], by rw [hU]; exact hPc, va_K.moved hW.alike hKc, hDc.weaken (fun _ _ _ _ => trivial)⟩⟩ rfl rfl hl.1 rfl (lv_room (Nat.le_of_ble_eq_true rfl)) dX10_load_24 ⟨Nat.le_of_ble_eq_true rfl, Nat.le_of_ble_eq_true rfl⟩) hS (fun q _ h => hFc q h) hFc (fun r7 u t H1 locs ht hvm hw hB hz1 hk1 hS => ?_)
      obtain ⟨hP1, hK1, hD1⟩ := hB
      rw [ht] at hP1
      have hK1 := va_K.moved hvm.symm hK1
      try dsimp only at hw
      obtain ⟨hP, hD⟩ := va_join (wr := [(h0, .inr (9, [w0, w1, w2, w3, w4, w5, w6, w7, w8, w9, w10, w11, w12, w13, w14, w15, w16, w17, w18, w19, w20, w21, w22, w23, w24, w25, w26, w27, .ref qo, w29, w30, w31])), (qo, .inl (ko, 4, .inl fso))]) (w1 := []) hP hD [] [0, 1] rfl rfl (by decide) (by decide) hk1 hFc hP1 hD1
      have hK := (hK.sub (tys' := [(ko, .int)]) [0] rfl).app hK1
      generalize H1 = H at hP hS ⊢
      have hP : va_P (dC, dI) vwCl [(h0, .inr (9, [w0, w1, w2, w3, w4, w5, w6, w7, w8, w9, w10, w11, w12, w13, w14, w15, w16, w17, w18, w19, w20, w21, w22, w23, w24, w25, w26, w27, .ref qo, w29, w30, w31])), (qo, .inl (ko, 4, .inl fso))] H := hP
      have hD : va_D A [(h0, .inr (9, [w0, w1, w2, w3, w4, w5, w6, w7, w8, w9, w10, w11, w12, w13, w14, w15, w16, w17, w18, w19, w20, w21, w22, w23, w24, w25, w26, w27, .ref qo, w29, w30, w31])), (qo, .inl (ko, 4, .inl fso))] := hD
      have hK : va_K (dC, dI) vwCl [(ko, .int)] s := hK
      rcases hw with ⟨e_r7, f_r7⟩ | ⟨e_r7, f_r7⟩
      · subst e_r7
        refine lv_if_ne (tgt := 33) hx hb dX10_load_27 (by decide) (fun c8 => ?_) (fun c8 => absurd c8 (by decide))
        refine lv_aload_n hx hb dX10_load_33 rfl (lv_at hl 0 rfl) ?_
        refine va_get (D := (dC, dI)) (ci := 9) (v := .ref qo) (C := RX10) (T := TX10) (N := 32) hx hb hts in_X10_load_X10 hown hK hP 0 rfl rfl 28 (by decide) (hts (.fieldLink RX10 55 "ClearingGatesModel" "sorts" "[I") (List.mem_of_getElem? (i := 2) (by decide +kernel))) (fun _ h9 => h9) rfl dX10_load_34 ?_
        refine lv_iload_n hx hb dX10_load_37 rfl (lv_at hl 1 rfl) ?_
        refine va_iald (D := (dC, dI)) hx hb hK hP 1 0 rfl rfl (vp_in_iff.mpr ⟨by omega, by omega⟩) dX10_load_38 ?_
        refine lv_topi (fun z9 e_z9 => ?_)
        have e_z9 : z9 = -1 := e_z9.trans (hso _ (i_natlt (by omega) (by omega)))
        subst e_z9
        refine lv_iconst (v := -1) hx hb dX10_load_39 (by decide) ?_
        refine lv_icmp_eq (tgt := 56) hx hb dX10_load_40 (by decide) (fun c10 => ?_) (fun c10 => absurd (by decide) c10)
        refine lv_aload_n hx hb dX10_load_56 rfl (lv_at hl 0 rfl) ?_
        refine va_get (D := (dC, dI)) (ci := 9) (v := .ref qo) (C := RX10) (T := TX10) (N := 32) hx hb hts in_X10_load_X10 hown hK hP 0 rfl rfl 28 (by decide) (hts (.fieldLink RX10 55 "ClearingGatesModel" "sorts" "[I") (List.mem_of_getElem? (i := 2) (by decide +kernel))) (fun _ h9 => h9) rfl dX10_load_57 ?_
        refine lv_iload_n hx hb dX10_load_60 rfl (lv_at hl 1 rfl) ?_
        refine va_iald (D := (dC, dI)) hx hb hK hP 1 0 rfl rfl (vp_in_iff.mpr ⟨by omega, by omega⟩) dX10_load_61 ?_
        refine lv_topi (fun z11 e_z11 => ?_)
        have e_z11 : z11 = -1 := e_z11.trans (hso _ (i_natlt (by omega) (by omega)))
        subst e_z11
        refine lv_iconst (v := -1) hx hb dX10_load_62 (by decide) ?_
        refine lv_icmp_ne (tgt := 69) hx hb dX10_load_63 (by decide) (fun c12 => absurd (by decide) c12) (fun c12 => ?_)
        refine lv_bipush (v := -11) hx hb dX10_load_66 (by decide) ?_
        have hP9 := hP.sub (ws' := []) [] rfl
        have hD9 := hD.sub (ws' := []) [] (by decide) rfl
        have hK9 := hK.sub (tys' := []) [] rfl
        exact W.iret (v := (-11)) hx hb hr (fun t ht hW => ⟨⟨(-11), (), rfl, Or.inl ⟨rfl, by omega⟩, by rw [ht]; exact hP9, va_K.moved hW.alike hK9, hD9⟩, hS.F ht⟩) hS.2.2 dX10_load_68
      · subst e_r7
        refine lv_if_ne (tgt := 33) hx hb dX10_load_27 (by decide) (fun c13 => absurd (by decide) c13) (fun c13 => ?_)
        refine lv_bipush (v := -2) hx hb dX10_load_30 (by decide) ?_
        have hP9 := hP.sub (ws' := []) [] rfl
        have hD9 := hD.sub (ws' := []) [] (by decide) rfl
        have hK9 := hK.sub (tys' := []) [] rfl
        exact W.iret (v := (-2)) hx hb hr (fun t ht hW => ⟨⟨(-2), (), rfl, Or.inr (⟨rfl, by omega⟩), by rw [ht]; exact hP9, va_K.moved hW.alike hK9, hD9⟩, hS.F ht⟩) hS.2.2 dX10_load_32
    · subst e_r4
      refine lv_if_eq (tgt := 30) hx hb dX10_load_14 (by decide) (fun c14 => ?_) (fun c14 => absurd (by decide) c14)
      refine lv_bipush (v := -2) hx hb dX10_load_30 (by decide) ?_
      have hP9 := hP.sub (ws' := []) [] rfl
      have hD9 := hD.sub (ws' := []) [] (by decide) rfl
      have hK9 := hK.sub (tys' := []) [] rfl
      exact W.iret (v := (-2)) hx hb hr (fun t ht hW => ⟨⟨(-2), (), rfl, Or.inr (⟨rfl, by omega⟩), by rw [ht]; exact hP9, va_K.moved hW.alike hK9, hD9⟩, hS.F ht⟩) hS.2.2 dX10_load_32
  · subst e_r1
    refine lv_if_eq (tgt := 30) hx hb dX10_load_4 (by decide) (fun c15 => ?_) (fun c15 => absurd (by decide) c15)
    refine lv_bipush (v := -2) hx hb dX10_load_30 (by decide) ?_
    have hP9 := hP.sub (ws' := []) [] rfl
    have hD9 := hD.sub (ws' := []) [] (by decide) rfl
    have hK9 := hK.sub (tys' := []) [] rfl
    exact W.iret (v := (-2)) hx hb hr (fun t ht hW => ⟨⟨(-2), (), rfl, Or.inr (⟨rfl, by omega⟩), by rw [ht]; exact hP9, va_K.moved hW.alike hK9, hD9⟩, hS.F ht⟩) hS.2.2 dX10_load_32

theorem in_X10_sheet_X10 : ∀ w ∈ wsX100, w ∈ wsX10_sheet := fun _ h => List.mem_cons_of_mem _ (List.mem_append_right _ h)
set_option maxRecDepth 100000 in
set_option maxHeartbeats 4000000 in
/-- sheet of the model -/
theorem c_X10_sheet (l : Launch) (dC : Nat → ClassId) (dI : Nat → Nat → Nat) (h0 : Nat) (p0 : Int32) (p1 : Int32) (p2 : Int32) (w0 : Value) (w1 : Value) (w2 : Value) (w3 : Value) (w4 : Value) (w5 : Value) (w6 : Value) (w7 : Value) (w8 : Value) (w9 : Value) (w10 : Value) (w11 : Value) (w12 : Value) (w13 : Value) (w14 : Value) (w15 : Value) (w16 : Value) (w17 : Value) (w18 : Value) (w19 : Value) (w20 : Value) (w21 : Value) (w22 : Value) (w23 : Value) (w24 : Value) (w25 : Value) (w26 : Value) (w27 : Value) (qo : Nat) (qr : Nat) (qi : Nat) (w31 : Value) (ko : ClassId) (fso : Nat → Int32) (kr : ClassId) (fr : Nat → Int32) (ki : ClassId) (fi : Nat → Int32) (sz : Nat) : Met l yX10_sheet wsX10_sheet ({ frames := 2, cells := 0, slots := 0, locals := 45 }) (va_Pc [.ref h0, .int p0, .int p1, .int p2] (fun U => U.heap.size = sz ∧ va_P (dC, dI) vwCl [(h0, .inr (9, [w0, w1, w2, w3, w4, w5, w6, w7, w8, w9, w10, w11, w12, w13, w14, w15, w16, w17, w18, w19, w20, w21, w22, w23, w24, w25, w26, w27, .ref qo, .ref qr, .ref qi, w31])), (qo, .inl (ko, 4, .inl fso)), (qr, .inl (kr, 4, .inl fr)), (qi, .inl (ki, 240, .inl fi))] U.heap ∧ va_K (dC, dI) vwCl [(ko, .int), (kr, .int), (ki, .int)] U ∧ va_D (fun _ => True) [(h0, .inr (9, [w0, w1, w2, w3, w4, w5, w6, w7, w8, w9, w10, w11, w12, w13, w14, w15, w16, w17, w18, w19, w20, w21, w22, w23, w24, w25, w26, w27, .ref qo, .ref qr, .ref qi, w31])), (qo, .inl (ko, 4, .inl fso)), (qr, .inl (kr, 4, .inl fr)), (qi, .inl (ki, 240, .inl fi))])) (va_Qi (fun (r : Int32) (_ : Unit) => (r = 1 ∧ (0 ≤ p0.toInt ∧ p0.toInt < 4 ∧ -1 ≤ p1.toInt ∧ p1.toInt ≤ 1 ∧ (p1.toInt = -1 ∨ p2.toInt ≤ 60)) ∧ ¬(p1.toInt ≠ -1 ∧ p2.toInt < 0)) ∨ (r = (-14) ∧ (0 ≤ p0.toInt ∧ p0.toInt < 4 ∧ -1 ≤ p1.toInt ∧ p1.toInt ≤ 1 ∧ (p1.toInt = -1 ∨ p2.toInt ≤ 60)) ∧ (p1.toInt ≠ -1 ∧ p2.toInt < 0)) ∨ (r = (-2) ∧ ¬(0 ≤ p0.toInt ∧ p0.toInt < 4 ∧ -1 ≤ p1.toInt ∧ p1.toInt ≤ 1 ∧ (p1.toInt = -1 ∨ p2.toInt ≤ 60)))) (fun (_ : Unit) (t : State) => va_P (dC, dI) vwCl [] t.heap ∧ va_K (dC, dI) vwCl [] t ∧ va_D (va_A [(h0, .inr (9, [w0, w1, w2, w3, w4, w5, w6, w7, w8, w9, w10, w11, w12, w13, w14, w15, w16, w17, w18, w19, w20, w21, w22, w23, w24, w25, w26, w27, .ref qo, .ref qr, .ref qi, w31])), (qo, .inl (ko, 4, .inl fso)), (qr, .inl (kr, 4, .inl fr)), (qi, .inl (ki, 240, .inl fi))] sz) []) (va_A [(h0, .inr (9, [w0, w1, w2, w3, w4, w5, w6, w7, w8, w9, w10, w11, w12, w13, w14, w15, w16, w17, w18, w19, w20, w21, w22, w23, w24, w25, w26, w27, .ref qo, .ref qr, .ref qi, w31])), (qo, .inl (ko, 4, .inl fso)), (qr, .inl (kr, 4, .inl fr)), (qi, .inl (ki, 240, .inl fi))] sz)) 0 0 (va_A [(h0, .inr (9, [w0, w1, w2, w3, w4, w5, w6, w7, w8, w9, w10, w11, w12, w13, w14, w15, w16, w17, w18, w19, w20, w21, w22, w23, w24, w25, w26, w27, .ref qo, .ref qr, .ref qi, w31])), (qo, .inl (ko, 4, .inl fso)), (qr, .inl (kr, 4, .inl fr)), (qi, .inl (ki, 240, .inl fi))] sz) := by
  refine Met.ofW (cc := cX10_sheet) (maxL := 5) (ret := (some .int)) (by decide) rfl ?_
  intro p e s m args below meth c s₁ B hml hv
  obtain ⟨rfl, hsz, hP, hK, hD0⟩ := hv
  have hx := B.exec
  have hb := B.bytes
  have hr := B.returns
  have hts := atoms_spec (ws := wsX10_sheet) B.pre
  have hown : s.vm.findClass RX10 = some m.cls := findClass_of_methodNamed B.named
  have hlocks := B.notSynchronized
  subst hsz
  have hD := hD0.self (sz := s.heap.size)
  generalize hAe : va_A [(h0, .inr (9, [w0, w1, w2, w3, w4, w5, w6, w7, w8, w9, w10, w11, w12, w13, w14, w15, w16, w17, w18, w19, w20, w21, w22, w23, w24, w25, w26, w27, .ref qo, .ref qr, .ref qi, w31])), (qo, .inl (ko, 4, .inl fso)), (qr, .inl (kr, 4, .inl fr)), (qi, .inl (ki, 240, .inl fi))] s.heap.size = A at hD ⊢
  have hA : ∀ q : Nat, s.heap.size ≤ q → A q := fun q h => by rw [← hAe]; exact Or.inr h
  have hS : va_S A s.heap s.heap [] := va_S.rf
  have hP : va_P (dC, dI) vwCl [(h0, .inr (9, [w0, w1, w2, w3, w4, w5, w6, w7, w8, w9, w10, w11, w12, w13, w14, w15, w16, w17, w18, w19, w20, w21, w22, w23, w24, w25, w26, w27, .ref qo, .ref qr, .ref qi, w31])), (qo, .inl (ko, 4, .inl fso)), (qr, .inl (kr, 4, .inl fr)), (qi, .inl (ki, 240, .inl fi))] s.heap := hP
  have hl := lv_entry ([.ref h0, .int p0, .int p1, .int p2]) (n := 5) (Nat.le_of_ble_eq_true rfl)
  rw [lg_entry_eq]
  generalize (lg_sl ([.ref h0, .int p0, .int p1, .int p2]) ++ List.replicate (5 - (lg_sl ([.ref h0, .int p0, .int p1, .int p2])).length) Slot.unset).toArray = ls at hl ⊢
  have hl : lv_has ls 5 [(0, .ref h0), (1, .int p0), (2, .int p1), (3, .int p2)] := hl
  have k_m14 : ((-14) : Int32).toInt = (-14) := by decide
  have k_m2 : ((-2) : Int32).toInt = (-2) := by decide
  have k_m1 : ((-1) : Int32).toInt = (-1) := by decide
  have k_0 : (0 : Int32).toInt = 0 := by decide
  have k_1 : (1 : Int32).toInt = 1 := by decide
  have k_60 : (60 : Int32).toInt = 60 := by decide
  have kl_m1 : ((-1) : Int64).toInt = (-1) := by decide
  have kl_1 : (1 : Int64).toInt = 1 := by decide
  refine lv_iload_n hx hb dX10_sheet_0 rfl (lv_at hl 1 rfl) ?_
  have hPc := hP.sub (ws' := []) [] rfl
  have hDc := hD.sub (ws' := []) [] (by decide) rfl
  have hKc := hK.sub (tys' := []) [] rfl
  have hFc := va_free (wc := []) hD hS hA [] rfl
  refine va_calli (va_runS (As := [.int p0]) (rest := []) ⟨hx, hb, hml, hown, hts⟩ (c_X10_isSheet l dC dI p0 s.heap.size) (va_cwS 1 hts gX10_sheet_X10_isSheet rfl rfl rfl (by decide +kernel) ⟨Nat.le_of_ble_eq_true rfl, Nat.le_of_ble_eq_true rfl⟩) ⟨fun a U g mk q => by obtain ⟨q0, q1, qP, qK, qD⟩ := q; exact ⟨q0, q1, qP, va_K.moved (u := U) (U := U.calling g mk a) (Vm.Alike.refl U.vm) qK, qD⟩, fun U hU hW => ⟨rfl, by rw [hU], by rw [hU]; exact hPc, va_K.moved hW.alike hKc, hDc.weaken (fun _ _ _ _ => trivial)⟩⟩ rfl rfl hl.1 rfl (lv_room (Nat.le_of_ble_eq_true rfl)) dX10_sheet_1 ⟨Nat.le_of_ble_eq_true rfl, Nat.le_of_ble_eq_true rfl⟩) hS (fun q _ h => hFc q h) hFc (fun r1 u t H1 locs ht hvm hw hB hz1 hk1 hS => ?_)
  obtain ⟨hP1, hK1, hD1⟩ := hB
  rw [ht] at hP1
  have hK1 := va_K.moved hvm.symm hK1
  try dsimp only at hw
  obtain ⟨hP, hD⟩ := va_join (wr := [(h0, .inr (9, [w0, w1, w2, w3, w4, w5, w6, w7, w8, w9, w10, w11, w12, w13, w14, w15, w16, w17, w18, w19, w20, w21, w22, w23, w24, w25, w26, w27, .ref qo, .ref qr, .ref qi, w31])), (qo, .inl (ko, 4, .inl fso)), (qr, .inl (kr, 4, .inl fr)), (qi, .inl (ki, 240, .inl fi))]) (w1 := []) hP hD [] [0, 1, 2, 3] rfl rfl (by decide) (by decide) hk1 hFc hP1 hD1
  have hK := (hK.sub (tys' := [(ko, .int), (kr, .int), (ki, .int)]) [0, 1, 2] rfl).app hK1
  generalize H1 = H at hP hS ⊢
  have hP : va_P (dC, dI) vwCl [(h0, .inr (9, [w0, w1, w2, w3, w4, w5, w6, w7, w8, w9, w10, w11, w12, w13, w14, w15, w16, w17, w18, w19, w20, w21, w22, w23, w24, w25, w26, w27, .ref qo, .ref qr, .ref qi, w31])), (qo, .inl (ko, 4, .inl fso)), (qr, .inl (kr, 4, .inl fr)), (qi, .inl (ki, 240, .inl fi))] H := hP
  have hD : va_D A [(h0, .inr (9, [w0, w1, w2, w3, w4, w5, w6, w7, w8, w9, w10, w11, w12, w13, w14, w15, w16, w17, w18, w19, w20, w21, w22, w23, w24, w25, w26, w27, .ref qo, .ref qr, .ref qi, w31])), (qo, .inl (ko, 4, .inl fso)), (qr, .inl (kr, 4, .inl fr)), (qi, .inl (ki, 240, .inl fi))] := hD
  have hK : va_K (dC, dI) vwCl [(ko, .int), (kr, .int), (ki, .int)] s := hK
  rcases hw with ⟨e_r1, f_r1⟩ | ⟨e_r1, f_r1⟩
  · subst e_r1
    refine lv_if_eq (tgt := 30) hx hb dX10_sheet_4 (by decide) (fun c2 => absurd c2 (by decide)) (fun c2 => ?_)
    refine lv_iload_n hx hb dX10_sheet_7 rfl (lv_at hl 2 rfl) ?_
    refine lv_i2l (v := p1.toInt64) hx hb dX10_sheet_8 rfl ?_
    have t_t3 := Int32.toInt_toInt64 p1
    refine lv_ldc2 hx hb hown (hts (.constantLong RX10 293 (-1)) (List.mem_of_getElem? (i := 1) (by decide +kernel))) dX10_sheet_9 ?_
    refine lv_lconst (v := 1) hx hb dX10_sheet_12 (by decide) ?_
    have hPc := hP.sub (ws' := []) [] rfl
    have hDc := hD.sub (ws' := []) [] (by decide) rfl
    have hKc := hK.sub (tys' := []) [] rfl
    have hFc := va_free (wc := []) hD hS hA [] rfl
    refine va_calli (va_runS (As := [.long p1.toInt64, .long (-1), .long 1]) (rest := []) ⟨hx, hb, hml, hown, hts⟩ (c_X10_isIn l dC dI (p1.toInt64) (-1) 1 H.size) (va_cwS 3 hts gX10_sheet_X10_isIn rfl rfl rfl (by decide +kernel) ⟨Nat.le_of_ble_eq_true rfl, Nat.le_of_ble_eq_true rfl⟩) ⟨fun a U g mk q => by obtain ⟨q0, q1, qP, qK, qD⟩ := q; exact ⟨q0, q1, qP, va_K.moved (u := U) (U := U.calling g mk a) (Vm.Alike.refl U.vm) qK, qD⟩, fun U hU hW => ⟨rfl, by rw [hU], by rw [hU]; exact hPc, va_K.moved hW.alike hKc, hDc.weaken (fun _ _ _ _ => trivial)⟩⟩ rfl rfl hl.1 rfl (lv_room (Nat.le_of_ble_eq_true rfl)) dX10_sheet_13 ⟨Nat.le_of_ble_eq_true rfl, Nat.le_of_ble_eq_true rfl⟩) hS (fun q _ h => hFc q h) hFc (fun r4 u t H1 locs ht hvm hw hB hz1 hk1 hS => ?_)
    obtain ⟨hP1, hK1, hD1⟩ := hB
    rw [ht] at hP1
    have hK1 := va_K.moved hvm.symm hK1
    try dsimp only at hw
    obtain ⟨hP, hD⟩ := va_join (wr := [(h0, .inr (9, [w0, w1, w2, w3, w4, w5, w6, w7, w8, w9, w10, w11, w12, w13, w14, w15, w16, w17, w18, w19, w20, w21, w22, w23, w24, w25, w26, w27, .ref qo, .ref qr, .ref qi, w31])), (qo, .inl (ko, 4, .inl fso)), (qr, .inl (kr, 4, .inl fr)), (qi, .inl (ki, 240, .inl fi))]) (w1 := []) hP hD [] [0, 1, 2, 3] rfl rfl (by decide) (by decide) hk1 hFc hP1 hD1
    have hK := (hK.sub (tys' := [(ko, .int), (kr, .int), (ki, .int)]) [0, 1, 2] rfl).app hK1
    generalize H1 = H at hP hS ⊢
    have hP : va_P (dC, dI) vwCl [(h0, .inr (9, [w0, w1, w2, w3, w4, w5, w6, w7, w8, w9, w10, w11, w12, w13, w14, w15, w16, w17, w18, w19, w20, w21, w22, w23, w24, w25, w26, w27, .ref qo, .ref qr, .ref qi, w31])), (qo, .inl (ko, 4, .inl fso)), (qr, .inl (kr, 4, .inl fr)), (qi, .inl (ki, 240, .inl fi))] H := hP
    have hD : va_D A [(h0, .inr (9, [w0, w1, w2, w3, w4, w5, w6, w7, w8, w9, w10, w11, w12, w13, w14, w15, w16, w17, w18, w19, w20, w21, w22, w23, w24, w25, w26, w27, .ref qo, .ref qr, .ref qi, w31])), (qo, .inl (ko, 4, .inl fso)), (qr, .inl (kr, 4, .inl fr)), (qi, .inl (ki, 240, .inl fi))] := hD
    have hK : va_K (dC, dI) vwCl [(ko, .int), (kr, .int), (ki, .int)] s := hK
    rcases hw with ⟨e_r4, f_r4⟩ | ⟨e_r4, f_r4⟩
    · subst e_r4
      refine lv_if_eq (tgt := 30) hx hb dX10_sheet_16 (by decide) (fun c5 => absurd c5 (by decide)) (fun c5 => ?_)
      refine lv_iload_n hx hb dX10_sheet_19 rfl (lv_at hl 2 rfl) ?_
      refine lv_iconst (v := -1) hx hb dX10_sheet_20 (by decide) ?_
      refine lv_icmp_eq (tgt := 33) hx hb dX10_sheet_21 (by decide) (fun c6 => ?_) (fun c6 => ?_)
      · skip
        have f_c6 := i_eq c6
        refine lv_iload_n hx hb dX10_sheet_33 rfl (lv_at hl 2 rfl) ?_
        refine lv_iconst (v := -1) hx hb dX10_sheet_34 (by decide) ?_
        refine lv_icmp_eq (tgt := 45) hx hb dX10_sheet_35 (by decide) (fun c7 => ?_) (fun c7 => ?_)
        · skip
          have f_c7 := i_eq c7
          refine lv_aload_n hx hb dX10_sheet_45 rfl (lv_at hl 0 rfl) ?_
          refine va_get (D := (dC, dI)) (ci := 9) (v := .ref qo) (C := RX10) (T := TX10) (N := 32) hx hb hts in_X10_sheet_X10 hown hK hP 0 rfl rfl 28 (by decide) (hts (.fieldLink RX10 55 "ClearingGatesModel" "sorts" "[I") (List.mem_of_getElem? (i := 2) (by decide +kernel))) (fun _ h9 => h9) rfl dX10_sheet_46 ?_
          refine lv_iload_n hx hb dX10_sheet_49 rfl (lv_at hl 1 rfl) ?_
          refine lv_iload_n hx hb dX10_sheet_50 rfl (lv_at hl 2 rfl) ?_
          refine va_iast (D := (dC, dI)) hx hb hK hP hD hS 1 0 rfl rfl (vp_in_iff.mpr ⟨by omega, by omega⟩) dX10_sheet_51 (fun H locs hP hD hS => ?_)
          generalize e_g8 : (upd fso (p0).toNatClampNeg p1) = g8 at hP hD
          have hP : va_P (dC, dI) vwCl [(h0, .inr (9, [w0, w1, w2, w3, w4, w5, w6, w7, w8, w9, w10, w11, w12, w13, w14, w15, w16, w17, w18, w19, w20, w21, w22, w23, w24, w25, w26, w27, .ref qo, .ref qr, .ref qi, w31])), (qo, .inl (ko, 4, .inl g8)), (qr, .inl (kr, 4, .inl fr)), (qi, .inl (ki, 240, .inl fi))] H := hP
          have hD : va_D A [(h0, .inr (9, [w0, w1, w2, w3, w4, w5, w6, w7, w8, w9, w10, w11, w12, w13, w14, w15, w16, w17, w18, w19, w20, w21, w22, w23, w24, w25, w26, w27, .ref qo, .ref qr, .ref qi, w31])), (qo, .inl (ko, 4, .inl g8)), (qr, .inl (kr, 4, .inl fr)), (qi, .inl (ki, 240, .inl fi))] := hD
          refine lv_aload_n hx hb dX10_sheet_52 rfl (lv_at hl 0 rfl) ?_
          refine va_get (D := (dC, dI)) (ci := 9) (v := .ref qr) (C := RX10) (T := TX10) (N := 32) hx hb hts in_X10_sheet_X10 hown hK hP 0 rfl rfl 29 (by decide) (hts (.fieldLink RX10 58 "ClearingGatesModel" "rowMany" "[I") (List.mem_of_getElem? (i := 3) (by decide +kernel))) (fun _ h9 => h9) rfl dX10_sheet_53 ?_
          refine lv_iload_n hx hb dX10_sheet_56 rfl (lv_at hl 1 rfl) ?_
          refine lv_iload_n hx hb dX10_sheet_57 rfl (lv_at hl 2 rfl) ?_
          refine lv_iconst (v := -1) hx hb dX10_sheet_58 (by decide) ?_
          refine lv_icmp_ne (tgt := 66) hx hb dX10_sheet_59 (by decide) (fun c9 => ?_) (fun c9 => ?_)
          · skip
            have f_c9 := i_ne c9
            refine lv_iload_n hx hb dX10_sheet_66 rfl (lv_at hl 3 rfl) ?_
            refine va_iast (D := (dC, dI)) hx hb hK hP hD hS 2 1 rfl rfl (vp_in_iff.mpr ⟨by omega, by omega⟩) dX10_sheet_67 (fun H locs hP hD hS => ?_)
            generalize e_g10 : (upd fr (p0).toNatClampNeg p2) = g10 at hP hD
            have hP : va_P (dC, dI) vwCl [(h0, .inr (9, [w0, w1, w2, w3, w4, w5, w6, w7, w8, w9, w10, w11, w12, w13, w14, w15, w16, w17, w18, w19, w20, w21, w22, w23, w24, w25, w26, w27, .ref qo, .ref qr, .ref qi, w31])), (qo, .inl (ko, 4, .inl g8)), (qr, .inl (kr, 4, .inl g10)), (qi, .inl (ki, 240, .inl fi))] H := hP
            have hD : va_D A [(h0, .inr (9, [w0, w1, w2, w3, w4, w5, w6, w7, w8, w9, w10, w11, w12, w13, w14, w15, w16, w17, w18, w19, w20, w21, w22, w23, w24, w25, w26, w27, .ref qo, .ref qr, .ref qi, w31])), (qo, .inl (ko, 4, .inl g8)), (qr, .inl (kr, 4, .inl g10)), (qi, .inl (ki, 240, .inl fi))] := hD
            refine lv_iconst (v := 0) hx hb dX10_sheet_68 (by decide) ?_
            refine lv_istore (lv' := [(4, .int 0), (0, .ref h0), (1, .int p0), (2, .int p1), (3, .int p2)]) hx hb dX10_sheet_69 hl (by decide) rfl (fun ls hl => ?_)
            have loop_71 : ∀ (n i_71 : Nat) (x_71 : Int32), i_71 ≤ 60 → 60 < i_71 + n → x_71 = nI i_71 → ∀ (gi : Nat → Int32), ∀ (H : Heap) (locs : List Loc), va_K (dC, dI) vwCl [(ko, .int), (kr, .int), (ki, .int)] s → va_P (dC, dI) vwCl [(h0, .inr (9, [w0, w1, w2, w3, w4, w5, w6, w7, w8, w9, w10, w11, w12, w13, w14, w15, w16, w17, w18, w19, w20, w21, w22, w23, w24, w25, w26, w27, .ref qo, .ref qr, .ref qi, w31])), (qo, .inl (ko, 4, .inl g8)), (qr, .inl (kr, 4, .inl g10)), (qi, .inl (ki, 240, .inl gi))] H → va_D A [(h0, .inr (9, [w0, w1, w2, w3, w4, w5, w6, w7, w8, w9, w10, w11, w12, w13, w14, w15, w16, w17, w18, w19, w20, w21, w22, w23, w24, w25, w26, w27, .ref qo, .ref qr, .ref qi, w31])), (qo, .inl (ko, 4, .inl g8)), (qr, .inl (kr, 4, .inl g10)), (qi, .inl (ki, 240, .inl gi))] → va_S A s.heap H locs → ∀ (ls : Array Slot), lv_has ls 5 [(4, .int x_71), (0, .ref h0), (1, .int p0), (2, .int p1), (3, .int p2)] → W p l e ({ frames := 2, cells := 0, slots := 0, locals := 45 }) s m (([.ref h0, .int p0, .int p1, .int p2] : List Value).toArray) below meth c H locs 0 0 (MQ below (va_Qi (fun (r : Int32) (_ : Unit) => (r = 1 ∧ (0 ≤ p0.toInt ∧ p0.toInt < 4 ∧ -1 ≤ p1.toInt ∧ p1.toInt ≤ 1 ∧ (p1.toInt = -1 ∨ p2.toInt ≤ 60)) ∧ ¬(p1.toInt ≠ -1 ∧ p2.toInt < 0)) ∨ (r = (-14) ∧ (0 ≤ p0.toInt ∧ p0.toInt < 4 ∧ -1 ≤ p1.toInt ∧ p1.toInt ≤ 1 ∧ (p1.toInt = -1 ∨ p2.toInt ≤ 60)) ∧ (p1.toInt ≠ -1 ∧ p2.toInt < 0)) ∨ (r = (-2) ∧ ¬(0 ≤ p0.toInt ∧ p0.toInt < 4 ∧ -1 ≤ p1.toInt ∧ p1.toInt ≤ 1 ∧ (p1.toInt = -1 ∨ p2.toInt ≤ 60)))) (fun (_ : Unit) (t : State) => va_P (dC, dI) vwCl [] t.heap ∧ va_K (dC, dI) vwCl [] t ∧ va_D A []) A) (([.ref h0, .int p0, .int p1, .int p2] : List Value).toArray) s 0 0 A) (F0 m 71 ls []) := by
              intro n
              induction n with
              | zero => intro i_71 x_71 h1 h2; exact absurd h2 (by omega)
              | succ n ih_71 =>
                intro i_71 x_71 hi_71 hn_71 e_x_71 gi H locs hK hP hD hS ls hl
                have t_x_71 : x_71.toInt = (i_71 : Int) := by rw [e_x_71]; exact nI_toInt (by omega)
                refine lv_iload hx hb dX10_sheet_71 (lv_at hl 0 rfl) ?_
                refine lv_bipush (v := 60) hx hb dX10_sheet_73 (by decide) ?_
                refine lv_icmp_ge (tgt := 97) hx hb dX10_sheet_75 (by decide) (fun c11 => ?_) (fun c11 => ?_)
                · skip
                  have f_c11 := i_le c11
                  refine lv_iconst (v := 1) hx hb dX10_sheet_97 (by decide) ?_
                  have hP9 := hP.sub (ws' := []) [] rfl
                  have hD9 := hD.sub (ws' := []) [] (by decide) rfl
                  have hK9 := hK.sub (tys' := []) [] rfl
                  exact W.iret (v := 1) hx hb hr (fun t ht hW => ⟨⟨1, (), rfl, Or.inl ⟨rfl, by omega⟩, by rw [ht]; exact hP9, va_K.moved hW.alike hK9, hD9⟩, hS.F ht⟩) hS.2.2 dX10_sheet_98
                · skip
                  have f_c11 := i_nle c11
                  refine lv_aload_n hx hb dX10_sheet_78 rfl (lv_at hl 1 rfl) ?_
                  refine va_get (D := (dC, dI)) (ci := 9) (v := .ref qi) (C := RX10) (T := TX10) (N := 32) hx hb hts in_X10_sheet_X10 hown hK hP 0 rfl rfl 30 (by decide) (hts (.fieldLink RX10 61 "ClearingGatesModel" "items" "[I") (List.mem_of_getElem? (i := 4) (by decide +kernel))) (fun _ h9 => h9) rfl dX10_sheet_79 ?_
                  refine lv_bipush (v := 60) hx hb dX10_sheet_82 (by decide) ?_
                  refine lv_iload_n hx hb dX10_sheet_84 rfl (lv_at hl 2 rfl) ?_
                  refine lv_imul hx hb dX10_sheet_85 ?_
                  refine lv_topi (fun z12 e_z12 => ?_)
                  have t_z12 := i_mulc e_z12 k_60 (by omega) (by omega)
                  refine lv_iload hx hb dX10_sheet_86 (lv_at hl 0 rfl) ?_
                  refine lv_iadd hx hb dX10_sheet_88 ?_
                  refine lv_topi (fun z13 e_z13 => ?_)
                  have t_z13 := i_add e_z13 (by omega) (by omega)
                  refine lv_iconst (v := 0) hx hb dX10_sheet_89 (by decide) ?_
                  refine va_iast (D := (dC, dI)) hx hb hK hP hD hS 3 2 rfl rfl (vp_in_iff.mpr ⟨by omega, by omega⟩) dX10_sheet_90 (fun H locs hP hD hS => ?_)
                  generalize e_g14 : (upd gi (z13).toNatClampNeg 0) = g14 at hP hD
                  have hP : va_P (dC, dI) vwCl [(h0, .inr (9, [w0, w1, w2, w3, w4, w5, w6, w7, w8, w9, w10, w11, w12, w13, w14, w15, w16, w17, w18, w19, w20, w21, w22, w23, w24, w25, w26, w27, .ref qo, .ref qr, .ref qi, w31])), (qo, .inl (ko, 4, .inl g8)), (qr, .inl (kr, 4, .inl g10)), (qi, .inl (ki, 240, .inl g14))] H := hP
                  have hD : va_D A [(h0, .inr (9, [w0, w1, w2, w3, w4, w5, w6, w7, w8, w9, w10, w11, w12, w13, w14, w15, w16, w17, w18, w19, w20, w21, w22, w23, w24, w25, w26, w27, .ref qo, .ref qr, .ref qi, w31])), (qo, .inl (ko, 4, .inl g8)), (qr, .inl (kr, 4, .inl g10)), (qi, .inl (ki, 240, .inl g14))] := hD
                  obtain ⟨x15, e_x15⟩ : ∃ y : Int32, y = x_71 + 1 := ⟨_, rfl⟩
                  refine lv_iinc (v := x15) (lv' := [(4, .int x15), (0, .ref h0), (1, .int p0), (2, .int p1), (3, .int p2)]) hx hb dX10_sheet_91 hl (k := 0) rfl (by rw [e_x15]; rfl) (by decide) rfl (fun ls hl => ?_)
                  refine lv_goto (tgt := 71) hx hb dX10_sheet_94 (by decide) ?_
                  exact ih_71 (i_71 + 1) x15 (by omega) (by omega) (by rw [e_x15, e_x_71]; exact nI_1 i_71) g14  _ _ (hK.sub [0, 1, 2] rfl) (hP.sub [0, 1, 2, 3] rfl) (hD.sub [0, 1, 2, 3] (by decide) rfl) hS ls (lv_sub hl [0, 1, 2, 3, 4] rfl)
            exact loop_71 (60 + 1) 0 0 (by omega) (by omega) rfl fi  _ _ hK hP hD hS ls hl
          · skip
            have f_c9 := i_eq c9
            refine lv_iconst (v := 0) hx hb dX10_sheet_62 (by decide) ?_
            refine lv_goto (tgt := 67) hx hb dX10_sheet_63 (by decide) ?_
            refine va_iast (D := (dC, dI)) hx hb hK hP hD hS 2 1 rfl rfl (vp_in_iff.mpr ⟨by omega, by omega⟩) dX10_sheet_67 (fun H locs hP hD hS => ?_)
            generalize e_g16 : (upd fr (p0).toNatClampNeg 0) = g16 at hP hD
            have hP : va_P (dC, dI) vwCl [(h0, .inr (9, [w0, w1, w2, w3, w4, w5, w6, w7, w8, w9, w10, w11, w12, w13, w14, w15, w16, w17, w18, w19, w20, w21, w22, w23, w24, w25, w26, w27, .ref qo, .ref qr, .ref qi, w31])), (qo, .inl (ko, 4, .inl g8)), (qr, .inl (kr, 4, .inl g16)), (qi, .inl (ki, 240, .inl fi))] H := hP
            have hD : va_D A [(h0, .inr (9, [w0, w1, w2, w3, w4, w5, w6, w7, w8, w9, w10, w11, w12, w13, w14, w15, w16, w17, w18, w19, w20, w21, w22, w23, w24, w25, w26, w27, .ref qo, .ref qr, .ref qi, w31])), (qo, .inl (ko, 4, .inl g8)), (qr, .inl (kr, 4, .inl g16)), (qi, .inl (ki, 240, .inl fi))] := hD
            refine lv_iconst (v := 0) hx hb dX10_sheet_68 (by decide) ?_
            refine lv_istore (lv' := [(4, .int 0), (0, .ref h0), (1, .int p0), (2, .int p1), (3, .int p2)]) hx hb dX10_sheet_69 hl (by decide) rfl (fun ls hl => ?_)
            have loop_71 : ∀ (n i_71 : Nat) (x_71 : Int32), i_71 ≤ 60 → 60 < i_71 + n → x_71 = nI i_71 → ∀ (gi : Nat → Int32), ∀ (H : Heap) (locs : List Loc), va_K (dC, dI) vwCl [(ko, .int), (kr, .int), (ki, .int)] s → va_P (dC, dI) vwCl [(h0, .inr (9, [w0, w1, w2, w3, w4, w5, w6, w7, w8, w9, w10, w11, w12, w13, w14, w15, w16, w17, w18, w19, w20, w21, w22, w23, w24, w25, w26, w27, .ref qo, .ref qr, .ref qi, w31])), (qo, .inl (ko, 4, .inl g8)), (qr, .inl (kr, 4, .inl g16)), (qi, .inl (ki, 240, .inl gi))] H → va_D A [(h0, .inr (9, [w0, w1, w2, w3, w4, w5, w6, w7, w8, w9, w10, w11, w12, w13, w14, w15, w16, w17, w18, w19, w20, w21, w22, w23, w24, w25, w26, w27, .ref qo, .ref qr, .ref qi, w31])), (qo, .inl (ko, 4, .inl g8)), (qr, .inl (kr, 4, .inl g16)), (qi, .inl (ki, 240, .inl gi))] → va_S A s.heap H locs → ∀ (ls : Array Slot), lv_has ls 5 [(4, .int x_71), (0, .ref h0), (1, .int p0), (2, .int p1), (3, .int p2)] → W p l e ({ frames := 2, cells := 0, slots := 0, locals := 45 }) s m (([.ref h0, .int p0, .int p1, .int p2] : List Value).toArray) below meth c H locs 0 0 (MQ below (va_Qi (fun (r : Int32) (_ : Unit) => (r = 1 ∧ (0 ≤ p0.toInt ∧ p0.toInt < 4 ∧ -1 ≤ p1.toInt ∧ p1.toInt ≤ 1 ∧ (p1.toInt = -1 ∨ p2.toInt ≤ 60)) ∧ ¬(p1.toInt ≠ -1 ∧ p2.toInt < 0)) ∨ (r = (-14) ∧ (0 ≤ p0.toInt ∧ p0.toInt < 4 ∧ -1 ≤ p1.toInt ∧ p1.toInt ≤ 1 ∧ (p1.toInt = -1 ∨ p2.toInt ≤ 60)) ∧ (p1.toInt ≠ -1 ∧ p2.toInt < 0)) ∨ (r = (-2) ∧ ¬(0 ≤ p0.toInt ∧ p0.toInt < 4 ∧ -1 ≤ p1.toInt ∧ p1.toInt ≤ 1 ∧ (p1.toInt = -1 ∨ p2.toInt ≤ 60)))) (fun (_ : Unit) (t : State) => va_P (dC, dI) vwCl [] t.heap ∧ va_K (dC, dI) vwCl [] t ∧ va_D A []) A) (([.ref h0, .int p0, .int p1, .int p2] : List Value).toArray) s 0 0 A) (F0 m 71 ls []) := by
              intro n
              induction n with
              | zero => intro i_71 x_71 h1 h2; exact absurd h2 (by omega)
              | succ n ih_71 =>
                intro i_71 x_71 hi_71 hn_71 e_x_71 gi H locs hK hP hD hS ls hl
                have t_x_71 : x_71.toInt = (i_71 : Int) := by rw [e_x_71]; exact nI_toInt (by omega)
                refine lv_iload hx hb dX10_sheet_71 (lv_at hl 0 rfl) ?_
                refine lv_bipush (v := 60) hx hb dX10_sheet_73 (by decide) ?_
                refine lv_icmp_ge (tgt := 97) hx hb dX10_sheet_75 (by decide) (fun c17 => ?_) (fun c17 => ?_)
                · skip
                  have f_c17 := i_le c17
                  refine lv_iconst (v := 1) hx hb dX10_sheet_97 (by decide) ?_
                  have hP9 := hP.sub (ws' := []) [] rfl
                  have hD9 := hD.sub (ws' := []) [] (by decide) rfl
                  have hK9 := hK.sub (tys' := []) [] rfl
                  exact W.iret (v := 1) hx hb hr (fun t ht hW => ⟨⟨1, (), rfl, Or.inl ⟨rfl, by omega⟩, by rw [ht]; exact hP9, va_K.moved hW.alike hK9, hD9⟩, hS.F ht⟩) hS.2.2 dX10_sheet_98
                · skip
                  have f_c17 := i_nle c17
                  refine lv_aload_n hx hb dX10_sheet_78 rfl (lv_at hl 1 rfl) ?_
                  refine va_get (D := (dC, dI)) (ci := 9) (v := .ref qi) (C := RX10) (T := TX10) (N := 32) hx hb hts in_X10_sheet_X10 hown hK hP 0 rfl rfl 30 (by decide) (hts (.fieldLink RX10 61 "ClearingGatesModel" "items" "[I") (List.mem_of_getElem? (i := 4) (by decide +kernel))) (fun _ h9 => h9) rfl dX10_sheet_79 ?_
                  refine lv_bipush (v := 60) hx hb dX10_sheet_82 (by decide) ?_
                  refine lv_iload_n hx hb dX10_sheet_84 rfl (lv_at hl 2 rfl) ?_
                  refine lv_imul hx hb dX10_sheet_85 ?_
                  refine lv_topi (fun z18 e_z18 => ?_)
                  have t_z18 := i_mulc e_z18 k_60 (by omega) (by omega)
                  refine lv_iload hx hb dX10_sheet_86 (lv_at hl 0 rfl) ?_
                  refine lv_iadd hx hb dX10_sheet_88 ?_
                  refine lv_topi (fun z19 e_z19 => ?_)
                  have t_z19 := i_add e_z19 (by omega) (by omega)
                  refine lv_iconst (v := 0) hx hb dX10_sheet_89 (by decide) ?_
                  refine va_iast (D := (dC, dI)) hx hb hK hP hD hS 3 2 rfl rfl (vp_in_iff.mpr ⟨by omega, by omega⟩) dX10_sheet_90 (fun H locs hP hD hS => ?_)
                  generalize e_g20 : (upd gi (z19).toNatClampNeg 0) = g20 at hP hD
                  have hP : va_P (dC, dI) vwCl [(h0, .inr (9, [w0, w1, w2, w3, w4, w5, w6, w7, w8, w9, w10, w11, w12, w13, w14, w15, w16, w17, w18, w19, w20, w21, w22, w23, w24, w25, w26, w27, .ref qo, .ref qr, .ref qi, w31])), (qo, .inl (ko, 4, .inl g8)), (qr, .inl (kr, 4, .inl g16)), (qi, .inl (ki, 240, .inl g20))] H := hP
                  have hD : va_D A [(h0, .inr (9, [w0, w1, w2, w3, w4, w5, w6, w7, w8, w9, w10, w11, w12, w13, w14, w15, w16, w17, w18, w19, w20, w21, w22, w23, w24, w25, w26, w27, .ref qo, .ref qr, .ref qi, w31])), (qo, .inl (ko, 4, .inl g8)), (qr, .inl (kr, 4, .inl g16)), (qi, .inl (ki, 240, .inl g20))] := hD
                  obtain ⟨x21, e_x21⟩ : ∃ y : Int32, y = x_71 + 1 := ⟨_, rfl⟩
                  refine lv_iinc (v := x21) (lv' := [(4, .int x21), (0, .ref h0), (1, .int p0), (2, .int p1), (3, .int p2)]) hx hb dX10_sheet_91 hl (k := 0) rfl (by rw [e_x21]; rfl) (by decide) rfl (fun ls hl => ?_)
                  refine lv_goto (tgt := 71) hx hb dX10_sheet_94 (by decide) ?_
                  exact ih_71 (i_71 + 1) x21 (by omega) (by omega) (by rw [e_x21, e_x_71]; exact nI_1 i_71) g20  _ _ (hK.sub [0, 1, 2] rfl) (hP.sub [0, 1, 2, 3] rfl) (hD.sub [0, 1, 2, 3] (by decide) rfl) hS ls (lv_sub hl [0, 1, 2, 3, 4] rfl)
            exact loop_71 (60 + 1) 0 0 (by omega) (by omega) rfl fi  _ _ hK hP hD hS ls hl
        · skip
          have f_c7 := i_ne c7
          refine lv_iload_n hx hb dX10_sheet_38 rfl (lv_at hl 3 rfl) ?_
          refine lv_if_ge (tgt := 45) hx hb dX10_sheet_39 (by decide) (fun c22 => ?_) (fun c22 => ?_)
          · skip
            have f_c22 := i_le c22
            refine lv_aload_n hx hb dX10_sheet_45 rfl (lv_at hl 0 rfl) ?_
            refine va_get (D := (dC, dI)) (ci := 9) (v := .ref qo) (C := RX10) (T := TX10) (N := 32) hx hb hts in_X10_sheet_X10 hown hK hP 0 rfl rfl 28 (by decide) (hts (.fieldLink RX10 55 "ClearingGatesModel" "sorts" "[I") (List.mem_of_getElem? (i := 2) (by decide +kernel))) (fun _ h9 => h9) rfl dX10_sheet_46 ?_
            refine lv_iload_n hx hb dX10_sheet_49 rfl (lv_at hl 1 rfl) ?_
            refine lv_iload_n hx hb dX10_sheet_50 rfl (lv_at hl 2 rfl) ?_
            refine va_iast (D := (dC, dI)) hx hb hK hP hD hS 1 0 rfl rfl (vp_in_iff.mpr ⟨by omega, by omega⟩) dX10_sheet_51 (fun H locs hP hD hS => ?_)
            generalize e_g23 : (upd fso (p0).toNatClampNeg p1) = g23 at hP hD
            have hP : va_P (dC, dI) vwCl [(h0, .inr (9, [w0, w1, w2, w3, w4, w5, w6, w7, w8, w9, w10, w11, w12, w13, w14, w15, w16, w17, w18, w19, w20, w21, w22, w23, w24, w25, w26, w27, .ref qo, .ref qr, .ref qi, w31])), (qo, .inl (ko, 4, .inl g23)), (qr, .inl (kr, 4, .inl fr)), (qi, .inl (ki, 240, .inl fi))] H := hP
            have hD : va_D A [(h0, .inr (9, [w0, w1, w2, w3, w4, w5, w6, w7, w8, w9, w10, w11, w12, w13, w14, w15, w16, w17, w18, w19, w20, w21, w22, w23, w24, w25, w26, w27, .ref qo, .ref qr, .ref qi, w31])), (qo, .inl (ko, 4, .inl g23)), (qr, .inl (kr, 4, .inl fr)), (qi, .inl (ki, 240, .inl fi))] := hD
            refine lv_aload_n hx hb dX10_sheet_52 rfl (lv_at hl 0 rfl) ?_
            refine va_get (D := (dC, dI)) (ci := 9) (v := .ref qr) (C := RX10) (T := TX10) (N := 32) hx hb hts in_X10_sheet_X10 hown hK hP 0 rfl rfl 29 (by decide) (hts (.fieldLink RX10 58 "ClearingGatesModel" "rowMany" "[I") (List.mem_of_getElem? (i := 3) (by decide +kernel))) (fun _ h9 => h9) rfl dX10_sheet_53 ?_
            refine lv_iload_n hx hb dX10_sheet_56 rfl (lv_at hl 1 rfl) ?_
            refine lv_iload_n hx hb dX10_sheet_57 rfl (lv_at hl 2 rfl) ?_
            refine lv_iconst (v := -1) hx hb dX10_sheet_58 (by decide) ?_
            refine lv_icmp_ne (tgt := 66) hx hb dX10_sheet_59 (by decide) (fun c24 => ?_) (fun c24 => ?_)
            · skip
              have f_c24 := i_ne c24
              refine lv_iload_n hx hb dX10_sheet_66 rfl (lv_at hl 3 rfl) ?_
              refine va_iast (D := (dC, dI)) hx hb hK hP hD hS 2 1 rfl rfl (vp_in_iff.mpr ⟨by omega, by omega⟩) dX10_sheet_67 (fun H locs hP hD hS => ?_)
              generalize e_g25 : (upd fr (p0).toNatClampNeg p2) = g25 at hP hD
              have hP : va_P (dC, dI) vwCl [(h0, .inr (9, [w0, w1, w2, w3, w4, w5, w6, w7, w8, w9, w10, w11, w12, w13, w14, w15, w16, w17, w18, w19, w20, w21, w22, w23, w24, w25, w26, w27, .ref qo, .ref qr, .ref qi, w31])), (qo, .inl (ko, 4, .inl g23)), (qr, .inl (kr, 4, .inl g25)), (qi, .inl (ki, 240, .inl fi))] H := hP
              have hD : va_D A [(h0, .inr (9, [w0, w1, w2, w3, w4, w5, w6, w7, w8, w9, w10, w11, w12, w13, w14, w15, w16, w17, w18, w19, w20, w21, w22, w23, w24, w25, w26, w27, .ref qo, .ref qr, .ref qi, w31])), (qo, .inl (ko, 4, .inl g23)), (qr, .inl (kr, 4, .inl g25)), (qi, .inl (ki, 240, .inl fi))] := hD
              refine lv_iconst (v := 0) hx hb dX10_sheet_68 (by decide) ?_
              refine lv_istore (lv' := [(4, .int 0), (0, .ref h0), (1, .int p0), (2, .int p1), (3, .int p2)]) hx hb dX10_sheet_69 hl (by decide) rfl (fun ls hl => ?_)
              have loop_71 : ∀ (n i_71 : Nat) (x_71 : Int32), i_71 ≤ 60 → 60 < i_71 + n → x_71 = nI i_71 → ∀ (gi : Nat → Int32), ∀ (H : Heap) (locs : List Loc), va_K (dC, dI) vwCl [(ko, .int), (kr, .int), (ki, .int)] s → va_P (dC, dI) vwCl [(h0, .inr (9, [w0, w1, w2, w3, w4, w5, w6, w7, w8, w9, w10, w11, w12, w13, w14, w15, w16, w17, w18, w19, w20, w21, w22, w23, w24, w25, w26, w27, .ref qo, .ref qr, .ref qi, w31])), (qo, .inl (ko, 4, .inl g23)), (qr, .inl (kr, 4, .inl g25)), (qi, .inl (ki, 240, .inl gi))] H → va_D A [(h0, .inr (9, [w0, w1, w2, w3, w4, w5, w6, w7, w8, w9, w10, w11, w12, w13, w14, w15, w16, w17, w18, w19, w20, w21, w22, w23, w24, w25, w26, w27, .ref qo, .ref qr, .ref qi, w31])), (qo, .inl (ko, 4, .inl g23)), (qr, .inl (kr, 4, .inl g25)), (qi, .inl (ki, 240, .inl gi))] → va_S A s.heap H locs → ∀ (ls : Array Slot), lv_has ls 5 [(4, .int x_71), (0, .ref h0), (1, .int p0), (2, .int p1), (3, .int p2)] → W p l e ({ frames := 2, cells := 0, slots := 0, locals := 45 }) s m (([.ref h0, .int p0, .int p1, .int p2] : List Value).toArray) below meth c H locs 0 0 (MQ below (va_Qi (fun (r : Int32) (_ : Unit) => (r = 1 ∧ (0 ≤ p0.toInt ∧ p0.toInt < 4 ∧ -1 ≤ p1.toInt ∧ p1.toInt ≤ 1 ∧ (p1.toInt = -1 ∨ p2.toInt ≤ 60)) ∧ ¬(p1.toInt ≠ -1 ∧ p2.toInt < 0)) ∨ (r = (-14) ∧ (0 ≤ p0.toInt ∧ p0.toInt < 4 ∧ -1 ≤ p1.toInt ∧ p1.toInt ≤ 1 ∧ (p1.toInt = -1 ∨ p2.toInt ≤ 60)) ∧ (p1.toInt ≠ -1 ∧ p2.toInt < 0)) ∨ (r = (-2) ∧ ¬(0 ≤ p0.toInt ∧ p0.toInt < 4 ∧ -1 ≤ p1.toInt ∧ p1.toInt ≤ 1 ∧ (p1.toInt = -1 ∨ p2.toInt ≤ 60)))) (fun (_ : Unit) (t : State) => va_P (dC, dI) vwCl [] t.heap ∧ va_K (dC, dI) vwCl [] t ∧ va_D A []) A) (([.ref h0, .int p0, .int p1, .int p2] : List Value).toArray) s 0 0 A) (F0 m 71 ls []) := by
                intro n
                induction n with
                | zero => intro i_71 x_71 h1 h2; exact absurd h2 (by omega)
                | succ n ih_71 =>
                  intro i_71 x_71 hi_71 hn_71 e_x_71 gi H locs hK hP hD hS ls hl
                  have t_x_71 : x_71.toInt = (i_71 : Int) := by rw [e_x_71]; exact nI_toInt (by omega)
                  refine lv_iload hx hb dX10_sheet_71 (lv_at hl 0 rfl) ?_
                  refine lv_bipush (v := 60) hx hb dX10_sheet_73 (by decide) ?_
                  refine lv_icmp_ge (tgt := 97) hx hb dX10_sheet_75 (by decide) (fun c26 => ?_) (fun c26 => ?_)
                  · skip
                    have f_c26 := i_le c26
                    refine lv_iconst (v := 1) hx hb dX10_sheet_97 (by decide) ?_
                    have hP9 := hP.sub (ws' := []) [] rfl
                    have hD9 := hD.sub (ws' := []) [] (by decide) rfl
                    have hK9 := hK.sub (tys' := []) [] rfl
                    exact W.iret (v := 1) hx hb hr (fun t ht hW => ⟨⟨1, (), rfl, Or.inl ⟨rfl, by omega⟩, by rw [ht]; exact hP9, va_K.moved hW.alike hK9, hD9⟩, hS.F ht⟩) hS.2.2 dX10_sheet_98
                  · skip
                    have f_c26 := i_nle c26
                    refine lv_aload_n hx hb dX10_sheet_78 rfl (lv_at hl 1 rfl) ?_
                    refine va_get (D := (dC, dI)) (ci := 9) (v := .ref qi) (C := RX10) (T := TX10) (N := 32) hx hb hts in_X10_sheet_X10 hown hK hP 0 rfl rfl 30 (by decide) (hts (.fieldLink RX10 61 "ClearingGatesModel" "items" "[I") (List.mem_of_getElem? (i := 4) (by decide +kernel))) (fun _ h9 => h9) rfl dX10_sheet_79 ?_
                    refine lv_bipush (v := 60) hx hb dX10_sheet_82 (by decide) ?_
                    refine lv_iload_n hx hb dX10_sheet_84 rfl (lv_at hl 2 rfl) ?_
                    refine lv_imul hx hb dX10_sheet_85 ?_
                    refine lv_topi (fun z27 e_z27 => ?_)
                    have t_z27 := i_mulc e_z27 k_60 (by omega) (by omega)
                    refine lv_iload hx hb dX10_sheet_86 (lv_at hl 0 rfl) ?_
                    refine lv_iadd hx hb dX10_sheet_88 ?_
                    refine lv_topi (fun z28 e_z28 => ?_)
                    have t_z28 := i_add e_z28 (by omega) (by omega)
                    refine lv_iconst (v := 0) hx hb dX10_sheet_89 (by decide) ?_
                    refine va_iast (D := (dC, dI)) hx hb hK hP hD hS 3 2 rfl rfl (vp_in_iff.mpr ⟨by omega, by omega⟩) dX10_sheet_90 (fun H locs hP hD hS => ?_)
                    generalize e_g29 : (upd gi (z28).toNatClampNeg 0) = g29 at hP hD
                    have hP : va_P (dC, dI) vwCl [(h0, .inr (9, [w0, w1, w2, w3, w4, w5, w6, w7, w8, w9, w10, w11, w12, w13, w14, w15, w16, w17, w18, w19, w20, w21, w22, w23, w24, w25, w26, w27, .ref qo, .ref qr, .ref qi, w31])), (qo, .inl (ko, 4, .inl g23)), (qr, .inl (kr, 4, .inl g25)), (qi, .inl (ki, 240, .inl g29))] H := hP
                    have hD : va_D A [(h0, .inr (9, [w0, w1, w2, w3, w4, w5, w6, w7, w8, w9, w10, w11, w12, w13, w14, w15, w16, w17, w18, w19, w20, w21, w22, w23, w24, w25, w26, w27, .ref qo, .ref qr, .ref qi, w31])), (qo, .inl (ko, 4, .inl g23)), (qr, .inl (kr, 4, .inl g25)), (qi, .inl (ki, 240, .inl g29))] := hD
                    obtain ⟨x30, e_x30⟩ : ∃ y : Int32, y = x_71 + 1 := ⟨_, rfl⟩
                    refine lv_iinc (v := x30) (lv' := [(4, .int x30), (0, .ref h0), (1, .int p0), (2, .int p1), (3, .int p2)]) hx hb dX10_sheet_91 hl (k := 0) rfl (by rw [e_x30]; rfl) (by decide) rfl (fun ls hl => ?_)
                    refine lv_goto (tgt := 71) hx hb dX10_sheet_94 (by decide) ?_
                    exact ih_71 (i_71 + 1) x30 (by omega) (by omega) (by rw [e_x30, e_x_71]; exact nI_1 i_71) g29  _ _ (hK.sub [0, 1, 2] rfl) (hP.sub [0, 1, 2, 3] rfl) (hD.sub [0, 1, 2, 3] (by decide) rfl) hS ls (lv_sub hl [0, 1, 2, 3, 4] rfl)
              exact loop_71 (60 + 1) 0 0 (by omega) (by omega) rfl fi  _ _ hK hP hD hS ls hl
            · skip
              have f_c24 := i_eq c24
              refine lv_iconst (v := 0) hx hb dX10_sheet_62 (by decide) ?_
              refine lv_goto (tgt := 67) hx hb dX10_sheet_63 (by decide) ?_
              refine va_iast (D := (dC, dI)) hx hb hK hP hD hS 2 1 rfl rfl (vp_in_iff.mpr ⟨by omega, by omega⟩) dX10_sheet_67 (fun H locs hP hD hS => ?_)
              generalize e_g31 : (upd fr (p0).toNatClampNeg 0) = g31 at hP hD
              have hP : va_P (dC, dI) vwCl [(h0, .inr (9, [w0, w1, w2, w3, w4, w5, w6, w7, w8, w9, w10, w11, w12, w13, w14, w15, w16, w17, w18, w19, w20, w21, w22, w23, w24, w25, w26, w27, .ref qo, .ref qr, .ref qi, w31])), (qo, .inl (ko, 4, .inl g23)), (qr, .inl (kr, 4, .inl g31)), (qi, .inl (ki, 240, .inl fi))] H := hP
              have hD : va_D A [(h0, .inr (9, [w0, w1, w2, w3, w4, w5, w6, w7, w8, w9, w10, w11, w12, w13, w14, w15, w16, w17, w18, w19, w20, w21, w22, w23, w24, w25, w26, w27, .ref qo, .ref qr, .ref qi, w31])), (qo, .inl (ko, 4, .inl g23)), (qr, .inl (kr, 4, .inl g31)), (qi, .inl (ki, 240, .inl fi))] := hD
              refine lv_iconst (v := 0) hx hb dX10_sheet_68 (by decide) ?_
              refine lv_istore (lv' := [(4, .int 0), (0, .ref h0), (1, .int p0), (2, .int p1), (3, .int p2)]) hx hb dX10_sheet_69 hl (by decide) rfl (fun ls hl => ?_)
              have loop_71 : ∀ (n i_71 : Nat) (x_71 : Int32), i_71 ≤ 60 → 60 < i_71 + n → x_71 = nI i_71 → ∀ (gi : Nat → Int32), ∀ (H : Heap) (locs : List Loc), va_K (dC, dI) vwCl [(ko, .int), (kr, .int), (ki, .int)] s → va_P (dC, dI) vwCl [(h0, .inr (9, [w0, w1, w2, w3, w4, w5, w6, w7, w8, w9, w10, w11, w12, w13, w14, w15, w16, w17, w18, w19, w20, w21, w22, w23, w24, w25, w26, w27, .ref qo, .ref qr, .ref qi, w31])), (qo, .inl (ko, 4, .inl g23)), (qr, .inl (kr, 4, .inl g31)), (qi, .inl (ki, 240, .inl gi))] H → va_D A [(h0, .inr (9, [w0, w1, w2, w3, w4, w5, w6, w7, w8, w9, w10, w11, w12, w13, w14, w15, w16, w17, w18, w19, w20, w21, w22, w23, w24, w25, w26, w27, .ref qo, .ref qr, .ref qi, w31])), (qo, .inl (ko, 4, .inl g23)), (qr, .inl (kr, 4, .inl g31)), (qi, .inl (ki, 240, .inl gi))] → va_S A s.heap H locs → ∀ (ls : Array Slot), lv_has ls 5 [(4, .int x_71), (0, .ref h0), (1, .int p0), (2, .int p1), (3, .int p2)] → W p l e ({ frames := 2, cells := 0, slots := 0, locals := 45 }) s m (([.ref h0, .int p0, .int p1, .int p2] : List Value).toArray) below meth c H locs 0 0 (MQ below (va_Qi (fun (r : Int32) (_ : Unit) => (r = 1 ∧ (0 ≤ p0.toInt ∧ p0.toInt < 4 ∧ -1 ≤ p1.toInt ∧ p1.toInt ≤ 1 ∧ (p1.toInt = -1 ∨ p2.toInt ≤ 60)) ∧ ¬(p1.toInt ≠ -1 ∧ p2.toInt < 0)) ∨ (r = (-14) ∧ (0 ≤ p0.toInt ∧ p0.toInt < 4 ∧ -1 ≤ p1.toInt ∧ p1.toInt ≤ 1 ∧ (p1.toInt = -1 ∨ p2.toInt ≤ 60)) ∧ (p1.toInt ≠ -1 ∧ p2.toInt < 0)) ∨ (r = (-2) ∧ ¬(0 ≤ p0.toInt ∧ p0.toInt < 4 ∧ -1 ≤ p1.toInt ∧ p1.toInt ≤ 1 ∧ (p1.toInt = -1 ∨ p2.toInt ≤ 60)))) (fun (_ : Unit) (t : State) => va_P (dC, dI) vwCl [] t.heap ∧ va_K (dC, dI) vwCl [] t ∧ va_D A []) A) (([.ref h0, .int p0, .int p1, .int p2] : List Value).toArray) s 0 0 A) (F0 m 71 ls []) := by
                intro n
                induction n with
                | zero => intro i_71 x_71 h1 h2; exact absurd h2 (by omega)
                | succ n ih_71 =>
                  intro i_71 x_71 hi_71 hn_71 e_x_71 gi H locs hK hP hD hS ls hl
                  have t_x_71 : x_71.toInt = (i_71 : Int) := by rw [e_x_71]; exact nI_toInt (by omega)
                  refine lv_iload hx hb dX10_sheet_71 (lv_at hl 0 rfl) ?_
                  refine lv_bipush (v := 60) hx hb dX10_sheet_73 (by decide) ?_
                  refine lv_icmp_ge (tgt := 97) hx hb dX10_sheet_75 (by decide) (fun c32 => ?_) (fun c32 => ?_)
                  · skip
                    have f_c32 := i_le c32
                    refine lv_iconst (v := 1) hx hb dX10_sheet_97 (by decide) ?_
                    have hP9 := hP.sub (ws' := []) [] rfl
                    have hD9 := hD.sub (ws' := []) [] (by decide) rfl
                    have hK9 := hK.sub (tys' := []) [] rfl
                    exact W.iret (v := 1) hx hb hr (fun t ht hW => ⟨⟨1, (), rfl, Or.inl ⟨rfl, by omega⟩, by rw [ht]; exact hP9, va_K.moved hW.alike hK9, hD9⟩, hS.F ht⟩) hS.2.2 dX10_sheet_98
                  · skip
                    have f_c32 := i_nle c32
                    refine lv_aload_n hx hb dX10_sheet_78 rfl (lv_at hl 1 rfl) ?_
                    refine va_get (D := (dC, dI)) (ci := 9) (v := .ref qi) (C := RX10) (T := TX10) (N := 32) hx hb hts in_X10_sheet_X10 hown hK hP 0 rfl rfl 30 (by decide) (hts (.fieldLink RX10 61 "ClearingGatesModel" "items" "[I") (List.mem_of_getElem? (i := 4) (by decide +kernel))) (fun _ h9 => h9) rfl dX10_sheet_79 ?_
                    refine lv_bipush (v := 60) hx hb dX10_sheet_82 (by decide) ?_
                    refine lv_iload_n hx hb dX10_sheet_84 rfl (lv_at hl 2 rfl) ?_
                    refine lv_imul hx hb dX10_sheet_85 ?_
                    refine lv_topi (fun z33 e_z33 => ?_)
                    have t_z33 := i_mulc e_z33 k_60 (by omega) (by omega)
                    refine lv_iload hx hb dX10_sheet_86 (lv_at hl 0 rfl) ?_
                    refine lv_iadd hx hb dX10_sheet_88 ?_
                    refine lv_topi (fun z34 e_z34 => ?_)
                    have t_z34 := i_add e_z34 (by omega) (by omega)
                    refine lv_iconst (v := 0) hx hb dX10_sheet_89 (by decide) ?_
                    refine va_iast (D := (dC, dI)) hx hb hK hP hD hS 3 2 rfl rfl (vp_in_iff.mpr ⟨by omega, by omega⟩) dX10_sheet_90 (fun H locs hP hD hS => ?_)
                    generalize e_g35 : (upd gi (z34).toNatClampNeg 0) = g35 at hP hD
                    have hP : va_P (dC, dI) vwCl [(h0, .inr (9, [w0, w1, w2, w3, w4, w5, w6, w7, w8, w9, w10, w11, w12, w13, w14, w15, w16, w17, w18, w19, w20, w21, w22, w23, w24, w25, w26, w27, .ref qo, .ref qr, .ref qi, w31])), (qo, .inl (ko, 4, .inl g23)), (qr, .inl (kr, 4, .inl g31)), (qi, .inl (ki, 240, .inl g35))] H := hP
                    have hD : va_D A [(h0, .inr (9, [w0, w1, w2, w3, w4, w5, w6, w7, w8, w9, w10, w11, w12, w13, w14, w15, w16, w17, w18, w19, w20, w21, w22, w23, w24, w25, w26, w27, .ref qo, .ref qr, .ref qi, w31])), (qo, .inl (ko, 4, .inl g23)), (qr, .inl (kr, 4, .inl g31)), (qi, .inl (ki, 240, .inl g35))] := hD
                    obtain ⟨x36, e_x36⟩ : ∃ y : Int32, y = x_71 + 1 := ⟨_, rfl⟩
                    refine lv_iinc (v := x36) (lv' := [(4, .int x36), (0, .ref h0), (1, .int p0), (2, .int p1), (3, .int p2)]) hx hb dX10_sheet_91 hl (k := 0) rfl (by rw [e_x36]; rfl) (by decide) rfl (fun ls hl => ?_)
                    refine lv_goto (tgt := 71) hx hb dX10_sheet_94 (by decide) ?_
                    exact ih_71 (i_71 + 1) x36 (by omega) (by omega) (by rw [e_x36, e_x_71]; exact nI_1 i_71) g35  _ _ (hK.sub [0, 1, 2] rfl) (hP.sub [0, 1, 2, 3] rfl) (hD.sub [0, 1, 2, 3] (by decide) rfl) hS ls (lv_sub hl [0, 1, 2, 3, 4] rfl)
              exact loop_71 (60 + 1) 0 0 (by omega) (by omega) rfl fi  _ _ hK hP hD hS ls hl
          · skip
            have f_c22 := i_nle c22
            refine lv_bipush (v := -14) hx hb dX10_sheet_42 (by decide) ?_
            have hP9 := hP.sub (ws' := []) [] rfl
            have hD9 := hD.sub (ws' := []) [] (by decide) rfl
            have hK9 := hK.sub (tys' := []) [] rfl
            exact W.iret (v := (-14)) hx hb hr (fun t ht hW => ⟨⟨(-14), (), rfl, Or.inr (Or.inl ⟨rfl, by omega⟩), by rw [ht]; exact hP9, va_K.moved hW.alike hK9, hD9⟩, hS.F ht⟩) hS.2.2 dX10_sheet_44
      · skip
        have f_c6 := i_ne c6
        refine lv_iload_n hx hb dX10_sheet_24 rfl (lv_at hl 3 rfl) ?_
        refine lv_bipush (v := 60) hx hb dX10_sheet_25 (by decide) ?_
        refine lv_icmp_le (tgt := 33) hx hb dX10_sheet_27 (by decide) (fun c37 => ?_) (fun c37 => ?_)
        · skip
          have f_c37 := i_le c37
          refine lv_iload_n hx hb dX10_sheet_33 rfl (lv_at hl 2 rfl) ?_
          refine lv_iconst (v := -1) hx hb dX10_sheet_34 (by decide) ?_
          refine lv_icmp_eq (tgt := 45) hx hb dX10_sheet_35 (by decide) (fun c38 => ?_) (fun c38 => ?_)
          · skip
            have f_c38 := i_eq c38
            refine lv_aload_n hx hb dX10_sheet_45 rfl (lv_at hl 0 rfl) ?_
            refine va_get (D := (dC, dI)) (ci := 9) (v := .ref qo) (C := RX10) (T := TX10) (N := 32) hx hb hts in_X10_sheet_X10 hown hK hP 0 rfl rfl 28 (by decide) (hts (.fieldLink RX10 55 "ClearingGatesModel" "sorts" "[I") (List.mem_of_getElem? (i := 2) (by decide +kernel))) (fun _ h9 => h9) rfl dX10_sheet_46 ?_
            refine lv_iload_n hx hb dX10_sheet_49 rfl (lv_at hl 1 rfl) ?_
            refine lv_iload_n hx hb dX10_sheet_50 rfl (lv_at hl 2 rfl) ?_
            refine va_iast (D := (dC, dI)) hx hb hK hP hD hS 1 0 rfl rfl (vp_in_iff.mpr ⟨by omega, by omega⟩) dX10_sheet_51 (fun H locs hP hD hS => ?_)
            generalize e_g39 : (upd fso (p0).toNatClampNeg p1) = g39 at hP hD
            have hP : va_P (dC, dI) vwCl [(h0, .inr (9, [w0, w1, w2, w3, w4, w5, w6, w7, w8, w9, w10, w11, w12, w13, w14, w15, w16, w17, w18, w19, w20, w21, w22, w23, w24, w25, w26, w27, .ref qo, .ref qr, .ref qi, w31])), (qo, .inl (ko, 4, .inl g39)), (qr, .inl (kr, 4, .inl fr)), (qi, .inl (ki, 240, .inl fi))] H := hP
            have hD : va_D A [(h0, .inr (9, [w0, w1, w2, w3, w4, w5, w6, w7, w8, w9, w10, w11, w12, w13, w14, w15, w16, w17, w18, w19, w20, w21, w22, w23, w24, w25, w26, w27, .ref qo, .ref qr, .ref qi, w31])), (qo, .inl (ko, 4, .inl g39)), (qr, .inl (kr, 4, .inl fr)), (qi, .inl (ki, 240, .inl fi))] := hD
            refine lv_aload_n hx hb dX10_sheet_52 rfl (lv_at hl 0 rfl) ?_
            refine va_get (D := (dC, dI)) (ci := 9) (v := .ref qr) (C := RX10) (T := TX10) (N := 32) hx hb hts in_X10_sheet_X10 hown hK hP 0 rfl rfl 29 (by decide) (hts (.fieldLink RX10 58 "ClearingGatesModel" "rowMany" "[I") (List.mem_of_getElem? (i := 3) (by decide +kernel))) (fun _ h9 => h9) rfl dX10_sheet_53 ?_
            refine lv_iload_n hx hb dX10_sheet_56 rfl (lv_at hl 1 rfl) ?_
            refine lv_iload_n hx hb dX10_sheet_57 rfl (lv_at hl 2 rfl) ?_
            refine lv_iconst (v := -1) hx hb dX10_sheet_58 (by decide) ?_
            refine lv_icmp_ne (tgt := 66) hx hb dX10_sheet_59 (by decide) (fun c40 => ?_) (fun c40 => ?_)
            · skip
              have f_c40 := i_ne c40
              refine lv_iload_n hx hb dX10_sheet_66 rfl (lv_at hl 3 rfl) ?_
              refine va_iast (D := (dC, dI)) hx hb hK hP hD hS 2 1 rfl rfl (vp_in_iff.mpr ⟨by omega, by omega⟩) dX10_sheet_67 (fun H locs hP hD hS => ?_)
              generalize e_g41 : (upd fr (p0).toNatClampNeg p2) = g41 at hP hD
              have hP : va_P (dC, dI) vwCl [(h0, .inr (9, [w0, w1, w2, w3, w4, w5, w6, w7, w8, w9, w10, w11, w12, w13, w14, w15, w16, w17, w18, w19, w20, w21, w22, w23, w24, w25, w26, w27, .ref qo, .ref qr, .ref qi, w31])), (qo, .inl (ko, 4, .inl g39)), (qr, .inl (kr, 4, .inl g41)), (qi, .inl (ki, 240, .inl fi))] H := hP
              have hD : va_D A [(h0, .inr (9, [w0, w1, w2, w3, w4, w5, w6, w7, w8, w9, w10, w11, w12, w13, w14, w15, w16, w17, w18, w19, w20, w21, w22, w23, w24, w25, w26, w27, .ref qo, .ref qr, .ref qi, w31])), (qo, .inl (ko, 4, .inl g39)), (qr, .inl (kr, 4, .inl g41)), (qi, .inl (ki, 240, .inl fi))] := hD
              refine lv_iconst (v := 0) hx hb dX10_sheet_68 (by decide) ?_
              refine lv_istore (lv' := [(4, .int 0), (0, .ref h0), (1, .int p0), (2, .int p1), (3, .int p2)]) hx hb dX10_sheet_69 hl (by decide) rfl (fun ls hl => ?_)
              have loop_71 : ∀ (n i_71 : Nat) (x_71 : Int32), i_71 ≤ 60 → 60 < i_71 + n → x_71 = nI i_71 → ∀ (gi : Nat → Int32), ∀ (H : Heap) (locs : List Loc), va_K (dC, dI) vwCl [(ko, .int), (kr, .int), (ki, .int)] s → va_P (dC, dI) vwCl [(h0, .inr (9, [w0, w1, w2, w3, w4, w5, w6, w7, w8, w9, w10, w11, w12, w13, w14, w15, w16, w17, w18, w19, w20, w21, w22, w23, w24, w25, w26, w27, .ref qo, .ref qr, .ref qi, w31])), (qo, .inl (ko, 4, .inl g39)), (qr, .inl (kr, 4, .inl g41)), (qi, .inl (ki, 240, .inl gi))] H → va_D A [(h0, .inr (9, [w0, w1, w2, w3, w4, w5, w6, w7, w8, w9, w10, w11, w12, w13, w14, w15, w16, w17, w18, w19, w20, w21, w22, w23, w24, w25, w26, w27, .ref qo, .ref qr, .ref qi, w31])), (qo, .inl (ko, 4, .inl g39)), (qr, .inl (kr, 4, .inl g41)), (qi, .inl (ki, 240, .inl gi))] → va_S A s.heap H locs → ∀ (ls : Array Slot), lv_has ls 5 [(4, .int x_71), (0, .ref h0), (1, .int p0), (2, .int p1), (3, .int p2)] → W p l e ({ frames := 2, cells := 0, slots := 0, locals := 45 }) s m (([.ref h0, .int p0, .int p1, .int p2] : List Value).toArray) below meth c H locs 0 0 (MQ below (va_Qi (fun (r : Int32) (_ : Unit) => (r = 1 ∧ (0 ≤ p0.toInt ∧ p0.toInt < 4 ∧ -1 ≤ p1.toInt ∧ p1.toInt ≤ 1 ∧ (p1.toInt = -1 ∨ p2.toInt ≤ 60)) ∧ ¬(p1.toInt ≠ -1 ∧ p2.toInt < 0)) ∨ (r = (-14) ∧ (0 ≤ p0.toInt ∧ p0.toInt < 4 ∧ -1 ≤ p1.toInt ∧ p1.toInt ≤ 1 ∧ (p1.toInt = -1 ∨ p2.toInt ≤ 60)) ∧ (p1.toInt ≠ -1 ∧ p2.toInt < 0)) ∨ (r = (-2) ∧ ¬(0 ≤ p0.toInt ∧ p0.toInt < 4 ∧ -1 ≤ p1.toInt ∧ p1.toInt ≤ 1 ∧ (p1.toInt = -1 ∨ p2.toInt ≤ 60)))) (fun (_ : Unit) (t : State) => va_P (dC, dI) vwCl [] t.heap ∧ va_K (dC, dI) vwCl [] t ∧ va_D A []) A) (([.ref h0, .int p0, .int p1, .int p2] : List Value).toArray) s 0 0 A) (F0 m 71 ls []) := by
                intro n
                induction n with
                | zero => intro i_71 x_71 h1 h2; exact absurd h2 (by omega)
                | succ n ih_71 =>
                  intro i_71 x_71 hi_71 hn_71 e_x_71 gi H locs hK hP hD hS ls hl
                  have t_x_71 : x_71.toInt = (i_71 : Int) := by rw [e_x_71]; exact nI_toInt (by omega)
                  refine lv_iload hx hb dX10_sheet_71 (lv_at hl 0 rfl) ?_
                  refine lv_bipush (v := 60) hx hb dX10_sheet_73 (by decide) ?_
                  refine lv_icmp_ge (tgt := 97) hx hb dX10_sheet_75 (by decide) (fun c42 => ?_) (fun c42 => ?_)
                  · skip
                    have f_c42 := i_le c42
                    refine lv_iconst (v := 1) hx hb dX10_sheet_97 (by decide) ?_
                    have hP9 := hP.sub (ws' := []) [] rfl
                    have hD9 := hD.sub (ws' := []) [] (by decide) rfl
                    have hK9 := hK.sub (tys' := []) [] rfl
                    exact W.iret (v := 1) hx hb hr (fun t ht hW => ⟨⟨1, (), rfl, Or.inl ⟨rfl, by omega⟩, by rw [ht]; exact hP9, va_K.moved hW.alike hK9, hD9⟩, hS.F ht⟩) hS.2.2 dX10_sheet_98
                  · skip
                    have f_c42 := i_nle c42
                    refine lv_aload_n hx hb dX10_sheet_78 rfl (lv_at hl 1 rfl) ?_
                    refine va_get (D := (dC, dI)) (ci := 9) (v := .ref qi) (C := RX10) (T := TX10) (N := 32) hx hb hts in_X10_sheet_X10 hown hK hP 0 rfl rfl 30 (by decide) (hts (.fieldLink RX10 61 "ClearingGatesModel" "items" "[I") (List.mem_of_getElem? (i := 4) (by decide +kernel))) (fun _ h9 => h9) rfl dX10_sheet_79 ?_
                    refine lv_bipush (v := 60) hx hb dX10_sheet_82 (by decide) ?_
                    refine lv_iload_n hx hb dX10_sheet_84 rfl (lv_at hl 2 rfl) ?_
                    refine lv_imul hx hb dX10_sheet_85 ?_
                    refine lv_topi (fun z43 e_z43 => ?_)
                    have t_z43 := i_mulc e_z43 k_60 (by omega) (by omega)
                    refine lv_iload hx hb dX10_sheet_86 (lv_at hl 0 rfl) ?_
                    refine lv_iadd hx hb dX10_sheet_88 ?_
                    refine lv_topi (fun z44 e_z44 => ?_)
                    have t_z44 := i_add e_z44 (by omega) (by omega)
                    refine lv_iconst (v := 0) hx hb dX10_sheet_89 (by decide) ?_
                    refine va_iast (D := (dC, dI)) hx hb hK hP hD hS 3 2 rfl rfl (vp_in_iff.mpr ⟨by omega, by omega⟩) dX10_sheet_90 (fun H locs hP hD hS => ?_)
                    generalize e_g45 : (upd gi (z44).toNatClampNeg 0) = g45 at hP hD
                    have hP : va_P (dC, dI) vwCl [(h0, .inr (9, [w0, w1, w2, w3, w4, w5, w6, w7, w8, w9, w10, w11, w12, w13, w14, w15, w16, w17, w18, w19, w20, w21, w22, w23, w24, w25, w26, w27, .ref qo, .ref qr, .ref qi, w31])), (qo, .inl (ko, 4, .inl g39)), (qr, .inl (kr, 4, .inl g41)), (qi, .inl (ki, 240, .inl g45))] H := hP
                    have hD : va_D A [(h0, .inr (9, [w0, w1, w2, w3, w4, w5, w6, w7, w8, w9, w10, w11, w12, w13, w14, w15, w16, w17, w18, w19, w20, w21, w22, w23, w24, w25, w26, w27, .ref qo, .ref qr, .ref qi, w31])), (qo, .inl (ko, 4, .inl g39)), (qr, .inl (kr, 4, .inl g41)), (qi, .inl (ki, 240, .inl g45))] := hD
                    obtain ⟨x46, e_x46⟩ : ∃ y : Int32, y = x_71 + 1 := ⟨_, rfl⟩
                    refine lv_iinc (v := x46) (lv' := [(4, .int x46), (0, .ref h0), (1, .int p0), (2, .int p1), (3, .int p2)]) hx hb dX10_sheet_91 hl (k := 0) rfl (by rw [e_x46]; rfl) (by decide) rfl (fun ls hl => ?_)
                    refine lv_goto (tgt := 71) hx hb dX10_sheet_94 (by decide) ?_
                    exact ih_71 (i_71 + 1) x46 (by omega) (by omega) (by rw [e_x46, e_x_71]; exact nI_1 i_71) g45  _ _ (hK.sub [0, 1, 2] rfl) (hP.sub [0, 1, 2, 3] rfl) (hD.sub [0, 1, 2, 3] (by decide) rfl) hS ls (lv_sub hl [0, 1, 2, 3, 4] rfl)
              exact loop_71 (60 + 1) 0 0 (by omega) (by omega) rfl fi  _ _ hK hP hD hS ls hl
            · skip
              have f_c40 := i_eq c40
              refine lv_iconst (v := 0) hx hb dX10_sheet_62 (by decide) ?_
              refine lv_goto (tgt := 67) hx hb dX10_sheet_63 (by decide) ?_
              refine va_iast (D := (dC, dI)) hx hb hK hP hD hS 2 1 rfl rfl (vp_in_iff.mpr ⟨by omega, by omega⟩) dX10_sheet_67 (fun H locs hP hD hS => ?_)
              generalize e_g47 : (upd fr (p0).toNatClampNeg 0) = g47 at hP hD
              have hP : va_P (dC, dI) vwCl [(h0, .inr (9, [w0, w1, w2, w3, w4, w5, w6, w7, w8, w9, w10, w11, w12, w13, w14, w15, w16, w17, w18, w19, w20, w21, w22, w23, w24, w25, w26, w27, .ref qo, .ref qr, .ref qi, w31])), (qo, .inl (ko, 4, .inl g39)), (qr, .inl (kr, 4, .inl g47)), (qi, .inl (ki, 240, .inl fi))] H := hP
              have hD : va_D A [(h0, .inr (9, [w0, w1, w2, w3, w4, w5, w6, w7, w8, w9, w10, w11, w12, w13, w14, w15, w16, w17, w18, w19, w20, w21, w22, w23, w24, w25, w26, w27, .ref qo, .ref qr, .ref qi, w31])), (qo, .inl (ko, 4, .inl g39)), (qr, .inl (kr, 4, .inl g47)), (qi, .inl (ki, 240, .inl fi))] := hD
              refine lv_iconst (v := 0) hx hb dX10_sheet_68 (by decide) ?_
              refine lv_istore (lv' := [(4, .int 0), (0, .ref h0), (1, .int p0), (2, .int p1), (3, .int p2)]) hx hb dX10_sheet_69 hl (by decide) rfl (fun ls hl => ?_)
              have loop_71 : ∀ (n i_71 : Nat) (x_71 : Int32), i_71 ≤ 60 → 60 < i_71 + n → x_71 = nI i_71 → ∀ (gi : Nat → Int32), ∀ (H : Heap) (locs : List Loc), va_K (dC, dI) vwCl [(ko, .int), (kr, .int), (ki, .int)] s → va_P (dC, dI) vwCl [(h0, .inr (9, [w0, w1, w2, w3, w4, w5, w6, w7, w8, w9, w10, w11, w12, w13, w14, w15, w16, w17, w18, w19, w20, w21, w22, w23, w24, w25, w26, w27, .ref qo, .ref qr, .ref qi, w31])), (qo, .inl (ko, 4, .inl g39)), (qr, .inl (kr, 4, .inl g47)), (qi, .inl (ki, 240, .inl gi))] H → va_D A [(h0, .inr (9, [w0, w1, w2, w3, w4, w5, w6, w7, w8, w9, w10, w11, w12, w13, w14, w15, w16, w17, w18, w19, w20, w21, w22, w23, w24, w25, w26, w27, .ref qo, .ref qr, .ref qi, w31])), (qo, .inl (ko, 4, .inl g39)), (qr, .inl (kr, 4, .inl g47)), (qi, .inl (ki, 240, .inl gi))] → va_S A s.heap H locs → ∀ (ls : Array Slot), lv_has ls 5 [(4, .int x_71), (0, .ref h0), (1, .int p0), (2, .int p1), (3, .int p2)] → W p l e ({ frames := 2, cells := 0, slots := 0, locals := 45 }) s m (([.ref h0, .int p0, .int p1, .int p2] : List Value).toArray) below meth c H locs 0 0 (MQ below (va_Qi (fun (r : Int32) (_ : Unit) => (r = 1 ∧ (0 ≤ p0.toInt ∧ p0.toInt < 4 ∧ -1 ≤ p1.toInt ∧ p1.toInt ≤ 1 ∧ (p1.toInt = -1 ∨ p2.toInt ≤ 60)) ∧ ¬(p1.toInt ≠ -1 ∧ p2.toInt < 0)) ∨ (r = (-14) ∧ (0 ≤ p0.toInt ∧ p0.toInt < 4 ∧ -1 ≤ p1.toInt ∧ p1.toInt ≤ 1 ∧ (p1.toInt = -1 ∨ p2.toInt ≤ 60)) ∧ (p1.toInt ≠ -1 ∧ p2.toInt < 0)) ∨ (r = (-2) ∧ ¬(0 ≤ p0.toInt ∧ p0.toInt < 4 ∧ -1 ≤ p1.toInt ∧ p1.toInt ≤ 1 ∧ (p1.toInt = -1 ∨ p2.toInt ≤ 60)))) (fun (_ : Unit) (t : State) => va_P (dC, dI) vwCl [] t.heap ∧ va_K (dC, dI) vwCl [] t ∧ va_D A []) A) (([.ref h0, .int p0, .int p1, .int p2] : List Value).toArray) s 0 0 A) (F0 m 71 ls []) := by
                intro n
                induction n with
                | zero => intro i_71 x_71 h1 h2; exact absurd h2 (by omega)
                | succ n ih_71 =>
                  intro i_71 x_71 hi_71 hn_71 e_x_71 gi H locs hK hP hD hS ls hl
                  have t_x_71 : x_71.toInt = (i_71 : Int) := by rw [e_x_71]; exact nI_toInt (by omega)
                  refine lv_iload hx hb dX10_sheet_71 (lv_at hl 0 rfl) ?_
                  refine lv_bipush (v := 60) hx hb dX10_sheet_73 (by decide) ?_
                  refine lv_icmp_ge (tgt := 97) hx hb dX10_sheet_75 (by decide) (fun c48 => ?_) (fun c48 => ?_)
                  · skip
                    have f_c48 := i_le c48
                    refine lv_iconst (v := 1) hx hb dX10_sheet_97 (by decide) ?_
                    have hP9 := hP.sub (ws' := []) [] rfl
                    have hD9 := hD.sub (ws' := []) [] (by decide) rfl
                    have hK9 := hK.sub (tys' := []) [] rfl
                    exact W.iret (v := 1) hx hb hr (fun t ht hW => ⟨⟨1, (), rfl, Or.inl ⟨rfl, by omega⟩, by rw [ht]; exact hP9, va_K.moved hW.alike hK9, hD9⟩, hS.F ht⟩) hS.2.2 dX10_sheet_98
                  · skip
                    have f_c48 := i_nle c48
                    refine lv_aload_n hx hb dX10_sheet_78 rfl (lv_at hl 1 rfl) ?_
                    refine va_get (D := (dC, dI)) (ci := 9) (v := .ref qi) (C := RX10) (T := TX10) (N := 32) hx hb hts in_X10_sheet_X10 hown hK hP 0 rfl rfl 30 (by decide) (hts (.fieldLink RX10 61 "ClearingGatesModel" "items" "[I") (List.mem_of_getElem? (i := 4) (by decide +kernel))) (fun _ h9 => h9) rfl dX10_sheet_79 ?_
                    refine lv_bipush (v := 60) hx hb dX10_sheet_82 (by decide) ?_
                    refine lv_iload_n hx hb dX10_sheet_84 rfl (lv_at hl 2 rfl) ?_
                    refine lv_imul hx hb dX10_sheet_85 ?_
                    refine lv_topi (fun z49 e_z49 => ?_)
                    have t_z49 := i_mulc e_z49 k_60 (by omega) (by omega)
                    refine lv_iload hx hb dX10_sheet_86 (lv_at hl 0 rfl) ?_
                    refine lv_iadd hx hb dX10_sheet_88 ?_
                    refine lv_topi (fun z50 e_z50 => ?_)
                    have t_z50 := i_add e_z50 (by omega) (by omega)
                    refine lv_iconst (v := 0) hx hb dX10_sheet_89 (by decide) ?_
                    refine va_iast (D := (dC, dI)) hx hb hK hP hD hS 3 2 rfl rfl (vp_in_iff.mpr ⟨by omega, by omega⟩) dX10_sheet_90 (fun H locs hP hD hS => ?_)
                    generalize e_g51 : (upd gi (z50).toNatClampNeg 0) = g51 at hP hD
                    have hP : va_P (dC, dI) vwCl [(h0, .inr (9, [w0, w1, w2, w3, w4, w5, w6, w7, w8, w9, w10, w11, w12, w13, w14, w15, w16, w17, w18, w19, w20, w21, w22, w23, w24, w25, w26, w27, .ref qo, .ref qr, .ref qi, w31])), (qo, .inl (ko, 4, .inl g39)), (qr, .inl (kr, 4, .inl g47)), (qi, .inl (ki, 240, .inl g51))] H := hP
                    have hD : va_D A [(h0, .inr (9, [w0, w1, w2, w3, w4, w5, w6, w7, w8, w9, w10, w11, w12, w13, w14, w15, w16, w17, w18, w19, w20, w21, w22, w23, w24, w25, w26, w27, .ref qo, .ref qr, .ref qi, w31])), (qo, .inl (ko, 4, .inl g39)), (qr, .inl (kr, 4, .inl g47)), (qi, .inl (ki, 240, .inl g51))] := hD
                    obtain ⟨x52, e_x52⟩ : ∃ y : Int32, y = x_71 + 1 := ⟨_, rfl⟩
                    refine lv_iinc (v := x52) (lv' := [(4, .int x52), (0, .ref h0), (1, .int p0), (2, .int p1), (3, .int p2)]) hx hb dX10_sheet_91 hl (k := 0) rfl (by rw [e_x52]; rfl) (by decide) rfl (fun ls hl => ?_)
                    refine lv_goto (tgt := 71) hx hb dX10_sheet_94 (by decide) ?_
                    exact ih_71 (i_71 + 1) x52 (by omega) (by omega) (by rw [e_x52, e_x_71]; exact nI_1 i_71) g51  _ _ (hK.sub [0, 1, 2] rfl) (hP.sub [0, 1, 2, 3] rfl) (hD.sub [0, 1, 2, 3] (by decide) rfl) hS ls (lv_sub hl [0, 1, 2, 3, 4] rfl)
              exact loop_71 (60 + 1) 0 0 (by omega) (by omega) rfl fi  _ _ hK hP hD hS ls hl
          · skip
            have f_c38 := i_ne c38
            refine lv_iload_n hx hb dX10_sheet_38 rfl (lv_at hl 3 rfl) ?_
            refine lv_if_ge (tgt := 45) hx hb dX10_sheet_39 (by decide) (fun c53 => ?_) (fun c53 => ?_)
            · skip
              have f_c53 := i_le c53
              refine lv_aload_n hx hb dX10_sheet_45 rfl (lv_at hl 0 rfl) ?_
              refine va_get (D := (dC, dI)) (ci := 9) (v := .ref qo) (C := RX10) (T := TX10) (N := 32) hx hb hts in_X10_sheet_X10 hown hK hP 0 rfl rfl 28 (by decide) (hts (.fieldLink RX10 55 "ClearingGatesModel" "sorts" "[I") (List.mem_of_getElem? (i := 2) (by decide +kernel))) (fun _ h9 => h9) rfl dX10_sheet_46 ?_
              refine lv_iload_n hx hb dX10_sheet_49 rfl (lv_at hl 1 rfl) ?_
              refine lv_iload_n hx hb dX10_sheet_50 rfl (lv_at hl 2 rfl) ?_
              refine va_iast (D := (dC, dI)) hx hb hK hP hD hS 1 0 rfl rfl (vp_in_iff.mpr ⟨by omega, by omega⟩) dX10_sheet_51 (fun H locs hP hD hS => ?_)
              generalize e_g54 : (upd fso (p0).toNatClampNeg p1) = g54 at hP hD
              have hP : va_P (dC, dI) vwCl [(h0, .inr (9, [w0, w1, w2, w3, w4, w5, w6, w7, w8, w9, w10, w11, w12, w13, w14, w15, w16, w17, w18, w19, w20, w21, w22, w23, w24, w25, w26, w27, .ref qo, .ref qr, .ref qi, w31])), (qo, .inl (ko, 4, .inl g54)), (qr, .inl (kr, 4, .inl fr)), (qi, .inl (ki, 240, .inl fi))] H := hP
              have hD : va_D A [(h0, .inr (9, [w0, w1, w2, w3, w4, w5, w6, w7, w8, w9, w10, w11, w12, w13, w14, w15, w16, w17, w18, w19, w20, w21, w22, w23, w24, w25, w26, w27, .ref qo, .ref qr, .ref qi, w31])), (qo, .inl (ko, 4, .inl g54)), (qr, .inl (kr, 4, .inl fr)), (qi, .inl (ki, 240, .inl fi))] := hD
              refine lv_aload_n hx hb dX10_sheet_52 rfl (lv_at hl 0 rfl) ?_
              refine va_get (D := (dC, dI)) (ci := 9) (v := .ref qr) (C := RX10) (T := TX10) (N := 32) hx hb hts in_X10_sheet_X10 hown hK hP 0 rfl rfl 29 (by decide) (hts (.fieldLink RX10 58 "ClearingGatesModel" "rowMany" "[I") (List.mem_of_getElem? (i := 3) (by decide +kernel))) (fun _ h9 => h9) rfl dX10_sheet_53 ?_
              refine lv_iload_n hx hb dX10_sheet_56 rfl (lv_at hl 1 rfl) ?_
              refine lv_iload_n hx hb dX10_sheet_57 rfl (lv_at hl 2 rfl) ?_
              refine lv_iconst (v := -1) hx hb dX10_sheet_58 (by decide) ?_
              refine lv_icmp_ne (tgt := 66) hx hb dX10_sheet_59 (by decide) (fun c55 => ?_) (fun c55 => ?_)
              · skip
                have f_c55 := i_ne c55
                refine lv_iload_n hx hb dX10_sheet_66 rfl (lv_at hl 3 rfl) ?_
                refine va_iast (D := (dC, dI)) hx hb hK hP hD hS 2 1 rfl rfl (vp_in_iff.mpr ⟨by omega, by omega⟩) dX10_sheet_67 (fun H locs hP hD hS => ?_)
                generalize e_g56 : (upd fr (p0).toNatClampNeg p2) = g56 at hP hD
                have hP : va_P (dC, dI) vwCl [(h0, .inr (9, [w0, w1, w2, w3, w4, w5, w6, w7, w8, w9, w10, w11, w12, w13, w14, w15, w16, w17, w18, w19, w20, w21, w22, w23, w24, w25, w26, w27, .ref qo, .ref qr, .ref qi, w31])), (qo, .inl (ko, 4, .inl g54)), (qr, .inl (kr, 4, .inl g56)), (qi, .inl (ki, 240, .inl fi))] H := hP
                have hD : va_D A [(h0, .inr (9, [w0, w1, w2, w3, w4, w5, w6, w7, w8, w9, w10, w11, w12, w13, w14, w15, w16, w17, w18, w19, w20, w21, w22, w23, w24, w25, w26, w27, .ref qo, .ref qr, .ref qi, w31])), (qo, .inl (ko, 4, .inl g54)), (qr, .inl (kr, 4, .inl g56)), (qi, .inl (ki, 240, .inl fi))] := hD
                refine lv_iconst (v := 0) hx hb dX10_sheet_68 (by decide) ?_
                refine lv_istore (lv' := [(4, .int 0), (0, .ref h0), (1, .int p0), (2, .int p1), (3, .int p2)]) hx hb dX10_sheet_69 hl (by decide) rfl (fun ls hl => ?_)
                have loop_71 : ∀ (n i_71 : Nat) (x_71 : Int32), i_71 ≤ 60 → 60 < i_71 + n → x_71 = nI i_71 → ∀ (gi : Nat → Int32), ∀ (H : Heap) (locs : List Loc), va_K (dC, dI) vwCl [(ko, .int), (kr, .int), (ki, .int)] s → va_P (dC, dI) vwCl [(h0, .inr (9, [w0, w1, w2, w3, w4, w5, w6, w7, w8, w9, w10, w11, w12, w13, w14, w15, w16, w17, w18, w19, w20, w21, w22, w23, w24, w25, w26, w27, .ref qo, .ref qr, .ref qi, w31])), (qo, .inl (ko, 4, .inl g54)), (qr, .inl (kr, 4, .inl g56)), (qi, .inl (ki, 240, .inl gi))] H → va_D A [(h0, .inr (9, [w0, w1, w2, w3, w4, w5, w6, w7, w8, w9, w10, w11, w12, w13, w14, w15, w16, w17, w18, w19, w20, w21, w22, w23, w24, w25, w26, w27, .ref qo, .ref qr, .ref qi, w31])), (qo, .inl (ko, 4, .inl g54)), (qr, .inl (kr, 4, .inl g56)), (qi, .inl (ki, 240, .inl gi))] → va_S A s.heap H locs → ∀ (ls : Array Slot), lv_has ls 5 [(4, .int x_71), (0, .ref h0), (1, .int p0), (2, .int p1), (3, .int p2)] → W p l e ({ frames := 2, cells := 0, slots := 0, locals := 45 }) s m (([.ref h0, .int p0, .int p1, .int p2] : List Value).toArray) below meth c H locs 0 0 (MQ below (va_Qi (fun (r : Int32) (_ : Unit) => (r = 1 ∧ (0 ≤ p0.toInt ∧ p0.toInt < 4 ∧ -1 ≤ p1.toInt ∧ p1.toInt ≤ 1 ∧ (p1.toInt = -1 ∨ p2.toInt ≤ 60)) ∧ ¬(p1.toInt ≠ -1 ∧ p2.toInt < 0)) ∨ (r = (-14) ∧ (0 ≤ p0.toInt ∧ p0.toInt < 4 ∧ -1 ≤ p1.toInt ∧ p1.toInt ≤ 1 ∧ (p1.toInt = -1 ∨ p2.toInt ≤ 60)) ∧ (p1.toInt ≠ -1 ∧ p2.toInt < 0)) ∨ (r = (-2) ∧ ¬(0 ≤ p0.toInt ∧ p0.toInt < 4 ∧ -1 ≤ p1.toInt ∧ p1.toInt ≤ 1 ∧ (p1.toInt = -1 ∨ p2.toInt ≤ 60)))) (fun (_ : Unit) (t : State) => va_P (dC, dI) vwCl [] t.heap ∧ va_K (dC, dI) vwCl [] t ∧ va_D A []) A) (([.ref h0, .int p0, .int p1, .int p2] : List Value).toArray) s 0 0 A) (F0 m 71 ls []) := by
                  intro n
                  induction n with
                  | zero => intro i_71 x_71 h1 h2; exact absurd h2 (by omega)
                  | succ n ih_71 =>
                    intro i_71 x_71 hi_71 hn_71 e_x_71 gi H locs hK hP hD hS ls hl
                    have t_x_71 : x_71.toInt = (i_71 : Int) := by rw [e_x_71]; exact nI_toInt (by omega)
                    refine lv_iload hx hb dX10_sheet_71 (lv_at hl 0 rfl) ?_
                    refine lv_bipush (v := 60) hx hb dX10_sheet_73 (by decide) ?_
                    refine lv_icmp_ge (tgt := 97) hx hb dX10_sheet_75 (by decide) (fun c57 => ?_) (fun c57 => ?_)
                    · skip
                      have f_c57 := i_le c57
                      refine lv_iconst (v := 1) hx hb dX10_sheet_97 (by decide) ?_
                      have hP9 := hP.sub (ws' := []) [] rfl
                      have hD9 := hD.sub (ws' := []) [] (by decide) rfl
                      have hK9 := hK.sub (tys' := []) [] rfl
                      exact W.iret (v := 1) hx hb hr (fun t ht hW => ⟨⟨1, (), rfl, Or.inl ⟨rfl, by omega⟩, by rw [ht]; exact hP9, va_K.moved hW.alike hK9, hD9⟩, hS.F ht⟩) hS.2.2 dX10_sheet_98
                    · skip
                      have f_c57 := i_nle c57
                      refine lv_aload_n hx hb dX10_sheet_78 rfl (lv_at hl 1 rfl) ?_
                      refine va_get (D := (dC, dI)) (ci := 9) (v := .ref qi) (C := RX10) (T := TX10) (N := 32) hx hb hts in_X10_sheet_X10 hown hK hP 0 rfl rfl 30 (by decide) (hts (.fieldLink RX10 61 "ClearingGatesModel" "items" "[I") (List.mem_of_getElem? (i := 4) (by decide +kernel))) (fun _ h9 => h9) rfl dX10_sheet_79 ?_
                      refine lv_bipush (v := 60) hx hb dX10_sheet_82 (by decide) ?_
                      refine lv_iload_n hx hb dX10_sheet_84 rfl (lv_at hl 2 rfl) ?_
                      refine lv_imul hx hb dX10_sheet_85 ?_
                      refine lv_topi (fun z58 e_z58 => ?_)
                      have t_z58 := i_mulc e_z58 k_60 (by omega) (by omega)
                      refine lv_iload hx hb dX10_sheet_86 (lv_at hl 0 rfl) ?_
                      refine lv_iadd hx hb dX10_sheet_88 ?_
                      refine lv_topi (fun z59 e_z59 => ?_)
                      have t_z59 := i_add e_z59 (by omega) (by omega)
                      refine lv_iconst (v := 0) hx hb dX10_sheet_89 (by decide) ?_
                      refine va_iast (D := (dC, dI)) hx hb hK hP hD hS 3 2 rfl rfl (vp_in_iff.mpr ⟨by omega, by omega⟩) dX10_sheet_90 (fun H locs hP hD hS => ?_)
                      generalize e_g60 : (upd gi (z59).toNatClampNeg 0) = g60 at hP hD
                      have hP : va_P (dC, dI) vwCl [(h0, .inr (9, [w0, w1, w2, w3, w4, w5, w6, w7, w8, w9, w10, w11, w12, w13, w14, w15, w16, w17, w18, w19, w20, w21, w22, w23, w24, w25, w26, w27, .ref qo, .ref qr, .ref qi, w31])), (qo, .inl (ko, 4, .inl g54)), (qr, .inl (kr, 4, .inl g56)), (qi, .inl (ki, 240, .inl g60))] H := hP
                      have hD : va_D A [(h0, .inr (9, [w0, w1, w2, w3, w4, w5, w6, w7, w8, w9, w10, w11, w12, w13, w14, w15, w16, w17, w18, w19, w20, w21, w22, w23, w24, w25, w26, w27, .ref qo, .ref qr, .ref qi, w31])), (qo, .inl (ko, 4, .inl g54)), (qr, .inl (kr, 4, .inl g56)), (qi, .inl (ki, 240, .inl g60))] := hD
                      obtain ⟨x61, e_x61⟩ : ∃ y : Int32, y = x_71 + 1 := ⟨_, rfl⟩
                      refine lv_iinc (v := x61) (lv' := [(4, .int x61), (0, .ref h0), (1, .int p0), (2, .int p1), (3, .int p2)]) hx hb dX10_sheet_91 hl (k := 0) rfl (by rw [e_x61]; rfl) (by decide) rfl (fun ls hl => ?_)
                      refine lv_goto (tgt := 71) hx hb dX10_sheet_94 (by decide) ?_
                      exact ih_71 (i_71 + 1) x61 (by omega) (by omega) (by rw [e_x61, e_x_71]; exact nI_1 i_71) g60  _ _ (hK.sub [0, 1, 2] rfl) (hP.sub [0, 1, 2, 3] rfl) (hD.sub [0, 1, 2, 3] (by decide) rfl) hS ls (lv_sub hl [0, 1, 2, 3, 4] rfl)
                exact loop_71 (60 + 1) 0 0 (by omega) (by omega) rfl fi  _ _ hK hP hD hS ls hl
              · skip
                have f_c55 := i_eq c55
                refine lv_iconst (v := 0) hx hb dX10_sheet_62 (by decide) ?_
                refine lv_goto (tgt := 67) hx hb dX10_sheet_63 (by decide) ?_
                refine va_iast (D := (dC, dI)) hx hb hK hP hD hS 2 1 rfl rfl (vp_in_iff.mpr ⟨by omega, by omega⟩) dX10_sheet_67 (fun H locs hP hD hS => ?_)
                generalize e_g62 : (upd fr (p0).toNatClampNeg 0) = g62 at hP hD
                have hP : va_P (dC, dI) vwCl [(h0, .inr (9, [w0, w1, w2, w3, w4, w5, w6, w7, w8, w9, w10, w11, w12, w13, w14, w15, w16, w17, w18, w19, w20, w21, w22, w23, w24, w25, w26, w27, .ref qo, .ref qr, .ref qi, w31])), (qo, .inl (ko, 4, .inl g54)), (qr, .inl (kr, 4, .inl g62)), (qi, .inl (ki, 240, .inl fi))] H := hP
                have hD : va_D A [(h0, .inr (9, [w0, w1, w2, w3, w4, w5, w6, w7, w8, w9, w10, w11, w12, w13, w14, w15, w16, w17, w18, w19, w20, w21, w22, w23, w24, w25, w26, w27, .ref qo, .ref qr, .ref qi, w31])), (qo, .inl (ko, 4, .inl g54)), (qr, .inl (kr, 4, .inl g62)), (qi, .inl (ki, 240, .inl fi))] := hD
                refine lv_iconst (v := 0) hx hb dX10_sheet_68 (by decide) ?_
                refine lv_istore (lv' := [(4, .int 0), (0, .ref h0), (1, .int p0), (2, .int p1), (3, .int p2)]) hx hb dX10_sheet_69 hl (by decide) rfl (fun ls hl => ?_)
                have loop_71 : ∀ (n i_71 : Nat) (x_71 : Int32), i_71 ≤ 60 → 60 < i_71 + n → x_71 = nI i_71 → ∀ (gi : Nat → Int32), ∀ (H : Heap) (locs : List Loc), va_K (dC, dI) vwCl [(ko, .int), (kr, .int), (ki, .int)] s → va_P (dC, dI) vwCl [(h0, .inr (9, [w0, w1, w2, w3, w4, w5, w6, w7, w8, w9, w10, w11, w12, w13, w14, w15, w16, w17, w18, w19, w20, w21, w22, w23, w24, w25, w26, w27, .ref qo, .ref qr, .ref qi, w31])), (qo, .inl (ko, 4, .inl g54)), (qr, .inl (kr, 4, .inl g62)), (qi, .inl (ki, 240, .inl gi))] H → va_D A [(h0, .inr (9, [w0, w1, w2, w3, w4, w5, w6, w7, w8, w9, w10, w11, w12, w13, w14, w15, w16, w17, w18, w19, w20, w21, w22, w23, w24, w25, w26, w27, .ref qo, .ref qr, .ref qi, w31])), (qo, .inl (ko, 4, .inl g54)), (qr, .inl (kr, 4, .inl g62)), (qi, .inl (ki, 240, .inl gi))] → va_S A s.heap H locs → ∀ (ls : Array Slot), lv_has ls 5 [(4, .int x_71), (0, .ref h0), (1, .int p0), (2, .int p1), (3, .int p2)] → W p l e ({ frames := 2, cells := 0, slots := 0, locals := 45 }) s m (([.ref h0, .int p0, .int p1, .int p2] : List Value).toArray) below meth c H locs 0 0 (MQ below (va_Qi (fun (r : Int32) (_ : Unit) => (r = 1 ∧ (0 ≤ p0.toInt ∧ p0.toInt < 4 ∧ -1 ≤ p1.toInt ∧ p1.toInt ≤ 1 ∧ (p1.toInt = -1 ∨ p2.toInt ≤ 60)) ∧ ¬(p1.toInt ≠ -1 ∧ p2.toInt < 0)) ∨ (r = (-14) ∧ (0 ≤ p0.toInt ∧ p0.toInt < 4 ∧ -1 ≤ p1.toInt ∧ p1.toInt ≤ 1 ∧ (p1.toInt = -1 ∨ p2.toInt ≤ 60)) ∧ (p1.toInt ≠ -1 ∧ p2.toInt < 0)) ∨ (r = (-2) ∧ ¬(0 ≤ p0.toInt ∧ p0.toInt < 4 ∧ -1 ≤ p1.toInt ∧ p1.toInt ≤ 1 ∧ (p1.toInt = -1 ∨ p2.toInt ≤ 60)))) (fun (_ : Unit) (t : State) => va_P (dC, dI) vwCl [] t.heap ∧ va_K (dC, dI) vwCl [] t ∧ va_D A []) A) (([.ref h0, .int p0, .int p1, .int p2] : List Value).toArray) s 0 0 A) (F0 m 71 ls []) := by
                  intro n
                  induction n with
                  | zero => intro i_71 x_71 h1 h2; exact absurd h2 (by omega)
                  | succ n ih_71 =>
                    intro i_71 x_71 hi_71 hn_71 e_x_71 gi H locs hK hP hD hS ls hl
                    have t_x_71 : x_71.toInt = (i_71 : Int) := by rw [e_x_71]; exact nI_toInt (by omega)
                    refine lv_iload hx hb dX10_sheet_71 (lv_at hl 0 rfl) ?_
                    refine lv_bipush (v := 60) hx hb dX10_sheet_73 (by decide) ?_
                    refine lv_icmp_ge (tgt := 97) hx hb dX10_sheet_75 (by decide) (fun c63 => ?_) (fun c63 => ?_)
                    · skip
                      have f_c63 := i_le c63
                      refine lv_iconst (v := 1) hx hb dX10_sheet_97 (by decide) ?_
                      have hP9 := hP.sub (ws' := []) [] rfl
                      have hD9 := hD.sub (ws' := []) [] (by decide) rfl
                      have hK9 := hK.sub (tys' := []) [] rfl
                      exact W.iret (v := 1) hx hb hr (fun t ht hW => ⟨⟨1, (), rfl, Or.inl ⟨rfl, by omega⟩, by rw [ht]; exact hP9, va_K.moved hW.alike hK9, hD9⟩, hS.F ht⟩) hS.2.2 dX10_sheet_98
                    · skip
                      have f_c63 := i_nle c63
                      refine lv_aload_n hx hb dX10_sheet_78 rfl (lv_at hl 1 rfl) ?_
                      refine va_get (D := (dC, dI)) (ci := 9) (v := .ref qi) (C := RX10) (T := TX10) (N := 32) hx hb hts in_X10_sheet_X10 hown hK hP 0 rfl rfl 30 (by decide) (hts (.fieldLink RX10 61 "ClearingGatesModel" "items" "[I") (List.mem_of_getElem? (i := 4) (by decide +kernel))) (fun _ h9 => h9) rfl dX10_sheet_79 ?_
                      refine lv_bipush (v := 60) hx hb dX10_sheet_82 (by decide) ?_
                      refine lv_iload_n hx hb dX10_sheet_84 rfl (lv_at hl 2 rfl) ?_
                      refine lv_imul hx hb dX10_sheet_85 ?_
                      refine lv_topi (fun z64 e_z64 => ?_)
                      have t_z64 := i_mulc e_z64 k_60 (by omega) (by omega)
                      refine lv_iload hx hb dX10_sheet_86 (lv_at hl 0 rfl) ?_
                      refine lv_iadd hx hb dX10_sheet_88 ?_
                      refine lv_topi (fun z65 e_z65 => ?_)
                      have t_z65 := i_add e_z65 (by omega) (by omega)
                      refine lv_iconst (v := 0) hx hb dX10_sheet_89 (by decide) ?_
                      refine va_iast (D := (dC, dI)) hx hb hK hP hD hS 3 2 rfl rfl (vp_in_iff.mpr ⟨by omega, by omega⟩) dX10_sheet_90 (fun H locs hP hD hS => ?_)
                      generalize e_g66 : (upd gi (z65).toNatClampNeg 0) = g66 at hP hD
                      have hP : va_P (dC, dI) vwCl [(h0, .inr (9, [w0, w1, w2, w3, w4, w5, w6, w7, w8, w9, w10, w11, w12, w13, w14, w15, w16, w17, w18, w19, w20, w21, w22, w23, w24, w25, w26, w27, .ref qo, .ref qr, .ref qi, w31])), (qo, .inl (ko, 4, .inl g54)), (qr, .inl (kr, 4, .inl g62)), (qi, .inl (ki, 240, .inl g66))] H := hP
                      have hD : va_D A [(h0, .inr (9, [w0, w1, w2, w3, w4, w5, w6, w7, w8, w9, w10, w11, w12, w13, w14, w15, w16, w17, w18, w19, w20, w21, w22, w23, w24, w25, w26, w27, .ref qo, .ref qr, .ref qi, w31])), (qo, .inl (ko, 4, .inl g54)), (qr, .inl (kr, 4, .inl g62)), (qi, .inl (ki, 240, .inl g66))] := hD
                      obtain ⟨x67, e_x67⟩ : ∃ y : Int32, y = x_71 + 1 := ⟨_, rfl⟩
                      refine lv_iinc (v := x67) (lv' := [(4, .int x67), (0, .ref h0), (1, .int p0), (2, .int p1), (3, .int p2)]) hx hb dX10_sheet_91 hl (k := 0) rfl (by rw [e_x67]; rfl) (by decide) rfl (fun ls hl => ?_)
                      refine lv_goto (tgt := 71) hx hb dX10_sheet_94 (by decide) ?_
                      exact ih_71 (i_71 + 1) x67 (by omega) (by omega) (by rw [e_x67, e_x_71]; exact nI_1 i_71) g66  _ _ (hK.sub [0, 1, 2] rfl) (hP.sub [0, 1, 2, 3] rfl) (hD.sub [0, 1, 2, 3] (by decide) rfl) hS ls (lv_sub hl [0, 1, 2, 3, 4] rfl)
                exact loop_71 (60 + 1) 0 0 (by omega) (by omega) rfl fi  _ _ hK hP hD hS ls hl
            · skip
              have f_c53 := i_nle c53
              refine lv_bipush (v := -14) hx hb dX10_sheet_42 (by decide) ?_
              have hP9 := hP.sub (ws' := []) [] rfl
              have hD9 := hD.sub (ws' := []) [] (by decide) rfl
              have hK9 := hK.sub (tys' := []) [] rfl
              exact W.iret (v := (-14)) hx hb hr (fun t ht hW => ⟨⟨(-14), (), rfl, Or.inr (Or.inl ⟨rfl, by omega⟩), by rw [ht]; exact hP9, va_K.moved hW.alike hK9, hD9⟩, hS.F ht⟩) hS.2.2 dX10_sheet_44
        · skip
          have f_c37 := i_nle c37
          refine lv_bipush (v := -2) hx hb dX10_sheet_30 (by decide) ?_
          have hP9 := hP.sub (ws' := []) [] rfl
          have hD9 := hD.sub (ws' := []) [] (by decide) rfl
          have hK9 := hK.sub (tys' := []) [] rfl
          exact W.iret (v := (-2)) hx hb hr (fun t ht hW => ⟨⟨(-2), (), rfl, Or.inr (Or.inr (⟨rfl, by omega⟩)), by rw [ht]; exact hP9, va_K.moved hW.alike hK9, hD9⟩, hS.F ht⟩) hS.2.2 dX10_sheet_32
    · subst e_r4
      refine lv_if_eq (tgt := 30) hx hb dX10_sheet_16 (by decide) (fun c68 => ?_) (fun c68 => absurd (by decide) c68)
      refine lv_bipush (v := -2) hx hb dX10_sheet_30 (by decide) ?_
      have hP9 := hP.sub (ws' := []) [] rfl
      have hD9 := hD.sub (ws' := []) [] (by decide) rfl
      have hK9 := hK.sub (tys' := []) [] rfl
      exact W.iret (v := (-2)) hx hb hr (fun t ht hW => ⟨⟨(-2), (), rfl, Or.inr (Or.inr (⟨rfl, by omega⟩)), by rw [ht]; exact hP9, va_K.moved hW.alike hK9, hD9⟩, hS.F ht⟩) hS.2.2 dX10_sheet_32
  · subst e_r1
    refine lv_if_eq (tgt := 30) hx hb dX10_sheet_4 (by decide) (fun c69 => ?_) (fun c69 => absurd (by decide) c69)
    refine lv_bipush (v := -2) hx hb dX10_sheet_30 (by decide) ?_
    have hP9 := hP.sub (ws' := []) [] rfl
    have hD9 := hD.sub (ws' := []) [] (by decide) rfl
    have hK9 := hK.sub (tys' := []) [] rfl
    exact W.iret (v := (-2)) hx hb hr (fun t ht hW => ⟨⟨(-2), (), rfl, Or.inr (Or.inr (⟨rfl, by omega⟩)), by rw [ht]; exact hP9, va_K.moved hW.alike hK9, hD9⟩, hS.F ht⟩) hS.2.2 dX10_sheet_32

theorem in_X10_feed_X10 : ∀ w ∈ wsX100, w ∈ wsX10_feed := fun _ h => List.mem_cons_of_mem _ (List.mem_append_right _ h)
set_option maxRecDepth 100000 in
set_option maxHeartbeats 4000000 in
/-- feed of the model -/
theorem c_X10_feed (l : Launch) (dC : Nat → ClassId) (dI : Nat → Nat → Nat) (h0 : Nat) (p0 : Int32) (p1 : Int32) (p2 : Int32) (p3 : Int32) (p4 : Int32) (p5 : Int32) (w0 : Value) (w1 : Value) (w2 : Value) (w3 : Value) (w4 : Value) (w5 : Value) (w6 : Value) (qt : Nat) (w9 : Value) (w10 : Value) (w11 : Value) (w12 : Value) (w13 : Value) (w14 : Value) (w15 : Value) (w16 : Value) (w17 : Value) (w18 : Value) (w19 : Value) (w20 : Value) (w21 : Value) (w22 : Value) (w23 : Value) (w24 : Value) (w25 : Value) (w26 : Value) (w27 : Value) (w28 : Value) (w29 : Value) (w30 : Value) (w31 : Value) (kt : ClassId) (ft : Nat → Int32) (sz : Nat) : Met l yX10_feed wsX10_feed ({ frames := 2, cells := 0, slots := 0, locals := 45 }) (va_Pc [.ref h0, .int p0, .int p1, .int p2, .int p3, .int p4, .int p5] (fun U => U.heap.size = sz ∧ va_P (dC, dI) vwCl [(h0, .inr (9, [w0, w1, w2, w3, w4, w5, w6, .ref qt, .int 0, w9, w10, w11, w12, w13, w14, w15, w16, w17, w18, w19, w20, w21, w22, w23, w24, w25, w26, w27, w28, w29, w30, w31])), (qt, .inl (kt, 80, .inl ft))] U.heap ∧ va_K (dC, dI) vwCl [(kt, .int)] U ∧ va_D (fun _ => True) [(h0, .inr (9, [w0, w1, w2, w3, w4, w5, w6, .ref qt, .int 0, w9, w10, w11, w12, w13, w14, w15, w16, w17, w18, w19, w20, w21, w22, w23, w24, w25, w26, w27, w28, w29, w30, w31])), (qt, .inl (kt, 80, .inl ft))])) (va_Qi (fun (r : Int32) (_ : Unit) => (r = p0 ∧ 1 ≤ p0.toInt ∧ p0.toInt ≤ 5 ∧ 0 ≤ p1.toInt ∧ p1.toInt ≤ 255 ∧ 0 ≤ p2.toInt ∧ p2.toInt ≤ 255 ∧ 0 ≤ p3.toInt ∧ p3.toInt ≤ 255 ∧ 0 ≤ p4.toInt ∧ p4.toInt ≤ 255 ∧ 0 ≤ p5.toInt ∧ p5.toInt ≤ 255) ∨ (r = (-2) ∧ ¬(1 ≤ p0.toInt ∧ p0.toInt ≤ 5 ∧ 0 ≤ p1.toInt ∧ p1.toInt ≤ 255 ∧ 0 ≤ p2.toInt ∧ p2.toInt ≤ 255 ∧ 0 ≤ p3.toInt ∧ p3.toInt ≤ 255 ∧ 0 ≤ p4.toInt ∧ p4.toInt ≤ 255 ∧ 0 ≤ p5.toInt ∧ p5.toInt ≤ 255))) (fun (_ : Unit) (t : State) => va_P (dC, dI) vwCl [] t.heap ∧ va_K (dC, dI) vwCl [] t ∧ va_D (va_A [(h0, .inr (9, [w0, w1, w2, w3, w4, w5, w6, .ref qt, .int 0, w9, w10, w11, w12, w13, w14, w15, w16, w17, w18, w19, w20, w21, w22, w23, w24, w25, w26, w27, w28, w29, w30, w31])), (qt, .inl (kt, 80, .inl ft))] sz) []) (va_A [(h0, .inr (9, [w0, w1, w2, w3, w4, w5, w6, .ref qt, .int 0, w9, w10, w11, w12, w13, w14, w15, w16, w17, w18, w19, w20, w21, w22, w23, w24, w25, w26, w27, w28, w29, w30, w31])), (qt, .inl (kt, 80, .inl ft))] sz)) 0 0 (va_A [(h0, .inr (9, [w0, w1, w2, w3, w4, w5, w6, .ref qt, .int 0, w9, w10, w11, w12, w13, w14, w15, w16, w17, w18, w19, w20, w21, w22, w23, w24, w25, w26, w27, w28, w29, w30, w31])), (qt, .inl (kt, 80, .inl ft))] sz) := by
  refine Met.ofW (cc := cX10_feed) (maxL := 8) (ret := (some .int)) (by decide) rfl ?_
  intro p e s m args below meth c s₁ B hml hv
  obtain ⟨rfl, hsz, hP, hK, hD0⟩ := hv
  have hx := B.exec
  have hb := B.bytes
  have hr := B.returns
  have hts := atoms_spec (ws := wsX10_feed) B.pre
  have hown : s.vm.findClass RX10 = some m.cls := findClass_of_methodNamed B.named
  have hlocks := B.notSynchronized
  subst hsz
  have hD := hD0.self (sz := s.heap.size)
  generalize hAe : va_A [(h0, .inr (9, [w0, w1, w2, w3, w4, w5, w6, .ref qt, .int 0, w9, w10, w11, w12, w13, w14, w15, w16, w17, w18, w19, w20, w21, w22, w23, w24, w25, w26, w27, w28, w29, w30, w31])), (qt, .inl (kt, 80, .inl ft))] s.heap.size = A at hD ⊢
  have hA : ∀ q : Nat, s.heap.size ≤ q → A q := fun q h => by rw [← hAe]; exact Or.inr h
  have hS : va_S A s.heap s.heap [] := va_S.rf
  have hP : va_P (dC, dI) vwCl [(h0, .inr (9, [w0, w1, w2, w3, w4, w5, w6, .ref qt, .int 0, w9, w10, w11, w12, w13, w14, w15, w16, w17, w18, w19, w20, w21, w22, w23, w24, w25, w26, w27, w28, w29, w30, w31])), (qt, .inl (kt, 80, .inl ft))] s.heap := hP
  have hl := lv_entry ([.ref h0, .int p0, .int p1, .int p2, .int p3, .int p4, .int p5]) (n := 8) (Nat.le_of_ble_eq_true rfl)
  rw [lg_entry_eq]
  generalize (lg_sl ([.ref h0, .int p0, .int p1, .int p2, .int p3, .int p4, .int p5]) ++ List.replicate (8 - (lg_sl ([.ref h0, .int p0, .int p1, .int p2, .int p3, .int p4, .int p5])).length) Slot.unset).toArray = ls at hl ⊢
  have hl : lv_has ls 8 [(0, .ref h0), (1, .int p0), (2, .int p1), (3, .int p2), (4, .int p3), (5, .int p4), (6, .int p5)] := hl
  have k_m2 : ((-2) : Int32).toInt = (-2) := by decide
  have k_0 : (0 : Int32).toInt = 0 := by decide
  have k_1 : (1 : Int32).toInt = 1 := by decide
  have k_2 : (2 : Int32).toInt = 2 := by decide
  have k_3 : (3 : Int32).toInt = 3 := by decide
  have k_80 : (80 : Int32).toInt = 80 := by decide
  have kl_1 : (1 : Int64).toInt = 1 := by decide
  have kl_5 : (5 : Int64).toInt = 5 := by decide
  refine lv_iload_n hx hb dX10_feed_0 rfl (lv_at hl 1 rfl) ?_
  refine lv_i2l (v := p0.toInt64) hx hb dX10_feed_1 rfl ?_
  have t_t1 := Int32.toInt_toInt64 p0
  refine lv_lconst (v := 1) hx hb dX10_feed_2 (by decide) ?_
  refine lv_ldc2 hx hb hown (hts (.constantLong RX10 119 (5)) (List.mem_of_getElem? (i := 1) (by decide +kernel))) dX10_feed_3 ?_
  have hPc := hP.sub (ws' := []) [] rfl
  have hDc := hD.sub (ws' := []) [] (by decide) rfl
  have hKc := hK.sub (tys' := []) [] rfl
  have hFc := va_free (wc := []) hD hS hA [] rfl
  refine va_calli (va_runS (As := [.long p0.toInt64, .long 1, .long 5]) (rest := []) ⟨hx, hb, hml, hown, hts⟩ (c_X10_isIn l dC dI (p0.toInt64) 1 5 s.heap.size) (va_cwS 3 hts gX10_feed_X10_isIn rfl rfl rfl (by decide +kernel) ⟨Nat.le_of_ble_eq_true rfl, Nat.le_of_ble_eq_true rfl⟩) ⟨fun a U g mk q => by obtain ⟨q0, q1, qP, qK, qD⟩ := q; exact ⟨q0, q1, qP, va_K.moved (u := U) (U := U.calling g mk a) (Vm.Alike.refl U.vm) qK, qD⟩, fun U hU hW => ⟨rfl, by rw [hU], by rw [hU]; exact hPc, va_K.moved hW.alike hKc, hDc.weaken (fun _ _ _ _ => trivial)⟩⟩ rfl rfl hl.1 rfl (lv_room (Nat.le_of_ble_eq_true rfl)) dX10_feed_6 ⟨Nat.le_of_ble_eq_true rfl, Nat.le_of_ble_eq_true rfl⟩) hS (fun q _ h => hFc q h) hFc (fun r2 u t H1 locs ht hvm hw hB hz1 hk1 hS => ?_)
  obtain ⟨hP1, hK1, hD1⟩ := hB
  rw [ht] at hP1
  have hK1 := va_K.moved hvm.symm hK1
  try dsimp only at hw
  obtain ⟨hP, hD⟩ := va_join (wr := [(h0, .inr (9, [w0, w1, w2, w3, w4, w5, w6, .ref qt, .int 0, w9, w10, w11, w12, w13, w14, w15, w16, w17, w18, w19, w20, w21, w22, w23, w24, w25, w26, w27, w28, w29, w30, w31])), (qt, .inl (kt, 80, .inl ft))]) (w1 := []) hP hD [] [0, 1] rfl rfl (by decide) (by decide) hk1 hFc hP1 hD1
  have hK := (hK.sub (tys' := [(kt, .int)]) [0] rfl).app hK1
  generalize H1 = H at hP hS ⊢
  have hP : va_P (dC, dI) vwCl [(h0, .inr (9, [w0, w1, w2, w3, w4, w5, w6, .ref qt, .int 0, w9, w10, w11, w12, w13, w14, w15, w16, w17, w18, w19, w20, w21, w22, w23, w24, w25, w26, w27, w28, w29, w30, w31])), (qt, .inl (kt, 80, .inl ft))] H := hP
  have hD : va_D A [(h0, .inr (9, [w0, w1, w2, w3, w4, w5, w6, .ref qt, .int 0, w9, w10, w11, w12, w13, w14, w15, w16, w17, w18, w19, w20, w21, w22, w23, w24, w25, w26, w27, w28, w29, w30, w31])), (qt, .inl (kt, 80, .inl ft))] := hD
  have hK : va_K (dC, dI) vwCl [(kt, .int)] s := hK
  rcases hw with ⟨e_r2, f_r2⟩ | ⟨e_r2, f_r2⟩
  · subst e_r2
    refine lv_if_eq (tgt := 50) hx hb dX10_feed_9 (by decide) (fun c3 => absurd c3 (by decide)) (fun c3 => ?_)
    refine lv_iload_n hx hb dX10_feed_12 rfl (lv_at hl 2 rfl) ?_
    have hPc := hP.sub (ws' := []) [] rfl
    have hDc := hD.sub (ws' := []) [] (by decide) rfl
    have hKc := hK.sub (tys' := []) [] rfl
    have hFc := va_free (wc := []) hD hS hA [] rfl
    refine va_calli (va_runS (As := [.int p1]) (rest := []) ⟨hx, hb, hml, hown, hts⟩ (c_X10_isByte l dC dI p1 H.size) (va_cwS 1 hts gX10_feed_X10_isByte rfl rfl rfl (by decide +kernel) ⟨Nat.le_of_ble_eq_true rfl, Nat.le_of_ble_eq_true rfl⟩) ⟨fun a U g mk q => by obtain ⟨q0, q1, qP, qK, qD⟩ := q; exact ⟨q0, q1, qP, va_K.moved (u := U) (U := U.calling g mk a) (Vm.Alike.refl U.vm) qK, qD⟩, fun U hU hW => ⟨rfl, by rw [hU], by rw [hU]; exact hPc, va_K.moved hW.alike hKc, hDc.weaken (fun _ _ _ _ => trivial)⟩⟩ rfl rfl hl.1 rfl (lv_room (Nat.le_of_ble_eq_true rfl)) dX10_feed_13 ⟨Nat.le_of_ble_eq_true rfl, Nat.le_of_ble_eq_true rfl⟩) hS (fun q _ h => hFc q h) hFc (fun r4 u t H1 locs ht hvm hw hB hz1 hk1 hS => ?_)
    obtain ⟨hP1, hK1, hD1⟩ := hB
    rw [ht] at hP1
    have hK1 := va_K.moved hvm.symm hK1
    try dsimp only at hw
    obtain ⟨hP, hD⟩ := va_join (wr := [(h0, .inr (9, [w0, w1, w2, w3, w4, w5, w6, .ref qt, .int 0, w9, w10, w11, w12, w13, w14, w15, w16, w17, w18, w19, w20, w21, w22, w23, w24, w25, w26, w27, w28, w29, w30, w31])), (qt, .inl (kt, 80, .inl ft))]) (w1 := []) hP hD [] [0, 1] rfl rfl (by decide) (by decide) hk1 hFc hP1 hD1
    have hK := (hK.sub (tys' := [(kt, .int)]) [0] rfl).app hK1
    generalize H1 = H at hP hS ⊢
    have hP : va_P (dC, dI) vwCl [(h0, .inr (9, [w0, w1, w2, w3, w4, w5, w6, .ref qt, .int 0, w9, w10, w11, w12, w13, w14, w15, w16, w17, w18, w19, w20, w21, w22, w23, w24, w25, w26, w27, w28, w29, w30, w31])), (qt, .inl (kt, 80, .inl ft))] H := hP
    have hD : va_D A [(h0, .inr (9, [w0, w1, w2, w3, w4, w5, w6, .ref qt, .int 0, w9, w10, w11, w12, w13, w14, w15, w16, w17, w18, w19, w20, w21, w22, w23, w24, w25, w26, w27, w28, w29, w30, w31])), (qt, .inl (kt, 80, .inl ft))] := hD
    have hK : va_K (dC, dI) vwCl [(kt, .int)] s := hK
    rcases hw with ⟨e_r4, f_r4⟩ | ⟨e_r4, f_r4⟩
    · subst e_r4
      refine lv_if_eq (tgt := 50) hx hb dX10_feed_16 (by decide) (fun c5 => absurd c5 (by decide)) (fun c5 => ?_)
      refine lv_iload_n hx hb dX10_feed_19 rfl (lv_at hl 3 rfl) ?_
      have hPc := hP.sub (ws' := []) [] rfl
      have hDc := hD.sub (ws' := []) [] (by decide) rfl
      have hKc := hK.sub (tys' := []) [] rfl
      have hFc := va_free (wc := []) hD hS hA [] rfl
      refine va_calli (va_runS (As := [.int p2]) (rest := []) ⟨hx, hb, hml, hown, hts⟩ (c_X10_isByte l dC dI p2 H.size) (va_cwS 1 hts gX10_feed_X10_isByte rfl rfl rfl (by decide +kernel) ⟨Nat.le_of_ble_eq_true rfl, Nat.le_of_ble_eq_true rfl⟩) ⟨fun a U g mk q => by obtain ⟨q0, q1, qP, qK, qD⟩ := q; exact ⟨q0, q1, qP, va_K.moved (u := U) (U := U.calling g mk a) (Vm.Alike.refl U.vm) qK, qD⟩, fun U hU hW => ⟨rfl, by rw [hU], by rw [hU]; exact hPc, va_K.moved hW.alike hKc, hDc.weaken (fun _ _ _ _ => trivial)⟩⟩ rfl rfl hl.1 rfl (lv_room (Nat.le_of_ble_eq_true rfl)) dX10_feed_20 ⟨Nat.le_of_ble_eq_true rfl, Nat.le_of_ble_eq_true rfl⟩) hS (fun q _ h => hFc q h) hFc (fun r6 u t H1 locs ht hvm hw hB hz1 hk1 hS => ?_)
      obtain ⟨hP1, hK1, hD1⟩ := hB
      rw [ht] at hP1
      have hK1 := va_K.moved hvm.symm hK1
      try dsimp only at hw
      obtain ⟨hP, hD⟩ := va_join (wr := [(h0, .inr (9, [w0, w1, w2, w3, w4, w5, w6, .ref qt, .int 0, w9, w10, w11, w12, w13, w14, w15, w16, w17, w18, w19, w20, w21, w22, w23, w24, w25, w26, w27, w28, w29, w30, w31])), (qt, .inl (kt, 80, .inl ft))]) (w1 := []) hP hD [] [0, 1] rfl rfl (by decide) (by decide) hk1 hFc hP1 hD1
      have hK := (hK.sub (tys' := [(kt, .int)]) [0] rfl).app hK1
      generalize H1 = H at hP hS ⊢
      have hP : va_P (dC, dI) vwCl [(h0, .inr (9, [w0, w1, w2, w3, w4, w5, w6, .ref qt, .int 0, w9, w10, w11, w12, w13, w14, w15, w16, w17, w18, w19, w20, w21, w22, w23, w24, w25, w26, w27, w28, w29, w30, w31])), (qt, .inl (kt, 80, .inl ft))] H := hP
      have hD : va_D A [(h0, .inr (9, [w0, w1, w2, w3, w4, w5, w6, .ref qt, .int 0, w9, w10, w11, w12, w13, w14, w15, w16, w17, w18, w19, w20, w21, w22, w23, w24, w25, w26, w27, w28, w29, w30, w31])), (qt, .inl (kt, 80, .inl ft))] := hD
      have hK : va_K (dC, dI) vwCl [(kt, .int)] s := hK
      rcases hw with ⟨e_r6, f_r6⟩ | ⟨e_r6, f_r6⟩
      · subst e_r6
        refine lv_if_eq (tgt := 50) hx hb dX10_feed_23 (by decide) (fun c7 => absurd c7 (by decide)) (fun c7 => ?_)
        refine lv_iload hx hb dX10_feed_26 (lv_at hl 4 rfl) ?_
        have hPc := hP.sub (ws' := []) [] rfl
        have hDc := hD.sub (ws' := []) [] (by decide) rfl
        have hKc := hK.sub (tys' := []) [] rfl
        have hFc := va_free (wc := []) hD hS hA [] rfl
        refine va_calli (va_runS (As := [.int p3]) (rest := []) ⟨hx, hb, hml, hown, hts⟩ (c_X10_isByte l dC dI p3 H.size) (va_cwS 1 hts gX10_feed_X10_isByte rfl rfl rfl (by decide +kernel) ⟨Nat.le_of_ble_eq_true rfl, Nat.le_of_ble_eq_true rfl⟩) ⟨fun a U g mk q => by obtain ⟨q0, q1, qP, qK, qD⟩ := q; exact ⟨q0, q1, qP, va_K.moved (u := U) (U := U.calling g mk a) (Vm.Alike.refl U.vm) qK, qD⟩, fun U hU hW => ⟨rfl, by rw [hU], by rw [hU]; exact hPc, va_K.moved hW.alike hKc, hDc.weaken (fun _ _ _ _ => trivial)⟩⟩ rfl rfl hl.1 rfl (lv_room (Nat.le_of_ble_eq_true rfl)) dX10_feed_28 ⟨Nat.le_of_ble_eq_true rfl, Nat.le_of_ble_eq_true rfl⟩) hS (fun q _ h => hFc q h) hFc (fun r8 u t H1 locs ht hvm hw hB hz1 hk1 hS => ?_)
        obtain ⟨hP1, hK1, hD1⟩ := hB
        rw [ht] at hP1
        have hK1 := va_K.moved hvm.symm hK1
        try dsimp only at hw
        obtain ⟨hP, hD⟩ := va_join (wr := [(h0, .inr (9, [w0, w1, w2, w3, w4, w5, w6, .ref qt, .int 0, w9, w10, w11, w12, w13, w14, w15, w16, w17, w18, w19, w20, w21, w22, w23, w24, w25, w26, w27, w28, w29, w30, w31])), (qt, .inl (kt, 80, .inl ft))]) (w1 := []) hP hD [] [0, 1] rfl rfl (by decide) (by decide) hk1 hFc hP1 hD1
        have hK := (hK.sub (tys' := [(kt, .int)]) [0] rfl).app hK1
        generalize H1 = H at hP hS ⊢
        have hP : va_P (dC, dI) vwCl [(h0, .inr (9, [w0, w1, w2, w3, w4, w5, w6, .ref qt, .int 0, w9, w10, w11, w12, w13, w14, w15, w16, w17, w18, w19, w20, w21, w22, w23, w24, w25, w26, w27, w28, w29, w30, w31])), (qt, .inl (kt, 80, .inl ft))] H := hP
        have hD : va_D A [(h0, .inr (9, [w0, w1, w2, w3, w4, w5, w6, .ref qt, .int 0, w9, w10, w11, w12, w13, w14, w15, w16, w17, w18, w19, w20, w21, w22, w23, w24, w25, w26, w27, w28, w29, w30, w31])), (qt, .inl (kt, 80, .inl ft))] := hD
        have hK : va_K (dC, dI) vwCl [(kt, .int)] s := hK
        rcases hw with ⟨e_r8, f_r8⟩ | ⟨e_r8, f_r8⟩
        · subst e_r8
          refine lv_if_eq (tgt := 50) hx hb dX10_feed_31 (by decide) (fun c9 => absurd c9 (by decide)) (fun c9 => ?_)
          refine lv_iload hx hb dX10_feed_34 (lv_at hl 5 rfl) ?_
          have hPc := hP.sub (ws' := []) [] rfl
          have hDc := hD.sub (ws' := []) [] (by decide) rfl
          have hKc := hK.sub (tys' := []) [] rfl
          have hFc := va_free (wc := []) hD hS hA [] rfl
          refine va_calli (va_runS (As := [.int p4]) (rest := []) ⟨hx, hb, hml, hown, hts⟩ (c_X10_isByte l dC dI p4 H.size) (va_cwS 1 hts gX10_feed_X10_isByte rfl rfl rfl (by decide +kernel) ⟨Nat.le_of_ble_eq_true rfl, Nat.le_of_ble_eq_true rfl⟩) ⟨fun a U g mk q => by obtain ⟨q0, q1, qP, qK, qD⟩ := q; exact ⟨q0, q1, qP, va_K.moved (u := U) (U := U.calling g mk a) (Vm.Alike.refl U.vm) qK, qD⟩, fun U hU hW => ⟨rfl, by rw [hU], by rw [hU]; exact hPc, va_K.moved hW.alike hKc, hDc.weaken (fun _ _ _ _ => trivial)⟩⟩ rfl rfl hl.1 rfl (lv_room (Nat.le_of_ble_eq_true rfl)) dX10_feed_36 ⟨Nat.le_of_ble_eq_true rfl, Nat.le_of_ble_eq_true rfl⟩) hS (fun q _ h => hFc q h) hFc (fun r10 u t H1 locs ht hvm hw hB hz1 hk1 hS => ?_)
          obtain ⟨hP1, hK1, hD1⟩ := hB
          rw [ht] at hP1
          have hK1 := va_K.moved hvm.symm hK1
          try dsimp only at hw
          obtain ⟨hP, hD⟩ := va_join (wr := [(h0, .inr (9, [w0, w1, w2, w3, w4, w5, w6, .ref qt, .int 0, w9, w10, w11, w12, w13, w14, w15, w16, w17, w18, w19, w20, w21, w22, w23, w24, w25, w26, w27, w28, w29, w30, w31])), (qt, .inl (kt, 80, .inl ft))]) (w1 := []) hP hD [] [0, 1] rfl rfl (by decide) (by decide) hk1 hFc hP1 hD1
          have hK := (hK.sub (tys' := [(kt, .int)]) [0] rfl).app hK1
          generalize H1 = H at hP hS ⊢
          have hP : va_P (dC, dI) vwCl [(h0, .inr (9, [w0, w1, w2, w3, w4, w5, w6, .ref qt, .int 0, w9, w10, w11, w12, w13, w14, w15, w16, w17, w18, w19, w20, w21, w22, w23, w24, w25, w26, w27, w28, w29, w30, w31])), (qt, .inl (kt, 80, .inl ft))] H := hP
          have hD : va_D A [(h0, .inr (9, [w0, w1, w2, w3, w4, w5, w6, .ref qt, .int 0, w9, w10, w11, w12, w13, w14, w15, w16, w17, w18, w19, w20, w21, w22, w23, w24, w25, w26, w27, w28, w29, w30, w31])), (qt, .inl (kt, 80, .inl ft))] := hD
          have hK : va_K (dC, dI) vwCl [(kt, .int)] s := hK
          rcases hw with ⟨e_r10, f_r10⟩ | ⟨e_r10, f_r10⟩
          · subst e_r10
            refine lv_if_eq (tgt := 50) hx hb dX10_feed_39 (by decide) (fun c11 => absurd c11 (by decide)) (fun c11 => ?_)
            refine lv_iload hx hb dX10_feed_42 (lv_at hl 6 rfl) ?_
            have hPc := hP.sub (ws' := []) [] rfl
            have hDc := hD.sub (ws' := []) [] (by decide) rfl
            have hKc := hK.sub (tys' := []) [] rfl
            have hFc := va_free (wc := []) hD hS hA [] rfl
            refine va_calli (va_runS (As := [.int p5]) (rest := []) ⟨hx, hb, hml, hown, hts⟩ (c_X10_isByte l dC dI p5 H.size) (va_cwS 1 hts gX10_feed_X10_isByte rfl rfl rfl (by decide +kernel) ⟨Nat.le_of_ble_eq_true rfl, Nat.le_of_ble_eq_true rfl⟩) ⟨fun a U g mk q => by obtain ⟨q0, q1, qP, qK, qD⟩ := q; exact ⟨q0, q1, qP, va_K.moved (u := U) (U := U.calling g mk a) (Vm.Alike.refl U.vm) qK, qD⟩, fun U hU hW => ⟨rfl, by rw [hU], by rw [hU]; exact hPc, va_K.moved hW.alike hKc, hDc.weaken (fun _ _ _ _ => trivial)⟩⟩ rfl rfl hl.1 rfl (lv_room (Nat.le_of_ble_eq_true rfl)) dX10_feed_44 ⟨Nat.le_of_ble_eq_true rfl, Nat.le_of_ble_eq_true rfl⟩) hS (fun q _ h => hFc q h) hFc (fun r12 u t H1 locs ht hvm hw hB hz1 hk1 hS => ?_)
            obtain ⟨hP1, hK1, hD1⟩ := hB
            rw [ht] at hP1
            have hK1 := va_K.moved hvm.symm hK1
            try dsimp only at hw
            obtain ⟨hP, hD⟩ := va_join (wr := [(h0, .inr (9, [w0, w1, w2, w3, w4, w5, w6, .ref qt, .int 0, w9, w10, w11, w12, w13, w14, w15, w16, w17, w18, w19, w20, w21, w22, w23, w24, w25, w26, w27, w28, w29, w30, w31])), (qt, .inl (kt, 80, .inl ft))]) (w1 := []) hP hD [] [0, 1] rfl rfl (by decide) (by decide) hk1 hFc hP1 hD1
            have hK := (hK.sub (tys' := [(kt, .int)]) [0] rfl).app hK1
            generalize H1 = H at hP hS ⊢
            have hP : va_P (dC, dI) vwCl [(h0, .inr (9, [w0, w1, w2, w3, w4, w5, w6, .ref qt, .int 0, w9, w10, w11, w12, w13, w14, w15, w16, w17, w18, w19, w20, w21, w22, w23, w24, w25, w26, w27, w28, w29, w30, w31])), (qt, .inl (kt, 80, .inl ft))] H := hP
            have hD : va_D A [(h0, .inr (9, [w0, w1, w2, w3, w4, w5, w6, .ref qt, .int 0, w9, w10, w11, w12, w13, w14, w15, w16, w17, w18, w19, w20, w21, w22, w23, w24, w25, w26, w27, w28, w29, w30, w31])), (qt, .inl (kt, 80, .inl ft))] := hD
            have hK : va_K (dC, dI) vwCl [(kt, .int)] s := hK
            rcases hw with ⟨e_r12, f_r12⟩ | ⟨e_r12, f_r12⟩
            · subst e_r12
              refine lv_if_ne (tgt := 53) hx hb dX10_feed_47 (by decide) (fun c13 => ?_) (fun c13 => absurd c13 (by decide))
              refine lv_aload_n hx hb dX10_feed_53 rfl (lv_at hl 0 rfl) ?_
              refine va_get (D := (dC, dI)) (ci := 9) (v := .int 0) (C := RX10) (T := TX10) (N := 32) hx hb hts in_X10_feed_X10 hown hK hP 0 rfl rfl 8 (by decide) (hts (.fieldLink RX10 107 "ClearingGatesModel" "taped" "I") (List.mem_of_getElem? (i := 2) (by decide +kernel))) (fun _ h9 => h9) rfl dX10_feed_54 ?_
              refine lv_iload_n hx hb dX10_feed_57 rfl (lv_at hl 1 rfl) ?_
              refine lv_iadd hx hb dX10_feed_58 ?_
              refine lv_topi (fun z14 e_z14 => ?_)
              have t_z14 := i_add e_z14 (by omega) (by omega)
              refine lv_bipush (v := 80) hx hb dX10_feed_59 (by decide) ?_
              refine lv_icmp_le (tgt := 67) hx hb dX10_feed_61 (by decide) (fun c15 => ?_) (fun c15 => ?_)
              · skip
                have f_c15 := i_le c15
                refine lv_iconst (v := 0) hx hb dX10_feed_67 (by decide) ?_
                refine lv_istore (lv' := [(7, .int 0), (0, .ref h0), (1, .int p0), (2, .int p1), (3, .int p2), (4, .int p3), (5, .int p4), (6, .int p5)]) hx hb dX10_feed_68 hl (by decide) rfl (fun ls hl => ?_)
                have loop_70 : ∀ (n i_70 : Nat) (x_70 : Int32), i_70 ≤ 5 → 5 < i_70 + n → x_70 = nI i_70 → ∀ (gi : Nat → Int32), (x_70.toInt ≤ p0.toInt) → ∀ (H : Heap) (locs : List Loc), va_K (dC, dI) vwCl [(kt, .int)] s → va_P (dC, dI) vwCl [(h0, .inr (9, [w0, w1, w2, w3, w4, w5, w6, .ref qt, .int x_70, w9, w10, w11, w12, w13, w14, w15, w16, w17, w18, w19, w20, w21, w22, w23, w24, w25, w26, w27, w28, w29, w30, w31])), (qt, .inl (kt, 80, .inl gi))] H → va_D A [(h0, .inr (9, [w0, w1, w2, w3, w4, w5, w6, .ref qt, .int x_70, w9, w10, w11, w12, w13, w14, w15, w16, w17, w18, w19, w20, w21, w22, w23, w24, w25, w26, w27, w28, w29, w30, w31])), (qt, .inl (kt, 80, .inl gi))] → va_S A s.heap H locs → ∀ (ls : Array Slot), lv_has ls 8 [(7, .int x_70), (0, .ref h0), (1, .int p0), (2, .int p1), (3, .int p2), (4, .int p3), (5, .int p4), (6, .int p5)] → W p l e ({ frames := 2, cells := 0, slots := 0, locals := 45 }) s m (([.ref h0, .int p0, .int p1, .int p2, .int p3, .int p4, .int p5] : List Value).toArray) below meth c H locs 0 0 (MQ below (va_Qi (fun (r : Int32) (_ : Unit) => (r = p0 ∧ 1 ≤ p0.toInt ∧ p0.toInt ≤ 5 ∧ 0 ≤ p1.toInt ∧ p1.toInt ≤ 255 ∧ 0 ≤ p2.toInt ∧ p2.toInt ≤ 255 ∧ 0 ≤ p3.toInt ∧ p3.toInt ≤ 255 ∧ 0 ≤ p4.toInt ∧ p4.toInt ≤ 255 ∧ 0 ≤ p5.toInt ∧ p5.toInt ≤ 255) ∨ (r = (-2) ∧ ¬(1 ≤ p0.toInt ∧ p0.toInt ≤ 5 ∧ 0 ≤ p1.toInt ∧ p1.toInt ≤ 255 ∧ 0 ≤ p2.toInt ∧ p2.toInt ≤ 255 ∧ 0 ≤ p3.toInt ∧ p3.toInt ≤ 255 ∧ 0 ≤ p4.toInt ∧ p4.toInt ≤ 255 ∧ 0 ≤ p5.toInt ∧ p5.toInt ≤ 255))) (fun (_ : Unit) (t : State) => va_P (dC, dI) vwCl [] t.heap ∧ va_K (dC, dI) vwCl [] t ∧ va_D A []) A) (([.ref h0, .int p0, .int p1, .int p2, .int p3, .int p4, .int p5] : List Value).toArray) s 0 0 A) (F0 m 70 ls []) := by
                  intro n
                  induction n with
                  | zero => intro i_70 x_70 h1 h2; exact absurd h2 (by omega)
                  | succ n ih_70 =>
                    intro i_70 x_70 hi_70 hn_70 e_x_70 gi hin H locs hK hP hD hS ls hl
                    have t_x_70 : x_70.toInt = (i_70 : Int) := by rw [e_x_70]; exact nI_toInt (by omega)
                    refine lv_iload hx hb dX10_feed_70 (lv_at hl 0 rfl) ?_
                    refine lv_iload_n hx hb dX10_feed_72 rfl (lv_at hl 2 rfl) ?_
                    refine lv_icmp_ge (tgt := 144) hx hb dX10_feed_73 (by decide) (fun c16 => ?_) (fun c16 => ?_)
                    · skip
                      have f_c16 := i_le c16
                      refine lv_aload_n hx hb dX10_feed_144 rfl (lv_at hl 1 rfl) ?_
                      refine va_get (D := (dC, dI)) (ci := 9) (v := .int x_70) (C := RX10) (T := TX10) (N := 32) hx hb hts in_X10_feed_X10 hown hK hP 0 rfl rfl 8 (by decide) (hts (.fieldLink RX10 107 "ClearingGatesModel" "taped" "I") (List.mem_of_getElem? (i := 2) (by decide +kernel))) (fun _ h9 => h9) rfl dX10_feed_145 ?_
                      have hP9 := hP.sub (ws' := []) [] rfl
                      have hD9 := hD.sub (ws' := []) [] (by decide) rfl
                      have hK9 := hK.sub (tys' := []) [] rfl
                      exact W.iret (v := x_70) hx hb hr (fun t ht hW => ⟨⟨x_70, (), rfl, Or.inl ⟨Int32.toInt_inj.mp (by omega), by omega⟩, by rw [ht]; exact hP9, va_K.moved hW.alike hK9, hD9⟩, hS.F ht⟩) hS.2.2 dX10_feed_148
                    · skip
                      have f_c16 := i_nle c16
                      refine lv_aload_n hx hb dX10_feed_76 rfl (lv_at hl 1 rfl) ?_
                      refine va_get (D := (dC, dI)) (ci := 9) (v := .ref qt) (C := RX10) (T := TX10) (N := 32) hx hb hts in_X10_feed_X10 hown hK hP 0 rfl rfl 7 (by decide) (hts (.fieldLink RX10 21 "ClearingGatesModel" "tape" "[I") (List.mem_of_getElem? (i := 3) (by decide +kernel))) (fun _ h9 => h9) rfl dX10_feed_77 ?_
                      refine lv_aload_n hx hb dX10_feed_80 rfl (lv_at hl 1 rfl) ?_
                      refine va_get (D := (dC, dI)) (ci := 9) (v := .int x_70) (C := RX10) (T := TX10) (N := 32) hx hb hts in_X10_feed_X10 hown hK hP 0 rfl rfl 8 (by decide) (hts (.fieldLink RX10 107 "ClearingGatesModel" "taped" "I") (List.mem_of_getElem? (i := 2) (by decide +kernel))) (fun _ h9 => h9) rfl dX10_feed_81 ?_
                      refine lv_iload hx hb dX10_feed_84 (lv_at hl 0 rfl) ?_
                      refine lv_if_ne (tgt := 93) hx hb dX10_feed_86 (by decide) (fun c17 => ?_) (fun c17 => ?_)
                      · skip
                        have f_c17 := i_ne c17
                        refine lv_iload hx hb dX10_feed_93 (lv_at hl 0 rfl) ?_
                        refine lv_iconst (v := 1) hx hb dX10_feed_95 (by decide) ?_
                        refine lv_icmp_ne (tgt := 103) hx hb dX10_feed_96 (by decide) (fun c18 => ?_) (fun c18 => ?_)
                        · skip
                          have f_c18 := i_ne c18
                          refine lv_iload hx hb dX10_feed_103 (lv_at hl 0 rfl) ?_
                          refine lv_iconst (v := 2) hx hb dX10_feed_105 (by decide) ?_
                          refine lv_icmp_ne (tgt := 114) hx hb dX10_feed_106 (by decide) (fun c19 => ?_) (fun c19 => ?_)
                          · skip
                            have f_c19 := i_ne c19
                            refine lv_iload hx hb dX10_feed_114 (lv_at hl 0 rfl) ?_
                            refine lv_iconst (v := 3) hx hb dX10_feed_116 (by decide) ?_
                            refine lv_icmp_ne (tgt := 125) hx hb dX10_feed_117 (by decide) (fun c20 => ?_) (fun c20 => ?_)
                            · skip
                              have f_c20 := i_ne c20
                              refine lv_iload hx hb dX10_feed_125 (lv_at hl 7 rfl) ?_
                              refine va_iast (D := (dC, dI)) hx hb hK hP hD hS 1 0 rfl rfl (vp_in_iff.mpr ⟨by omega, by omega⟩) dX10_feed_127 (fun H locs hP hD hS => ?_)
                              generalize e_g21 : (upd gi (x_70).toNatClampNeg p5) = g21 at hP hD
                              have hP : va_P (dC, dI) vwCl [(h0, .inr (9, [w0, w1, w2, w3, w4, w5, w6, .ref qt, .int x_70, w9, w10, w11, w12, w13, w14, w15, w16, w17, w18, w19, w20, w21, w22, w23, w24, w25, w26, w27, w28, w29, w30, w31])), (qt, .inl (kt, 80, .inl g21))] H := hP
                              have hD : va_D A [(h0, .inr (9, [w0, w1, w2, w3, w4, w5, w6, .ref qt, .int x_70, w9, w10, w11, w12, w13, w14, w15, w16, w17, w18, w19, w20, w21, w22, w23, w24, w25, w26, w27, w28, w29, w30, w31])), (qt, .inl (kt, 80, .inl g21))] := hD
                              refine lv_aload_n hx hb dX10_feed_128 rfl (lv_at hl 1 rfl) ?_
                              refine lv_dup hx hb dX10_feed_129 rfl ?_
                              refine va_get (D := (dC, dI)) (ci := 9) (v := .int x_70) (C := RX10) (T := TX10) (N := 32) hx hb hts in_X10_feed_X10 hown hK hP 0 rfl rfl 8 (by decide) (hts (.fieldLink RX10 107 "ClearingGatesModel" "taped" "I") (List.mem_of_getElem? (i := 2) (by decide +kernel))) (fun _ h9 => h9) rfl dX10_feed_130 ?_
                              refine lv_iconst (v := 1) hx hb dX10_feed_133 (by decide) ?_
                              refine lv_iadd hx hb dX10_feed_134 ?_
                              refine lv_topi (fun z22 e_z22 => ?_)
                              refine va_put (D := (dC, dI)) (ci := 9) (v := .int z22) (ty := .int) (C := RX10) (T := TX10) (N := 32) hx hb hts in_X10_feed_X10 tyX10 tyX10_ok nmX10 hown hK hP hD hS 0 rfl rfl 8 (by decide) (hts (.fieldLink RX10 107 "ClearingGatesModel" "taped" "I") (List.mem_of_getElem? (i := 2) (by decide +kernel))) (fun _ h9 => h9) rfl (by decide +kernel) rfl rfl (Nat.le_of_ble_eq_true rfl) dX10_feed_135 (fun H locs hP hD hS => ?_)
                              have hP : va_P (dC, dI) vwCl [(h0, .inr (9, [w0, w1, w2, w3, w4, w5, w6, .ref qt, .int z22, w9, w10, w11, w12, w13, w14, w15, w16, w17, w18, w19, w20, w21, w22, w23, w24, w25, w26, w27, w28, w29, w30, w31])), (qt, .inl (kt, 80, .inl g21))] H := hP
                              have hD : va_D A [(h0, .inr (9, [w0, w1, w2, w3, w4, w5, w6, .ref qt, .int z22, w9, w10, w11, w12, w13, w14, w15, w16, w17, w18, w19, w20, w21, w22, w23, w24, w25, w26, w27, w28, w29, w30, w31])), (qt, .inl (kt, 80, .inl g21))] := hD
                              obtain ⟨x23, e_x23⟩ : ∃ y : Int32, y = x_70 + 1 := ⟨_, rfl⟩
                              refine lv_iinc (v := x23) (lv' := [(7, .int x23), (0, .ref h0), (1, .int p0), (2, .int p1), (3, .int p2), (4, .int p3), (5, .int p4), (6, .int p5)]) hx hb dX10_feed_138 hl (k := 0) rfl (by rw [e_x23]; rfl) (by decide) rfl (fun ls hl => ?_)
                              refine lv_goto (tgt := 70) hx hb dX10_feed_141 (by decide) ?_
                              have q_z22 : z22 = x23 := by rw [e_z22, e_x23]
                              rw [q_z22] at hP hD
                              have t_x23 : x23.toInt = x_70.toInt + 1 := by rw [i_add e_x23 (by omega) (by omega), k_1]
                              exact ih_70 (i_70 + 1) x23 (by omega) (by omega) (by rw [e_x23, e_x_70]; exact nI_1 i_70) g21 (by omega) _ _ (hK.sub [0] rfl) (hP.sub [0, 1] rfl) (hD.sub [0, 1] (by decide) rfl) hS ls (lv_sub hl [0, 1, 2, 3, 4, 5, 6, 7] rfl)
                            · skip
                              have f_c20 := i_eq c20
                              refine lv_iload hx hb dX10_feed_120 (lv_at hl 6 rfl) ?_
                              refine lv_goto (tgt := 127) hx hb dX10_feed_122 (by decide) ?_
                              refine va_iast (D := (dC, dI)) hx hb hK hP hD hS 1 0 rfl rfl (vp_in_iff.mpr ⟨by omega, by omega⟩) dX10_feed_127 (fun H locs hP hD hS => ?_)
                              generalize e_g24 : (upd gi (x_70).toNatClampNeg p4) = g24 at hP hD
                              have hP : va_P (dC, dI) vwCl [(h0, .inr (9, [w0, w1, w2, w3, w4, w5, w6, .ref qt, .int x_70, w9, w10, w11, w12, w13, w14, w15, w16, w17, w18, w19, w20, w21, w22, w23, w24, w25, w26, w27, w28, w29, w30, w31])), (qt, .inl (kt, 80, .inl g24))] H := hP
                              have hD : va_D A [(h0, .inr (9, [w0, w1, w2, w3, w4, w5, w6, .ref qt, .int x_70, w9, w10, w11, w12, w13, w14, w15, w16, w17, w18, w19, w20, w21, w22, w23, w24, w25, w26, w27, w28, w29, w30, w31])), (qt, .inl (kt, 80, .inl g24))] := hD
                              refine lv_aload_n hx hb dX10_feed_128 rfl (lv_at hl 1 rfl) ?_
                              refine lv_dup hx hb dX10_feed_129 rfl ?_
                              refine va_get (D := (dC, dI)) (ci := 9) (v := .int x_70) (C := RX10) (T := TX10) (N := 32) hx hb hts in_X10_feed_X10 hown hK hP 0 rfl rfl 8 (by decide) (hts (.fieldLink RX10 107 "ClearingGatesModel" "taped" "I") (List.mem_of_getElem? (i := 2) (by decide +kernel))) (fun _ h9 => h9) rfl dX10_feed_130 ?_
                              refine lv_iconst (v := 1) hx hb dX10_feed_133 (by decide) ?_
                              refine lv_iadd hx hb dX10_feed_134 ?_
                              refine lv_topi (fun z25 e_z25 => ?_)
                              refine va_put (D := (dC, dI)) (ci := 9) (v := .int z25) (ty := .int) (C := RX10) (T := TX10) (N := 32) hx hb hts in_X10_feed_X10 tyX10 tyX10_ok nmX10 hown hK hP hD hS 0 rfl rfl 8 (by decide) (hts (.fieldLink RX10 107 "ClearingGatesModel" "taped" "I") (List.mem_of_getElem? (i := 2) (by decide +kernel))) (fun _ h9 => h9) rfl (by decide +kernel) rfl rfl (Nat.le_of_ble_eq_true rfl) dX10_feed_135 (fun H locs hP hD hS => ?_)
                              have hP : va_P (dC, dI) vwCl [(h0, .inr (9, [w0, w1, w2, w3, w4, w5, w6, .ref qt, .int z25, w9, w10, w11, w12, w13, w14, w15, w16, w17, w18, w19, w20, w21, w22, w23, w24, w25, w26, w27, w28, w29, w30, w31])), (qt, .inl (kt, 80, .inl g24))] H := hP
                              have hD : va_D A [(h0, .inr (9, [w0, w1, w2, w3, w4, w5, w6, .ref qt, .int z25, w9, w10, w11, w12, w13, w14, w15, w16, w17, w18, w19, w20, w21, w22, w23, w24, w25, w26, w27, w28, w29, w30, w31])), (qt, .inl (kt, 80, .inl g24))] := hD
                              obtain ⟨x26, e_x26⟩ : ∃ y : Int32, y = x_70 + 1 := ⟨_, rfl⟩
                              refine lv_iinc (v := x26) (lv' := [(7, .int x26), (0, .ref h0), (1, .int p0), (2, .int p1), (3, .int p2), (4, .int p3), (5, .int p4), (6, .int p5)]) hx hb dX10_feed_138 hl (k := 0) rfl (by rw [e_x26]; rfl) (by decide) rfl (fun ls hl => ?_)
                              refine lv_goto (tgt := 70) hx hb dX10_feed_141 (by decide) ?_
                              have q_z25 : z25 = x26 := by rw [e_z25, e_x26]
                              rw [q_z25] at hP hD
                              have t_x26 : x26.toInt = x_70.toInt + 1 := by rw [i_add e_x26 (by omega) (by omega), k_1]
                              exact ih_70 (i_70 + 1) x26 (by omega) (by omega) (by rw [e_x26, e_x_70]; exact nI_1 i_70) g24 (by omega) _ _ (hK.sub [0] rfl) (hP.sub [0, 1] rfl) (hD.sub [0, 1] (by decide) rfl) hS ls (lv_sub hl [0, 1, 2, 3, 4, 5, 6, 7] rfl)
                          · skip
                            have f_c19 := i_eq c19
                            refine lv_iload hx hb dX10_feed_109 (lv_at hl 5 rfl) ?_
                            refine lv_goto (tgt := 127) hx hb dX10_feed_111 (by decide) ?_
                            refine va_iast (D := (dC, dI)) hx hb hK hP hD hS 1 0 rfl rfl (vp_in_iff.mpr ⟨by omega, by omega⟩) dX10_feed_127 (fun H locs hP hD hS => ?_)
                            generalize e_g27 : (upd gi (x_70).toNatClampNeg p3) = g27 at hP hD
                            have hP : va_P (dC, dI) vwCl [(h0, .inr (9, [w0, w1, w2, w3, w4, w5, w6, .ref qt, .int x_70, w9, w10, w11, w12, w13, w14, w15, w16, w17, w18, w19, w20, w21, w22, w23, w24, w25, w26, w27, w28, w29, w30, w31])), (qt, .inl (kt, 80, .inl g27))] H := hP
                            have hD : va_D A [(h0, .inr (9, [w0, w1, w2, w3, w4, w5, w6, .ref qt, .int x_70, w9, w10, w11, w12, w13, w14, w15, w16, w17, w18, w19, w20, w21, w22, w23, w24, w25, w26, w27, w28, w29, w30, w31])), (qt, .inl (kt, 80, .inl g27))] := hD
                            refine lv_aload_n hx hb dX10_feed_128 rfl (lv_at hl 1 rfl) ?_
                            refine lv_dup hx hb dX10_feed_129 rfl ?_
                            refine va_get (D := (dC, dI)) (ci := 9) (v := .int x_70) (C := RX10) (T := TX10) (N := 32) hx hb hts in_X10_feed_X10 hown hK hP 0 rfl rfl 8 (by decide) (hts (.fieldLink RX10 107 "ClearingGatesModel" "taped" "I") (List.mem_of_getElem? (i := 2) (by decide +kernel))) (fun _ h9 => h9) rfl dX10_feed_130 ?_
                            refine lv_iconst (v := 1) hx hb dX10_feed_133 (by decide) ?_
                            refine lv_iadd hx hb dX10_feed_134 ?_
                            refine lv_topi (fun z28 e_z28 => ?_)
                            refine va_put (D := (dC, dI)) (ci := 9) (v := .int z28) (ty := .int) (C := RX10) (T := TX10) (N := 32) hx hb hts in_X10_feed_X10 tyX10 tyX10_ok nmX10 hown hK hP hD hS 0 rfl rfl 8 (by decide) (hts (.fieldLink RX10 107 "ClearingGatesModel" "taped" "I") (List.mem_of_getElem? (i := 2) (by decide +kernel))) (fun _ h9 => h9) rfl (by decide +kernel) rfl rfl (Nat.le_of_ble_eq_true rfl) dX10_feed_135 (fun H locs hP hD hS => ?_)
                            have hP : va_P (dC, dI) vwCl [(h0, .inr (9, [w0, w1, w2, w3, w4, w5, w6, .ref qt, .int z28, w9, w10, w11, w12, w13, w14, w15, w16, w17, w18, w19, w20, w21, w22, w23, w24, w25, w26, w27, w28, w29, w30, w31])), (qt, .inl (kt, 80, .inl g27))] H := hP
                            have hD : va_D A [(h0, .inr (9, [w0, w1, w2, w3, w4, w5, w6, .ref qt, .int z28, w9, w10, w11, w12, w13, w14, w15, w16, w17, w18, w19, w20, w21, w22, w23, w24, w25, w26, w27, w28, w29, w30, w31])), (qt, .inl (kt, 80, .inl g27))] := hD
                            obtain ⟨x29, e_x29⟩ : ∃ y : Int32, y = x_70 + 1 := ⟨_, rfl⟩
                            refine lv_iinc (v := x29) (lv' := [(7, .int x29), (0, .ref h0), (1, .int p0), (2, .int p1), (3, .int p2), (4, .int p3), (5, .int p4), (6, .int p5)]) hx hb dX10_feed_138 hl (k := 0) rfl (by rw [e_x29]; rfl) (by decide) rfl (fun ls hl => ?_)
                            refine lv_goto (tgt := 70) hx hb dX10_feed_141 (by decide) ?_
                            have q_z28 : z28 = x29 := by rw [e_z28, e_x29]
                            rw [q_z28] at hP hD
                            have t_x29 : x29.toInt = x_70.toInt + 1 := by rw [i_add e_x29 (by omega) (by omega), k_1]
                            exact ih_70 (i_70 + 1) x29 (by omega) (by omega) (by rw [e_x29, e_x_70]; exact nI_1 i_70) g27 (by omega) _ _ (hK.sub [0] rfl) (hP.sub [0, 1] rfl) (hD.sub [0, 1] (by decide) rfl) hS ls (lv_sub hl [0, 1, 2, 3, 4, 5, 6, 7] rfl)
                        · skip
                          have f_c18 := i_eq c18
                          refine lv_iload_n hx hb dX10_feed_99 rfl (lv_at hl 4 rfl) ?_
                          refine lv_goto (tgt := 127) hx hb dX10_feed_100 (by decide) ?_
                          refine va_iast (D := (dC, dI)) hx hb hK hP hD hS 1 0 rfl rfl (vp_in_iff.mpr ⟨by omega, by omega⟩) dX10_feed_127 (fun H locs hP hD hS => ?_)
                          generalize e_g30 : (upd gi (x_70).toNatClampNeg p2) = g30 at hP hD
                          have hP : va_P (dC, dI) vwCl [(h0, .inr (9, [w0, w1, w2, w3, w4, w5, w6, .ref qt, .int x_70, w9, w10, w11, w12, w13, w14, w15, w16, w17, w18, w19, w20, w21, w22, w23, w24, w25, w26, w27, w28, w29, w30, w31])), (qt, .inl (kt, 80, .inl g30))] H := hP
                          have hD : va_D A [(h0, .inr (9, [w0, w1, w2, w3, w4, w5, w6, .ref qt, .int x_70, w9, w10, w11, w12, w13, w14, w15, w16, w17, w18, w19, w20, w21, w22, w23, w24, w25, w26, w27, w28, w29, w30, w31])), (qt, .inl (kt, 80, .inl g30))] := hD
                          refine lv_aload_n hx hb dX10_feed_128 rfl (lv_at hl 1 rfl) ?_
                          refine lv_dup hx hb dX10_feed_129 rfl ?_
                          refine va_get (D := (dC, dI)) (ci := 9) (v := .int x_70) (C := RX10) (T := TX10) (N := 32) hx hb hts in_X10_feed_X10 hown hK hP 0 rfl rfl 8 (by decide) (hts (.fieldLink RX10 107 "ClearingGatesModel" "taped" "I") (List.mem_of_getElem? (i := 2) (by decide +kernel))) (fun _ h9 => h9) rfl dX10_feed_130 ?_
                          refine lv_iconst (v := 1) hx hb dX10_feed_133 (by decide) ?_
                          refine lv_iadd hx hb dX10_feed_134 ?_
                          refine lv_topi (fun z31 e_z31 => ?_)
                          refine va_put (D := (dC, dI)) (ci := 9) (v := .int z31) (ty := .int) (C := RX10) (T := TX10) (N := 32) hx hb hts in_X10_feed_X10 tyX10 tyX10_ok nmX10 hown hK hP hD hS 0 rfl rfl 8 (by decide) (hts (.fieldLink RX10 107 "ClearingGatesModel" "taped" "I") (List.mem_of_getElem? (i := 2) (by decide +kernel))) (fun _ h9 => h9) rfl (by decide +kernel) rfl rfl (Nat.le_of_ble_eq_true rfl) dX10_feed_135 (fun H locs hP hD hS => ?_)
                          have hP : va_P (dC, dI) vwCl [(h0, .inr (9, [w0, w1, w2, w3, w4, w5, w6, .ref qt, .int z31, w9, w10, w11, w12, w13, w14, w15, w16, w17, w18, w19, w20, w21, w22, w23, w24, w25, w26, w27, w28, w29, w30, w31])), (qt, .inl (kt, 80, .inl g30))] H := hP
                          have hD : va_D A [(h0, .inr (9, [w0, w1, w2, w3, w4, w5, w6, .ref qt, .int z31, w9, w10, w11, w12, w13, w14, w15, w16, w17, w18, w19, w20, w21, w22, w23, w24, w25, w26, w27, w28, w29, w30, w31])), (qt, .inl (kt, 80, .inl g30))] := hD
                          obtain ⟨x32, e_x32⟩ : ∃ y : Int32, y = x_70 + 1 := ⟨_, rfl⟩
                          refine lv_iinc (v := x32) (lv' := [(7, .int x32), (0, .ref h0), (1, .int p0), (2, .int p1), (3, .int p2), (4, .int p3), (5, .int p4), (6, .int p5)]) hx hb dX10_feed_138 hl (k := 0) rfl (by rw [e_x32]; rfl) (by decide) rfl (fun ls hl => ?_)
                          refine lv_goto (tgt := 70) hx hb dX10_feed_141 (by decide) ?_
                          have q_z31 : z31 = x32 := by rw [e_z31, e_x32]
                          rw [q_z31] at hP hD
                          have t_x32 : x32.toInt = x_70.toInt + 1 := by rw [i_add e_x32 (by omega) (by omega), k_1]
                          exact ih_70 (i_70 + 1) x32 (by omega) (by omega) (by rw [e_x32, e_x_70]; exact nI_1 i_70) g30 (by omega) _ _ (hK.sub [0] rfl) (hP.sub [0, 1] rfl) (hD.sub [0, 1] (by decide) rfl) hS ls (lv_sub hl [0, 1, 2, 3, 4, 5, 6, 7] rfl)
                      · skip
                        have f_c17 := i_eq c17
                        refine lv_iload_n hx hb dX10_feed_89 rfl (lv_at hl 3 rfl) ?_
                        refine lv_goto (tgt := 127) hx hb dX10_feed_90 (by decide) ?_
                        refine va_iast (D := (dC, dI)) hx hb hK hP hD hS 1 0 rfl rfl (vp_in_iff.mpr ⟨by omega, by omega⟩) dX10_feed_127 (fun H locs hP hD hS => ?_)
                        generalize e_g33 : (upd gi (x_70).toNatClampNeg p1) = g33 at hP hD
                        have hP : va_P (dC, dI) vwCl [(h0, .inr (9, [w0, w1, w2, w3, w4, w5, w6, .ref qt, .int x_70, w9, w10, w11, w12, w13, w14, w15, w16, w17, w18, w19, w20, w21, w22, w23, w24, w25, w26, w27, w28, w29, w30, w31])), (qt, .inl (kt, 80, .inl g33))] H := hP
                        have hD : va_D A [(h0, .inr (9, [w0, w1, w2, w3, w4, w5, w6, .ref qt, .int x_70, w9, w10, w11, w12, w13, w14, w15, w16, w17, w18, w19, w20, w21, w22, w23, w24, w25, w26, w27, w28, w29, w30, w31])), (qt, .inl (kt, 80, .inl g33))] := hD
                        refine lv_aload_n hx hb dX10_feed_128 rfl (lv_at hl 1 rfl) ?_
                        refine lv_dup hx hb dX10_feed_129 rfl ?_
                        refine va_get (D := (dC, dI)) (ci := 9) (v := .int x_70) (C := RX10) (T := TX10) (N := 32) hx hb hts in_X10_feed_X10 hown hK hP 0 rfl rfl 8 (by decide) (hts (.fieldLink RX10 107 "ClearingGatesModel" "taped" "I") (List.mem_of_getElem? (i := 2) (by decide +kernel))) (fun _ h9 => h9) rfl dX10_feed_130 ?_
                        refine lv_iconst (v := 1) hx hb dX10_feed_133 (by decide) ?_
                        refine lv_iadd hx hb dX10_feed_134 ?_
                        refine lv_topi (fun z34 e_z34 => ?_)
                        refine va_put (D := (dC, dI)) (ci := 9) (v := .int z34) (ty := .int) (C := RX10) (T := TX10) (N := 32) hx hb hts in_X10_feed_X10 tyX10 tyX10_ok nmX10 hown hK hP hD hS 0 rfl rfl 8 (by decide) (hts (.fieldLink RX10 107 "ClearingGatesModel" "taped" "I") (List.mem_of_getElem? (i := 2) (by decide +kernel))) (fun _ h9 => h9) rfl (by decide +kernel) rfl rfl (Nat.le_of_ble_eq_true rfl) dX10_feed_135 (fun H locs hP hD hS => ?_)
                        have hP : va_P (dC, dI) vwCl [(h0, .inr (9, [w0, w1, w2, w3, w4, w5, w6, .ref qt, .int z34, w9, w10, w11, w12, w13, w14, w15, w16, w17, w18, w19, w20, w21, w22, w23, w24, w25, w26, w27, w28, w29, w30, w31])), (qt, .inl (kt, 80, .inl g33))] H := hP
                        have hD : va_D A [(h0, .inr (9, [w0, w1, w2, w3, w4, w5, w6, .ref qt, .int z34, w9, w10, w11, w12, w13, w14, w15, w16, w17, w18, w19, w20, w21, w22, w23, w24, w25, w26, w27, w28, w29, w30, w31])), (qt, .inl (kt, 80, .inl g33))] := hD
                        obtain ⟨x35, e_x35⟩ : ∃ y : Int32, y = x_70 + 1 := ⟨_, rfl⟩
                        refine lv_iinc (v := x35) (lv' := [(7, .int x35), (0, .ref h0), (1, .int p0), (2, .int p1), (3, .int p2), (4, .int p3), (5, .int p4), (6, .int p5)]) hx hb dX10_feed_138 hl (k := 0) rfl (by rw [e_x35]; rfl) (by decide) rfl (fun ls hl => ?_)
                        refine lv_goto (tgt := 70) hx hb dX10_feed_141 (by decide) ?_
                        have q_z34 : z34 = x35 := by rw [e_z34, e_x35]
                        rw [q_z34] at hP hD
                        have t_x35 : x35.toInt = x_70.toInt + 1 := by rw [i_add e_x35 (by omega) (by omega), k_1]
                        exact ih_70 (i_70 + 1) x35 (by omega) (by omega) (by rw [e_x35, e_x_70]; exact nI_1 i_70) g33 (by omega) _ _ (hK.sub [0] rfl) (hP.sub [0, 1] rfl) (hD.sub [0, 1] (by decide) rfl) hS ls (lv_sub hl [0, 1, 2, 3, 4, 5, 6, 7] rfl)
                exact loop_70 (5 + 1) 0 0 (by omega) (by omega) rfl ft (by omega) _ _ hK hP hD hS ls hl
              · skip
                have f_c15 := i_nle c15
                exfalso; omega
            · subst e_r12
              refine lv_if_ne (tgt := 53) hx hb dX10_feed_47 (by decide) (fun c36 => absurd (by decide) c36) (fun c36 => ?_)
              refine lv_bipush (v := -2) hx hb dX10_feed_50 (by decide) ?_
              have hP9 := hP.sub (ws' := []) [] rfl
              have hD9 := hD.sub (ws' := []) [] (by decide) rfl
              have hK9 := hK.sub (tys' := []) [] rfl
              exact W.iret (v := (-2)) hx hb hr (fun t ht hW => ⟨⟨(-2), (), rfl, Or.inr (⟨rfl, by omega⟩), by rw [ht]; exact hP9, va_K.moved hW.alike hK9, hD9⟩, hS.F ht⟩) hS.2.2 dX10_feed_52
          · subst e_r10
            refine lv_if_eq (tgt := 50) hx hb dX10_feed_39 (by decide) (fun c37 => ?_) (fun c37 => absurd (by decide) c37)
            refine lv_bipush (v := -2) hx hb dX10_feed_50 (by decide) ?_
            have hP9 := hP.sub (ws' := []) [] rfl
            have hD9 := hD.sub (ws' := []) [] (by decide) rfl
            have hK9 := hK.sub (tys' := []) [] rfl
            exact W.iret (v := (-2)) hx hb hr (fun t ht hW => ⟨⟨(-2), (), rfl, Or.inr (⟨rfl, by omega⟩), by rw [ht]; exact hP9, va_K.moved hW.alike hK9, hD9⟩, hS.F ht⟩) hS.2.2 dX10_feed_52
        · subst e_r8
          refine lv_if_eq (tgt := 50) hx hb dX10_feed_31 (by decide) (fun c38 => ?_) (fun c38 => absurd (by decide) c38)
          refine lv_bipush (v := -2) hx hb dX10_feed_50 (by decide) ?_
          have hP9 := hP.sub (ws' := []) [] rfl
          have hD9 := hD.sub (ws' := []) [] (by decide) rfl
          have hK9 := hK.sub (tys' := []) [] rfl
          exact W.iret (v := (-2)) hx hb hr (fun t ht hW => ⟨⟨(-2), (), rfl, Or.inr (⟨rfl, by omega⟩), by rw [ht]; exact hP9, va_K.moved hW.alike hK9, hD9⟩, hS.F ht⟩) hS.2.2 dX10_feed_52
      · subst e_r6
        refine lv_if_eq (tgt := 50) hx hb dX10_feed_23 (by decide) (fun c39 => ?_) (fun c39 => absurd (by decide) c39)
        refine lv_bipush (v := -2) hx hb dX10_feed_50 (by decide) ?_
        have hP9 := hP.sub (ws' := []) [] rfl
        have hD9 := hD.sub (ws' := []) [] (by decide) rfl
        have hK9 := hK.sub (tys' := []) [] rfl
        exact W.iret (v := (-2)) hx hb hr (fun t ht hW => ⟨⟨(-2), (), rfl, Or.inr (⟨rfl, by omega⟩), by rw [ht]; exact hP9, va_K.moved hW.alike hK9, hD9⟩, hS.F ht⟩) hS.2.2 dX10_feed_52
    · subst e_r4
      refine lv_if_eq (tgt := 50) hx hb dX10_feed_16 (by decide) (fun c40 => ?_) (fun c40 => absurd (by decide) c40)
      refine lv_bipush (v := -2) hx hb dX10_feed_50 (by decide) ?_
      have hP9 := hP.sub (ws' := []) [] rfl
      have hD9 := hD.sub (ws' := []) [] (by decide) rfl
      have hK9 := hK.sub (tys' := []) [] rfl
      exact W.iret (v := (-2)) hx hb hr (fun t ht hW => ⟨⟨(-2), (), rfl, Or.inr (⟨rfl, by omega⟩), by rw [ht]; exact hP9, va_K.moved hW.alike hK9, hD9⟩, hS.F ht⟩) hS.2.2 dX10_feed_52
  · subst e_r2
    refine lv_if_eq (tgt := 50) hx hb dX10_feed_9 (by decide) (fun c41 => ?_) (fun c41 => absurd (by decide) c41)
    refine lv_bipush (v := -2) hx hb dX10_feed_50 (by decide) ?_
    have hP9 := hP.sub (ws' := []) [] rfl
    have hD9 := hD.sub (ws' := []) [] (by decide) rfl
    have hK9 := hK.sub (tys' := []) [] rfl
    exact W.iret (v := (-2)) hx hb hr (fun t ht hW => ⟨⟨(-2), (), rfl, Or.inr (⟨rfl, by omega⟩), by rw [ht]; exact hP9, va_K.moved hW.alike hK9, hD9⟩, hS.F ht⟩) hS.2.2 dX10_feed_52
