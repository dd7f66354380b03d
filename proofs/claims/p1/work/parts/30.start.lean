set_option maxRecDepth 100000 in
set_option maxHeartbeats 8000000 in
theorem whole_start {p : Program} {e : Env} {s : State} {m : MethodId} {below : List Frame} {meth : Method} {c : Code} (l : Launch) (hflags : l.flags = flags0) {b L : Nat} {xs : Nat → Int32} (hL : L ≤ 7) (C0 : lw_At p s m meth c b L xs) : W p l e room_1 s m #[Value.ref b] below meth c s.heap [] 0 0 (lw_Z below #[Value.ref b] s) (entryFrame m ([Value.ref b] : List Value).toArray 4) := by
  obtain ⟨hx, hb, hr, hml, hown, hts, hX, hbl, hlocks, hgv⟩ := id C0
  have hA : ∀ q : Nat, s.heap.size ≤ q → (fun q : Nat => s.heap.size ≤ q) q := fun _ h => h
  have hbA : ¬ (fun q : Nat => s.heap.size ≤ q) b := Nat.not_le.mpr hbl
  obtain ⟨c0, iS0, hKn0⟩ := u_known (C := RX0) (T := TX0) (N := 13) (n := 13) hts inX0 (hts (.instantiable RX0 13) (wsL_law_in _ (List.mem_of_getElem? (i := 13) (by decide +kernel))))
  obtain ⟨c1, iS1, hKn1⟩ := u_known (C := RX1) (T := TX1) (N := 1) (n := 1) hts inX1 (hts (.instantiable RX1 1) (wsL_law_in _ (List.mem_of_getElem? (i := 18) (by decide +kernel))))
  obtain ⟨c2, iS2, hKn2⟩ := u_known (C := RX3) (T := TX3) (N := 3) (n := 3) hts inX3 (hts (.instantiable RX3 3) (wsL_law_in _ (List.mem_of_getElem? (i := 28) (by decide +kernel))))
  obtain ⟨c3, iS3, hKn3⟩ := u_known (C := RX4) (T := TX4) (N := 5) (n := 5) hts inX4 (hts (.instantiable RX4 5) (wsL_law_in _ (List.mem_of_getElem? (i := 36) (by decide +kernel))))
  obtain ⟨c4, iS4, hKn4⟩ := u_known (C := RX5) (T := TX5) (N := 4) (n := 4) hts inX5 (hts (.instantiable RX5 4) (wsL_law_in _ (List.mem_of_getElem? (i := 23) (by decide +kernel))))
  obtain ⟨c5, iS5, hKn5⟩ := u_known (C := RX6) (T := TX6) (N := 8) (n := 8) hts inX6 (hts (.instantiable RX6 8) (wsL_law_in _ (List.mem_of_getElem? (i := 40) (by decide +kernel))))
  obtain ⟨c6, iS6, hKn6⟩ := u_known (C := RX7) (T := TX7) (N := 3) (n := 3) hts inX7 (hts (.instantiable RX7 3) (wsL_law_in _ (List.mem_of_getElem? (i := 46) (by decide +kernel))))
  obtain ⟨c7, iS7, hKn7⟩ := u_known (C := RX8) (T := TX8) (N := 2) (n := 2) hts inX8 (hts (.instantiable RX8 2) (wsL_law_in _ (List.mem_of_getElem? (i := 32) (by decide +kernel))))
  obtain ⟨c8, iS8, hKn8⟩ := u_known (C := RX9) (T := TX9) (N := 13) (n := 13) hts inX9 (hts (.instantiable RX9 13) (wsL_law_in _ (List.mem_of_getElem? (i := 1) (by decide +kernel))))
  obtain ⟨c9, iS9, hKn9⟩ := u_known (C := RX10) (T := TX10) (N := 32) (n := 32) hts inX10 (hts (.instantiable RX10 32) (wsL_law_in _ (List.mem_of_getElem? (i := 4) (by decide +kernel))))
  obtain ⟨dC, dI, hKc⟩ : ∃ (dC : Nat → ClassId) (dI : Nat → Nat → Nat), ∀ (k : Nat) (q : vw_C), vwCl[k]? = some q → u_Kn s q.1 q.2.1 q.2.2 (dC k) (dI k) := by
    refine ⟨fun k => if k = 0 then c0 else if k = 1 then c1 else if k = 2 then c2 else if k = 3 then c3 else if k = 4 then c4 else if k = 5 then c5 else if k = 6 then c6 else if k = 7 then c7 else if k = 8 then c8 else c9, fun k => if k = 0 then iS0 else if k = 1 then iS1 else if k = 2 then iS2 else if k = 3 then iS3 else if k = 4 then iS4 else if k = 5 then iS5 else if k = 6 then iS6 else if k = 7 then iS7 else if k = 8 then iS8 else iS9, ?_⟩
    intro k q hq
    match k, hq with
    | 0, hq => cases hq; exact hKn0
    | 1, hq => cases hq; exact hKn1
    | 2, hq => cases hq; exact hKn2
    | 3, hq => cases hq; exact hKn3
    | 4, hq => cases hq; exact hKn4
    | 5, hq => cases hq; exact hKn5
    | 6, hq => cases hq; exact hKn6
    | 7, hq => cases hq; exact hKn7
    | 8, hq => cases hq; exact hKn8
    | 9, hq => cases hq; exact hKn9
    | k + 10, hq => simp [vwCl] at hq
  have hS : va_S (fun q : Nat => s.heap.size ≤ q) s.heap s.heap [] := va_S.rf
  have hK : va_K (dC, dI) vwCl [] s := ⟨hKc, fun k q h => by simp at h⟩
  have hP : va_P (dC, dI) vwCl [] s.heap := fun k q h => by simp at h
  have hD : va_D (fun q : Nat => s.heap.size ≤ q) [] := ⟨fun i j p q h => by simp at h, fun k q h => by simp at h⟩
  have hl := lv_entry ([.ref b]) (n := 4) (Nat.le_of_ble_eq_true rfl)
  rw [lg_entry_eq]
  generalize (lg_sl ([.ref b]) ++ List.replicate (4 - (lg_sl ([.ref b])).length) Slot.unset).toArray = ls at hl ⊢
  have hl : lv_has ls 4 [(0, .ref b)] := hl
  refine va_new (D := (dC, dI)) (ci := 8) (fs := [.null, .null, .null, .null, .null, .null, .int 0, .int 0, .null, .null, .null, .null, .null]) (C := RX9) (T := TX9) (N := 13) hx hb hts inX9 tyX9 tyX9_ok hown (hts (.classLink RL 7 RX9) (wsL_law_in _ (List.mem_of_getElem? (i := 0) (by decide +kernel)))) (hts (.instantiable RX9 13) (wsL_law_in _ (List.mem_of_getElem? (i := 1) (by decide +kernel)))) (hts (.initialized RX9) (wsL_law_in _ (List.mem_of_getElem? (i := 2) (by decide +kernel)))) hK hP hD hS hA rfl (fun j hj => by rcases (show j = 0 ∨ j = 1 ∨ j = 2 ∨ j = 3 ∨ j = 4 ∨ j = 5 ∨ j = 6 ∨ j = 7 ∨ j = 8 ∨ j = 9 ∨ j = 10 ∨ j = 11 ∨ j = 12 by omega) with rfl | rfl | rfl | rfl | rfl | rfl | rfl | rfl | rfl | rfl | rfl | rfl | rfl <;> rfl) (Nat.le_of_ble_eq_true rfl) (Nat.le_of_ble_eq_true rfl) dL_law_0 (fun q1 H hP hD hS => ?_)
  have hP : va_P (dC, dI) vwCl [(q1, .inr (8, [.null, .null, .null, .null, .null, .null, .int 0, .int 0, .null, .null, .null, .null, .null]))] H := hP
  have hD : va_D (fun q : Nat => s.heap.size ≤ q) [(q1, .inr (8, [.null, .null, .null, .null, .null, .null, .int 0, .int 0, .null, .null, .null, .null, .null]))] := hD
  refine lv_dup hx hb dL_law_3 rfl ?_
  have hPc := hP.sub (ws' := [(q1, .inr (8, [.null, .null, .null, .null, .null, .null, .int 0, .int 0, .null, .null, .null, .null, .null]))]) [0] rfl
  have hDc := hD.sub (ws' := [(q1, .inr (8, [.null, .null, .null, .null, .null, .null, .int 0, .int 0, .null, .null, .null, .null, .null]))]) [0] (by decide) rfl
  have hKc := hK.sub (tys' := []) [] rfl
  have hFc := va_free (wc := [(q1, .inr (8, [.null, .null, .null, .null, .null, .null, .int 0, .int 0, .null, .null, .null, .null, .null]))]) hD hS hA [0] rfl
  refine va_callv (va_runI (As := []) (rest := [.ref q1]) ⟨hx, hb, hml, hown, hts⟩ (c_X9_init l dC dI q1 H.size) (cwI 0 hts (fun w h => ⟨wsL_law_in w (gL_law_X9_init w h).1, (gL_law_X9_init w h).2⟩) rfl rfl rfl (hts (.initialized RX9) (wsL_law_in _ (List.mem_of_getElem? (i := 2) (by decide +kernel)))) (hts (.methodLink RL 9 yX9_init) (wsL_law_in _ (List.mem_of_getElem? (i := 6) (by decide +kernel)))) (hts (.instanceMethod yX9_init) (wsL_law_in _ (List.mem_of_getElem? (i := 7) (by decide +kernel)))) rfl (by decide +kernel) ⟨Nat.le_of_ble_eq_true rfl, Nat.le_of_ble_eq_true rfl⟩) ⟨fun a U g mk q => by obtain ⟨q0, q1, qP, qK, qD, z0, z1, z2, z3, z4, z5, z6, z7, z8⟩ := q; exact ⟨q0, q1, qP, va_K.moved (u := U) (U := U.calling g mk a) (Vm.Alike.refl U.vm) qK, qD, va_Nw.same rfl rfl z0, va_Nw.same rfl rfl z1, va_Nw.same rfl rfl z2, va_Nw.same rfl rfl z3, va_Nw.same rfl rfl z4, va_Nw.same rfl rfl z5, va_AO.moved (Vm.Alike.refl U.vm) z6, va_AO.moved (Vm.Alike.refl U.vm) z7, va_AOA.moved (Vm.Alike.refl U.vm) z8⟩, fun U hU hW => ⟨rfl, by rw [hU], by rw [hU]; exact hPc, va_K.moved hW.alike hKc, hDc.weaken (fun _ _ _ _ => trivial), va_Nw.warmM hW (va_Nw.of rfl (hts (.methodLinkNest RX9 11 yX0_init "ClearingGates") (List.mem_append_right _ (List.mem_of_getElem? (i := 24) (by decide +kernel))))), va_Nw.warmM hW (va_Nw.of rfl (hts (.methodLinkNest RX9 23 yX1_init "ClearingGates") (List.mem_append_right _ (List.mem_of_getElem? (i := 94) (by decide +kernel))))), va_Nw.warmM hW (va_Nw.of rfl (hts (.methodLinkNest RX9 46 yX3_init "ClearingGates") (List.mem_append_right _ (List.mem_of_getElem? (i := 124) (by decide +kernel))))), va_Nw.warmM hW (va_Nw.of rfl (hts (.methodLinkNest RX9 53 yX8_init "ClearingGates") (List.mem_append_right _ (List.mem_of_getElem? (i := 143) (by decide +kernel))))), va_Nw.warmM hW (va_Nw.of rfl (hts (.methodLinkNest RX9 60 yX4_init "ClearingGates") (List.mem_append_right _ (List.mem_of_getElem? (i := 159) (by decide +kernel))))), va_Nw.warmM hW (va_Nw.of rfl (hts (.methodLinkNest RX9 83 yX7_init "ClearingGates") (List.mem_append_right _ (List.mem_of_getElem? (i := 219) (by decide +kernel))))), va_AO.moved hW.alike (va_AO.of (hts (.arrayOver (.object RX3)) (List.mem_append_right _ (List.mem_of_getElem? (i := 122) (by decide +kernel))))), va_AO.moved hW.alike (va_AO.of (hts (.arrayOver (.object RX7)) (List.mem_append_right _ (List.mem_of_getElem? (i := 217) (by decide +kernel))))), va_AOA.moved hW.alike (va_AOA.of (hts (.arrayOver (.array .int)) (List.mem_append_right _ (List.mem_of_getElem? (i := 186) (by decide +kernel)))))⟩⟩ rfl rfl hl.1 rfl (lv_room (Nat.le_of_ble_eq_true rfl)) dL_law_4 ⟨Nat.le_of_ble_eq_true rfl, Nat.le_of_ble_eq_true rfl⟩) hS (fun q _ h => hFc q h) hFc (fun u t H1 locs ht hvm hw hB hz1 hk1 hS => ?_)
  obtain ⟨q3, q4, q5, q6, q7, q8, q9, q10, q11, q12, q13, q14, q15, q16, q17, q18, q19, q20, q21, q22, q23, q24, q25, q26, q27, q28, q29, q30, q31, q32, q33, q34, q35, q36, q37, q38, q39, q40, q41, q42, q43, q44, q45, q46, q47, q48, q49, q50, q51, q52, q53, q54, q55, q56, q57, q58, q59, q60, q61, q62, q63, q64, q65, q66, q67, q68, q69, q70, q71, q72, q73, q74, q75, hP1, hK1, hD1⟩ := hB
  rw [ht] at hP1
  have hK1 := va_K.moved hvm.symm hK1
  try dsimp only at hw
  obtain ⟨hP, hD⟩ := va_join (wr := []) (w1 := [(q1, .inr (8, [.ref q3, .ref q4, .ref q5, .ref q6, .ref q7, .ref q8, .int 0, .int (-1), .ref q9, .ref q10, .ref q11, .ref q12, .ref q13])), (q3, .inr (0, [.ref q14, .ref q15, .ref q16, .ref q17, .ref q18, .ref q19, .ref q20, .int 0, .long 0, .int 0, .int 0, .int 0, .int 0])), (q14, .inl (q21, 8, .inl (fun _ => 0))), (q15, .inl (q22, 8, .inl (fun _ => 0))), (q16, .inl (q23, 8, .inl (fun _ => 0))), (q17, .inl (q24, 8, .inl (fun _ => 0))), (q18, .inl (q25, 8, .inl (fun _ => 0))), (q19, .inl (q26, 8, .inl (fun _ => 0))), (q20, .inl (q27, 8, .inl (fun _ => 0))), (q4, .inr (0, [.ref q28, .ref q29, .ref q30, .ref q31, .ref q32, .ref q33, .ref q34, .int 0, .long 0, .int 0, .int 0, .int 0, .int 0])), (q28, .inl (q35, 8, .inl (fun _ => 0))), (q29, .inl (q36, 8, .inl (fun _ => 0))), (q30, .inl (q37, 8, .inl (fun _ => 0))), (q31, .inl (q38, 8, .inl (fun _ => 0))), (q32, .inl (q39, 8, .inl (fun _ => 0))), (q33, .inl (q40, 8, .inl (fun _ => 0))), (q34, .inl (q41, 8, .inl (fun _ => 0))), (q5, .inr (1, [.ref q42])), (q42, .inl (q43, 64, .inl (fun _ => 0))), (q6, .inr (1, [.ref q44])), (q44, .inl (q45, 64, .inl (fun _ => 0))), (q7, .inr (4, [.ref q5, .ref q46, .int 0, .ref q47])), (q8, .inl (q48, 4, .inr (.inr (.inr (.inr (va_up (va_up (va_up (va_up (fun _ => none) 0 (some q49)) 1 (some q73)) 2 (some q74)) 3 (some q75))))))), (q49, .inr (2, [.ref q50, .ref q51, .int 0])), (q50, .inl (q52, 80, .inl (fun _ => 0))), (q9, .inr (7, [.ref q53, .int 0])), (q53, .inl (q54, 80, .inl (fun _ => 0))), (q10, .inr (3, [.ref q55, .int 0, .int 0, .int 0, .null])), (q11, .inr (5, [.ref q3, .ref q56, .int 0, .ref q57, .ref q58, .ref q59, .int 0, .null])), (q13, .inl (q60, 4, .inr (.inr (.inr (.inr (va_up (va_up (va_up (va_up (fun _ => none) 0 (some q61)) 1 (some q64)) 2 (some q67)) 3 (some q70))))))), (q61, .inr (6, [.int (-1), .int 0, .ref q62])), (q62, .inl (q63, 60, .inl (fun _ => 0))), (q64, .inr (6, [.int (-1), .int 0, .ref q65])), (q65, .inl (q66, 60, .inl (fun _ => 0))), (q67, .inr (6, [.int (-1), .int 0, .ref q68])), (q68, .inl (q69, 60, .inl (fun _ => 0))), (q70, .inr (6, [.int (-1), .int 0, .ref q71])), (q71, .inl (q72, 60, .inl (fun _ => 0)))]) hP hD [0] [] rfl rfl (by decide) (by decide) hk1 hFc hP1 hD1
  have hK := (hK.sub (tys' := []) [] rfl).app hK1
  generalize H1 = H at hP hS ⊢
  have hP : va_P (dC, dI) vwCl [(q1, .inr (8, [.ref q3, .ref q4, .ref q5, .ref q6, .ref q7, .ref q8, .int 0, .int (-1), .ref q9, .ref q10, .ref q11, .ref q12, .ref q13])), (q3, .inr (0, [.ref q14, .ref q15, .ref q16, .ref q17, .ref q18, .ref q19, .ref q20, .int 0, .long 0, .int 0, .int 0, .int 0, .int 0])), (q14, .inl (q21, 8, .inl (fun _ => 0))), (q15, .inl (q22, 8, .inl (fun _ => 0))), (q16, .inl (q23, 8, .inl (fun _ => 0))), (q17, .inl (q24, 8, .inl (fun _ => 0))), (q18, .inl (q25, 8, .inl (fun _ => 0))), (q19, .inl (q26, 8, .inl (fun _ => 0))), (q20, .inl (q27, 8, .inl (fun _ => 0))), (q4, .inr (0, [.ref q28, .ref q29, .ref q30, .ref q31, .ref q32, .ref q33, .ref q34, .int 0, .long 0, .int 0, .int 0, .int 0, .int 0])), (q28, .inl (q35, 8, .inl (fun _ => 0))), (q29, .inl (q36, 8, .inl (fun _ => 0))), (q30, .inl (q37, 8, .inl (fun _ => 0))), (q31, .inl (q38, 8, .inl (fun _ => 0))), (q32, .inl (q39, 8, .inl (fun _ => 0))), (q33, .inl (q40, 8, .inl (fun _ => 0))), (q34, .inl (q41, 8, .inl (fun _ => 0))), (q5, .inr (1, [.ref q42])), (q42, .inl (q43, 64, .inl (fun _ => 0))), (q6, .inr (1, [.ref q44])), (q44, .inl (q45, 64, .inl (fun _ => 0))), (q7, .inr (4, [.ref q5, .ref q46, .int 0, .ref q47])), (q8, .inl (q48, 4, .inr (.inr (.inr (.inr (va_up (va_up (va_up (va_up (fun _ => none) 0 (some q49)) 1 (some q73)) 2 (some q74)) 3 (some q75))))))), (q49, .inr (2, [.ref q50, .ref q51, .int 0])), (q50, .inl (q52, 80, .inl (fun _ => 0))), (q9, .inr (7, [.ref q53, .int 0])), (q53, .inl (q54, 80, .inl (fun _ => 0))), (q10, .inr (3, [.ref q55, .int 0, .int 0, .int 0, .null])), (q11, .inr (5, [.ref q3, .ref q56, .int 0, .ref q57, .ref q58, .ref q59, .int 0, .null])), (q13, .inl (q60, 4, .inr (.inr (.inr (.inr (va_up (va_up (va_up (va_up (fun _ => none) 0 (some q61)) 1 (some q64)) 2 (some q67)) 3 (some q70))))))), (q61, .inr (6, [.int (-1), .int 0, .ref q62])), (q62, .inl (q63, 60, .inl (fun _ => 0))), (q64, .inr (6, [.int (-1), .int 0, .ref q65])), (q65, .inl (q66, 60, .inl (fun _ => 0))), (q67, .inr (6, [.int (-1), .int 0, .ref q68])), (q68, .inl (q69, 60, .inl (fun _ => 0))), (q70, .inr (6, [.int (-1), .int 0, .ref q71])), (q71, .inl (q72, 60, .inl (fun _ => 0)))] H := hP
  have hD : va_D (fun q : Nat => s.heap.size ≤ q) [(q1, .inr (8, [.ref q3, .ref q4, .ref q5, .ref q6, .ref q7, .ref q8, .int 0, .int (-1), .ref q9, .ref q10, .ref q11, .ref q12, .ref q13])), (q3, .inr (0, [.ref q14, .ref q15, .ref q16, .ref q17, .ref q18, .ref q19, .ref q20, .int 0, .long 0, .int 0, .int 0, .int 0, .int 0])), (q14, .inl (q21, 8, .inl (fun _ => 0))), (q15, .inl (q22, 8, .inl (fun _ => 0))), (q16, .inl (q23, 8, .inl (fun _ => 0))), (q17, .inl (q24, 8, .inl (fun _ => 0))), (q18, .inl (q25, 8, .inl (fun _ => 0))), (q19, .inl (q26, 8, .inl (fun _ => 0))), (q20, .inl (q27, 8, .inl (fun _ => 0))), (q4, .inr (0, [.ref q28, .ref q29, .ref q30, .ref q31, .ref q32, .ref q33, .ref q34, .int 0, .long 0, .int 0, .int 0, .int 0, .int 0])), (q28, .inl (q35, 8, .inl (fun _ => 0))), (q29, .inl (q36, 8, .inl (fun _ => 0))), (q30, .inl (q37, 8, .inl (fun _ => 0))), (q31, .inl (q38, 8, .inl (fun _ => 0))), (q32, .inl (q39, 8, .inl (fun _ => 0))), (q33, .inl (q40, 8, .inl (fun _ => 0))), (q34, .inl (q41, 8, .inl (fun _ => 0))), (q5, .inr (1, [.ref q42])), (q42, .inl (q43, 64, .inl (fun _ => 0))), (q6, .inr (1, [.ref q44])), (q44, .inl (q45, 64, .inl (fun _ => 0))), (q7, .inr (4, [.ref q5, .ref q46, .int 0, .ref q47])), (q8, .inl (q48, 4, .inr (.inr (.inr (.inr (va_up (va_up (va_up (va_up (fun _ => none) 0 (some q49)) 1 (some q73)) 2 (some q74)) 3 (some q75))))))), (q49, .inr (2, [.ref q50, .ref q51, .int 0])), (q50, .inl (q52, 80, .inl (fun _ => 0))), (q9, .inr (7, [.ref q53, .int 0])), (q53, .inl (q54, 80, .inl (fun _ => 0))), (q10, .inr (3, [.ref q55, .int 0, .int 0, .int 0, .null])), (q11, .inr (5, [.ref q3, .ref q56, .int 0, .ref q57, .ref q58, .ref q59, .int 0, .null])), (q13, .inl (q60, 4, .inr (.inr (.inr (.inr (va_up (va_up (va_up (va_up (fun _ => none) 0 (some q61)) 1 (some q64)) 2 (some q67)) 3 (some q70))))))), (q61, .inr (6, [.int (-1), .int 0, .ref q62])), (q62, .inl (q63, 60, .inl (fun _ => 0))), (q64, .inr (6, [.int (-1), .int 0, .ref q65])), (q65, .inl (q66, 60, .inl (fun _ => 0))), (q67, .inr (6, [.int (-1), .int 0, .ref q68])), (q68, .inl (q69, 60, .inl (fun _ => 0))), (q70, .inr (6, [.int (-1), .int 0, .ref q71])), (q71, .inl (q72, 60, .inl (fun _ => 0)))] := hD
  have hK : va_K (dC, dI) vwCl [(q21, .int), (q22, .int), (q23, .int), (q24, .boolean), (q25, .int), (q26, .int), (q27, .int), (q35, .int), (q36, .int), (q37, .int), (q38, .boolean), (q39, .int), (q40, .int), (q41, .int), (q43, .int), (q45, .int), (q48, .object "ClearingGates$Program"), (q52, .int), (q54, .int), (q60, .object "ClearingGates$Sheet"), (q63, .int), (q66, .int), (q69, .int), (q72, .int)] s := hK
  refine lv_astore_n (lv' := [(1, .ref q1), (0, .ref b)]) hx hb dL_law_7 rfl hl (by decide) rfl (fun ls hl => ?_)
  refine va_new (D := (dC, dI)) (ci := 9) (fs := [.null, .long 0, .null, .long 0, .null, .long 0, .int 0, .null, .int 0, .null, .null, .int 0, .null, .null, .int 0, .int 0, .int 0, .int 0, .int 0, .null, .null, .int 0, .null, .int 0, .null, .null, .int 0, .null, .null, .null, .null, .null]) (C := RX10) (T := TX10) (N := 32) hx hb hts inX10 tyX10 tyX10_ok hown (hts (.classLink RL 10 RX10) (wsL_law_in _ (List.mem_of_getElem? (i := 3) (by decide +kernel)))) (hts (.instantiable RX10 32) (wsL_law_in _ (List.mem_of_getElem? (i := 4) (by decide +kernel)))) (hts (.initialized RX10) (wsL_law_in _ (List.mem_of_getElem? (i := 5) (by decide +kernel)))) hK hP hD hS hA rfl (fun j hj => by rcases (show j = 0 ∨ j = 1 ∨ j = 2 ∨ j = 3 ∨ j = 4 ∨ j = 5 ∨ j = 6 ∨ j = 7 ∨ j = 8 ∨ j = 9 ∨ j = 10 ∨ j = 11 ∨ j = 12 ∨ j = 13 ∨ j = 14 ∨ j = 15 ∨ j = 16 ∨ j = 17 ∨ j = 18 ∨ j = 19 ∨ j = 20 ∨ j = 21 ∨ j = 22 ∨ j = 23 ∨ j = 24 ∨ j = 25 ∨ j = 26 ∨ j = 27 ∨ j = 28 ∨ j = 29 ∨ j = 30 ∨ j = 31 by omega) with rfl | rfl | rfl | rfl | rfl | rfl | rfl | rfl | rfl | rfl | rfl | rfl | rfl | rfl | rfl | rfl | rfl | rfl | rfl | rfl | rfl | rfl | rfl | rfl | rfl | rfl | rfl | rfl | rfl | rfl | rfl | rfl <;> rfl) (Nat.le_of_ble_eq_true rfl) (Nat.le_of_ble_eq_true rfl) dL_law_8 (fun q76 H hP hD hS => ?_)
  have hP : va_P (dC, dI) vwCl [(q1, .inr (8, [.ref q3, .ref q4, .ref q5, .ref q6, .ref q7, .ref q8, .int 0, .int (-1), .ref q9, .ref q10, .ref q11, .ref q12, .ref q13])), (q3, .inr (0, [.ref q14, .ref q15, .ref q16, .ref q17, .ref q18, .ref q19, .ref q20, .int 0, .long 0, .int 0, .int 0, .int 0, .int 0])), (q14, .inl (q21, 8, .inl (fun _ => 0))), (q15, .inl (q22, 8, .inl (fun _ => 0))), (q16, .inl (q23, 8, .inl (fun _ => 0))), (q17, .inl (q24, 8, .inl (fun _ => 0))), (q18, .inl (q25, 8, .inl (fun _ => 0))), (q19, .inl (q26, 8, .inl (fun _ => 0))), (q20, .inl (q27, 8, .inl (fun _ => 0))), (q4, .inr (0, [.ref q28, .ref q29, .ref q30, .ref q31, .ref q32, .ref q33, .ref q34, .int 0, .long 0, .int 0, .int 0, .int 0, .int 0])), (q28, .inl (q35, 8, .inl (fun _ => 0))), (q29, .inl (q36, 8, .inl (fun _ => 0))), (q30, .inl (q37, 8, .inl (fun _ => 0))), (q31, .inl (q38, 8, .inl (fun _ => 0))), (q32, .inl (q39, 8, .inl (fun _ => 0))), (q33, .inl (q40, 8, .inl (fun _ => 0))), (q34, .inl (q41, 8, .inl (fun _ => 0))), (q5, .inr (1, [.ref q42])), (q42, .inl (q43, 64, .inl (fun _ => 0))), (q6, .inr (1, [.ref q44])), (q44, .inl (q45, 64, .inl (fun _ => 0))), (q7, .inr (4, [.ref q5, .ref q46, .int 0, .ref q47])), (q8, .inl (q48, 4, .inr (.inr (.inr (.inr (va_up (va_up (va_up (va_up (fun _ => none) 0 (some q49)) 1 (some q73)) 2 (some q74)) 3 (some q75))))))), (q49, .inr (2, [.ref q50, .ref q51, .int 0])), (q50, .inl (q52, 80, .inl (fun _ => 0))), (q9, .inr (7, [.ref q53, .int 0])), (q53, .inl (q54, 80, .inl (fun _ => 0))), (q10, .inr (3, [.ref q55, .int 0, .int 0, .int 0, .null])), (q11, .inr (5, [.ref q3, .ref q56, .int 0, .ref q57, .ref q58, .ref q59, .int 0, .null])), (q13, .inl (q60, 4, .inr (.inr (.inr (.inr (va_up (va_up (va_up (va_up (fun _ => none) 0 (some q61)) 1 (some q64)) 2 (some q67)) 3 (some q70))))))), (q61, .inr (6, [.int (-1), .int 0, .ref q62])), (q62, .inl (q63, 60, .inl (fun _ => 0))), (q64, .inr (6, [.int (-1), .int 0, .ref q65])), (q65, .inl (q66, 60, .inl (fun _ => 0))), (q67, .inr (6, [.int (-1), .int 0, .ref q68])), (q68, .inl (q69, 60, .inl (fun _ => 0))), (q70, .inr (6, [.int (-1), .int 0, .ref q71])), (q71, .inl (q72, 60, .inl (fun _ => 0))), (q76, .inr (9, [.null, .long 0, .null, .long 0, .null, .long 0, .int 0, .null, .int 0, .null, .null, .int 0, .null, .null, .int 0, .int 0, .int 0, .int 0, .int 0, .null, .null, .int 0, .null, .int 0, .null, .null, .int 0, .null, .null, .null, .null, .null]))] H := hP
  have hD : va_D (fun q : Nat => s.heap.size ≤ q) [(q1, .inr (8, [.ref q3, .ref q4, .ref q5, .ref q6, .ref q7, .ref q8, .int 0, .int (-1), .ref q9, .ref q10, .ref q11, .ref q12, .ref q13])), (q3, .inr (0, [.ref q14, .ref q15, .ref q16, .ref q17, .ref q18, .ref q19, .ref q20, .int 0, .long 0, .int 0, .int 0, .int 0, .int 0])), (q14, .inl (q21, 8, .inl (fun _ => 0))), (q15, .inl (q22, 8, .inl (fun _ => 0))), (q16, .inl (q23, 8, .inl (fun _ => 0))), (q17, .inl (q24, 8, .inl (fun _ => 0))), (q18, .inl (q25, 8, .inl (fun _ => 0))), (q19, .inl (q26, 8, .inl (fun _ => 0))), (q20, .inl (q27, 8, .inl (fun _ => 0))), (q4, .inr (0, [.ref q28, .ref q29, .ref q30, .ref q31, .ref q32, .ref q33, .ref q34, .int 0, .long 0, .int 0, .int 0, .int 0, .int 0])), (q28, .inl (q35, 8, .inl (fun _ => 0))), (q29, .inl (q36, 8, .inl (fun _ => 0))), (q30, .inl (q37, 8, .inl (fun _ => 0))), (q31, .inl (q38, 8, .inl (fun _ => 0))), (q32, .inl (q39, 8, .inl (fun _ => 0))), (q33, .inl (q40, 8, .inl (fun _ => 0))), (q34, .inl (q41, 8, .inl (fun _ => 0))), (q5, .inr (1, [.ref q42])), (q42, .inl (q43, 64, .inl (fun _ => 0))), (q6, .inr (1, [.ref q44])), (q44, .inl (q45, 64, .inl (fun _ => 0))), (q7, .inr (4, [.ref q5, .ref q46, .int 0, .ref q47])), (q8, .inl (q48, 4, .inr (.inr (.inr (.inr (va_up (va_up (va_up (va_up (fun _ => none) 0 (some q49)) 1 (some q73)) 2 (some q74)) 3 (some q75))))))), (q49, .inr (2, [.ref q50, .ref q51, .int 0])), (q50, .inl (q52, 80, .inl (fun _ => 0))), (q9, .inr (7, [.ref q53, .int 0])), (q53, .inl (q54, 80, .inl (fun _ => 0))), (q10, .inr (3, [.ref q55, .int 0, .int 0, .int 0, .null])), (q11, .inr (5, [.ref q3, .ref q56, .int 0, .ref q57, .ref q58, .ref q59, .int 0, .null])), (q13, .inl (q60, 4, .inr (.inr (.inr (.inr (va_up (va_up (va_up (va_up (fun _ => none) 0 (some q61)) 1 (some q64)) 2 (some q67)) 3 (some q70))))))), (q61, .inr (6, [.int (-1), .int 0, .ref q62])), (q62, .inl (q63, 60, .inl (fun _ => 0))), (q64, .inr (6, [.int (-1), .int 0, .ref q65])), (q65, .inl (q66, 60, .inl (fun _ => 0))), (q67, .inr (6, [.int (-1), .int 0, .ref q68])), (q68, .inl (q69, 60, .inl (fun _ => 0))), (q70, .inr (6, [.int (-1), .int 0, .ref q71])), (q71, .inl (q72, 60, .inl (fun _ => 0))), (q76, .inr (9, [.null, .long 0, .null, .long 0, .null, .long 0, .int 0, .null, .int 0, .null, .null, .int 0, .null, .null, .int 0, .int 0, .int 0, .int 0, .int 0, .null, .null, .int 0, .null, .int 0, .null, .null, .int 0, .null, .null, .null, .null, .null]))] := hD
  refine lv_dup hx hb dL_law_11 rfl ?_
  have hPc := hP.sub (ws' := [(q76, .inr (9, [.null, .long 0, .null, .long 0, .null, .long 0, .int 0, .null, .int 0, .null, .null, .int 0, .null, .null, .int 0, .int 0, .int 0, .int 0, .int 0, .null, .null, .int 0, .null, .int 0, .null, .null, .int 0, .null, .null, .null, .null, .null]))]) [38] rfl
  have hDc := hD.sub (ws' := [(q76, .inr (9, [.null, .long 0, .null, .long 0, .null, .long 0, .int 0, .null, .int 0, .null, .null, .int 0, .null, .null, .int 0, .int 0, .int 0, .int 0, .int 0, .null, .null, .int 0, .null, .int 0, .null, .null, .int 0, .null, .null, .null, .null, .null]))]) [38] (by decide) rfl
  have hKc := hK.sub (tys' := []) [] rfl
  have hFc := va_free (wc := [(q76, .inr (9, [.null, .long 0, .null, .long 0, .null, .long 0, .int 0, .null, .int 0, .null, .null, .int 0, .null, .null, .int 0, .int 0, .int 0, .int 0, .int 0, .null, .null, .int 0, .null, .int 0, .null, .null, .int 0, .null, .null, .null, .null, .null]))]) hD hS hA [38] rfl
  refine va_callv (va_runI (As := []) (rest := [.ref q76]) ⟨hx, hb, hml, hown, hts⟩ (c_X10_init l dC dI q76 H.size) (cwI 0 hts (fun w h => ⟨wsL_law_in w (gL_law_X10_init w h).1, (gL_law_X10_init w h).2⟩) rfl rfl rfl (hts (.initialized RX10) (wsL_law_in _ (List.mem_of_getElem? (i := 5) (by decide +kernel)))) (hts (.methodLink RL 12 yX10_init) (wsL_law_in _ (List.mem_of_getElem? (i := 100) (by decide +kernel)))) (hts (.instanceMethod yX10_init) (wsL_law_in _ (List.mem_of_getElem? (i := 101) (by decide +kernel)))) rfl (by decide +kernel) ⟨Nat.le_of_ble_eq_true rfl, Nat.le_of_ble_eq_true rfl⟩) ⟨fun a U g mk q => by obtain ⟨q0, q1, qP, qK, qD⟩ := q; exact ⟨q0, q1, qP, va_K.moved (u := U) (U := U.calling g mk a) (Vm.Alike.refl U.vm) qK, qD⟩, fun U hU hW => ⟨rfl, by rw [hU], by rw [hU]; exact hPc, va_K.moved hW.alike hKc, hDc.weaken (fun _ _ _ _ => trivial)⟩⟩ rfl rfl hl.1 rfl (lv_room (Nat.le_of_ble_eq_true rfl)) dL_law_12 ⟨Nat.le_of_ble_eq_true rfl, Nat.le_of_ble_eq_true rfl⟩) hS (fun q _ h => hFc q h) hFc (fun u t H1 locs ht hvm hw hB hz1 hk1 hS => ?_)
  obtain ⟨u78, rfl⟩ : ∃ z, z = u := ⟨_, rfl⟩
  obtain ⟨q79, q80, q81, q82, q83, q84, q85, q86, q87, q88, q89, q90, q91, q92, q93, q94, q95, q96, q97, q98, q99, q100, q101, q102, q103, q104, q105, q106, hP1, hK1, hD1⟩ := hB
  rw [ht] at hP1
  have hK1 := va_K.moved hvm.symm hK1
  try dsimp only at hw
  obtain ⟨hP, hD⟩ := va_join (wr := [(q1, .inr (8, [.ref q3, .ref q4, .ref q5, .ref q6, .ref q7, .ref q8, .int 0, .int (-1), .ref q9, .ref q10, .ref q11, .ref q12, .ref q13])), (q3, .inr (0, [.ref q14, .ref q15, .ref q16, .ref q17, .ref q18, .ref q19, .ref q20, .int 0, .long 0, .int 0, .int 0, .int 0, .int 0])), (q14, .inl (q21, 8, .inl (fun _ => 0))), (q15, .inl (q22, 8, .inl (fun _ => 0))), (q16, .inl (q23, 8, .inl (fun _ => 0))), (q17, .inl (q24, 8, .inl (fun _ => 0))), (q18, .inl (q25, 8, .inl (fun _ => 0))), (q19, .inl (q26, 8, .inl (fun _ => 0))), (q20, .inl (q27, 8, .inl (fun _ => 0))), (q4, .inr (0, [.ref q28, .ref q29, .ref q30, .ref q31, .ref q32, .ref q33, .ref q34, .int 0, .long 0, .int 0, .int 0, .int 0, .int 0])), (q28, .inl (q35, 8, .inl (fun _ => 0))), (q29, .inl (q36, 8, .inl (fun _ => 0))), (q30, .inl (q37, 8, .inl (fun _ => 0))), (q31, .inl (q38, 8, .inl (fun _ => 0))), (q32, .inl (q39, 8, .inl (fun _ => 0))), (q33, .inl (q40, 8, .inl (fun _ => 0))), (q34, .inl (q41, 8, .inl (fun _ => 0))), (q5, .inr (1, [.ref q42])), (q42, .inl (q43, 64, .inl (fun _ => 0))), (q6, .inr (1, [.ref q44])), (q44, .inl (q45, 64, .inl (fun _ => 0))), (q7, .inr (4, [.ref q5, .ref q46, .int 0, .ref q47])), (q8, .inl (q48, 4, .inr (.inr (.inr (.inr (va_up (va_up (va_up (va_up (fun _ => none) 0 (some q49)) 1 (some q73)) 2 (some q74)) 3 (some q75))))))), (q49, .inr (2, [.ref q50, .ref q51, .int 0])), (q50, .inl (q52, 80, .inl (fun _ => 0))), (q9, .inr (7, [.ref q53, .int 0])), (q53, .inl (q54, 80, .inl (fun _ => 0))), (q10, .inr (3, [.ref q55, .int 0, .int 0, .int 0, .null])), (q11, .inr (5, [.ref q3, .ref q56, .int 0, .ref q57, .ref q58, .ref q59, .int 0, .null])), (q13, .inl (q60, 4, .inr (.inr (.inr (.inr (va_up (va_up (va_up (va_up (fun _ => none) 0 (some q61)) 1 (some q64)) 2 (some q67)) 3 (some q70))))))), (q61, .inr (6, [.int (-1), .int 0, .ref q62])), (q62, .inl (q63, 60, .inl (fun _ => 0))), (q64, .inr (6, [.int (-1), .int 0, .ref q65])), (q65, .inl (q66, 60, .inl (fun _ => 0))), (q67, .inr (6, [.int (-1), .int 0, .ref q68])), (q68, .inl (q69, 60, .inl (fun _ => 0))), (q70, .inr (6, [.int (-1), .int 0, .ref q71])), (q71, .inl (q72, 60, .inl (fun _ => 0)))]) (w1 := [(q76, .inr (9, [.ref q79, .long 0, .ref q80, .long 0, .ref q81, .long 0, .int 0, .ref q82, .int 0, .ref q83, .ref q84, .int 0, .ref q85, .ref q86, .int 0, .int 0, .int 0, .int 0, .int 0, .ref q87, .ref q88, .int 0, .ref q89, .int 0, .ref q90, .ref q91, .int 0, .ref q92, .ref q93, .ref q94, .ref q95, .ref q96])), (q79, .inl (q97, 125, .inl (fun _ => 0))), (q81, .inl (q98, 125, .inl (fun _ => 0))), (q82, .inl (q99, 80, .inl (fun _ => 0))), (q83, .inl (q100, 320, .inl (fun _ => 0))), (q84, .inl (q101, 4, .inl (fun _ => 0))), (q85, .inl (q102, 320, .inl (fun _ => 0))), (q86, .inl (q103, 4, .inl (fun _ => 0))), (q93, .inl (q104, 4, .inl u78)), (q94, .inl (q105, 4, .inl (fun _ => 0))), (q95, .inl (q106, 240, .inl (fun _ => 0)))]) hP hD [38] [0, 1, 2, 3, 4, 5, 6, 7, 8, 9, 10, 11, 12, 13, 14, 15, 16, 17, 18, 19, 20, 21, 22, 23, 24, 25, 26, 27, 28, 29, 30, 31, 32, 33, 34, 35, 36, 37] rfl rfl (by decide) (by decide) hk1 hFc hP1 hD1
  have hK := (hK.sub (tys' := [(q21, .int), (q22, .int), (q23, .int), (q24, .boolean), (q25, .int), (q26, .int), (q27, .int), (q35, .int), (q36, .int), (q37, .int), (q38, .boolean), (q39, .int), (q40, .int), (q41, .int), (q43, .int), (q45, .int), (q48, .object "ClearingGates$Program"), (q52, .int), (q54, .int), (q60, .object "ClearingGates$Sheet"), (q63, .int), (q66, .int), (q69, .int), (q72, .int)]) [0, 1, 2, 3, 4, 5, 6, 7, 8, 9, 10, 11, 12, 13, 14, 15, 16, 17, 18, 19, 20, 21, 22, 23] rfl).app hK1
  generalize H1 = H at hP hS ⊢
  have hP : va_P (dC, dI) vwCl [(q1, .inr (8, [.ref q3, .ref q4, .ref q5, .ref q6, .ref q7, .ref q8, .int 0, .int (-1), .ref q9, .ref q10, .ref q11, .ref q12, .ref q13])), (q3, .inr (0, [.ref q14, .ref q15, .ref q16, .ref q17, .ref q18, .ref q19, .ref q20, .int 0, .long 0, .int 0, .int 0, .int 0, .int 0])), (q14, .inl (q21, 8, .inl (fun _ => 0))), (q15, .inl (q22, 8, .inl (fun _ => 0))), (q16, .inl (q23, 8, .inl (fun _ => 0))), (q17, .inl (q24, 8, .inl (fun _ => 0))), (q18, .inl (q25, 8, .inl (fun _ => 0))), (q19, .inl (q26, 8, .inl (fun _ => 0))), (q20, .inl (q27, 8, .inl (fun _ => 0))), (q4, .inr (0, [.ref q28, .ref q29, .ref q30, .ref q31, .ref q32, .ref q33, .ref q34, .int 0, .long 0, .int 0, .int 0, .int 0, .int 0])), (q28, .inl (q35, 8, .inl (fun _ => 0))), (q29, .inl (q36, 8, .inl (fun _ => 0))), (q30, .inl (q37, 8, .inl (fun _ => 0))), (q31, .inl (q38, 8, .inl (fun _ => 0))), (q32, .inl (q39, 8, .inl (fun _ => 0))), (q33, .inl (q40, 8, .inl (fun _ => 0))), (q34, .inl (q41, 8, .inl (fun _ => 0))), (q5, .inr (1, [.ref q42])), (q42, .inl (q43, 64, .inl (fun _ => 0))), (q6, .inr (1, [.ref q44])), (q44, .inl (q45, 64, .inl (fun _ => 0))), (q7, .inr (4, [.ref q5, .ref q46, .int 0, .ref q47])), (q8, .inl (q48, 4, .inr (.inr (.inr (.inr (va_up (va_up (va_up (va_up (fun _ => none) 0 (some q49)) 1 (some q73)) 2 (some q74)) 3 (some q75))))))), (q49, .inr (2, [.ref q50, .ref q51, .int 0])), (q50, .inl (q52, 80, .inl (fun _ => 0))), (q9, .inr (7, [.ref q53, .int 0])), (q53, .inl (q54, 80, .inl (fun _ => 0))), (q10, .inr (3, [.ref q55, .int 0, .int 0, .int 0, .null])), (q11, .inr (5, [.ref q3, .ref q56, .int 0, .ref q57, .ref q58, .ref q59, .int 0, .null])), (q13, .inl (q60, 4, .inr (.inr (.inr (.inr (va_up (va_up (va_up (va_up (fun _ => none) 0 (some q61)) 1 (some q64)) 2 (some q67)) 3 (some q70))))))), (q61, .inr (6, [.int (-1), .int 0, .ref q62])), (q62, .inl (q63, 60, .inl (fun _ => 0))), (q64, .inr (6, [.int (-1), .int 0, .ref q65])), (q65, .inl (q66, 60, .inl (fun _ => 0))), (q67, .inr (6, [.int (-1), .int 0, .ref q68])), (q68, .inl (q69, 60, .inl (fun _ => 0))), (q70, .inr (6, [.int (-1), .int 0, .ref q71])), (q71, .inl (q72, 60, .inl (fun _ => 0))), (q76, .inr (9, [.ref q79, .long 0, .ref q80, .long 0, .ref q81, .long 0, .int 0, .ref q82, .int 0, .ref q83, .ref q84, .int 0, .ref q85, .ref q86, .int 0, .int 0, .int 0, .int 0, .int 0, .ref q87, .ref q88, .int 0, .ref q89, .int 0, .ref q90, .ref q91, .int 0, .ref q92, .ref q93, .ref q94, .ref q95, .ref q96])), (q79, .inl (q97, 125, .inl (fun _ => 0))), (q81, .inl (q98, 125, .inl (fun _ => 0))), (q82, .inl (q99, 80, .inl (fun _ => 0))), (q83, .inl (q100, 320, .inl (fun _ => 0))), (q84, .inl (q101, 4, .inl (fun _ => 0))), (q85, .inl (q102, 320, .inl (fun _ => 0))), (q86, .inl (q103, 4, .inl (fun _ => 0))), (q93, .inl (q104, 4, .inl u78)), (q94, .inl (q105, 4, .inl (fun _ => 0))), (q95, .inl (q106, 240, .inl (fun _ => 0)))] H := hP
  have hD : va_D (fun q : Nat => s.heap.size ≤ q) [(q1, .inr (8, [.ref q3, .ref q4, .ref q5, .ref q6, .ref q7, .ref q8, .int 0, .int (-1), .ref q9, .ref q10, .ref q11, .ref q12, .ref q13])), (q3, .inr (0, [.ref q14, .ref q15, .ref q16, .ref q17, .ref q18, .ref q19, .ref q20, .int 0, .long 0, .int 0, .int 0, .int 0, .int 0])), (q14, .inl (q21, 8, .inl (fun _ => 0))), (q15, .inl (q22, 8, .inl (fun _ => 0))), (q16, .inl (q23, 8, .inl (fun _ => 0))), (q17, .inl (q24, 8, .inl (fun _ => 0))), (q18, .inl (q25, 8, .inl (fun _ => 0))), (q19, .inl (q26, 8, .inl (fun _ => 0))), (q20, .inl (q27, 8, .inl (fun _ => 0))), (q4, .inr (0, [.ref q28, .ref q29, .ref q30, .ref q31, .ref q32, .ref q33, .ref q34, .int 0, .long 0, .int 0, .int 0, .int 0, .int 0])), (q28, .inl (q35, 8, .inl (fun _ => 0))), (q29, .inl (q36, 8, .inl (fun _ => 0))), (q30, .inl (q37, 8, .inl (fun _ => 0))), (q31, .inl (q38, 8, .inl (fun _ => 0))), (q32, .inl (q39, 8, .inl (fun _ => 0))), (q33, .inl (q40, 8, .inl (fun _ => 0))), (q34, .inl (q41, 8, .inl (fun _ => 0))), (q5, .inr (1, [.ref q42])), (q42, .inl (q43, 64, .inl (fun _ => 0))), (q6, .inr (1, [.ref q44])), (q44, .inl (q45, 64, .inl (fun _ => 0))), (q7, .inr (4, [.ref q5, .ref q46, .int 0, .ref q47])), (q8, .inl (q48, 4, .inr (.inr (.inr (.inr (va_up (va_up (va_up (va_up (fun _ => none) 0 (some q49)) 1 (some q73)) 2 (some q74)) 3 (some q75))))))), (q49, .inr (2, [.ref q50, .ref q51, .int 0])), (q50, .inl (q52, 80, .inl (fun _ => 0))), (q9, .inr (7, [.ref q53, .int 0])), (q53, .inl (q54, 80, .inl (fun _ => 0))), (q10, .inr (3, [.ref q55, .int 0, .int 0, .int 0, .null])), (q11, .inr (5, [.ref q3, .ref q56, .int 0, .ref q57, .ref q58, .ref q59, .int 0, .null])), (q13, .inl (q60, 4, .inr (.inr (.inr (.inr (va_up (va_up (va_up (va_up (fun _ => none) 0 (some q61)) 1 (some q64)) 2 (some q67)) 3 (some q70))))))), (q61, .inr (6, [.int (-1), .int 0, .ref q62])), (q62, .inl (q63, 60, .inl (fun _ => 0))), (q64, .inr (6, [.int (-1), .int 0, .ref q65])), (q65, .inl (q66, 60, .inl (fun _ => 0))), (q67, .inr (6, [.int (-1), .int 0, .ref q68])), (q68, .inl (q69, 60, .inl (fun _ => 0))), (q70, .inr (6, [.int (-1), .int 0, .ref q71])), (q71, .inl (q72, 60, .inl (fun _ => 0))), (q76, .inr (9, [.ref q79, .long 0, .ref q80, .long 0, .ref q81, .long 0, .int 0, .ref q82, .int 0, .ref q83, .ref q84, .int 0, .ref q85, .ref q86, .int 0, .int 0, .int 0, .int 0, .int 0, .ref q87, .ref q88, .int 0, .ref q89, .int 0, .ref q90, .ref q91, .int 0, .ref q92, .ref q93, .ref q94, .ref q95, .ref q96])), (q79, .inl (q97, 125, .inl (fun _ => 0))), (q81, .inl (q98, 125, .inl (fun _ => 0))), (q82, .inl (q99, 80, .inl (fun _ => 0))), (q83, .inl (q100, 320, .inl (fun _ => 0))), (q84, .inl (q101, 4, .inl (fun _ => 0))), (q85, .inl (q102, 320, .inl (fun _ => 0))), (q86, .inl (q103, 4, .inl (fun _ => 0))), (q93, .inl (q104, 4, .inl u78)), (q94, .inl (q105, 4, .inl (fun _ => 0))), (q95, .inl (q106, 240, .inl (fun _ => 0)))] := hD
  have hK : va_K (dC, dI) vwCl [(q21, .int), (q22, .int), (q23, .int), (q24, .boolean), (q25, .int), (q26, .int), (q27, .int), (q35, .int), (q36, .int), (q37, .int), (q38, .boolean), (q39, .int), (q40, .int), (q41, .int), (q43, .int), (q45, .int), (q48, .object "ClearingGates$Program"), (q52, .int), (q54, .int), (q60, .object "ClearingGates$Sheet"), (q63, .int), (q66, .int), (q69, .int), (q72, .int), (q97, .int), (q98, .int), (q99, .int), (q100, .int), (q101, .int), (q102, .int), (q103, .int), (q104, .int), (q105, .int), (q106, .int)] s := hK
  have hw_r77 := hw
  refine lv_astore_n (lv' := [(2, .ref q76), (1, .ref q1), (0, .ref b)]) hx hb dL_law_15 rfl hl (by decide) rfl (fun ls hl => ?_)
  refine lv_iconst (v := 0) hx hb dL_law_16 (by decide) ?_
  refine lv_istore_n (lv' := [(3, .int 0), (2, .ref q76), (1, .ref q1), (0, .ref b)]) hx hb dL_law_17 rfl hl (by decide) rfl (fun ls hl => ?_)
  have k_0 : (0 : Int32).toInt = 0 := by decide
  have k_1 : (1 : Int32).toInt = 1 := by decide
  have k_2 : (2 : Int32).toInt = 2 := by decide
  have k_3 : (3 : Int32).toInt = 3 := by decide
  have k_4 : (4 : Int32).toInt = 4 := by decide
  have k_5 : (5 : Int32).toInt = 5 := by decide
  have k_6 : (6 : Int32).toInt = 6 := by decide
  have k_7 : (7 : Int32).toInt = 7 := by decide
  have k_8 : (8 : Int32).toInt = 8 := by decide
  have k_9 : (9 : Int32).toInt = 9 := by decide
  have k_10 : (10 : Int32).toInt = 10 := by decide
  have k_11 : (11 : Int32).toInt = 11 := by decide
  have k_12 : (12 : Int32).toInt = 12 := by decide
  have k_13 : (13 : Int32).toInt = 13 := by decide
  have k_14 : (14 : Int32).toInt = 14 := by decide
  have k_15 : (15 : Int32).toInt = 15 := by decide
  have k_16 : (16 : Int32).toInt = 16 := by decide
  have k_17 : (17 : Int32).toInt = 17 := by decide
  have k_18 : (18 : Int32).toInt = 18 := by decide
  have k_19 : (19 : Int32).toInt = 19 := by decide
  have k_20 : (20 : Int32).toInt = 20 := by decide
  have k_21 : (21 : Int32).toInt = 21 := by decide
  have k_22 : (22 : Int32).toInt = 22 := by decide
  have k_23 : (23 : Int32).toInt = 23 := by decide
  have k_24 : (24 : Int32).toInt = 24 := by decide
  have k_25 : (25 : Int32).toInt = 25 := by decide
  have k_31 : (31 : Int32).toInt = 31 := by decide
  refine W.widen (k := 105) (n := 3378) (Nat.le_of_ble_eq_true rfl) (Nat.le_of_ble_eq_true rfl) ?_
  refine lv_iload_n hx hb dL_law_18 rfl (lv_at hl 0 rfl) ?_
  refine lv_aload_n hx hb dL_law_19 rfl (lv_at hl 3 rfl) ?_
  refine va_slen hx hb hX hbl hbA hS dL_law_20 ?_
  refine lv_topi (fun z107 e_z107 => ?_)
  have t_z107 : z107.toInt = (L : Int) := by rw [e_z107]; exact nI_toInt (by omega)
  refine lv_bipush (v := 7) hx hb dL_law_21 (by decide) ?_
  refine lv_isub hx hb dL_law_23 ?_
  refine lv_topi (fun z108 e_z108 => ?_)
  have t_z108 := i_sub e_z108 (by omega) (by omega)
  refine lv_icmp_gt (tgt := 1058) hx hb dL_law_24 (by decide) (fun c109 => ?_) (fun c109 => ?_)
  · skip
    have f_c109 := i_lt c109
    refine lv_iconst (v := 1) hx hb dL_law_1058 (by decide) ?_
    refine va_forget (fun q hq => hS.2.2 q hq) ?_
    refine W.widen (k := 600000) (n := 7302250) (Nat.le_of_ble_eq_true rfl) (Nat.le_of_ble_eq_true rfl) ?_
    exact lw_ret hx hb hr hlocks dL_law_1059
  · skip
    have f_c109 := i_nlt c109
    refine lv_aload_n hx hb dL_law_27 rfl (lv_at hl 3 rfl) ?_
    refine lv_iload_n hx hb dL_law_28 rfl (lv_at hl 0 rfl) ?_
    refine va_sld hx hb hX hbl hbA hS (vp_in_iff.mpr ⟨by omega, by omega⟩) dL_law_29 ?_
    refine lv_topi (fun z110 e_z110 => ?_)
    refine lv_bipush (v := 31) hx hb dL_law_30 (by decide) ?_
    refine lv_iand hx hb dL_law_32 ?_
    refine lv_topi (fun z111 e_z111 => ?_)
    rcases Decidable.em (z111 = 0) with c112 | c112
    · refine lv_tableIn (off := 119) (tgt := 152) hx hb dL_law_33 (by rw [c112]; decide) (by rw [c112]; decide) (by rw [c112]; decide) (by decide) ?_
      exact law_case_0 (by omega) C0 hw_r77 hK hP hD hS hl
    have f_c112 := i_ne c112
    rcases Decidable.em (z111 = 1) with c113 | c113
    · refine lv_tableIn (off := 152) (tgt := 185) hx hb dL_law_33 (by rw [c113]; decide) (by rw [c113]; decide) (by rw [c113]; decide) (by decide) ?_
      exact law_case_1 (by omega) C0 hw_r77 hK hP hD hS hl
    have f_c113 := i_ne c113
    rcases Decidable.em (z111 = 2) with c114 | c114
    · refine lv_tableIn (off := 196) (tgt := 229) hx hb dL_law_33 (by rw [c114]; decide) (by rw [c114]; decide) (by rw [c114]; decide) (by decide) ?_
      exact law_case_2 (by omega) C0 hw_r77 hK hP hD hS hl
    have f_c114 := i_ne c114
    rcases Decidable.em (z111 = 3) with c115 | c115
    · refine lv_tableIn (off := 245) (tgt := 278) hx hb dL_law_33 (by rw [c115]; decide) (by rw [c115]; decide) (by rw [c115]; decide) (by decide) ?_
      exact law_case_3 (by omega) C0 hw_r77 hK hP hD hS hl
    have f_c115 := i_ne c115
    rcases Decidable.em (z111 = 4) with c116 | c116
    · refine lv_tableIn (off := 278) (tgt := 311) hx hb dL_law_33 (by rw [c116]; decide) (by rw [c116]; decide) (by rw [c116]; decide) (by decide) ?_
      exact law_case_4 (by omega) C0 hw_r77 hK hP hD hS hl
    have f_c116 := i_ne c116
    rcases Decidable.em (z111 = 5) with c117 | c117
    · refine lv_tableIn (off := 312) (tgt := 345) hx hb dL_law_33 (by rw [c117]; decide) (by rw [c117]; decide) (by rw [c117]; decide) (by decide) ?_
      exact law_case_5 (by omega) C0 hw_r77 hK hP hD hS hl
    have f_c117 := i_ne c117
    rcases Decidable.em (z111 = 6) with c118 | c118
    · refine lv_tableIn (off := 335) (tgt := 368) hx hb dL_law_33 (by rw [c118]; decide) (by rw [c118]; decide) (by rw [c118]; decide) (by decide) ?_
      exact law_case_6 (by omega) C0 hw_r77 hK hP hD hS hl
    have f_c118 := i_ne c118
    rcases Decidable.em (z111 = 7) with c119 | c119
    · refine lv_tableIn (off := 359) (tgt := 392) hx hb dL_law_33 (by rw [c119]; decide) (by rw [c119]; decide) (by rw [c119]; decide) (by decide) ?_
      exact law_case_7 (by omega) C0 hw_r77 hK hP hD hS hl
    have f_c119 := i_ne c119
    rcases Decidable.em (z111 = 8) with c120 | c120
    · refine lv_tableIn (off := 392) (tgt := 425) hx hb dL_law_33 (by rw [c120]; decide) (by rw [c120]; decide) (by rw [c120]; decide) (by decide) ?_
      exact law_case_8 (by omega) C0 hw_r77 hK hP hD hS hl
    have f_c120 := i_ne c120
    rcases Decidable.em (z111 = 9) with c121 | c121
    · refine lv_tableIn (off := 467) (tgt := 500) hx hb dL_law_33 (by rw [c121]; decide) (by rw [c121]; decide) (by rw [c121]; decide) (by decide) ?_
      exact law_case_9 (by omega) C0 hw_r77 hK hP hD hS hl
    have f_c121 := i_ne c121
    rcases Decidable.em (z111 = 10) with c122 | c122
    · refine lv_tableIn (off := 480) (tgt := 513) hx hb dL_law_33 (by rw [c122]; decide) (by rw [c122]; decide) (by rw [c122]; decide) (by decide) ?_
      exact law_case_10 (by omega) C0 hw_r77 hK hP hD hS hl
    have f_c122 := i_ne c122
    rcases Decidable.em (z111 = 11) with c123 | c123
    · refine lv_tableIn (off := 503) (tgt := 536) hx hb dL_law_33 (by rw [c123]; decide) (by rw [c123]; decide) (by rw [c123]; decide) (by decide) ?_
      exact law_case_11 (by omega) C0 hw_r77 hK hP hD hS hl
    have f_c123 := i_ne c123
    rcases Decidable.em (z111 = 12) with c124 | c124
    · refine lv_tableIn (off := 526) (tgt := 559) hx hb dL_law_33 (by rw [c124]; decide) (by rw [c124]; decide) (by rw [c124]; decide) (by decide) ?_
      exact law_case_12 (by omega) C0 hw_r77 hK hP hD hS hl
    have f_c124 := i_ne c124
    rcases Decidable.em (z111 = 13) with c125 | c125
    · refine lv_tableIn (off := 560) (tgt := 593) hx hb dL_law_33 (by rw [c125]; decide) (by rw [c125]; decide) (by rw [c125]; decide) (by decide) ?_
      exact law_case_13 (by omega) C0 hw_r77 hK hP hD hS hl
    have f_c125 := i_ne c125
    rcases Decidable.em (z111 = 14) with c126 | c126
    · refine lv_tableIn (off := 593) (tgt := 626) hx hb dL_law_33 (by rw [c126]; decide) (by rw [c126]; decide) (by rw [c126]; decide) (by decide) ?_
      exact law_case_14 (by omega) C0 hw_r77 hK hP hD hS hl
    have f_c126 := i_ne c126
    rcases Decidable.em (z111 = 15) with c127 | c127
    · refine lv_tableIn (off := 616) (tgt := 649) hx hb dL_law_33 (by rw [c127]; decide) (by rw [c127]; decide) (by rw [c127]; decide) (by decide) ?_
      exact law_case_15 (by omega) C0 hw_r77 hK hP hD hS hl
    have f_c127 := i_ne c127
    rcases Decidable.em (z111 = 16) with c128 | c128
    · refine lv_tableIn (off := 659) (tgt := 692) hx hb dL_law_33 (by rw [c128]; decide) (by rw [c128]; decide) (by rw [c128]; decide) (by decide) ?_
      exact law_case_16 (by omega) C0 hw_r77 hK hP hD hS hl
    have f_c128 := i_ne c128
    rcases Decidable.em (z111 = 17) with c129 | c129
    · refine lv_tableIn (off := 692) (tgt := 725) hx hb dL_law_33 (by rw [c129]; decide) (by rw [c129]; decide) (by rw [c129]; decide) (by decide) ?_
      exact law_case_17 (by omega) C0 hw_r77 hK hP hD hS hl
    have f_c129 := i_ne c129
    rcases Decidable.em (z111 = 18) with c130 | c130
    · refine lv_tableIn (off := 705) (tgt := 738) hx hb dL_law_33 (by rw [c130]; decide) (by rw [c130]; decide) (by rw [c130]; decide) (by decide) ?_
      exact law_case_18 (by omega) C0 hw_r77 hK hP hD hS hl
    have f_c130 := i_ne c130
    rcases Decidable.em (z111 = 19) with c131 | c131
    · refine lv_tableIn (off := 758) (tgt := 791) hx hb dL_law_33 (by rw [c131]; decide) (by rw [c131]; decide) (by rw [c131]; decide) (by decide) ?_
      exact law_case_19 (by omega) C0 hw_r77 hK hP hD hS hl
    have f_c131 := i_ne c131
    rcases Decidable.em (z111 = 20) with c132 | c132
    · refine lv_tableIn (off := 791) (tgt := 824) hx hb dL_law_33 (by rw [c132]; decide) (by rw [c132]; decide) (by rw [c132]; decide) (by decide) ?_
      exact law_case_20 (by omega) C0 hw_r77 hK hP hD hS hl
    have f_c132 := i_ne c132
    rcases Decidable.em (z111 = 21) with c133 | c133
    · refine lv_tableIn (off := 804) (tgt := 837) hx hb dL_law_33 (by rw [c133]; decide) (by rw [c133]; decide) (by rw [c133]; decide) (by decide) ?_
      exact law_case_21 (by omega) C0 hw_r77 hK hP hD hS hl
    have f_c133 := i_ne c133
    rcases Decidable.em (z111 = 22) with c134 | c134
    · refine lv_tableIn (off := 817) (tgt := 850) hx hb dL_law_33 (by rw [c134]; decide) (by rw [c134]; decide) (by rw [c134]; decide) (by decide) ?_
      exact law_case_22 (by omega) C0 hw_r77 hK hP hD hS hl
    have f_c134 := i_ne c134
    rcases Decidable.em (z111 = 23) with c135 | c135
    · refine lv_tableIn (off := 860) (tgt := 893) hx hb dL_law_33 (by rw [c135]; decide) (by rw [c135]; decide) (by rw [c135]; decide) (by decide) ?_
      exact law_case_23 (by omega) C0 hw_r77 hK hP hD hS hl
    have f_c135 := i_ne c135
    rcases Decidable.em (z111 = 24) with c136 | c136
    · refine lv_tableIn (off := 903) (tgt := 936) hx hb dL_law_33 (by rw [c136]; decide) (by rw [c136]; decide) (by rw [c136]; decide) (by decide) ?_
      exact law_case_24 (by omega) C0 hw_r77 hK hP hD hS hl
    have f_c136 := i_ne c136
    rcases Decidable.em (z111 = 25) with c137 | c137
    · refine lv_tableIn (off := 966) (tgt := 999) hx hb dL_law_33 (by rw [c137]; decide) (by rw [c137]; decide) (by rw [c137]; decide) (by decide) ?_
      exact law_case_25 (by omega) C0 hw_r77 hK hP hD hS hl
    have f_c137 := i_ne c137
    refine lv_tableOut (tgt := 1052) hx hb dL_law_33 (by omega) (by decide) ?_
    exact law_case_26 (by omega) C0 hw_r77 hK hP hD hS hl