theorem in_X6_init_X6 : ∀ w ∈ wsX60, w ∈ wsX6_init := fun _ h => List.mem_cons_of_mem _ (List.mem_append_right _ h)
set_option maxRecDepth 100000 in
set_option maxHeartbeats 4000000 in
/-- the constructor of ClearingGates$Runner -/
theorem c_X6_init (l : Launch) (dC : Nat → ClassId) (dI : Nat → Nat → Nat) (h0 : Nat) (h1 : Nat) (sz : Nat) : Met l yX6_init wsX6_init ({ frames := 1, cells := 13, slots := 158, locals := 12 }) (va_Pc [.ref h0, .ref h1] (fun U => U.heap.size = sz ∧ va_P (dC, dI) vwCl [(h0, .inr (5, [.null, .null, .int 0, .null, .null, .null, .int 0, .null]))] U.heap ∧ va_K (dC, dI) vwCl [] U ∧ va_D (fun _ => True) [(h0, .inr (5, [.null, .null, .int 0, .null, .null, .null, .int 0, .null]))] ∧ va_AOA .int U)) (va_Qv (fun (_ : Unit) => True) (fun (_ : Unit) (t : State) => ∃ (qa : Nat), ∃ (qb : Nat), ∃ (qc : Nat), ∃ (qd : Nat), va_P (dC, dI) vwCl [(h0, .inr (5, [.ref h1, .ref qa, .int 0, .ref qb, .ref qc, .ref qd, .int 0, .null]))] t.heap ∧ va_K (dC, dI) vwCl [] t ∧ va_D (va_A [(h0, .inr (5, [.null, .null, .int 0, .null, .null, .null, .int 0, .null]))] sz) [(h0, .inr (5, [.ref h1, .ref qa, .int 0, .ref qb, .ref qc, .ref qd, .int 0, .null]))]) (va_A [(h0, .inr (5, [.null, .null, .int 0, .null, .null, .null, .int 0, .null]))] sz)) 13 158 (va_A [(h0, .inr (5, [.null, .null, .int 0, .null, .null, .null, .int 0, .null]))] sz) := by
  refine Met.ofW (cc := cX6_init) (maxL := 2) (ret := none) (by decide) rfl ?_
  intro p e s m args below meth c s₁ B hml hv
  obtain ⟨rfl, hsz, hP, hK, hD0, zn0⟩ := hv
  have hx := B.exec
  have hb := B.bytes
  have hr := B.returns
  have hts := atoms_spec (ws := wsX6_init) B.pre
  have hown : s.vm.findClass RX6 = some m.cls := findClass_of_methodNamed B.named
  have hlocks := B.notSynchronized
  have hin : meth.name = "<init>" := (name_of_methodNamed B.named B.method).1
  subst hsz
  have hD := hD0.self (sz := s.heap.size)
  generalize hAe : va_A [(h0, .inr (5, [.null, .null, .int 0, .null, .null, .null, .int 0, .null]))] s.heap.size = A at hD ⊢
  have hA : ∀ q : Nat, s.heap.size ≤ q → A q := fun q h => by rw [← hAe]; exact Or.inr h
  have hS : va_S A s.heap s.heap [] := va_S.rf
  have hP : va_P (dC, dI) vwCl [(h0, .inr (5, [.null, .null, .int 0, .null, .null, .null, .int 0, .null]))] s.heap := hP
  have hl := lv_entry ([.ref h0, .ref h1]) (n := 2) (Nat.le_of_ble_eq_true rfl)
  rw [lg_entry_eq]
  generalize (lg_sl ([.ref h0, .ref h1]) ++ List.replicate (2 - (lg_sl ([.ref h0, .ref h1])).length) Slot.unset).toArray = ls at hl ⊢
  have hl : lv_has ls 2 [(0, .ref h0), (1, .ref h1)] := hl
  refine lv_aload_n hx hb dX6_init_0 rfl (lv_at hl 0 rfl) ?_
  refine W.objInit hx hb hown (hts (.methodLink RX6 3 objectInit) (List.mem_of_getElem? (i := 1) (by decide +kernel))) (hts (.instanceMethod objectInit) (List.mem_of_getElem? (i := 2) (by decide +kernel))) (hts (.code objectInit ⟨#[0xb1]⟩ 1 none) (List.mem_of_getElem? (i := 3) (by decide +kernel))) rfl (by rw [hml]; exact hl.1) rfl dX6_init_1 (Nat.le_of_ble_eq_true rfl) (Nat.le_of_ble_eq_true rfl) ?_
  refine W.eq (g2 := F0 m 4 ls []) rfl ?_
  refine lv_aload_n hx hb dX6_init_4 rfl (lv_at hl 0 rfl) ?_
  refine lv_bipush (v := 60) hx hb dX6_init_5 (by decide) ?_
  refine va_newa (D := (dC, dI)) (atype := .int) (ty := .int) (N' := 60) (a0 := (60, .inl (fun _ => 0))) hx hb (hts (.arrayClass .int) (List.mem_of_getElem? (i := 4) (by decide +kernel))) rfl hK hP hD hS hA (fun _ => rfl) (by decide) (by decide) (Nat.le_of_ble_eq_true rfl) (Nat.le_of_ble_eq_true rfl) (Nat.le_of_ble_eq_true rfl) dX6_init_7 (fun q1 k2 H hK hP hD hS => ?_)
  have hK : va_K (dC, dI) vwCl [(k2, .int)] s := hK
  have hP : va_P (dC, dI) vwCl [(h0, .inr (5, [.null, .null, .int 0, .null, .null, .null, .int 0, .null])), (q1, .inl (k2, 60, .inl (fun _ => 0)))] H := hP
  have hD : va_D A [(h0, .inr (5, [.null, .null, .int 0, .null, .null, .null, .int 0, .null])), (q1, .inl (k2, 60, .inl (fun _ => 0)))] := hD
  refine va_putF (D := (dC, dI)) (ci := 5) (v := .ref q1) (ty := .array .int) (C := RX6) (T := TX6) (N := 8) hx hb hts in_X6_init_X6 tyX6 tyX6_ok nmX6 hown hK hP hD hS 0 rfl rfl 1 (by decide) (hts (.fieldLink RX6 9 "ClearingGates$Runner" "marks" "[I") (List.mem_of_getElem? (i := 5) (by decide +kernel))) (fun _ h9 => h9) rfl hin rfl (by decide +kernel) rfl rfl (Nat.le_of_ble_eq_true rfl) dX6_init_9 (fun H locs hP hD hS => ?_)
  have hP : va_P (dC, dI) vwCl [(h0, .inr (5, [.null, .ref q1, .int 0, .null, .null, .null, .int 0, .null])), (q1, .inl (k2, 60, .inl (fun _ => 0)))] H := hP
  have hD : va_D A [(h0, .inr (5, [.null, .ref q1, .int 0, .null, .null, .null, .int 0, .null])), (q1, .inl (k2, 60, .inl (fun _ => 0)))] := hD
  refine lv_aload_n hx hb dX6_init_12 rfl (lv_at hl 0 rfl) ?_
  refine lv_bipush (v := 8) hx hb dX6_init_13 (by decide) ?_
  refine va_newa (D := (dC, dI)) (atype := .int) (ty := .int) (N' := 8) (a0 := (8, .inl (fun _ => 0))) hx hb (hts (.arrayClass .int) (List.mem_of_getElem? (i := 4) (by decide +kernel))) rfl hK hP hD hS hA (fun _ => rfl) (by decide) (by decide) (Nat.le_of_ble_eq_true rfl) (Nat.le_of_ble_eq_true rfl) (Nat.le_of_ble_eq_true rfl) dX6_init_15 (fun q3 k4 H hK hP hD hS => ?_)
  have hK : va_K (dC, dI) vwCl [(k2, .int), (k4, .int)] s := hK
  have hP : va_P (dC, dI) vwCl [(h0, .inr (5, [.null, .ref q1, .int 0, .null, .null, .null, .int 0, .null])), (q1, .inl (k2, 60, .inl (fun _ => 0))), (q3, .inl (k4, 8, .inl (fun _ => 0)))] H := hP
  have hD : va_D A [(h0, .inr (5, [.null, .ref q1, .int 0, .null, .null, .null, .int 0, .null])), (q1, .inl (k2, 60, .inl (fun _ => 0))), (q3, .inl (k4, 8, .inl (fun _ => 0)))] := hD
  refine va_putF (D := (dC, dI)) (ci := 5) (v := .ref q3) (ty := .array .int) (C := RX6) (T := TX6) (N := 8) hx hb hts in_X6_init_X6 tyX6 tyX6_ok nmX6 hown hK hP hD hS 0 rfl rfl 3 (by decide) (hts (.fieldLink RX6 15 "ClearingGates$Runner" "held" "[I") (List.mem_of_getElem? (i := 6) (by decide +kernel))) (fun _ h9 => h9) rfl hin rfl (by decide +kernel) rfl rfl (Nat.le_of_ble_eq_true rfl) dX6_init_17 (fun H locs hP hD hS => ?_)
  have hP : va_P (dC, dI) vwCl [(h0, .inr (5, [.null, .ref q1, .int 0, .ref q3, .null, .null, .int 0, .null])), (q1, .inl (k2, 60, .inl (fun _ => 0))), (q3, .inl (k4, 8, .inl (fun _ => 0)))] H := hP
  have hD : va_D A [(h0, .inr (5, [.null, .ref q1, .int 0, .ref q3, .null, .null, .int 0, .null])), (q1, .inl (k2, 60, .inl (fun _ => 0))), (q3, .inl (k4, 8, .inl (fun _ => 0)))] := hD
  refine lv_aload_n hx hb dX6_init_20 rfl (lv_at hl 0 rfl) ?_
  refine lv_bipush (v := 9) hx hb dX6_init_21 (by decide) ?_
  refine lv_bipush (v := 8) hx hb dX6_init_23 (by decide) ?_
  have hP0 : va_P (dC, dI) vwCl ([(h0, .inr (5, [.null, .ref q1, .int 0, .ref q3, .null, .null, .int 0, .null])), (q1, .inl (k2, 60, .inl (fun _ => 0))), (q3, .inl (k4, 8, .inl (fun _ => 0)))] ++ va_pl [] (fun _ => .inl (k2, 8, .inl (fun _ => 0)))) H := by rw [show va_pl [] (fun _ => (.inl (k2, 8, .inl (fun _ => 0)) : va_E)) = [] from rfl, List.append_nil]; exact hP
  have hD0 : va_D A ([(h0, .inr (5, [.null, .ref q1, .int 0, .ref q3, .null, .null, .int 0, .null])), (q1, .inl (k2, 60, .inl (fun _ => 0))), (q3, .inl (k4, 8, .inl (fun _ => 0)))] ++ va_pl [] (fun _ => .inl (k2, 8, .inl (fun _ => 0)))) := by rw [show va_pl [] (fun _ => (.inl (k2, 8, .inl (fun _ => 0)) : va_E)) = [] from rfl, List.append_nil]; exact hD
  refine va_mna (D := (dC, dI)) (ty := .int) (cy := k2) (N' := 9) (K' := 8) (z := (8, .inl (fun _ => 0))) hx hb hown (hts (.classLink RX6 18 "[[I") (List.mem_of_getElem? (i := 7) (by decide +kernel))) zn0 (hts (.arrayClass .int) (List.mem_of_getElem? (i := 4) (by decide +kernel))) (hK.2 0 _ rfl).2 hK hP0 hD0 hS hA (by decide) (by decide) (by decide) (by decide) (Nat.le_of_ble_eq_true rfl) (Nat.le_of_ble_eq_true rfl) (Nat.le_of_ble_eq_true rfl) rfl rfl (Nat.le_of_ble_eq_true rfl) (Nat.le_of_ble_eq_true rfl) (fun _ => rfl) dX6_init_25 (fun q5 r_m k6 H hr_m hr_n hK hP1 hD1 hS => ?_)
  have hP : va_P (dC, dI) vwCl [(h0, .inr (5, [.null, .ref q1, .int 0, .ref q3, .null, .null, .int 0, .null])), (q1, .inl (k2, 60, .inl (fun _ => 0))), (q3, .inl (k4, 8, .inl (fun _ => 0))), (q5, .inl (k6, 9, .inr (.inr (.inr (.inr (fun i => if i < 9 then some (r_m i) else none))))))] H := hP1.by (fun k => k) (fun k x hk => by rw [List.getElem?_append_left (by have := (List.getElem?_eq_some_iff.mp hk).1; exact this)]; exact hk)
  have hD : va_D A [(h0, .inr (5, [.null, .ref q1, .int 0, .ref q3, .null, .null, .int 0, .null])), (q1, .inl (k2, 60, .inl (fun _ => 0))), (q3, .inl (k4, 8, .inl (fun _ => 0))), (q5, .inl (k6, 9, .inr (.inr (.inr (.inr (fun i => if i < 9 then some (r_m i) else none))))))] := hD1.by (fun k => k) (fun k x hk => by rw [List.getElem?_append_left (by have := (List.getElem?_eq_some_iff.mp hk).1; exact this)]; exact hk) (fun _ _ _ _ h => h)
  have hK : va_K (dC, dI) vwCl [(k2, .int), (k4, .int), (k6, .array .int)] s := hK
  refine va_putF (D := (dC, dI)) (ci := 5) (v := .ref q5) (ty := .array (.array .int)) (C := RX6) (T := TX6) (N := 8) hx hb hts in_X6_init_X6 tyX6 tyX6_ok nmX6 hown hK hP hD hS 0 rfl rfl 4 (by decide) (hts (.fieldLink RX6 20 "ClearingGates$Runner" "keptBalances" "[[I") (List.mem_of_getElem? (i := 8) (by decide +kernel))) (fun _ h9 => h9) rfl hin rfl (by decide +kernel) rfl rfl (Nat.le_of_ble_eq_true rfl) dX6_init_29 (fun H locs hP hD hS => ?_)
  have hP : va_P (dC, dI) vwCl [(h0, .inr (5, [.null, .ref q1, .int 0, .ref q3, .ref q5, .null, .int 0, .null])), (q1, .inl (k2, 60, .inl (fun _ => 0))), (q3, .inl (k4, 8, .inl (fun _ => 0))), (q5, .inl (k6, 9, .inr (.inr (.inr (.inr (fun i => if i < 9 then some (r_m i) else none))))))] H := hP
  have hD : va_D A [(h0, .inr (5, [.null, .ref q1, .int 0, .ref q3, .ref q5, .null, .int 0, .null])), (q1, .inl (k2, 60, .inl (fun _ => 0))), (q3, .inl (k4, 8, .inl (fun _ => 0))), (q5, .inl (k6, 9, .inr (.inr (.inr (.inr (fun i => if i < 9 then some (r_m i) else none))))))] := hD
  refine lv_aload_n hx hb dX6_init_32 rfl (lv_at hl 0 rfl) ?_
  refine lv_bipush (v := 9) hx hb dX6_init_33 (by decide) ?_
  refine va_newa (D := (dC, dI)) (atype := .long) (ty := .long) (N' := 9) (a0 := (9, .inr (.inl (fun _ => 0)))) hx hb (hts (.arrayClass .long) (List.mem_of_getElem? (i := 9) (by decide +kernel))) rfl hK hP hD hS hA (fun _ => rfl) (by decide) (by decide) (Nat.le_of_ble_eq_true rfl) (Nat.le_of_ble_eq_true rfl) (Nat.le_of_ble_eq_true rfl) dX6_init_35 (fun q7 k8 H hK hP hD hS => ?_)
  have hK : va_K (dC, dI) vwCl [(k2, .int), (k4, .int), (k6, .array .int), (k8, .long)] s := hK
  have hP : va_P (dC, dI) vwCl [(h0, .inr (5, [.null, .ref q1, .int 0, .ref q3, .ref q5, .null, .int 0, .null])), (q1, .inl (k2, 60, .inl (fun _ => 0))), (q3, .inl (k4, 8, .inl (fun _ => 0))), (q5, .inl (k6, 9, .inr (.inr (.inr (.inr (fun i => if i < 9 then some (r_m i) else none)))))), (q7, .inl (k8, 9, .inr (.inl (fun _ => 0))))] H := hP
  have hD : va_D A [(h0, .inr (5, [.null, .ref q1, .int 0, .ref q3, .ref q5, .null, .int 0, .null])), (q1, .inl (k2, 60, .inl (fun _ => 0))), (q3, .inl (k4, 8, .inl (fun _ => 0))), (q5, .inl (k6, 9, .inr (.inr (.inr (.inr (fun i => if i < 9 then some (r_m i) else none)))))), (q7, .inl (k8, 9, .inr (.inl (fun _ => 0))))] := hD
  refine va_putF (D := (dC, dI)) (ci := 5) (v := .ref q7) (ty := .array .long) (C := RX6) (T := TX6) (N := 8) hx hb hts in_X6_init_X6 tyX6 tyX6_ok nmX6 hown hK hP hD hS 0 rfl rfl 5 (by decide) (hts (.fieldLink RX6 23 "ClearingGates$Runner" "keptFees" "[J") (List.mem_of_getElem? (i := 10) (by decide +kernel))) (fun _ h9 => h9) rfl hin rfl (by decide +kernel) rfl rfl (Nat.le_of_ble_eq_true rfl) dX6_init_37 (fun H locs hP hD hS => ?_)
  have hP : va_P (dC, dI) vwCl [(h0, .inr (5, [.null, .ref q1, .int 0, .ref q3, .ref q5, .ref q7, .int 0, .null])), (q1, .inl (k2, 60, .inl (fun _ => 0))), (q3, .inl (k4, 8, .inl (fun _ => 0))), (q5, .inl (k6, 9, .inr (.inr (.inr (.inr (fun i => if i < 9 then some (r_m i) else none)))))), (q7, .inl (k8, 9, .inr (.inl (fun _ => 0))))] H := hP
  have hD : va_D A [(h0, .inr (5, [.null, .ref q1, .int 0, .ref q3, .ref q5, .ref q7, .int 0, .null])), (q1, .inl (k2, 60, .inl (fun _ => 0))), (q3, .inl (k4, 8, .inl (fun _ => 0))), (q5, .inl (k6, 9, .inr (.inr (.inr (.inr (fun i => if i < 9 then some (r_m i) else none)))))), (q7, .inl (k8, 9, .inr (.inl (fun _ => 0))))] := hD
  refine lv_aload_n hx hb dX6_init_40 rfl (lv_at hl 0 rfl) ?_
  refine lv_aload_n hx hb dX6_init_41 rfl (lv_at hl 1 rfl) ?_
  refine va_putF (D := (dC, dI)) (ci := 5) (v := .ref h1) (ty := .object "ClearingGates$Books") (C := RX6) (T := TX6) (N := 8) hx hb hts in_X6_init_X6 tyX6 tyX6_ok nmX6 hown hK hP hD hS 0 rfl rfl 0 (by decide) (hts (.fieldLink RX6 27 "ClearingGates$Runner" "books" "LClearingGates$Books;") (List.mem_of_getElem? (i := 11) (by decide +kernel))) (fun _ h9 => h9) rfl hin rfl (by decide +kernel) rfl rfl (Nat.le_of_ble_eq_true rfl) dX6_init_42 (fun H locs hP hD hS => ?_)
  have hP : va_P (dC, dI) vwCl [(h0, .inr (5, [.ref h1, .ref q1, .int 0, .ref q3, .ref q5, .ref q7, .int 0, .null])), (q1, .inl (k2, 60, .inl (fun _ => 0))), (q3, .inl (k4, 8, .inl (fun _ => 0))), (q5, .inl (k6, 9, .inr (.inr (.inr (.inr (fun i => if i < 9 then some (r_m i) else none)))))), (q7, .inl (k8, 9, .inr (.inl (fun _ => 0))))] H := hP
  have hD : va_D A [(h0, .inr (5, [.ref h1, .ref q1, .int 0, .ref q3, .ref q5, .ref q7, .int 0, .null])), (q1, .inl (k2, 60, .inl (fun _ => 0))), (q3, .inl (k4, 8, .inl (fun _ => 0))), (q5, .inl (k6, 9, .inr (.inr (.inr (.inr (fun i => if i < 9 then some (r_m i) else none)))))), (q7, .inl (k8, 9, .inr (.inl (fun _ => 0))))] := hD
  have hP9 := hP.sub (ws' := [(h0, .inr (5, [.ref h1, .ref q1, .int 0, .ref q3, .ref q5, .ref q7, .int 0, .null]))]) [0] rfl
  have hD9 := hD.sub (ws' := [(h0, .inr (5, [.ref h1, .ref q1, .int 0, .ref q3, .ref q5, .ref q7, .int 0, .null]))]) [0] (by decide) rfl
  have hK9 := hK.sub (tys' := []) [] rfl
  refine W.widen (k := 13) (n := 158) (Nat.le_of_ble_eq_true rfl) (Nat.le_of_ble_eq_true rfl) ?_
  exact W.vret hx hb hr (fun t ht hW => ⟨⟨(), rfl, (by first | rfl | trivial), q1, q3, q5, q7, by rw [ht]; exact hP9, va_K.moved hW.alike hK9, hD9⟩, hS.F ht⟩) hS.2.2 dX6_init_45
