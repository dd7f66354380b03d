set_option maxRecDepth 100000 in
set_option maxHeartbeats 4000000 in
/-- the constructor of ClearingGates$Books -/
theorem c_X0_init (l : Launch) (dC : Nat → ClassId) (dI : Nat → Nat → Nat) (h0 : Nat) (sz : Nat) : Met l yX0_init wsX0_init ({ frames := 1, cells := 7, slots := 56, locals := 12 }) (va_Pc [.ref h0] (fun U => U.heap.size = sz ∧ va_P (dC, dI) vwCl [eO h0 0 [.null, .null, .null, .null, .null, .null, .null, .int 0, .long 0, .int 0, .int 0, .int 0, .int 0]] U.heap ∧ va_K (dC, dI) vwCl [] U ∧ va_D (fun _ => True) [eO h0 0 [.null, .null, .null, .null, .null, .null, .null, .int 0, .long 0, .int 0, .int 0, .int 0, .int 0]])) (va_Qv (fun (_ : Unit) => True) (fun (_ : Unit) (t : State) => ∃ (aq0 : Nat), ∃ (aq1 : Nat), ∃ (aq2 : Nat), ∃ (aq3 : Nat), ∃ (aq4 : Nat), ∃ (aq5 : Nat), ∃ (aq6 : Nat), ∃ (ak0 : ClassId), ∃ (ak1 : ClassId), ∃ (ak2 : ClassId), ∃ (ak3 : ClassId), ∃ (ak4 : ClassId), ∃ (ak5 : ClassId), ∃ (ak6 : ClassId), va_P (dC, dI) vwCl [eO h0 0 [.ref aq0, .ref aq1, .ref aq2, .ref aq3, .ref aq4, .ref aq5, .ref aq6, .int 0, .long 0, .int 0, .int 0, .int 0, .int 0], eI aq0 ak0 8 (fun _ => 0), eI aq1 ak1 8 (fun _ => 0), eI aq2 ak2 8 (fun _ => 0), eI aq3 ak3 8 (fun _ => 0), eI aq4 ak4 8 (fun _ => 0), eI aq5 ak5 8 (fun _ => 0), eI aq6 ak6 8 (fun _ => 0)] t.heap ∧ va_K (dC, dI) vwCl [(ak0, .int), (ak1, .int), (ak2, .int), (ak3, .boolean), (ak4, .int), (ak5, .int), (ak6, .int)] t ∧ va_D (va_A [eO h0 0 [.null, .null, .null, .null, .null, .null, .null, .int 0, .long 0, .int 0, .int 0, .int 0, .int 0]] sz) [eO h0 0 [.ref aq0, .ref aq1, .ref aq2, .ref aq3, .ref aq4, .ref aq5, .ref aq6, .int 0, .long 0, .int 0, .int 0, .int 0, .int 0], eI aq0 ak0 8 (fun _ => 0), eI aq1 ak1 8 (fun _ => 0), eI aq2 ak2 8 (fun _ => 0), eI aq3 ak3 8 (fun _ => 0), eI aq4 ak4 8 (fun _ => 0), eI aq5 ak5 8 (fun _ => 0), eI aq6 ak6 8 (fun _ => 0)]) (va_A [eO h0 0 [.null, .null, .null, .null, .null, .null, .null, .int 0, .long 0, .int 0, .int 0, .int 0, .int 0]] sz)) 7 56 (va_A [eO h0 0 [.null, .null, .null, .null, .null, .null, .null, .int 0, .long 0, .int 0, .int 0, .int 0, .int 0]] sz) := by
  refine Met.ofW (cc := cX0_init) (maxL := 1) (ret := none) (by decide) rfl ?_
  intro p e s m args below meth c s₁ B hml hv
  obtain ⟨rfl, hsz, hP, hK, hD0⟩ := hv
  have hx := B.exec
  have hb := B.bytes
  have hr := B.returns
  have hts := atoms_spec (ws := wsX0_init) B.pre
  have hown : s.vm.findClass RX0 = some m.cls := findClass_of_methodNamed B.named
  have hlocks := B.notSynchronized
  have hin : meth.name = "<init>" := (name_of_methodNamed B.named B.method).1
  subst hsz
  have hD := hD0.self (sz := s.heap.size)
  generalize hAe : va_A [eO h0 0 [.null, .null, .null, .null, .null, .null, .null, .int 0, .long 0, .int 0, .int 0, .int 0, .int 0]] s.heap.size = A at hD ⊢
  have hA : ∀ q : Nat, s.heap.size ≤ q → A q := fun q h => by rw [← hAe]; exact Or.inr h
  have hS : va_S A s.heap s.heap [] := va_S.rf
  have hP : va_P (dC, dI) vwCl [eO h0 0 [.null, .null, .null, .null, .null, .null, .null, .int 0, .long 0, .int 0, .int 0, .int 0, .int 0]] s.heap := hP
  have hl := lv_entry ([.ref h0]) (n := 1) (Nat.le_of_ble_eq_true rfl)
  rw [lg_entry_eq]
  generalize (lg_sl ([.ref h0]) ++ List.replicate (1 - (lg_sl ([.ref h0])).length) Slot.unset).toArray = ls at hl ⊢
  have hl : lv_has ls 1 [(0, .ref h0)] := hl
  suffices key9 : ∀ Q9 : State → Prop, Q9 = (MQ below (va_Qv (fun (_ : Unit) => True) (fun (_ : Unit) (t : State) => ∃ (aq0 : Nat), ∃ (aq1 : Nat), ∃ (aq2 : Nat), ∃ (aq3 : Nat), ∃ (aq4 : Nat), ∃ (aq5 : Nat), ∃ (aq6 : Nat), ∃ (ak0 : ClassId), ∃ (ak1 : ClassId), ∃ (ak2 : ClassId), ∃ (ak3 : ClassId), ∃ (ak4 : ClassId), ∃ (ak5 : ClassId), ∃ (ak6 : ClassId), va_P (dC, dI) vwCl [eO h0 0 [.ref aq0, .ref aq1, .ref aq2, .ref aq3, .ref aq4, .ref aq5, .ref aq6, .int 0, .long 0, .int 0, .int 0, .int 0, .int 0], eI aq0 ak0 8 (fun _ => 0), eI aq1 ak1 8 (fun _ => 0), eI aq2 ak2 8 (fun _ => 0), eI aq3 ak3 8 (fun _ => 0), eI aq4 ak4 8 (fun _ => 0), eI aq5 ak5 8 (fun _ => 0), eI aq6 ak6 8 (fun _ => 0)] t.heap ∧ va_K (dC, dI) vwCl [(ak0, .int), (ak1, .int), (ak2, .int), (ak3, .boolean), (ak4, .int), (ak5, .int), (ak6, .int)] t ∧ va_D A [eO h0 0 [.ref aq0, .ref aq1, .ref aq2, .ref aq3, .ref aq4, .ref aq5, .ref aq6, .int 0, .long 0, .int 0, .int 0, .int 0, .int 0], eI aq0 ak0 8 (fun _ => 0), eI aq1 ak1 8 (fun _ => 0), eI aq2 ak2 8 (fun _ => 0), eI aq3 ak3 8 (fun _ => 0), eI aq4 ak4 8 (fun _ => 0), eI aq5 ak5 8 (fun _ => 0), eI aq6 ak6 8 (fun _ => 0)]) A) (([.ref h0] : List Value).toArray) s 7 56 A) → W p l e ({ frames := 1, cells := 7, slots := 56, locals := 12 }) s m (([.ref h0] : List Value).toArray) below meth c s.heap [] 0 0 Q9 (F0 m 0 ls []) from key9 _ rfl
  intro Q9 hQ9
  refine lv_aload_n hx hb dX0_init_0 rfl (lv_at hl 0 rfl) ?_
  refine W.objInit hx hb hown (hts (.methodLink RX0 3 objectInit) (List.mem_cons_of_mem _ mw_93)) (hts (.instanceMethod objectInit) (List.mem_cons_of_mem _ mw_87)) (hts (.code objectInit ⟨#[0xb1]⟩ 1 none) (List.mem_cons_of_mem _ mw_88)) rfl (by rw [hml]; exact hl.1) rfl dX0_init_1 (Nat.le_of_ble_eq_true rfl) (Nat.le_of_ble_eq_true rfl) ?_
  refine W.eq (g2 := F0 m 4 ls []) rfl ?_
  refine lv_aload_n hx hb dX0_init_4 rfl (lv_at hl 0 rfl) ?_
  refine lv_bipush (v := 8) hx hb dX0_init_5 (by decide) ?_
  refine va_newa (D := (dC, dI)) (atype := .int) (ty := .int) (N' := 8) (a0 := (8, .inl (fun _ => 0))) hx hb (hts (.arrayClass .int) (List.mem_cons_of_mem _ mw_129)) rfl hK hP hD hS hA (fun _ => rfl) (by decide) (by decide) (Nat.le_of_ble_eq_true rfl) (Nat.le_of_ble_eq_true rfl) (Nat.le_of_ble_eq_true rfl) dX0_init_7 (fun q1 k2 H hK hP hD hS => ?_)
  have hK : va_K (dC, dI) vwCl [(k2, .int)] s := hK
  obtain ⟨hP, hD⟩ := X_s (ws' := [eO h0 0 [.null, .null, .null, .null, .null, .null, .null, .int 0, .long 0, .int 0, .int 0, .int 0, .int 0], eI q1 k2 8 (fun _ => 0)]) hP hD rfl
  refine va_putF (D := (dC, dI)) (ci := 0) (v := .ref q1) (ty := .array .int) (C := RX0) (T := TX0) (N := 13) hx hb hts (fun w h => List.mem_cons_of_mem _ (inlX0 w h)) tyX0 tyX0_ok nmX0 hown hK hP hD hS 0 rfl rfl 0 (by decide) (hts (.fieldLink RX0 9 "ClearingGates$Books" "kinds" "[I") (List.mem_cons_of_mem _ mw_94)) (fun _ h9 => h9) rfl hin rfl (by decide +kernel) rfl rfl (Nat.le_of_ble_eq_true rfl) dX0_init_9 (fun H locs hP hD hS => ?_)
  obtain ⟨hP, hD⟩ := X_s (ws' := [eO h0 0 [.ref q1, .null, .null, .null, .null, .null, .null, .int 0, .long 0, .int 0, .int 0, .int 0, .int 0], eI q1 k2 8 (fun _ => 0)]) hP hD rfl
  refine lv_aload_n hx hb dX0_init_12 rfl (lv_at hl 0 rfl) ?_
  refine lv_bipush (v := 8) hx hb dX0_init_13 (by decide) ?_
  refine va_newa (D := (dC, dI)) (atype := .int) (ty := .int) (N' := 8) (a0 := (8, .inl (fun _ => 0))) hx hb (hts (.arrayClass .int) (List.mem_cons_of_mem _ mw_129)) rfl hK hP hD hS hA (fun _ => rfl) (by decide) (by decide) (Nat.le_of_ble_eq_true rfl) (Nat.le_of_ble_eq_true rfl) (Nat.le_of_ble_eq_true rfl) dX0_init_15 (fun q3 k4 H hK hP hD hS => ?_)
  have hK : va_K (dC, dI) vwCl [(k2, .int), (k4, .int)] s := hK
  obtain ⟨hP, hD⟩ := X_s (ws' := [eO h0 0 [.ref q1, .null, .null, .null, .null, .null, .null, .int 0, .long 0, .int 0, .int 0, .int 0, .int 0], eI q1 k2 8 (fun _ => 0), eI q3 k4 8 (fun _ => 0)]) hP hD rfl
  refine va_putF (D := (dC, dI)) (ci := 0) (v := .ref q3) (ty := .array .int) (C := RX0) (T := TX0) (N := 13) hx hb hts (fun w h => List.mem_cons_of_mem _ (inlX0 w h)) tyX0 tyX0_ok nmX0 hown hK hP hD hS 0 rfl rfl 1 (by decide) (hts (.fieldLink RX0 15 "ClearingGates$Books" "balances" "[I") (List.mem_cons_of_mem _ mw_96)) (fun _ h9 => h9) rfl hin rfl (by decide +kernel) rfl rfl (Nat.le_of_ble_eq_true rfl) dX0_init_17 (fun H locs hP hD hS => ?_)
  obtain ⟨hP, hD⟩ := X_s (ws' := [eO h0 0 [.ref q1, .ref q3, .null, .null, .null, .null, .null, .int 0, .long 0, .int 0, .int 0, .int 0, .int 0], eI q1 k2 8 (fun _ => 0), eI q3 k4 8 (fun _ => 0)]) hP hD rfl
  refine lv_aload_n hx hb dX0_init_20 rfl (lv_at hl 0 rfl) ?_
  refine lv_bipush (v := 8) hx hb dX0_init_21 (by decide) ?_
  refine va_newa (D := (dC, dI)) (atype := .int) (ty := .int) (N' := 8) (a0 := (8, .inl (fun _ => 0))) hx hb (hts (.arrayClass .int) (List.mem_cons_of_mem _ mw_129)) rfl hK hP hD hS hA (fun _ => rfl) (by decide) (by decide) (Nat.le_of_ble_eq_true rfl) (Nat.le_of_ble_eq_true rfl) (Nat.le_of_ble_eq_true rfl) dX0_init_23 (fun q5 k6 H hK hP hD hS => ?_)
  have hK : va_K (dC, dI) vwCl [(k2, .int), (k4, .int), (k6, .int)] s := hK
  obtain ⟨hP, hD⟩ := X_s (ws' := [eO h0 0 [.ref q1, .ref q3, .null, .null, .null, .null, .null, .int 0, .long 0, .int 0, .int 0, .int 0, .int 0], eI q1 k2 8 (fun _ => 0), eI q3 k4 8 (fun _ => 0), eI q5 k6 8 (fun _ => 0)]) hP hD rfl
  refine va_putF (D := (dC, dI)) (ci := 0) (v := .ref q5) (ty := .array .int) (C := RX0) (T := TX0) (N := 13) hx hb hts (fun w h => List.mem_cons_of_mem _ (inlX0 w h)) tyX0 tyX0_ok nmX0 hown hK hP hD hS 0 rfl rfl 2 (by decide) (hts (.fieldLink RX0 18 "ClearingGates$Books" "limits" "[I") (List.mem_cons_of_mem _ mw_99)) (fun _ h9 => h9) rfl hin rfl (by decide +kernel) rfl rfl (Nat.le_of_ble_eq_true rfl) dX0_init_25 (fun H locs hP hD hS => ?_)
  obtain ⟨hP, hD⟩ := X_s (ws' := [eO h0 0 [.ref q1, .ref q3, .ref q5, .null, .null, .null, .null, .int 0, .long 0, .int 0, .int 0, .int 0, .int 0], eI q1 k2 8 (fun _ => 0), eI q3 k4 8 (fun _ => 0), eI q5 k6 8 (fun _ => 0)]) hP hD rfl
  refine lv_aload_n hx hb dX0_init_28 rfl (lv_at hl 0 rfl) ?_
  refine lv_bipush (v := 8) hx hb dX0_init_29 (by decide) ?_
  refine va_newa (D := (dC, dI)) (atype := .boolean) (ty := .boolean) (N' := 8) (a0 := (8, .inl (fun _ => 0))) hx hb (hts (.arrayClass .boolean) (List.mem_cons_of_mem _ mw_130)) rfl hK hP hD hS hA (fun _ => rfl) (by decide) (by decide) (Nat.le_of_ble_eq_true rfl) (Nat.le_of_ble_eq_true rfl) (Nat.le_of_ble_eq_true rfl) dX0_init_31 (fun q7 k8 H hK hP hD hS => ?_)
  have hK : va_K (dC, dI) vwCl [(k2, .int), (k4, .int), (k6, .int), (k8, .boolean)] s := hK
  obtain ⟨hP, hD⟩ := X_s (ws' := [eO h0 0 [.ref q1, .ref q3, .ref q5, .null, .null, .null, .null, .int 0, .long 0, .int 0, .int 0, .int 0, .int 0], eI q1 k2 8 (fun _ => 0), eI q3 k4 8 (fun _ => 0), eI q5 k6 8 (fun _ => 0), eI q7 k8 8 (fun _ => 0)]) hP hD rfl
  refine va_putF (D := (dC, dI)) (ci := 0) (v := .ref q7) (ty := .array .boolean) (C := RX0) (T := TX0) (N := 13) hx hb hts (fun w h => List.mem_cons_of_mem _ (inlX0 w h)) tyX0 tyX0_ok nmX0 hown hK hP hD hS 0 rfl rfl 3 (by decide) (hts (.fieldLink RX0 21 "ClearingGates$Books" "gates" "[Z") (List.mem_cons_of_mem _ mw_101)) (fun _ h9 => h9) rfl hin rfl (by decide +kernel) rfl rfl (Nat.le_of_ble_eq_true rfl) dX0_init_33 (fun H locs hP hD hS => ?_)
  obtain ⟨hP, hD⟩ := X_s (ws' := [eO h0 0 [.ref q1, .ref q3, .ref q5, .ref q7, .null, .null, .null, .int 0, .long 0, .int 0, .int 0, .int 0, .int 0], eI q1 k2 8 (fun _ => 0), eI q3 k4 8 (fun _ => 0), eI q5 k6 8 (fun _ => 0), eI q7 k8 8 (fun _ => 0)]) hP hD rfl
  refine lv_aload_n hx hb dX0_init_36 rfl (lv_at hl 0 rfl) ?_
  refine lv_bipush (v := 8) hx hb dX0_init_37 (by decide) ?_
  refine va_newa (D := (dC, dI)) (atype := .int) (ty := .int) (N' := 8) (a0 := (8, .inl (fun _ => 0))) hx hb (hts (.arrayClass .int) (List.mem_cons_of_mem _ mw_129)) rfl hK hP hD hS hA (fun _ => rfl) (by decide) (by decide) (Nat.le_of_ble_eq_true rfl) (Nat.le_of_ble_eq_true rfl) (Nat.le_of_ble_eq_true rfl) dX0_init_39 (fun q9 k10 H hK hP hD hS => ?_)
  have hK : va_K (dC, dI) vwCl [(k2, .int), (k4, .int), (k6, .int), (k8, .boolean), (k10, .int)] s := hK
  obtain ⟨hP, hD⟩ := X_s (ws' := [eO h0 0 [.ref q1, .ref q3, .ref q5, .ref q7, .null, .null, .null, .int 0, .long 0, .int 0, .int 0, .int 0, .int 0], eI q1 k2 8 (fun _ => 0), eI q3 k4 8 (fun _ => 0), eI q5 k6 8 (fun _ => 0), eI q7 k8 8 (fun _ => 0), eI q9 k10 8 (fun _ => 0)]) hP hD rfl
  refine va_putF (D := (dC, dI)) (ci := 0) (v := .ref q9) (ty := .array .int) (C := RX0) (T := TX0) (N := 13) hx hb hts (fun w h => List.mem_cons_of_mem _ (inlX0 w h)) tyX0 tyX0_ok nmX0 hown hK hP hD hS 0 rfl rfl 4 (by decide) (hts (.fieldLink RX0 25 "ClearingGates$Books" "entries" "[I") (List.mem_cons_of_mem _ mw_103)) (fun _ h9 => h9) rfl hin rfl (by decide +kernel) rfl rfl (Nat.le_of_ble_eq_true rfl) dX0_init_41 (fun H locs hP hD hS => ?_)
  obtain ⟨hP, hD⟩ := X_s (ws' := [eO h0 0 [.ref q1, .ref q3, .ref q5, .ref q7, .ref q9, .null, .null, .int 0, .long 0, .int 0, .int 0, .int 0, .int 0], eI q1 k2 8 (fun _ => 0), eI q3 k4 8 (fun _ => 0), eI q5 k6 8 (fun _ => 0), eI q7 k8 8 (fun _ => 0), eI q9 k10 8 (fun _ => 0)]) hP hD rfl
  refine lv_aload_n hx hb dX0_init_44 rfl (lv_at hl 0 rfl) ?_
  refine lv_bipush (v := 8) hx hb dX0_init_45 (by decide) ?_
  refine va_newa (D := (dC, dI)) (atype := .int) (ty := .int) (N' := 8) (a0 := (8, .inl (fun _ => 0))) hx hb (hts (.arrayClass .int) (List.mem_cons_of_mem _ mw_129)) rfl hK hP hD hS hA (fun _ => rfl) (by decide) (by decide) (Nat.le_of_ble_eq_true rfl) (Nat.le_of_ble_eq_true rfl) (Nat.le_of_ble_eq_true rfl) dX0_init_47 (fun q11 k12 H hK hP hD hS => ?_)
  have hK : va_K (dC, dI) vwCl [(k2, .int), (k4, .int), (k6, .int), (k8, .boolean), (k10, .int), (k12, .int)] s := hK
  obtain ⟨hP, hD⟩ := X_s (ws' := [eO h0 0 [.ref q1, .ref q3, .ref q5, .ref q7, .ref q9, .null, .null, .int 0, .long 0, .int 0, .int 0, .int 0, .int 0], eI q1 k2 8 (fun _ => 0), eI q3 k4 8 (fun _ => 0), eI q5 k6 8 (fun _ => 0), eI q7 k8 8 (fun _ => 0), eI q9 k10 8 (fun _ => 0), eI q11 k12 8 (fun _ => 0)]) hP hD rfl
  refine va_putF (D := (dC, dI)) (ci := 0) (v := .ref q11) (ty := .array .int) (C := RX0) (T := TX0) (N := 13) hx hb hts (fun w h => List.mem_cons_of_mem _ (inlX0 w h)) tyX0 tyX0_ok nmX0 hown hK hP hD hS 0 rfl rfl 5 (by decide) (hts (.fieldLink RX0 28 "ClearingGates$Books" "leavings" "[I") (List.mem_cons_of_mem _ mw_106)) (fun _ h9 => h9) rfl hin rfl (by decide +kernel) rfl rfl (Nat.le_of_ble_eq_true rfl) dX0_init_49 (fun H locs hP hD hS => ?_)
  obtain ⟨hP, hD⟩ := X_s (ws' := [eO h0 0 [.ref q1, .ref q3, .ref q5, .ref q7, .ref q9, .ref q11, .null, .int 0, .long 0, .int 0, .int 0, .int 0, .int 0], eI q1 k2 8 (fun _ => 0), eI q3 k4 8 (fun _ => 0), eI q5 k6 8 (fun _ => 0), eI q7 k8 8 (fun _ => 0), eI q9 k10 8 (fun _ => 0), eI q11 k12 8 (fun _ => 0)]) hP hD rfl
  refine lv_aload_n hx hb dX0_init_52 rfl (lv_at hl 0 rfl) ?_
  refine lv_bipush (v := 8) hx hb dX0_init_53 (by decide) ?_
  refine va_newa (D := (dC, dI)) (atype := .int) (ty := .int) (N' := 8) (a0 := (8, .inl (fun _ => 0))) hx hb (hts (.arrayClass .int) (List.mem_cons_of_mem _ mw_129)) rfl hK hP hD hS hA (fun _ => rfl) (by decide) (by decide) (Nat.le_of_ble_eq_true rfl) (Nat.le_of_ble_eq_true rfl) (Nat.le_of_ble_eq_true rfl) dX0_init_55 (fun q13 k14 H hK hP hD hS => ?_)
  have hK : va_K (dC, dI) vwCl [(k2, .int), (k4, .int), (k6, .int), (k8, .boolean), (k10, .int), (k12, .int), (k14, .int)] s := hK
  obtain ⟨hP, hD⟩ := X_s (ws' := [eO h0 0 [.ref q1, .ref q3, .ref q5, .ref q7, .ref q9, .ref q11, .null, .int 0, .long 0, .int 0, .int 0, .int 0, .int 0], eI q1 k2 8 (fun _ => 0), eI q3 k4 8 (fun _ => 0), eI q5 k6 8 (fun _ => 0), eI q7 k8 8 (fun _ => 0), eI q9 k10 8 (fun _ => 0), eI q11 k12 8 (fun _ => 0), eI q13 k14 8 (fun _ => 0)]) hP hD rfl
  refine va_putF (D := (dC, dI)) (ci := 0) (v := .ref q13) (ty := .array .int) (C := RX0) (T := TX0) (N := 13) hx hb hts (fun w h => List.mem_cons_of_mem _ (inlX0 w h)) tyX0 tyX0_ok nmX0 hown hK hP hD hS 0 rfl rfl 6 (by decide) (hts (.fieldLink RX0 31 "ClearingGates$Books" "agains" "[I") (List.mem_cons_of_mem _ mw_109)) (fun _ h9 => h9) rfl hin rfl (by decide +kernel) rfl rfl (Nat.le_of_ble_eq_true rfl) dX0_init_57 (fun H locs hP hD hS => ?_)
  obtain ⟨hP, hD⟩ := X_s (ws' := [eO h0 0 [.ref q1, .ref q3, .ref q5, .ref q7, .ref q9, .ref q11, .ref q13, .int 0, .long 0, .int 0, .int 0, .int 0, .int 0], eI q1 k2 8 (fun _ => 0), eI q3 k4 8 (fun _ => 0), eI q5 k6 8 (fun _ => 0), eI q7 k8 8 (fun _ => 0), eI q9 k10 8 (fun _ => 0), eI q11 k12 8 (fun _ => 0), eI q13 k14 8 (fun _ => 0)]) hP hD rfl
  rw [hQ9]
  refine W.widen (k := 7) (n := 56) (Nat.le_of_ble_eq_true rfl) (Nat.le_of_ble_eq_true rfl) ?_
  exact W.vret hx hb hr (fun t ht hW => ⟨⟨(), rfl, (by first | rfl | trivial), q1, q3, q5, q7, q9, q11, q13, k2, k4, k6, k8, k10, k12, k14, by rw [ht]; exact hP, va_K.moved hW.alike hK, hD⟩, hS.F ht⟩) hS.2.2 dX0_init_60

set_option maxRecDepth 100000 in
set_option maxHeartbeats 4000000 in
/-- the constructor of ClearingGates$Debts -/
theorem c_X1_init (l : Launch) (dC : Nat → ClassId) (dI : Nat → Nat → Nat) (h0 : Nat) (sz : Nat) : Met l yX1_init wsX1_init ({ frames := 1, cells := 1, slots := 64, locals := 12 }) (va_Pc [.ref h0] (fun U => U.heap.size = sz ∧ va_P (dC, dI) vwCl [eO h0 1 [.null]] U.heap ∧ va_K (dC, dI) vwCl [] U ∧ va_D (fun _ => True) [eO h0 1 [.null]])) (va_Qv (fun (_ : Unit) => True) (fun (_ : Unit) (t : State) => ∃ (dq : Nat), ∃ (kd : ClassId), va_P (dC, dI) vwCl [eO h0 1 [.ref dq], eI dq kd 64 (fun _ => 0)] t.heap ∧ va_K (dC, dI) vwCl [(kd, .int)] t ∧ va_D (va_A [eO h0 1 [.null]] sz) [eO h0 1 [.ref dq], eI dq kd 64 (fun _ => 0)]) (va_A [eO h0 1 [.null]] sz)) 1 64 (va_A [eO h0 1 [.null]] sz) := by
  refine Met.ofW (cc := cX1_init) (maxL := 1) (ret := none) (by decide) rfl ?_
  intro p e s m args below meth c s₁ B hml hv
  obtain ⟨rfl, hsz, hP, hK, hD0⟩ := hv
  have hx := B.exec
  have hb := B.bytes
  have hr := B.returns
  have hts := atoms_spec (ws := wsX1_init) B.pre
  have hown : s.vm.findClass RX1 = some m.cls := findClass_of_methodNamed B.named
  have hlocks := B.notSynchronized
  have hin : meth.name = "<init>" := (name_of_methodNamed B.named B.method).1
  subst hsz
  have hD := hD0.self (sz := s.heap.size)
  generalize hAe : va_A [eO h0 1 [.null]] s.heap.size = A at hD ⊢
  have hA : ∀ q : Nat, s.heap.size ≤ q → A q := fun q h => by rw [← hAe]; exact Or.inr h
  have hS : va_S A s.heap s.heap [] := va_S.rf
  have hP : va_P (dC, dI) vwCl [eO h0 1 [.null]] s.heap := hP
  have hl := lv_entry ([.ref h0]) (n := 1) (Nat.le_of_ble_eq_true rfl)
  rw [lg_entry_eq]
  generalize (lg_sl ([.ref h0]) ++ List.replicate (1 - (lg_sl ([.ref h0])).length) Slot.unset).toArray = ls at hl ⊢
  have hl : lv_has ls 1 [(0, .ref h0)] := hl
  suffices key9 : ∀ Q9 : State → Prop, Q9 = (MQ below (va_Qv (fun (_ : Unit) => True) (fun (_ : Unit) (t : State) => ∃ (dq : Nat), ∃ (kd : ClassId), va_P (dC, dI) vwCl [eO h0 1 [.ref dq], eI dq kd 64 (fun _ => 0)] t.heap ∧ va_K (dC, dI) vwCl [(kd, .int)] t ∧ va_D A [eO h0 1 [.ref dq], eI dq kd 64 (fun _ => 0)]) A) (([.ref h0] : List Value).toArray) s 1 64 A) → W p l e ({ frames := 1, cells := 1, slots := 64, locals := 12 }) s m (([.ref h0] : List Value).toArray) below meth c s.heap [] 0 0 Q9 (F0 m 0 ls []) from key9 _ rfl
  intro Q9 hQ9
  refine lv_aload_n hx hb dX1_init_0 rfl (lv_at hl 0 rfl) ?_
  refine W.objInit hx hb hown (hts (.methodLink RX1 3 objectInit) (List.mem_cons_of_mem _ mw_135)) (hts (.instanceMethod objectInit) (List.mem_cons_of_mem _ mw_87)) (hts (.code objectInit ⟨#[0xb1]⟩ 1 none) (List.mem_cons_of_mem _ mw_88)) rfl (by rw [hml]; exact hl.1) rfl dX1_init_1 (Nat.le_of_ble_eq_true rfl) (Nat.le_of_ble_eq_true rfl) ?_
  refine W.eq (g2 := F0 m 4 ls []) rfl ?_
  refine lv_aload_n hx hb dX1_init_4 rfl (lv_at hl 0 rfl) ?_
  refine lv_bipush (v := 64) hx hb dX1_init_5 (by decide) ?_
  refine va_newa (D := (dC, dI)) (atype := .int) (ty := .int) (N' := 64) (a0 := (64, .inl (fun _ => 0))) hx hb (hts (.arrayClass .int) (List.mem_cons_of_mem _ mw_129)) rfl hK hP hD hS hA (fun _ => rfl) (by decide) (by decide) (Nat.le_of_ble_eq_true rfl) (Nat.le_of_ble_eq_true rfl) (Nat.le_of_ble_eq_true rfl) dX1_init_7 (fun q1 k2 H hK hP hD hS => ?_)
  have hK : va_K (dC, dI) vwCl [(k2, .int)] s := hK
  obtain ⟨hP, hD⟩ := X_s (ws' := [eO h0 1 [.null], eI q1 k2 64 (fun _ => 0)]) hP hD rfl
  refine va_putF (D := (dC, dI)) (ci := 1) (v := .ref q1) (ty := .array .int) (C := RX1) (T := TX1) (N := 1) hx hb hts (fun w h => List.mem_cons_of_mem _ (inlX1 w h)) tyX1 tyX1_ok nmX1 hown hK hP hD hS 0 rfl rfl 0 (by decide) (hts (.fieldLink RX1 9 "ClearingGates$Debts" "row" "[I") (List.mem_cons_of_mem _ mw_136)) (fun _ h9 => h9) rfl hin rfl (by decide +kernel) rfl rfl (Nat.le_of_ble_eq_true rfl) dX1_init_9 (fun H locs hP hD hS => ?_)
  obtain ⟨hP, hD⟩ := X_s (ws' := [eO h0 1 [.ref q1], eI q1 k2 64 (fun _ => 0)]) hP hD rfl
  rw [hQ9]
  refine W.widen (k := 1) (n := 64) (Nat.le_of_ble_eq_true rfl) (Nat.le_of_ble_eq_true rfl) ?_
  exact W.vret hx hb hr (fun t ht hW => ⟨⟨(), rfl, (by first | rfl | trivial), q1, k2, by rw [ht]; exact hP, va_K.moved hW.alike hK, hD⟩, hS.F ht⟩) hS.2.2 dX1_init_12

set_option maxRecDepth 100000 in
set_option maxHeartbeats 4000000 in
/-- the constructor of ClearingGates$Program -/
theorem c_X3_init (l : Launch) (dC : Nat → ClassId) (dI : Nat → Nat → Nat) (h0 : Nat) (sz : Nat) : Met l yX3_init wsX3_init ({ frames := 1, cells := 2, slots := 160, locals := 12 }) (va_Pc [.ref h0] (fun U => U.heap.size = sz ∧ va_P (dC, dI) vwCl [eO h0 2 [.null, .null, .int 0]] U.heap ∧ va_K (dC, dI) vwCl [] U ∧ va_D (fun _ => True) [eO h0 2 [.null, .null, .int 0]])) (va_Qv (fun (_ : Unit) => True) (fun (_ : Unit) (t : State) => ∃ (pb : Nat), ∃ (pn : Nat), ∃ (kpb : ClassId), ∃ (kpn : ClassId), va_P (dC, dI) vwCl [eO h0 2 [.ref pb, .ref pn, .int 0], eI pb kpb 80 (fun _ => 0), eI pn kpn 80 (fun _ => 0)] t.heap ∧ va_K (dC, dI) vwCl [(kpb, .int), (kpn, .int)] t ∧ va_D (va_A [eO h0 2 [.null, .null, .int 0]] sz) [eO h0 2 [.ref pb, .ref pn, .int 0], eI pb kpb 80 (fun _ => 0), eI pn kpn 80 (fun _ => 0)]) (va_A [eO h0 2 [.null, .null, .int 0]] sz)) 2 160 (va_A [eO h0 2 [.null, .null, .int 0]] sz) := by
  refine Met.ofW (cc := cX3_init) (maxL := 1) (ret := none) (by decide) rfl ?_
  intro p e s m args below meth c s₁ B hml hv
  obtain ⟨rfl, hsz, hP, hK, hD0⟩ := hv
  have hx := B.exec
  have hb := B.bytes
  have hr := B.returns
  have hts := atoms_spec (ws := wsX3_init) B.pre
  have hown : s.vm.findClass RX3 = some m.cls := findClass_of_methodNamed B.named
  have hlocks := B.notSynchronized
  have hin : meth.name = "<init>" := (name_of_methodNamed B.named B.method).1
  subst hsz
  have hD := hD0.self (sz := s.heap.size)
  generalize hAe : va_A [eO h0 2 [.null, .null, .int 0]] s.heap.size = A at hD ⊢
  have hA : ∀ q : Nat, s.heap.size ≤ q → A q := fun q h => by rw [← hAe]; exact Or.inr h
  have hS : va_S A s.heap s.heap [] := va_S.rf
  have hP : va_P (dC, dI) vwCl [eO h0 2 [.null, .null, .int 0]] s.heap := hP
  have hl := lv_entry ([.ref h0]) (n := 1) (Nat.le_of_ble_eq_true rfl)
  rw [lg_entry_eq]
  generalize (lg_sl ([.ref h0]) ++ List.replicate (1 - (lg_sl ([.ref h0])).length) Slot.unset).toArray = ls at hl ⊢
  have hl : lv_has ls 1 [(0, .ref h0)] := hl
  suffices key9 : ∀ Q9 : State → Prop, Q9 = (MQ below (va_Qv (fun (_ : Unit) => True) (fun (_ : Unit) (t : State) => ∃ (pb : Nat), ∃ (pn : Nat), ∃ (kpb : ClassId), ∃ (kpn : ClassId), va_P (dC, dI) vwCl [eO h0 2 [.ref pb, .ref pn, .int 0], eI pb kpb 80 (fun _ => 0), eI pn kpn 80 (fun _ => 0)] t.heap ∧ va_K (dC, dI) vwCl [(kpb, .int), (kpn, .int)] t ∧ va_D A [eO h0 2 [.ref pb, .ref pn, .int 0], eI pb kpb 80 (fun _ => 0), eI pn kpn 80 (fun _ => 0)]) A) (([.ref h0] : List Value).toArray) s 2 160 A) → W p l e ({ frames := 1, cells := 2, slots := 160, locals := 12 }) s m (([.ref h0] : List Value).toArray) below meth c s.heap [] 0 0 Q9 (F0 m 0 ls []) from key9 _ rfl
  intro Q9 hQ9
  refine lv_aload_n hx hb dX3_init_0 rfl (lv_at hl 0 rfl) ?_
  refine W.objInit hx hb hown (hts (.methodLink RX3 3 objectInit) (List.mem_cons_of_mem _ mw_151)) (hts (.instanceMethod objectInit) (List.mem_cons_of_mem _ mw_87)) (hts (.code objectInit ⟨#[0xb1]⟩ 1 none) (List.mem_cons_of_mem _ mw_88)) rfl (by rw [hml]; exact hl.1) rfl dX3_init_1 (Nat.le_of_ble_eq_true rfl) (Nat.le_of_ble_eq_true rfl) ?_
  refine W.eq (g2 := F0 m 4 ls []) rfl ?_
  refine lv_aload_n hx hb dX3_init_4 rfl (lv_at hl 0 rfl) ?_
  refine lv_bipush (v := 80) hx hb dX3_init_5 (by decide) ?_
  refine va_newa (D := (dC, dI)) (atype := .int) (ty := .int) (N' := 80) (a0 := (80, .inl (fun _ => 0))) hx hb (hts (.arrayClass .int) (List.mem_cons_of_mem _ mw_129)) rfl hK hP hD hS hA (fun _ => rfl) (by decide) (by decide) (Nat.le_of_ble_eq_true rfl) (Nat.le_of_ble_eq_true rfl) (Nat.le_of_ble_eq_true rfl) dX3_init_7 (fun q1 k2 H hK hP hD hS => ?_)
  have hK : va_K (dC, dI) vwCl [(k2, .int)] s := hK
  obtain ⟨hP, hD⟩ := X_s (ws' := [eO h0 2 [.null, .null, .int 0], eI q1 k2 80 (fun _ => 0)]) hP hD rfl
  refine va_putF (D := (dC, dI)) (ci := 2) (v := .ref q1) (ty := .array .int) (C := RX3) (T := TX3) (N := 3) hx hb hts (fun w h => List.mem_cons_of_mem _ (inlX3 w h)) tyX3 tyX3_ok nmX3 hown hK hP hD hS 0 rfl rfl 0 (by decide) (hts (.fieldLink RX3 9 "ClearingGates$Program" "bytes" "[I") (List.mem_cons_of_mem _ mw_152)) (fun _ h9 => h9) rfl hin rfl (by decide +kernel) rfl rfl (Nat.le_of_ble_eq_true rfl) dX3_init_9 (fun H locs hP hD hS => ?_)
  obtain ⟨hP, hD⟩ := X_s (ws' := [eO h0 2 [.ref q1, .null, .int 0], eI q1 k2 80 (fun _ => 0)]) hP hD rfl
  refine lv_aload_n hx hb dX3_init_12 rfl (lv_at hl 0 rfl) ?_
  refine lv_bipush (v := 80) hx hb dX3_init_13 (by decide) ?_
  refine va_newa (D := (dC, dI)) (atype := .int) (ty := .int) (N' := 80) (a0 := (80, .inl (fun _ => 0))) hx hb (hts (.arrayClass .int) (List.mem_cons_of_mem _ mw_129)) rfl hK hP hD hS hA (fun _ => rfl) (by decide) (by decide) (Nat.le_of_ble_eq_true rfl) (Nat.le_of_ble_eq_true rfl) (Nat.le_of_ble_eq_true rfl) dX3_init_15 (fun q3 k4 H hK hP hD hS => ?_)
  have hK : va_K (dC, dI) vwCl [(k2, .int), (k4, .int)] s := hK
  obtain ⟨hP, hD⟩ := X_s (ws' := [eO h0 2 [.ref q1, .null, .int 0], eI q1 k2 80 (fun _ => 0), eI q3 k4 80 (fun _ => 0)]) hP hD rfl
  refine va_putF (D := (dC, dI)) (ci := 2) (v := .ref q3) (ty := .array .int) (C := RX3) (T := TX3) (N := 3) hx hb hts (fun w h => List.mem_cons_of_mem _ (inlX3 w h)) tyX3 tyX3_ok nmX3 hown hK hP hD hS 0 rfl rfl 1 (by decide) (hts (.fieldLink RX3 15 "ClearingGates$Program" "behind" "[I") (List.mem_cons_of_mem _ mw_153)) (fun _ h9 => h9) rfl hin rfl (by decide +kernel) rfl rfl (Nat.le_of_ble_eq_true rfl) dX3_init_17 (fun H locs hP hD hS => ?_)
  obtain ⟨hP, hD⟩ := X_s (ws' := [eO h0 2 [.ref q1, .ref q3, .int 0], eI q1 k2 80 (fun _ => 0), eI q3 k4 80 (fun _ => 0)]) hP hD rfl
  rw [hQ9]
  refine W.widen (k := 2) (n := 160) (Nat.le_of_ble_eq_true rfl) (Nat.le_of_ble_eq_true rfl) ?_
  exact W.vret hx hb hr (fun t ht hW => ⟨⟨(), rfl, (by first | rfl | trivial), q1, q3, k2, k4, by rw [ht]; exact hP, va_K.moved hW.alike hK, hD⟩, hS.F ht⟩) hS.2.2 dX3_init_20

set_option maxRecDepth 100000 in
set_option maxHeartbeats 4000000 in
/-- the constructor of ClearingGates$Reader -/
theorem c_X4_init (l : Launch) (dC : Nat → ClassId) (dI : Nat → Nat → Nat) (h0 : Nat) (sz : Nat) : Met l yX4_init wsX4_init ({ frames := 1, cells := 1, slots := 8, locals := 12 }) (va_Pc [.ref h0] (fun U => U.heap.size = sz ∧ va_P (dC, dI) vwCl [eO h0 3 [.null, .int 0, .int 0, .int 0, .null]] U.heap ∧ va_K (dC, dI) vwCl [] U ∧ va_D (fun _ => True) [eO h0 3 [.null, .int 0, .int 0, .int 0, .null]])) (va_Qv (fun (_ : Unit) => True) (fun (_ : Unit) (t : State) => ∃ (qo : Nat), ∃ (ko : ClassId), va_P (dC, dI) vwCl [eO h0 3 [.ref qo, .int 0, .int 0, .int 0, .null], eI qo ko 8 (fun _ => 0)] t.heap ∧ va_K (dC, dI) vwCl [(ko, .int)] t ∧ va_D (va_A [eO h0 3 [.null, .int 0, .int 0, .int 0, .null]] sz) [eO h0 3 [.ref qo, .int 0, .int 0, .int 0, .null], eI qo ko 8 (fun _ => 0)]) (va_A [eO h0 3 [.null, .int 0, .int 0, .int 0, .null]] sz)) 1 8 (va_A [eO h0 3 [.null, .int 0, .int 0, .int 0, .null]] sz) := by
  refine Met.ofW (cc := cX4_init) (maxL := 1) (ret := none) (by decide) rfl ?_
  intro p e s m args below meth c s₁ B hml hv
  obtain ⟨rfl, hsz, hP, hK, hD0⟩ := hv
  have hx := B.exec
  have hb := B.bytes
  have hr := B.returns
  have hts := atoms_spec (ws := wsX4_init) B.pre
  have hown : s.vm.findClass RX4 = some m.cls := findClass_of_methodNamed B.named
  have hlocks := B.notSynchronized
  have hin : meth.name = "<init>" := (name_of_methodNamed B.named B.method).1
  subst hsz
  have hD := hD0.self (sz := s.heap.size)
  generalize hAe : va_A [eO h0 3 [.null, .int 0, .int 0, .int 0, .null]] s.heap.size = A at hD ⊢
  have hA : ∀ q : Nat, s.heap.size ≤ q → A q := fun q h => by rw [← hAe]; exact Or.inr h
  have hS : va_S A s.heap s.heap [] := va_S.rf
  have hP : va_P (dC, dI) vwCl [eO h0 3 [.null, .int 0, .int 0, .int 0, .null]] s.heap := hP
  have hl := lv_entry ([.ref h0]) (n := 1) (Nat.le_of_ble_eq_true rfl)
  rw [lg_entry_eq]
  generalize (lg_sl ([.ref h0]) ++ List.replicate (1 - (lg_sl ([.ref h0])).length) Slot.unset).toArray = ls at hl ⊢
  have hl : lv_has ls 1 [(0, .ref h0)] := hl
  suffices key9 : ∀ Q9 : State → Prop, Q9 = (MQ below (va_Qv (fun (_ : Unit) => True) (fun (_ : Unit) (t : State) => ∃ (qo : Nat), ∃ (ko : ClassId), va_P (dC, dI) vwCl [eO h0 3 [.ref qo, .int 0, .int 0, .int 0, .null], eI qo ko 8 (fun _ => 0)] t.heap ∧ va_K (dC, dI) vwCl [(ko, .int)] t ∧ va_D A [eO h0 3 [.ref qo, .int 0, .int 0, .int 0, .null], eI qo ko 8 (fun _ => 0)]) A) (([.ref h0] : List Value).toArray) s 1 8 A) → W p l e ({ frames := 1, cells := 1, slots := 8, locals := 12 }) s m (([.ref h0] : List Value).toArray) below meth c s.heap [] 0 0 Q9 (F0 m 0 ls []) from key9 _ rfl
  intro Q9 hQ9
  refine lv_aload_n hx hb dX4_init_0 rfl (lv_at hl 0 rfl) ?_
  refine W.objInit hx hb hown (hts (.methodLink RX4 3 objectInit) (List.mem_cons_of_mem _ mw_172)) (hts (.instanceMethod objectInit) (List.mem_cons_of_mem _ mw_87)) (hts (.code objectInit ⟨#[0xb1]⟩ 1 none) (List.mem_cons_of_mem _ mw_88)) rfl (by rw [hml]; exact hl.1) rfl dX4_init_1 (Nat.le_of_ble_eq_true rfl) (Nat.le_of_ble_eq_true rfl) ?_
  refine W.eq (g2 := F0 m 4 ls []) rfl ?_
  refine lv_aload_n hx hb dX4_init_4 rfl (lv_at hl 0 rfl) ?_
  refine lv_bipush (v := 8) hx hb dX4_init_5 (by decide) ?_
  refine va_newa (D := (dC, dI)) (atype := .int) (ty := .int) (N' := 8) (a0 := (8, .inl (fun _ => 0))) hx hb (hts (.arrayClass .int) (List.mem_cons_of_mem _ mw_129)) rfl hK hP hD hS hA (fun _ => rfl) (by decide) (by decide) (Nat.le_of_ble_eq_true rfl) (Nat.le_of_ble_eq_true rfl) (Nat.le_of_ble_eq_true rfl) dX4_init_7 (fun q1 k2 H hK hP hD hS => ?_)
  have hK : va_K (dC, dI) vwCl [(k2, .int)] s := hK
  obtain ⟨hP, hD⟩ := X_s (ws' := [eO h0 3 [.null, .int 0, .int 0, .int 0, .null], eI q1 k2 8 (fun _ => 0)]) hP hD rfl
  refine va_putF (D := (dC, dI)) (ci := 3) (v := .ref q1) (ty := .array .int) (C := RX4) (T := TX4) (N := 5) hx hb hts (fun w h => List.mem_cons_of_mem _ (inlX4 w h)) tyX4 tyX4_ok nmX4 hown hK hP hD hS 0 rfl rfl 0 (by decide) (hts (.fieldLink RX4 9 "ClearingGates$Reader" "opened" "[I") (List.mem_cons_of_mem _ mw_173)) (fun _ h9 => h9) rfl hin rfl (by decide +kernel) rfl rfl (Nat.le_of_ble_eq_true rfl) dX4_init_9 (fun H locs hP hD hS => ?_)
  obtain ⟨hP, hD⟩ := X_s (ws' := [eO h0 3 [.ref q1, .int 0, .int 0, .int 0, .null], eI q1 k2 8 (fun _ => 0)]) hP hD rfl
  rw [hQ9]
  refine W.widen (k := 1) (n := 8) (Nat.le_of_ble_eq_true rfl) (Nat.le_of_ble_eq_true rfl) ?_
  exact W.vret hx hb hr (fun t ht hW => ⟨⟨(), rfl, (by first | rfl | trivial), q1, k2, by rw [ht]; exact hP, va_K.moved hW.alike hK, hD⟩, hS.F ht⟩) hS.2.2 dX4_init_12

set_option maxRecDepth 100000 in
set_option maxHeartbeats 4000000 in
/-- the constructor of ClearingGates$Rings -/
theorem c_X5_init (l : Launch) (dC : Nat → ClassId) (dI : Nat → Nat → Nat) (h0 : Nat) (h1 : Nat) (sz : Nat) : Met l yX5_init wsX5_init ({ frames := 1, cells := 2, slots := 16, locals := 12 }) (va_Pc [.ref h0, .ref h1] (fun U => U.heap.size = sz ∧ va_P (dC, dI) vwCl [eO h0 4 [.null, .null, .int 0, .null]] U.heap ∧ va_K (dC, dI) vwCl [] U ∧ va_D (fun _ => True) [eO h0 4 [.null, .null, .int 0, .null]])) (va_Qv (fun (_ : Unit) => True) (fun (_ : Unit) (t : State) => ∃ (qw : Nat), ∃ (qt : Nat), ∃ (kw : ClassId), ∃ (kt : ClassId), va_P (dC, dI) vwCl [eO h0 4 [.ref h1, .ref qw, .int 0, .ref qt], eI qw kw 8 (fun _ => 0), eI qt kt 8 (fun _ => 0)] t.heap ∧ va_K (dC, dI) vwCl [(kw, .int), (kt, .boolean)] t ∧ va_D (va_A [eO h0 4 [.null, .null, .int 0, .null]] sz) [eO h0 4 [.ref h1, .ref qw, .int 0, .ref qt], eI qw kw 8 (fun _ => 0), eI qt kt 8 (fun _ => 0)]) (va_A [eO h0 4 [.null, .null, .int 0, .null]] sz)) 2 16 (va_A [eO h0 4 [.null, .null, .int 0, .null]] sz) := by
  refine Met.ofW (cc := cX5_init) (maxL := 2) (ret := none) (by decide) rfl ?_
  intro p e s m args below meth c s₁ B hml hv
  obtain ⟨rfl, hsz, hP, hK, hD0⟩ := hv
  have hx := B.exec
  have hb := B.bytes
  have hr := B.returns
  have hts := atoms_spec (ws := wsX5_init) B.pre
  have hown : s.vm.findClass RX5 = some m.cls := findClass_of_methodNamed B.named
  have hlocks := B.notSynchronized
  have hin : meth.name = "<init>" := (name_of_methodNamed B.named B.method).1
  subst hsz
  have hD := hD0.self (sz := s.heap.size)
  generalize hAe : va_A [eO h0 4 [.null, .null, .int 0, .null]] s.heap.size = A at hD ⊢
  have hA : ∀ q : Nat, s.heap.size ≤ q → A q := fun q h => by rw [← hAe]; exact Or.inr h
  have hS : va_S A s.heap s.heap [] := va_S.rf
  have hP : va_P (dC, dI) vwCl [eO h0 4 [.null, .null, .int 0, .null]] s.heap := hP
  have hl := lv_entry ([.ref h0, .ref h1]) (n := 2) (Nat.le_of_ble_eq_true rfl)
  rw [lg_entry_eq]
  generalize (lg_sl ([.ref h0, .ref h1]) ++ List.replicate (2 - (lg_sl ([.ref h0, .ref h1])).length) Slot.unset).toArray = ls at hl ⊢
  have hl : lv_has ls 2 [(0, .ref h0), (1, .ref h1)] := hl
  suffices key9 : ∀ Q9 : State → Prop, Q9 = (MQ below (va_Qv (fun (_ : Unit) => True) (fun (_ : Unit) (t : State) => ∃ (qw : Nat), ∃ (qt : Nat), ∃ (kw : ClassId), ∃ (kt : ClassId), va_P (dC, dI) vwCl [eO h0 4 [.ref h1, .ref qw, .int 0, .ref qt], eI qw kw 8 (fun _ => 0), eI qt kt 8 (fun _ => 0)] t.heap ∧ va_K (dC, dI) vwCl [(kw, .int), (kt, .boolean)] t ∧ va_D A [eO h0 4 [.ref h1, .ref qw, .int 0, .ref qt], eI qw kw 8 (fun _ => 0), eI qt kt 8 (fun _ => 0)]) A) (([.ref h0, .ref h1] : List Value).toArray) s 2 16 A) → W p l e ({ frames := 1, cells := 2, slots := 16, locals := 12 }) s m (([.ref h0, .ref h1] : List Value).toArray) below meth c s.heap [] 0 0 Q9 (F0 m 0 ls []) from key9 _ rfl
  intro Q9 hQ9
  refine lv_aload_n hx hb dX5_init_0 rfl (lv_at hl 0 rfl) ?_
  refine W.objInit hx hb hown (hts (.methodLink RX5 3 objectInit) (List.mem_cons_of_mem _ mw_142)) (hts (.instanceMethod objectInit) (List.mem_cons_of_mem _ mw_87)) (hts (.code objectInit ⟨#[0xb1]⟩ 1 none) (List.mem_cons_of_mem _ mw_88)) rfl (by rw [hml]; exact hl.1) rfl dX5_init_1 (Nat.le_of_ble_eq_true rfl) (Nat.le_of_ble_eq_true rfl) ?_
  refine W.eq (g2 := F0 m 4 ls []) rfl ?_
  refine lv_aload_n hx hb dX5_init_4 rfl (lv_at hl 0 rfl) ?_
  refine lv_bipush (v := 8) hx hb dX5_init_5 (by decide) ?_
  refine va_newa (D := (dC, dI)) (atype := .int) (ty := .int) (N' := 8) (a0 := (8, .inl (fun _ => 0))) hx hb (hts (.arrayClass .int) (List.mem_cons_of_mem _ mw_129)) rfl hK hP hD hS hA (fun _ => rfl) (by decide) (by decide) (Nat.le_of_ble_eq_true rfl) (Nat.le_of_ble_eq_true rfl) (Nat.le_of_ble_eq_true rfl) dX5_init_7 (fun q1 k2 H hK hP hD hS => ?_)
  have hK : va_K (dC, dI) vwCl [(k2, .int)] s := hK
  obtain ⟨hP, hD⟩ := X_s (ws' := [eO h0 4 [.null, .null, .int 0, .null], eI q1 k2 8 (fun _ => 0)]) hP hD rfl
  refine va_putF (D := (dC, dI)) (ci := 4) (v := .ref q1) (ty := .array .int) (C := RX5) (T := TX5) (N := 4) hx hb hts (fun w h => List.mem_cons_of_mem _ (inlX5 w h)) tyX5 tyX5_ok nmX5 hown hK hP hD hS 0 rfl rfl 1 (by decide) (hts (.fieldLink RX5 9 "ClearingGates$Rings" "way" "[I") (List.mem_cons_of_mem _ mw_144)) (fun _ h9 => h9) rfl hin rfl (by decide +kernel) rfl rfl (Nat.le_of_ble_eq_true rfl) dX5_init_9 (fun H locs hP hD hS => ?_)
  obtain ⟨hP, hD⟩ := X_s (ws' := [eO h0 4 [.null, .ref q1, .int 0, .null], eI q1 k2 8 (fun _ => 0)]) hP hD rfl
  refine lv_aload_n hx hb dX5_init_12 rfl (lv_at hl 0 rfl) ?_
  refine lv_bipush (v := 8) hx hb dX5_init_13 (by decide) ?_
  refine va_newa (D := (dC, dI)) (atype := .boolean) (ty := .boolean) (N' := 8) (a0 := (8, .inl (fun _ => 0))) hx hb (hts (.arrayClass .boolean) (List.mem_cons_of_mem _ mw_130)) rfl hK hP hD hS hA (fun _ => rfl) (by decide) (by decide) (Nat.le_of_ble_eq_true rfl) (Nat.le_of_ble_eq_true rfl) (Nat.le_of_ble_eq_true rfl) dX5_init_15 (fun q3 k4 H hK hP hD hS => ?_)
  have hK : va_K (dC, dI) vwCl [(k2, .int), (k4, .boolean)] s := hK
  obtain ⟨hP, hD⟩ := X_s (ws' := [eO h0 4 [.null, .ref q1, .int 0, .null], eI q1 k2 8 (fun _ => 0), eI q3 k4 8 (fun _ => 0)]) hP hD rfl
  refine va_putF (D := (dC, dI)) (ci := 4) (v := .ref q3) (ty := .array .boolean) (C := RX5) (T := TX5) (N := 4) hx hb hts (fun w h => List.mem_cons_of_mem _ (inlX5 w h)) tyX5 tyX5_ok nmX5 hown hK hP hD hS 0 rfl rfl 3 (by decide) (hts (.fieldLink RX5 15 "ClearingGates$Rings" "tried" "[Z") (List.mem_cons_of_mem _ mw_146)) (fun _ h9 => h9) rfl hin rfl (by decide +kernel) rfl rfl (Nat.le_of_ble_eq_true rfl) dX5_init_17 (fun H locs hP hD hS => ?_)
  obtain ⟨hP, hD⟩ := X_s (ws' := [eO h0 4 [.null, .ref q1, .int 0, .ref q3], eI q1 k2 8 (fun _ => 0), eI q3 k4 8 (fun _ => 0)]) hP hD rfl
  refine lv_aload_n hx hb dX5_init_20 rfl (lv_at hl 0 rfl) ?_
  refine lv_aload_n hx hb dX5_init_21 rfl (lv_at hl 1 rfl) ?_
  refine va_putF (D := (dC, dI)) (ci := 4) (v := .ref h1) (ty := .object "ClearingGates$Debts") (C := RX5) (T := TX5) (N := 4) hx hb hts (fun w h => List.mem_cons_of_mem _ (inlX5 w h)) tyX5 tyX5_ok nmX5 hown hK hP hD hS 0 rfl rfl 0 (by decide) (hts (.fieldLink RX5 19 "ClearingGates$Rings" "debts" "LClearingGates$Debts;") (List.mem_cons_of_mem _ mw_143)) (fun _ h9 => h9) rfl hin rfl (by decide +kernel) rfl rfl (Nat.le_of_ble_eq_true rfl) dX5_init_22 (fun H locs hP hD hS => ?_)
  obtain ⟨hP, hD⟩ := X_s (ws' := [eO h0 4 [.ref h1, .ref q1, .int 0, .ref q3], eI q1 k2 8 (fun _ => 0), eI q3 k4 8 (fun _ => 0)]) hP hD rfl
  rw [hQ9]
  refine W.widen (k := 2) (n := 16) (Nat.le_of_ble_eq_true rfl) (Nat.le_of_ble_eq_true rfl) ?_
  exact W.vret hx hb hr (fun t ht hW => ⟨⟨(), rfl, (by first | rfl | trivial), q1, q3, k2, k4, by rw [ht]; exact hP, va_K.moved hW.alike hK, hD⟩, hS.F ht⟩) hS.2.2 dX5_init_25

set_option maxRecDepth 100000 in
set_option maxHeartbeats 4000000 in
/-- the constructor of ClearingGates$Sheet -/
theorem c_X7_init (l : Launch) (dC : Nat → ClassId) (dI : Nat → Nat → Nat) (h0 : Nat) (sz : Nat) : Met l yX7_init wsX7_init ({ frames := 1, cells := 1, slots := 60, locals := 12 }) (va_Pc [.ref h0] (fun U => U.heap.size = sz ∧ va_P (dC, dI) vwCl [eO h0 6 [.int 0, .int 0, .null]] U.heap ∧ va_K (dC, dI) vwCl [] U ∧ va_D (fun _ => True) [eO h0 6 [.int 0, .int 0, .null]])) (va_Qv (fun (_ : Unit) => True) (fun (_ : Unit) (t : State) => ∃ (si : Nat), ∃ (ksi : ClassId), va_P (dC, dI) vwCl [eO h0 6 [.int (-1), .int 0, .ref si], eI si ksi 60 (fun _ => 0)] t.heap ∧ va_K (dC, dI) vwCl [(ksi, .int)] t ∧ va_D (va_A [eO h0 6 [.int 0, .int 0, .null]] sz) [eO h0 6 [.int (-1), .int 0, .ref si], eI si ksi 60 (fun _ => 0)]) (va_A [eO h0 6 [.int 0, .int 0, .null]] sz)) 1 60 (va_A [eO h0 6 [.int 0, .int 0, .null]] sz) := by
  refine Met.ofW (cc := cX7_init) (maxL := 1) (ret := none) (by decide) rfl ?_
  intro p e s m args below meth c s₁ B hml hv
  obtain ⟨rfl, hsz, hP, hK, hD0⟩ := hv
  have hx := B.exec
  have hb := B.bytes
  have hr := B.returns
  have hts := atoms_spec (ws := wsX7_init) B.pre
  have hown : s.vm.findClass RX7 = some m.cls := findClass_of_methodNamed B.named
  have hlocks := B.notSynchronized
  have hin : meth.name = "<init>" := (name_of_methodNamed B.named B.method).1
  subst hsz
  have hD := hD0.self (sz := s.heap.size)
  generalize hAe : va_A [eO h0 6 [.int 0, .int 0, .null]] s.heap.size = A at hD ⊢
  have hA : ∀ q : Nat, s.heap.size ≤ q → A q := fun q h => by rw [← hAe]; exact Or.inr h
  have hS : va_S A s.heap s.heap [] := va_S.rf
  have hP : va_P (dC, dI) vwCl [eO h0 6 [.int 0, .int 0, .null]] s.heap := hP
  have hl := lv_entry ([.ref h0]) (n := 1) (Nat.le_of_ble_eq_true rfl)
  rw [lg_entry_eq]
  generalize (lg_sl ([.ref h0]) ++ List.replicate (1 - (lg_sl ([.ref h0])).length) Slot.unset).toArray = ls at hl ⊢
  have hl : lv_has ls 1 [(0, .ref h0)] := hl
  suffices key9 : ∀ Q9 : State → Prop, Q9 = (MQ below (va_Qv (fun (_ : Unit) => True) (fun (_ : Unit) (t : State) => ∃ (si : Nat), ∃ (ksi : ClassId), va_P (dC, dI) vwCl [eO h0 6 [.int (-1), .int 0, .ref si], eI si ksi 60 (fun _ => 0)] t.heap ∧ va_K (dC, dI) vwCl [(ksi, .int)] t ∧ va_D A [eO h0 6 [.int (-1), .int 0, .ref si], eI si ksi 60 (fun _ => 0)]) A) (([.ref h0] : List Value).toArray) s 1 60 A) → W p l e ({ frames := 1, cells := 1, slots := 60, locals := 12 }) s m (([.ref h0] : List Value).toArray) below meth c s.heap [] 0 0 Q9 (F0 m 0 ls []) from key9 _ rfl
  intro Q9 hQ9
  refine lv_aload_n hx hb dX7_init_0 rfl (lv_at hl 0 rfl) ?_
  refine W.objInit hx hb hown (hts (.methodLink RX7 3 objectInit) (List.mem_cons_of_mem _ mw_201)) (hts (.instanceMethod objectInit) (List.mem_cons_of_mem _ mw_87)) (hts (.code objectInit ⟨#[0xb1]⟩ 1 none) (List.mem_cons_of_mem _ mw_88)) rfl (by rw [hml]; exact hl.1) rfl dX7_init_1 (Nat.le_of_ble_eq_true rfl) (Nat.le_of_ble_eq_true rfl) ?_
  refine W.eq (g2 := F0 m 4 ls []) rfl ?_
  refine lv_aload_n hx hb dX7_init_4 rfl (lv_at hl 0 rfl) ?_
  refine lv_iconst (v := -1) hx hb dX7_init_5 (by decide) ?_
  refine va_put (D := (dC, dI)) (ci := 6) (v := .int (-1)) (ty := .int) (C := RX7) (T := TX7) (N := 3) hx hb hts (fun w h => List.mem_cons_of_mem _ (inlX7 w h)) tyX7 tyX7_ok nmX7 hown hK hP hD hS 0 rfl rfl 0 (by decide) (hts (.fieldLink RX7 11 "ClearingGates$Sheet" "sort" "I") (List.mem_cons_of_mem _ mw_202)) (fun _ h9 => h9) rfl (by decide +kernel) rfl rfl (Nat.le_of_ble_eq_true rfl) dX7_init_6 (fun H locs hP hD hS => ?_)
  obtain ⟨hP, hD⟩ := X_s (ws' := [eO h0 6 [.int (-1), .int 0, .null]]) hP hD rfl
  refine lv_aload_n hx hb dX7_init_9 rfl (lv_at hl 0 rfl) ?_
  refine lv_bipush (v := 60) hx hb dX7_init_10 (by decide) ?_
  refine va_newa (D := (dC, dI)) (atype := .int) (ty := .int) (N' := 60) (a0 := (60, .inl (fun _ => 0))) hx hb (hts (.arrayClass .int) (List.mem_cons_of_mem _ mw_129)) rfl hK hP hD hS hA (fun _ => rfl) (by decide) (by decide) (Nat.le_of_ble_eq_true rfl) (Nat.le_of_ble_eq_true rfl) (Nat.le_of_ble_eq_true rfl) dX7_init_12 (fun q1 k2 H hK hP hD hS => ?_)
  have hK : va_K (dC, dI) vwCl [(k2, .int)] s := hK
  obtain ⟨hP, hD⟩ := X_s (ws' := [eO h0 6 [.int (-1), .int 0, .null], eI q1 k2 60 (fun _ => 0)]) hP hD rfl
  refine va_putF (D := (dC, dI)) (ci := 6) (v := .ref q1) (ty := .array .int) (C := RX7) (T := TX7) (N := 3) hx hb hts (fun w h => List.mem_cons_of_mem _ (inlX7 w h)) tyX7 tyX7_ok nmX7 hown hK hP hD hS 0 rfl rfl 2 (by decide) (hts (.fieldLink RX7 15 "ClearingGates$Sheet" "items" "[I") (List.mem_cons_of_mem _ mw_206)) (fun _ h9 => h9) rfl hin rfl (by decide +kernel) rfl rfl (Nat.le_of_ble_eq_true rfl) dX7_init_14 (fun H locs hP hD hS => ?_)
  obtain ⟨hP, hD⟩ := X_s (ws' := [eO h0 6 [.int (-1), .int 0, .ref q1], eI q1 k2 60 (fun _ => 0)]) hP hD rfl
  rw [hQ9]
  refine W.widen (k := 1) (n := 60) (Nat.le_of_ble_eq_true rfl) (Nat.le_of_ble_eq_true rfl) ?_
  exact W.vret hx hb hr (fun t ht hW => ⟨⟨(), rfl, (by first | rfl | trivial), q1, k2, by rw [ht]; exact hP, va_K.moved hW.alike hK, hD⟩, hS.F ht⟩) hS.2.2 dX7_init_17

set_option maxRecDepth 100000 in
set_option maxHeartbeats 4000000 in
/-- the constructor of ClearingGates$Tape -/
theorem c_X8_init (l : Launch) (dC : Nat → ClassId) (dI : Nat → Nat → Nat) (h0 : Nat) (sz : Nat) : Met l yX8_init wsX8_init ({ frames := 1, cells := 1, slots := 80, locals := 12 }) (va_Pc [.ref h0] (fun U => U.heap.size = sz ∧ va_P (dC, dI) vwCl [eO h0 7 [.null, .int 0]] U.heap ∧ va_K (dC, dI) vwCl [] U ∧ va_D (fun _ => True) [eO h0 7 [.null, .int 0]])) (va_Qv (fun (_ : Unit) => True) (fun (_ : Unit) (t : State) => ∃ (tb : Nat), ∃ (ktb : ClassId), va_P (dC, dI) vwCl [eO h0 7 [.ref tb, .int 0], eI tb ktb 80 (fun _ => 0)] t.heap ∧ va_K (dC, dI) vwCl [(ktb, .int)] t ∧ va_D (va_A [eO h0 7 [.null, .int 0]] sz) [eO h0 7 [.ref tb, .int 0], eI tb ktb 80 (fun _ => 0)]) (va_A [eO h0 7 [.null, .int 0]] sz)) 1 80 (va_A [eO h0 7 [.null, .int 0]] sz) := by
  refine Met.ofW (cc := cX8_init) (maxL := 1) (ret := none) (by decide) rfl ?_
  intro p e s m args below meth c s₁ B hml hv
  obtain ⟨rfl, hsz, hP, hK, hD0⟩ := hv
  have hx := B.exec
  have hb := B.bytes
  have hr := B.returns
  have hts := atoms_spec (ws := wsX8_init) B.pre
  have hown : s.vm.findClass RX8 = some m.cls := findClass_of_methodNamed B.named
  have hlocks := B.notSynchronized
  have hin : meth.name = "<init>" := (name_of_methodNamed B.named B.method).1
  subst hsz
  have hD := hD0.self (sz := s.heap.size)
  generalize hAe : va_A [eO h0 7 [.null, .int 0]] s.heap.size = A at hD ⊢
  have hA : ∀ q : Nat, s.heap.size ≤ q → A q := fun q h => by rw [← hAe]; exact Or.inr h
  have hS : va_S A s.heap s.heap [] := va_S.rf
  have hP : va_P (dC, dI) vwCl [eO h0 7 [.null, .int 0]] s.heap := hP
  have hl := lv_entry ([.ref h0]) (n := 1) (Nat.le_of_ble_eq_true rfl)
  rw [lg_entry_eq]
  generalize (lg_sl ([.ref h0]) ++ List.replicate (1 - (lg_sl ([.ref h0])).length) Slot.unset).toArray = ls at hl ⊢
  have hl : lv_has ls 1 [(0, .ref h0)] := hl
  suffices key9 : ∀ Q9 : State → Prop, Q9 = (MQ below (va_Qv (fun (_ : Unit) => True) (fun (_ : Unit) (t : State) => ∃ (tb : Nat), ∃ (ktb : ClassId), va_P (dC, dI) vwCl [eO h0 7 [.ref tb, .int 0], eI tb ktb 80 (fun _ => 0)] t.heap ∧ va_K (dC, dI) vwCl [(ktb, .int)] t ∧ va_D A [eO h0 7 [.ref tb, .int 0], eI tb ktb 80 (fun _ => 0)]) A) (([.ref h0] : List Value).toArray) s 1 80 A) → W p l e ({ frames := 1, cells := 1, slots := 80, locals := 12 }) s m (([.ref h0] : List Value).toArray) below meth c s.heap [] 0 0 Q9 (F0 m 0 ls []) from key9 _ rfl
  intro Q9 hQ9
  refine lv_aload_n hx hb dX8_init_0 rfl (lv_at hl 0 rfl) ?_
  refine W.objInit hx hb hown (hts (.methodLink RX8 3 objectInit) (List.mem_cons_of_mem _ mw_162)) (hts (.instanceMethod objectInit) (List.mem_cons_of_mem _ mw_87)) (hts (.code objectInit ⟨#[0xb1]⟩ 1 none) (List.mem_cons_of_mem _ mw_88)) rfl (by rw [hml]; exact hl.1) rfl dX8_init_1 (Nat.le_of_ble_eq_true rfl) (Nat.le_of_ble_eq_true rfl) ?_
  refine W.eq (g2 := F0 m 4 ls []) rfl ?_
  refine lv_aload_n hx hb dX8_init_4 rfl (lv_at hl 0 rfl) ?_
  refine lv_bipush (v := 80) hx hb dX8_init_5 (by decide) ?_
  refine va_newa (D := (dC, dI)) (atype := .int) (ty := .int) (N' := 80) (a0 := (80, .inl (fun _ => 0))) hx hb (hts (.arrayClass .int) (List.mem_cons_of_mem _ mw_129)) rfl hK hP hD hS hA (fun _ => rfl) (by decide) (by decide) (Nat.le_of_ble_eq_true rfl) (Nat.le_of_ble_eq_true rfl) (Nat.le_of_ble_eq_true rfl) dX8_init_7 (fun q1 k2 H hK hP hD hS => ?_)
  have hK : va_K (dC, dI) vwCl [(k2, .int)] s := hK
  obtain ⟨hP, hD⟩ := X_s (ws' := [eO h0 7 [.null, .int 0], eI q1 k2 80 (fun _ => 0)]) hP hD rfl
  refine va_putF (D := (dC, dI)) (ci := 7) (v := .ref q1) (ty := .array .int) (C := RX8) (T := TX8) (N := 2) hx hb hts (fun w h => List.mem_cons_of_mem _ (inlX8 w h)) tyX8 tyX8_ok nmX8 hown hK hP hD hS 0 rfl rfl 0 (by decide) (hts (.fieldLink RX8 9 "ClearingGates$Tape" "bytes" "[I") (List.mem_cons_of_mem _ mw_163)) (fun _ h9 => h9) rfl hin rfl (by decide +kernel) rfl rfl (Nat.le_of_ble_eq_true rfl) dX8_init_9 (fun H locs hP hD hS => ?_)
  obtain ⟨hP, hD⟩ := X_s (ws' := [eO h0 7 [.ref q1, .int 0], eI q1 k2 80 (fun _ => 0)]) hP hD rfl
  rw [hQ9]
  refine W.widen (k := 1) (n := 80) (Nat.le_of_ble_eq_true rfl) (Nat.le_of_ble_eq_true rfl) ?_
  exact W.vret hx hb hr (fun t ht hW => ⟨⟨(), rfl, (by first | rfl | trivial), q1, k2, by rw [ht]; exact hP, va_K.moved hW.alike hK, hD⟩, hS.F ht⟩) hS.2.2 dX8_init_12

set_option maxRecDepth 100000 in
set_option maxHeartbeats 4000000 in
/-- the constructor of ClearingGates$Runner -/
theorem c_X6_init (l : Launch) (dC : Nat → ClassId) (dI : Nat → Nat → Nat) (h0 : Nat) (h1 : Nat) (sz : Nat) : Met l yX6_init wsX6_init ({ frames := 1, cells := 13, slots := 158, locals := 12 }) (va_Pc [.ref h0, .ref h1] (fun U => U.heap.size = sz ∧ va_P (dC, dI) vwCl [eO h0 5 [.null, .null, .int 0, .null, .null, .null, .int 0, .null]] U.heap ∧ va_K (dC, dI) vwCl [] U ∧ va_D (fun _ => True) [eO h0 5 [.null, .null, .int 0, .null, .null, .null, .int 0, .null]] ∧ va_AOA .int U)) (va_Qv (fun (_ : Unit) => True) (fun (_ : Unit) (t : State) => ∃ (qm : Nat), ∃ (qh : Nat), ∃ (qk : Nat), ∃ (qf : Nat), ∃ (km : ClassId), ∃ (kh : ClassId), ∃ (kk : ClassId), ∃ (fo : Nat → Option Nat), ∃ (ro0 : Nat), ∃ (kr0 : ClassId), ∃ (ro1 : Nat), ∃ (kr1 : ClassId), ∃ (ro2 : Nat), ∃ (kr2 : ClassId), ∃ (ro3 : Nat), ∃ (kr3 : ClassId), ∃ (ro4 : Nat), ∃ (kr4 : ClassId), ∃ (ro5 : Nat), ∃ (kr5 : ClassId), ∃ (ro6 : Nat), ∃ (kr6 : ClassId), ∃ (ro7 : Nat), ∃ (kr7 : ClassId), ∃ (ro8 : Nat), ∃ (kr8 : ClassId), ∃ (kf : ClassId), (fo 0 = some ro0) ∧ (fo 1 = some ro1) ∧ (fo 2 = some ro2) ∧ (fo 3 = some ro3) ∧ (fo 4 = some ro4) ∧ (fo 5 = some ro5) ∧ (fo 6 = some ro6) ∧ (fo 7 = some ro7) ∧ (fo 8 = some ro8) ∧ va_P (dC, dI) vwCl [eO h0 5 [.ref h1, .ref qm, .int 0, .ref qh, .ref qk, .ref qf, .int 0, .null], eI qm km 60 (fun _ => 0), eI qh kh 8 (fun _ => 0), eR qk kk 9 fo, eI ro0 kr0 8 (fun _ => 0), eI ro1 kr1 8 (fun _ => 0), eI ro2 kr2 8 (fun _ => 0), eI ro3 kr3 8 (fun _ => 0), eI ro4 kr4 8 (fun _ => 0), eI ro5 kr5 8 (fun _ => 0), eI ro6 kr6 8 (fun _ => 0), eI ro7 kr7 8 (fun _ => 0), eI ro8 kr8 8 (fun _ => 0), eL qf kf 9 (fun _ => 0)] t.heap ∧ va_K (dC, dI) vwCl [(km, .int), (kh, .int), (kk, .array .int), (kr0, .int), (kr1, .int), (kr2, .int), (kr3, .int), (kr4, .int), (kr5, .int), (kr6, .int), (kr7, .int), (kr8, .int), (kf, .long)] t ∧ va_D (va_A [eO h0 5 [.null, .null, .int 0, .null, .null, .null, .int 0, .null]] sz) [eO h0 5 [.ref h1, .ref qm, .int 0, .ref qh, .ref qk, .ref qf, .int 0, .null], eI qm km 60 (fun _ => 0), eI qh kh 8 (fun _ => 0), eR qk kk 9 fo, eI ro0 kr0 8 (fun _ => 0), eI ro1 kr1 8 (fun _ => 0), eI ro2 kr2 8 (fun _ => 0), eI ro3 kr3 8 (fun _ => 0), eI ro4 kr4 8 (fun _ => 0), eI ro5 kr5 8 (fun _ => 0), eI ro6 kr6 8 (fun _ => 0), eI ro7 kr7 8 (fun _ => 0), eI ro8 kr8 8 (fun _ => 0), eL qf kf 9 (fun _ => 0)]) (va_A [eO h0 5 [.null, .null, .int 0, .null, .null, .null, .int 0, .null]] sz)) 13 158 (va_A [eO h0 5 [.null, .null, .int 0, .null, .null, .null, .int 0, .null]] sz) := by
  refine Met.ofW (cc := cX6_init) (maxL := 2) (ret := none) (by decide) rfl ?_
  intro p e s m args below meth c s₁ B hml hv
  obtain ⟨rfl, hsz, hP, hK, hD0, zn0⟩ := hv
  have hx := B.exec
  have hb := B.bytes
  have hr := B.returns
  have hts := atoms_spec (ws := wsX6_init) B.pre
  have hown : s.vm.findClass RX6 = some m.cls := findClass_of_methodNamed B.named
  have hlocks := B.notSynchronized
  have hin : meth.name = "<init>" := (name_of_methodNamed B.named B.method).1
  subst hsz
  have hD := hD0.self (sz := s.heap.size)
  generalize hAe : va_A [eO h0 5 [.null, .null, .int 0, .null, .null, .null, .int 0, .null]] s.heap.size = A at hD ⊢
  have hA : ∀ q : Nat, s.heap.size ≤ q → A q := fun q h => by rw [← hAe]; exact Or.inr h
  have hS : va_S A s.heap s.heap [] := va_S.rf
  have hP : va_P (dC, dI) vwCl [eO h0 5 [.null, .null, .int 0, .null, .null, .null, .int 0, .null]] s.heap := hP
  have hl := lv_entry ([.ref h0, .ref h1]) (n := 2) (Nat.le_of_ble_eq_true rfl)
  rw [lg_entry_eq]
  generalize (lg_sl ([.ref h0, .ref h1]) ++ List.replicate (2 - (lg_sl ([.ref h0, .ref h1])).length) Slot.unset).toArray = ls at hl ⊢
  have hl : lv_has ls 2 [(0, .ref h0), (1, .ref h1)] := hl
  suffices key9 : ∀ Q9 : State → Prop, Q9 = (MQ below (va_Qv (fun (_ : Unit) => True) (fun (_ : Unit) (t : State) => ∃ (qm : Nat), ∃ (qh : Nat), ∃ (qk : Nat), ∃ (qf : Nat), ∃ (km : ClassId), ∃ (kh : ClassId), ∃ (kk : ClassId), ∃ (fo : Nat → Option Nat), ∃ (ro0 : Nat), ∃ (kr0 : ClassId), ∃ (ro1 : Nat), ∃ (kr1 : ClassId), ∃ (ro2 : Nat), ∃ (kr2 : ClassId), ∃ (ro3 : Nat), ∃ (kr3 : ClassId), ∃ (ro4 : Nat), ∃ (kr4 : ClassId), ∃ (ro5 : Nat), ∃ (kr5 : ClassId), ∃ (ro6 : Nat), ∃ (kr6 : ClassId), ∃ (ro7 : Nat), ∃ (kr7 : ClassId), ∃ (ro8 : Nat), ∃ (kr8 : ClassId), ∃ (kf : ClassId), (fo 0 = some ro0) ∧ (fo 1 = some ro1) ∧ (fo 2 = some ro2) ∧ (fo 3 = some ro3) ∧ (fo 4 = some ro4) ∧ (fo 5 = some ro5) ∧ (fo 6 = some ro6) ∧ (fo 7 = some ro7) ∧ (fo 8 = some ro8) ∧ va_P (dC, dI) vwCl [eO h0 5 [.ref h1, .ref qm, .int 0, .ref qh, .ref qk, .ref qf, .int 0, .null], eI qm km 60 (fun _ => 0), eI qh kh 8 (fun _ => 0), eR qk kk 9 fo, eI ro0 kr0 8 (fun _ => 0), eI ro1 kr1 8 (fun _ => 0), eI ro2 kr2 8 (fun _ => 0), eI ro3 kr3 8 (fun _ => 0), eI ro4 kr4 8 (fun _ => 0), eI ro5 kr5 8 (fun _ => 0), eI ro6 kr6 8 (fun _ => 0), eI ro7 kr7 8 (fun _ => 0), eI ro8 kr8 8 (fun _ => 0), eL qf kf 9 (fun _ => 0)] t.heap ∧ va_K (dC, dI) vwCl [(km, .int), (kh, .int), (kk, .array .int), (kr0, .int), (kr1, .int), (kr2, .int), (kr3, .int), (kr4, .int), (kr5, .int), (kr6, .int), (kr7, .int), (kr8, .int), (kf, .long)] t ∧ va_D A [eO h0 5 [.ref h1, .ref qm, .int 0, .ref qh, .ref qk, .ref qf, .int 0, .null], eI qm km 60 (fun _ => 0), eI qh kh 8 (fun _ => 0), eR qk kk 9 fo, eI ro0 kr0 8 (fun _ => 0), eI ro1 kr1 8 (fun _ => 0), eI ro2 kr2 8 (fun _ => 0), eI ro3 kr3 8 (fun _ => 0), eI ro4 kr4 8 (fun _ => 0), eI ro5 kr5 8 (fun _ => 0), eI ro6 kr6 8 (fun _ => 0), eI ro7 kr7 8 (fun _ => 0), eI ro8 kr8 8 (fun _ => 0), eL qf kf 9 (fun _ => 0)]) A) (([.ref h0, .ref h1] : List Value).toArray) s 13 158 A) → W p l e ({ frames := 1, cells := 13, slots := 158, locals := 12 }) s m (([.ref h0, .ref h1] : List Value).toArray) below meth c s.heap [] 0 0 Q9 (F0 m 0 ls []) from key9 _ rfl
  intro Q9 hQ9
  refine lv_aload_n hx hb dX6_init_0 rfl (lv_at hl 0 rfl) ?_
  refine W.objInit hx hb hown (hts (.methodLink RX6 3 objectInit) (List.mem_cons_of_mem _ mw_183)) (hts (.instanceMethod objectInit) (List.mem_cons_of_mem _ mw_87)) (hts (.code objectInit ⟨#[0xb1]⟩ 1 none) (List.mem_cons_of_mem _ mw_88)) rfl (by rw [hml]; exact hl.1) rfl dX6_init_1 (Nat.le_of_ble_eq_true rfl) (Nat.le_of_ble_eq_true rfl) ?_
  refine W.eq (g2 := F0 m 4 ls []) rfl ?_
  refine lv_aload_n hx hb dX6_init_4 rfl (lv_at hl 0 rfl) ?_
  refine lv_bipush (v := 60) hx hb dX6_init_5 (by decide) ?_
  refine va_newa (D := (dC, dI)) (atype := .int) (ty := .int) (N' := 60) (a0 := (60, .inl (fun _ => 0))) hx hb (hts (.arrayClass .int) (List.mem_cons_of_mem _ mw_129)) rfl hK hP hD hS hA (fun _ => rfl) (by decide) (by decide) (Nat.le_of_ble_eq_true rfl) (Nat.le_of_ble_eq_true rfl) (Nat.le_of_ble_eq_true rfl) dX6_init_7 (fun q1 k2 H hK hP hD hS => ?_)
  have hK : va_K (dC, dI) vwCl [(k2, .int)] s := hK
  obtain ⟨hP, hD⟩ := X_s (ws' := [eO h0 5 [.null, .null, .int 0, .null, .null, .null, .int 0, .null], eI q1 k2 60 (fun _ => 0)]) hP hD rfl
  refine va_putF (D := (dC, dI)) (ci := 5) (v := .ref q1) (ty := .array .int) (C := RX6) (T := TX6) (N := 8) hx hb hts (fun w h => List.mem_cons_of_mem _ (inlX6 w h)) tyX6 tyX6_ok nmX6 hown hK hP hD hS 0 rfl rfl 1 (by decide) (hts (.fieldLink RX6 9 "ClearingGates$Runner" "marks" "[I") (List.mem_cons_of_mem _ mw_187)) (fun _ h9 => h9) rfl hin rfl (by decide +kernel) rfl rfl (Nat.le_of_ble_eq_true rfl) dX6_init_9 (fun H locs hP hD hS => ?_)
  obtain ⟨hP, hD⟩ := X_s (ws' := [eO h0 5 [.null, .ref q1, .int 0, .null, .null, .null, .int 0, .null], eI q1 k2 60 (fun _ => 0)]) hP hD rfl
  refine lv_aload_n hx hb dX6_init_12 rfl (lv_at hl 0 rfl) ?_
  refine lv_bipush (v := 8) hx hb dX6_init_13 (by decide) ?_
  refine va_newa (D := (dC, dI)) (atype := .int) (ty := .int) (N' := 8) (a0 := (8, .inl (fun _ => 0))) hx hb (hts (.arrayClass .int) (List.mem_cons_of_mem _ mw_129)) rfl hK hP hD hS hA (fun _ => rfl) (by decide) (by decide) (Nat.le_of_ble_eq_true rfl) (Nat.le_of_ble_eq_true rfl) (Nat.le_of_ble_eq_true rfl) dX6_init_15 (fun q3 k4 H hK hP hD hS => ?_)
  have hK : va_K (dC, dI) vwCl [(k2, .int), (k4, .int)] s := hK
  obtain ⟨hP, hD⟩ := X_s (ws' := [eO h0 5 [.null, .ref q1, .int 0, .null, .null, .null, .int 0, .null], eI q1 k2 60 (fun _ => 0), eI q3 k4 8 (fun _ => 0)]) hP hD rfl
  refine va_putF (D := (dC, dI)) (ci := 5) (v := .ref q3) (ty := .array .int) (C := RX6) (T := TX6) (N := 8) hx hb hts (fun w h => List.mem_cons_of_mem _ (inlX6 w h)) tyX6 tyX6_ok nmX6 hown hK hP hD hS 0 rfl rfl 3 (by decide) (hts (.fieldLink RX6 15 "ClearingGates$Runner" "held" "[I") (List.mem_cons_of_mem _ mw_191)) (fun _ h9 => h9) rfl hin rfl (by decide +kernel) rfl rfl (Nat.le_of_ble_eq_true rfl) dX6_init_17 (fun H locs hP hD hS => ?_)
  obtain ⟨hP, hD⟩ := X_s (ws' := [eO h0 5 [.null, .ref q1, .int 0, .ref q3, .null, .null, .int 0, .null], eI q1 k2 60 (fun _ => 0), eI q3 k4 8 (fun _ => 0)]) hP hD rfl
  refine lv_aload_n hx hb dX6_init_20 rfl (lv_at hl 0 rfl) ?_
  refine lv_bipush (v := 9) hx hb dX6_init_21 (by decide) ?_
  refine lv_bipush (v := 8) hx hb dX6_init_23 (by decide) ?_
  have hP0 : va_P (dC, dI) vwCl ([eO h0 5 [.null, .ref q1, .int 0, .ref q3, .null, .null, .int 0, .null], eI q1 k2 60 (fun _ => 0), eI q3 k4 8 (fun _ => 0)] ++ va_pl [] (fun _ => .inl (k2, 8, .inl (fun _ => 0)))) H := by rw [show va_pl [] (fun _ => (.inl (k2, 8, .inl (fun _ => 0)) : va_E)) = [] from rfl, List.append_nil]; exact hP
  have hD0 : va_D A ([eO h0 5 [.null, .ref q1, .int 0, .ref q3, .null, .null, .int 0, .null], eI q1 k2 60 (fun _ => 0), eI q3 k4 8 (fun _ => 0)] ++ va_pl [] (fun _ => .inl (k2, 8, .inl (fun _ => 0)))) := by rw [show va_pl [] (fun _ => (.inl (k2, 8, .inl (fun _ => 0)) : va_E)) = [] from rfl, List.append_nil]; exact hD
  refine va_mna (D := (dC, dI)) (ty := .int) (cy := k2) (N' := 9) (K' := 8) (z := (8, .inl (fun _ => 0))) hx hb hown (hts (.classLink RX6 18 "[[I") (List.mem_cons_of_mem _ mw_184)) zn0 (hts (.arrayClass .int) (List.mem_cons_of_mem _ mw_129)) (hK.2 0 _ rfl).2 hK hP0 hD0 hS hA (by decide) (by decide) (by decide) (by decide) (Nat.le_of_ble_eq_true rfl) (Nat.le_of_ble_eq_true rfl) (Nat.le_of_ble_eq_true rfl) rfl rfl (Nat.le_of_ble_eq_true rfl) (Nat.le_of_ble_eq_true rfl) (fun _ => rfl) dX6_init_25 (fun q5 r_m k6 H hr_m hr_n hK hP1 hD1 hS => ?_)
  rw [vr_nine] at hP1 hD1
  generalize hfo : (fun i : Nat => if i < 9 then some (r_m i) else none) = fo at hP1 hD1
  have hf0 : fo 0 = some (r_m 0) := by rw [← hfo]; rfl
  have hf1 : fo 1 = some (r_m 1) := by rw [← hfo]; rfl
  have hf2 : fo 2 = some (r_m 2) := by rw [← hfo]; rfl
  have hf3 : fo 3 = some (r_m 3) := by rw [← hfo]; rfl
  have hf4 : fo 4 = some (r_m 4) := by rw [← hfo]; rfl
  have hf5 : fo 5 = some (r_m 5) := by rw [← hfo]; rfl
  have hf6 : fo 6 = some (r_m 6) := by rw [← hfo]; rfl
  have hf7 : fo 7 = some (r_m 7) := by rw [← hfo]; rfl
  have hf8 : fo 8 = some (r_m 8) := by rw [← hfo]; rfl
  clear hfo hr_m hr_n
  generalize r_m 0 = ro0 at hP1 hD1 hf0
  generalize r_m 1 = ro1 at hP1 hD1 hf1
  generalize r_m 2 = ro2 at hP1 hD1 hf2
  generalize r_m 3 = ro3 at hP1 hD1 hf3
  generalize r_m 4 = ro4 at hP1 hD1 hf4
  generalize r_m 5 = ro5 at hP1 hD1 hf5
  generalize r_m 6 = ro6 at hP1 hD1 hf6
  generalize r_m 7 = ro7 at hP1 hD1 hf7
  generalize r_m 8 = ro8 at hP1 hD1 hf8
  have hP : va_P (dC, dI) vwCl [eO h0 5 [.null, .ref q1, .int 0, .ref q3, .null, .null, .int 0, .null], eI q1 k2 60 (fun _ => 0), eI q3 k4 8 (fun _ => 0), eR q5 k6 9 fo, eI ro0 k2 8 (fun _ => 0), eI ro1 k2 8 (fun _ => 0), eI ro2 k2 8 (fun _ => 0), eI ro3 k2 8 (fun _ => 0), eI ro4 k2 8 (fun _ => 0), eI ro5 k2 8 (fun _ => 0), eI ro6 k2 8 (fun _ => 0), eI ro7 k2 8 (fun _ => 0), eI ro8 k2 8 (fun _ => 0)] H := hP1
  have hD : va_D A [eO h0 5 [.null, .ref q1, .int 0, .ref q3, .null, .null, .int 0, .null], eI q1 k2 60 (fun _ => 0), eI q3 k4 8 (fun _ => 0), eR q5 k6 9 fo, eI ro0 k2 8 (fun _ => 0), eI ro1 k2 8 (fun _ => 0), eI ro2 k2 8 (fun _ => 0), eI ro3 k2 8 (fun _ => 0), eI ro4 k2 8 (fun _ => 0), eI ro5 k2 8 (fun _ => 0), eI ro6 k2 8 (fun _ => 0), eI ro7 k2 8 (fun _ => 0), eI ro8 k2 8 (fun _ => 0)] := hD1
  have hK := hK.sub (tys' := [(k2, .int), (k4, .int), (k6, .array .int), (k2, .int), (k2, .int), (k2, .int), (k2, .int), (k2, .int), (k2, .int), (k2, .int), (k2, .int), (k2, .int)]) [0, 1, 2, 0, 0, 0, 0, 0, 0, 0, 0, 0] rfl
  have hK : va_K (dC, dI) vwCl [(k2, .int), (k4, .int), (k6, .array .int), (k2, .int), (k2, .int), (k2, .int), (k2, .int), (k2, .int), (k2, .int), (k2, .int), (k2, .int), (k2, .int)] s := hK
  refine va_putF (D := (dC, dI)) (ci := 5) (v := .ref q5) (ty := .array (.array .int)) (C := RX6) (T := TX6) (N := 8) hx hb hts (fun w h => List.mem_cons_of_mem _ (inlX6 w h)) tyX6 tyX6_ok nmX6 hown hK hP hD hS 0 rfl rfl 4 (by decide) (hts (.fieldLink RX6 20 "ClearingGates$Runner" "keptBalances" "[[I") (List.mem_cons_of_mem _ mw_192)) (fun _ h9 => h9) rfl hin rfl (by decide +kernel) rfl rfl (Nat.le_of_ble_eq_true rfl) dX6_init_29 (fun H locs hP hD hS => ?_)
  obtain ⟨hP, hD⟩ := X_s (ws' := [eO h0 5 [.null, .ref q1, .int 0, .ref q3, .ref q5, .null, .int 0, .null], eI q1 k2 60 (fun _ => 0), eI q3 k4 8 (fun _ => 0), eR q5 k6 9 fo, eI ro0 k2 8 (fun _ => 0), eI ro1 k2 8 (fun _ => 0), eI ro2 k2 8 (fun _ => 0), eI ro3 k2 8 (fun _ => 0), eI ro4 k2 8 (fun _ => 0), eI ro5 k2 8 (fun _ => 0), eI ro6 k2 8 (fun _ => 0), eI ro7 k2 8 (fun _ => 0), eI ro8 k2 8 (fun _ => 0)]) hP hD rfl
  refine lv_aload_n hx hb dX6_init_32 rfl (lv_at hl 0 rfl) ?_
  refine lv_bipush (v := 9) hx hb dX6_init_33 (by decide) ?_
  refine va_newa (D := (dC, dI)) (atype := .long) (ty := .long) (N' := 9) (a0 := (9, .inr (.inl (fun _ => 0)))) hx hb (hts (.arrayClass .long) (List.mem_cons_of_mem _ mw_196)) rfl hK hP hD hS hA (fun _ => rfl) (by decide) (by decide) (Nat.le_of_ble_eq_true rfl) (Nat.le_of_ble_eq_true rfl) (Nat.le_of_ble_eq_true rfl) dX6_init_35 (fun q7 k8 H hK hP hD hS => ?_)
  have hK : va_K (dC, dI) vwCl [(k2, .int), (k4, .int), (k6, .array .int), (k2, .int), (k2, .int), (k2, .int), (k2, .int), (k2, .int), (k2, .int), (k2, .int), (k2, .int), (k2, .int), (k8, .long)] s := hK
  obtain ⟨hP, hD⟩ := X_s (ws' := [eO h0 5 [.null, .ref q1, .int 0, .ref q3, .ref q5, .null, .int 0, .null], eI q1 k2 60 (fun _ => 0), eI q3 k4 8 (fun _ => 0), eR q5 k6 9 fo, eI ro0 k2 8 (fun _ => 0), eI ro1 k2 8 (fun _ => 0), eI ro2 k2 8 (fun _ => 0), eI ro3 k2 8 (fun _ => 0), eI ro4 k2 8 (fun _ => 0), eI ro5 k2 8 (fun _ => 0), eI ro6 k2 8 (fun _ => 0), eI ro7 k2 8 (fun _ => 0), eI ro8 k2 8 (fun _ => 0), eL q7 k8 9 (fun _ => 0)]) hP hD rfl
  refine va_putF (D := (dC, dI)) (ci := 5) (v := .ref q7) (ty := .array .long) (C := RX6) (T := TX6) (N := 8) hx hb hts (fun w h => List.mem_cons_of_mem _ (inlX6 w h)) tyX6 tyX6_ok nmX6 hown hK hP hD hS 0 rfl rfl 5 (by decide) (hts (.fieldLink RX6 23 "ClearingGates$Runner" "keptFees" "[J") (List.mem_cons_of_mem _ mw_193)) (fun _ h9 => h9) rfl hin rfl (by decide +kernel) rfl rfl (Nat.le_of_ble_eq_true rfl) dX6_init_37 (fun H locs hP hD hS => ?_)
  obtain ⟨hP, hD⟩ := X_s (ws' := [eO h0 5 [.null, .ref q1, .int 0, .ref q3, .ref q5, .ref q7, .int 0, .null], eI q1 k2 60 (fun _ => 0), eI q3 k4 8 (fun _ => 0), eR q5 k6 9 fo, eI ro0 k2 8 (fun _ => 0), eI ro1 k2 8 (fun _ => 0), eI ro2 k2 8 (fun _ => 0), eI ro3 k2 8 (fun _ => 0), eI ro4 k2 8 (fun _ => 0), eI ro5 k2 8 (fun _ => 0), eI ro6 k2 8 (fun _ => 0), eI ro7 k2 8 (fun _ => 0), eI ro8 k2 8 (fun _ => 0), eL q7 k8 9 (fun _ => 0)]) hP hD rfl
  refine lv_aload_n hx hb dX6_init_40 rfl (lv_at hl 0 rfl) ?_
  refine lv_aload_n hx hb dX6_init_41 rfl (lv_at hl 1 rfl) ?_
  refine va_putF (D := (dC, dI)) (ci := 5) (v := .ref h1) (ty := .object "ClearingGates$Books") (C := RX6) (T := TX6) (N := 8) hx hb hts (fun w h => List.mem_cons_of_mem _ (inlX6 w h)) tyX6 tyX6_ok nmX6 hown hK hP hD hS 0 rfl rfl 0 (by decide) (hts (.fieldLink RX6 27 "ClearingGates$Runner" "books" "LClearingGates$Books;") (List.mem_cons_of_mem _ mw_185)) (fun _ h9 => h9) rfl hin rfl (by decide +kernel) rfl rfl (Nat.le_of_ble_eq_true rfl) dX6_init_42 (fun H locs hP hD hS => ?_)
  obtain ⟨hP, hD⟩ := X_s (ws' := [eO h0 5 [.ref h1, .ref q1, .int 0, .ref q3, .ref q5, .ref q7, .int 0, .null], eI q1 k2 60 (fun _ => 0), eI q3 k4 8 (fun _ => 0), eR q5 k6 9 fo, eI ro0 k2 8 (fun _ => 0), eI ro1 k2 8 (fun _ => 0), eI ro2 k2 8 (fun _ => 0), eI ro3 k2 8 (fun _ => 0), eI ro4 k2 8 (fun _ => 0), eI ro5 k2 8 (fun _ => 0), eI ro6 k2 8 (fun _ => 0), eI ro7 k2 8 (fun _ => 0), eI ro8 k2 8 (fun _ => 0), eL q7 k8 9 (fun _ => 0)]) hP hD rfl
  rw [hQ9]
  refine W.widen (k := 13) (n := 158) (Nat.le_of_ble_eq_true rfl) (Nat.le_of_ble_eq_true rfl) ?_
  exact W.vret hx hb hr (fun t ht hW => ⟨⟨(), rfl, (by first | rfl | trivial), q1, q3, q5, q7, k2, k4, k6, fo, ro0, k2, ro1, k2, ro2, k2, ro3, k2, ro4, k2, ro5, k2, ro6, k2, ro7, k2, ro8, k2, k8, (by first | assumption | omega), (by first | assumption | omega), (by first | assumption | omega), (by first | assumption | omega), (by first | assumption | omega), (by first | assumption | omega), (by first | assumption | omega), (by first | assumption | omega), (by first | assumption | omega), by rw [ht]; exact hP, va_K.moved hW.alike hK, hD⟩, hS.F ht⟩) hS.2.2 dX6_init_45
