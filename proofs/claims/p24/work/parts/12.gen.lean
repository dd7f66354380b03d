theorem in_X6_mark_X6 : ∀ w ∈ wsX60, w ∈ wsX6_mark := fun _ h => List.mem_cons_of_mem _ (List.mem_append_right _ h)
set_option maxRecDepth 100000 in
set_option maxHeartbeats 4000000 in
/-- Runner.mark -/
theorem c_X6_mark (l : Launch) (dC : Nat → ClassId) (dI : Nat → Nat → Nat) (h0 : Nat) (p0 : Int32) (jb : Nat) (qm : Nat) (mc : Int32) (qh : Nat) (qk : Nat) (qf : Nat) (bg : Int32) (jp : Nat) (km : ClassId) (fm : Nat → Int32) (sz : Nat) (h1 : 0 ≤ mc.toInt) (h2 : mc.toInt ≤ 2000) : Met l yX6_mark wsX6_mark ({ frames := 0, cells := 0, slots := 0, locals := 0 }) (va_Pc [.ref h0, .int p0] (fun U => U.heap.size = sz ∧ va_P (dC, dI) vwCl [(h0, .inr (5, [.ref jb, .ref qm, .int mc, .ref qh, .ref qk, .ref qf, .int bg, .ref jp])), (qm, .inl (km, 60, .inl fm))] U.heap ∧ va_K (dC, dI) vwCl [(km, .int)] U ∧ va_D (fun _ => True) [(h0, .inr (5, [.ref jb, .ref qm, .int mc, .ref qh, .ref qk, .ref qf, .int bg, .ref jp])), (qm, .inl (km, 60, .inl fm))])) (va_Qv (fun (_ : Unit) => True) (fun (_ : Unit) (t : State) => ∃ (fm' : Nat → Int32), ∃ (mc' : Int32), (mc'.toInt = mc.toInt + 1) ∧ va_P (dC, dI) vwCl [(h0, .inr (5, [.ref jb, .ref qm, .int mc', .ref qh, .ref qk, .ref qf, .int bg, .ref jp])), (qm, .inl (km, 60, .inl (fm')))] t.heap ∧ va_K (dC, dI) vwCl [(km, .int)] t ∧ va_D (va_A [(h0, .inr (5, [.ref jb, .ref qm, .int mc, .ref qh, .ref qk, .ref qf, .int bg, .ref jp])), (qm, .inl (km, 60, .inl fm))] sz) [(h0, .inr (5, [.ref jb, .ref qm, .int mc', .ref qh, .ref qk, .ref qf, .int bg, .ref jp])), (qm, .inl (km, 60, .inl (fm')))]) (va_A [(h0, .inr (5, [.ref jb, .ref qm, .int mc, .ref qh, .ref qk, .ref qf, .int bg, .ref jp])), (qm, .inl (km, 60, .inl fm))] sz)) 0 0 (va_A [(h0, .inr (5, [.ref jb, .ref qm, .int mc, .ref qh, .ref qk, .ref qf, .int bg, .ref jp])), (qm, .inl (km, 60, .inl fm))] sz) := by
  refine Met.ofW (cc := cX6_mark) (maxL := 2) (ret := none) (by decide) rfl ?_
  intro p e s m args below meth c s₁ B hml hv
  obtain ⟨rfl, hsz, hP, hK, hD0⟩ := hv
  have hx := B.exec
  have hb := B.bytes
  have hr := B.returns
  have hts := atoms_spec (ws := wsX6_mark) B.pre
  have hown : s.vm.findClass RX6 = some m.cls := findClass_of_methodNamed B.named
  have hlocks := B.notSynchronized
  subst hsz
  have hD := hD0.self (sz := s.heap.size)
  generalize hAe : va_A [(h0, .inr (5, [.ref jb, .ref qm, .int mc, .ref qh, .ref qk, .ref qf, .int bg, .ref jp])), (qm, .inl (km, 60, .inl fm))] s.heap.size = A at hD ⊢
  have hA : ∀ q : Nat, s.heap.size ≤ q → A q := fun q h => by rw [← hAe]; exact Or.inr h
  have hS : va_S A s.heap s.heap [] := va_S.rf
  have hP : va_P (dC, dI) vwCl [(h0, .inr (5, [.ref jb, .ref qm, .int mc, .ref qh, .ref qk, .ref qf, .int bg, .ref jp])), (qm, .inl (km, 60, .inl fm))] s.heap := hP
  have hl := lv_entry ([.ref h0, .int p0]) (n := 2) (Nat.le_of_ble_eq_true rfl)
  rw [lg_entry_eq]
  generalize (lg_sl ([.ref h0, .int p0]) ++ List.replicate (2 - (lg_sl ([.ref h0, .int p0])).length) Slot.unset).toArray = ls at hl ⊢
  have hl : lv_has ls 2 [(0, .ref h0), (1, .int p0)] := hl
  have k_1 : (1 : Int32).toInt = 1 := by decide
  have k_60 : (60 : Int32).toInt = 60 := by decide
  refine lv_aload_n hx hb dX6_mark_0 rfl (lv_at hl 0 rfl) ?_
  refine va_get (D := (dC, dI)) (ci := 5) (v := .int mc) (C := RX6) (T := TX6) (N := 8) hx hb hts in_X6_mark_X6 hown hK hP 0 rfl rfl 2 (by decide) (hts (.fieldLink RX6 31 "ClearingGates$Runner" "markCount" "I") (List.mem_of_getElem? (i := 1) (by decide +kernel))) (fun _ h9 => h9) rfl dX6_mark_1 ?_
  refine lv_bipush (v := 60) hx hb dX6_mark_4 (by decide) ?_
  refine lv_icmp_ge (tgt := 19) hx hb dX6_mark_6 (by decide) (fun c1 => ?_) (fun c1 => ?_)
  · skip
    have f_c1 := i_le c1
    refine lv_aload_n hx hb dX6_mark_19 rfl (lv_at hl 0 rfl) ?_
    refine lv_dup hx hb dX6_mark_20 rfl ?_
    refine va_get (D := (dC, dI)) (ci := 5) (v := .int mc) (C := RX6) (T := TX6) (N := 8) hx hb hts in_X6_mark_X6 hown hK hP 0 rfl rfl 2 (by decide) (hts (.fieldLink RX6 31 "ClearingGates$Runner" "markCount" "I") (List.mem_of_getElem? (i := 1) (by decide +kernel))) (fun _ h9 => h9) rfl dX6_mark_21 ?_
    refine lv_iconst (v := 1) hx hb dX6_mark_24 (by decide) ?_
    refine lv_iadd hx hb dX6_mark_25 ?_
    refine lv_topi (fun z2 e_z2 => ?_)
    have t_z2 := i_add e_z2 (by omega) (by omega)
    refine va_put (D := (dC, dI)) (ci := 5) (v := .int z2) (ty := .int) (C := RX6) (T := TX6) (N := 8) hx hb hts in_X6_mark_X6 tyX6 tyX6_ok nmX6 hown hK hP hD hS 0 rfl rfl 2 (by decide) (hts (.fieldLink RX6 31 "ClearingGates$Runner" "markCount" "I") (List.mem_of_getElem? (i := 1) (by decide +kernel))) (fun _ h9 => h9) rfl (by decide +kernel) rfl rfl (Nat.le_of_ble_eq_true rfl) dX6_mark_26 (fun H locs hP hD hS => ?_)
    have hP : va_P (dC, dI) vwCl [(h0, .inr (5, [.ref jb, .ref qm, .int z2, .ref qh, .ref qk, .ref qf, .int bg, .ref jp])), (qm, .inl (km, 60, .inl fm))] H := hP
    have hD : va_D A [(h0, .inr (5, [.ref jb, .ref qm, .int z2, .ref qh, .ref qk, .ref qf, .int bg, .ref jp])), (qm, .inl (km, 60, .inl fm))] := hD
    have hP9 := hP.sub (ws' := [(h0, .inr (5, [.ref jb, .ref qm, .int z2, .ref qh, .ref qk, .ref qf, .int bg, .ref jp])), (qm, .inl (km, 60, .inl fm))]) [0, 1] rfl
    have hD9 := hD.sub (ws' := [(h0, .inr (5, [.ref jb, .ref qm, .int z2, .ref qh, .ref qk, .ref qf, .int bg, .ref jp])), (qm, .inl (km, 60, .inl fm))]) [0, 1] (by decide) rfl
    have hK9 := hK.sub (tys' := [(km, .int)]) [0] rfl
    exact W.vret hx hb hr (fun t ht hW => ⟨⟨(), rfl, (by first | rfl | trivial), fm, z2, (by first | assumption | omega), by rw [ht]; exact hP9, va_K.moved hW.alike hK9, hD9⟩, hS.F ht⟩) hS.2.2 dX6_mark_29
  · skip
    have f_c1 := i_nle c1
    refine lv_aload_n hx hb dX6_mark_9 rfl (lv_at hl 0 rfl) ?_
    refine va_get (D := (dC, dI)) (ci := 5) (v := .ref qm) (C := RX6) (T := TX6) (N := 8) hx hb hts in_X6_mark_X6 hown hK hP 0 rfl rfl 1 (by decide) (hts (.fieldLink RX6 9 "ClearingGates$Runner" "marks" "[I") (List.mem_of_getElem? (i := 2) (by decide +kernel))) (fun _ h9 => h9) rfl dX6_mark_10 ?_
    refine lv_aload_n hx hb dX6_mark_13 rfl (lv_at hl 0 rfl) ?_
    refine va_get (D := (dC, dI)) (ci := 5) (v := .int mc) (C := RX6) (T := TX6) (N := 8) hx hb hts in_X6_mark_X6 hown hK hP 0 rfl rfl 2 (by decide) (hts (.fieldLink RX6 31 "ClearingGates$Runner" "markCount" "I") (List.mem_of_getElem? (i := 1) (by decide +kernel))) (fun _ h9 => h9) rfl dX6_mark_14 ?_
    refine lv_iload_n hx hb dX6_mark_17 rfl (lv_at hl 1 rfl) ?_
    refine va_iast (D := (dC, dI)) hx hb hK hP hD hS 1 0 rfl rfl (vp_in_iff.mpr ⟨by omega, by omega⟩) dX6_mark_18 (fun H locs hP hD hS => ?_)
    generalize e_g3 : (upd fm (mc).toNatClampNeg p0) = g3 at hP hD
    have hP : va_P (dC, dI) vwCl [(h0, .inr (5, [.ref jb, .ref qm, .int mc, .ref qh, .ref qk, .ref qf, .int bg, .ref jp])), (qm, .inl (km, 60, .inl g3))] H := hP
    have hD : va_D A [(h0, .inr (5, [.ref jb, .ref qm, .int mc, .ref qh, .ref qk, .ref qf, .int bg, .ref jp])), (qm, .inl (km, 60, .inl g3))] := hD
    refine lv_aload_n hx hb dX6_mark_19 rfl (lv_at hl 0 rfl) ?_
    refine lv_dup hx hb dX6_mark_20 rfl ?_
    refine va_get (D := (dC, dI)) (ci := 5) (v := .int mc) (C := RX6) (T := TX6) (N := 8) hx hb hts in_X6_mark_X6 hown hK hP 0 rfl rfl 2 (by decide) (hts (.fieldLink RX6 31 "ClearingGates$Runner" "markCount" "I") (List.mem_of_getElem? (i := 1) (by decide +kernel))) (fun _ h9 => h9) rfl dX6_mark_21 ?_
    refine lv_iconst (v := 1) hx hb dX6_mark_24 (by decide) ?_
    refine lv_iadd hx hb dX6_mark_25 ?_
    refine lv_topi (fun z4 e_z4 => ?_)
    have t_z4 := i_add e_z4 (by omega) (by omega)
    refine va_put (D := (dC, dI)) (ci := 5) (v := .int z4) (ty := .int) (C := RX6) (T := TX6) (N := 8) hx hb hts in_X6_mark_X6 tyX6 tyX6_ok nmX6 hown hK hP hD hS 0 rfl rfl 2 (by decide) (hts (.fieldLink RX6 31 "ClearingGates$Runner" "markCount" "I") (List.mem_of_getElem? (i := 1) (by decide +kernel))) (fun _ h9 => h9) rfl (by decide +kernel) rfl rfl (Nat.le_of_ble_eq_true rfl) dX6_mark_26 (fun H locs hP hD hS => ?_)
    have hP : va_P (dC, dI) vwCl [(h0, .inr (5, [.ref jb, .ref qm, .int z4, .ref qh, .ref qk, .ref qf, .int bg, .ref jp])), (qm, .inl (km, 60, .inl g3))] H := hP
    have hD : va_D A [(h0, .inr (5, [.ref jb, .ref qm, .int z4, .ref qh, .ref qk, .ref qf, .int bg, .ref jp])), (qm, .inl (km, 60, .inl g3))] := hD
    have hP9 := hP.sub (ws' := [(h0, .inr (5, [.ref jb, .ref qm, .int z4, .ref qh, .ref qk, .ref qf, .int bg, .ref jp])), (qm, .inl (km, 60, .inl g3))]) [0, 1] rfl
    have hD9 := hD.sub (ws' := [(h0, .inr (5, [.ref jb, .ref qm, .int z4, .ref qh, .ref qk, .ref qf, .int bg, .ref jp])), (qm, .inl (km, 60, .inl g3))]) [0, 1] (by decide) rfl
    have hK9 := hK.sub (tys' := [(km, .int)]) [0] rfl
    exact W.vret hx hb hr (fun t ht hW => ⟨⟨(), rfl, (by first | rfl | trivial), g3, z4, (by first | assumption | omega), by rw [ht]; exact hP9, va_K.moved hW.alike hK9, hD9⟩, hS.F ht⟩) hS.2.2 dX6_mark_29

theorem in_X6_keptMarks_X6 : ∀ w ∈ wsX60, w ∈ wsX6_keptMarks := fun _ h => List.mem_cons_of_mem _ (List.mem_append_right _ h)
set_option maxRecDepth 100000 in
set_option maxHeartbeats 4000000 in
/-- Runner.keptMarks -/
theorem c_X6_keptMarks (l : Launch) (dC : Nat → ClassId) (dI : Nat → Nat → Nat) (h0 : Nat) (jb : Nat) (qm : Nat) (mc : Int32) (qh : Nat) (qk : Nat) (qf : Nat) (bg : Int32) (jp : Nat) (sz : Nat) (h1 : 0 ≤ mc.toInt) : Met l yX6_keptMarks wsX6_keptMarks ({ frames := 1, cells := 0, slots := 0, locals := 13 }) (va_Pc [.ref h0] (fun U => U.heap.size = sz ∧ va_P (dC, dI) vwCl [(h0, .inr (5, [.ref jb, .ref qm, .int mc, .ref qh, .ref qk, .ref qf, .int bg, .ref jp]))] U.heap ∧ va_K (dC, dI) vwCl [] U ∧ va_D (fun _ => True) [(h0, .inr (5, [.ref jb, .ref qm, .int mc, .ref qh, .ref qk, .ref qf, .int bg, .ref jp]))])) (va_Qi (fun (r : Int32) (_ : Unit) => 0 ≤ r.toInt ∧ r.toInt ≤ 60) (fun (_ : Unit) (t : State) => va_P (dC, dI) vwCl [(h0, .inr (5, [.ref jb, .ref qm, .int mc, .ref qh, .ref qk, .ref qf, .int bg, .ref jp]))] t.heap ∧ va_K (dC, dI) vwCl [] t ∧ va_D (va_A [(h0, .inr (5, [.ref jb, .ref qm, .int mc, .ref qh, .ref qk, .ref qf, .int bg, .ref jp]))] sz) [(h0, .inr (5, [.ref jb, .ref qm, .int mc, .ref qh, .ref qk, .ref qf, .int bg, .ref jp]))]) (va_A [(h0, .inr (5, [.ref jb, .ref qm, .int mc, .ref qh, .ref qk, .ref qf, .int bg, .ref jp]))] sz)) 0 0 (va_A [(h0, .inr (5, [.ref jb, .ref qm, .int mc, .ref qh, .ref qk, .ref qf, .int bg, .ref jp]))] sz) := by
  refine Met.ofW (cc := cX6_keptMarks) (maxL := 1) (ret := (some .int)) (by decide) rfl ?_
  intro p e s m args below meth c s₁ B hml hv
  obtain ⟨rfl, hsz, hP, hK, hD0⟩ := hv
  have hx := B.exec
  have hb := B.bytes
  have hr := B.returns
  have hts := atoms_spec (ws := wsX6_keptMarks) B.pre
  have hown : s.vm.findClass RX6 = some m.cls := findClass_of_methodNamed B.named
  have hlocks := B.notSynchronized
  subst hsz
  have hD := hD0.self (sz := s.heap.size)
  generalize hAe : va_A [(h0, .inr (5, [.ref jb, .ref qm, .int mc, .ref qh, .ref qk, .ref qf, .int bg, .ref jp]))] s.heap.size = A at hD ⊢
  have hA : ∀ q : Nat, s.heap.size ≤ q → A q := fun q h => by rw [← hAe]; exact Or.inr h
  have hS : va_S A s.heap s.heap [] := va_S.rf
  have hP : va_P (dC, dI) vwCl [(h0, .inr (5, [.ref jb, .ref qm, .int mc, .ref qh, .ref qk, .ref qf, .int bg, .ref jp]))] s.heap := hP
  have hl := lv_entry ([.ref h0]) (n := 1) (Nat.le_of_ble_eq_true rfl)
  rw [lg_entry_eq]
  generalize (lg_sl ([.ref h0]) ++ List.replicate (1 - (lg_sl ([.ref h0])).length) Slot.unset).toArray = ls at hl ⊢
  have hl : lv_has ls 1 [(0, .ref h0)] := hl
  have k_60 : (60 : Int32).toInt = 60 := by decide
  refine lv_aload_n hx hb dX6_keptMarks_0 rfl (lv_at hl 0 rfl) ?_
  refine va_get (D := (dC, dI)) (ci := 5) (v := .int mc) (C := RX6) (T := TX6) (N := 8) hx hb hts in_X6_keptMarks_X6 hown hK hP 0 rfl rfl 2 (by decide) (hts (.fieldLink RX6 31 "ClearingGates$Runner" "markCount" "I") (List.mem_of_getElem? (i := 1) (by decide +kernel))) (fun _ h9 => h9) rfl dX6_keptMarks_1 ?_
  refine lv_bipush (v := 60) hx hb dX6_keptMarks_4 (by decide) ?_
  refine va_mmin hx hb (hml.trans hl.1.symm) hown (hts (.methodLink RX6 35 Lib.Math.min.name) (List.mem_of_getElem? (i := 2) (by decide +kernel))) (hts (.static Lib.Math.min.name) (List.mem_of_getElem? (i := 3) (by decide +kernel))) (hts (.initialized "java/lang/Math") (List.mem_of_getElem? (i := 4) (by decide +kernel))) (hts (.code Lib.Math.min.name Lib.Math.min.code 2 (some .int)) (List.mem_of_getElem? (i := 5) (by decide +kernel))) (Nat.le_of_ble_eq_true rfl) (Nat.le_of_ble_eq_true rfl) (Nat.le_of_ble_eq_true rfl) (Nat.le_of_ble_eq_true rfl) dX6_keptMarks_6 ?_
  refine lv_topi (fun z1 e_z1 => ?_)
  have t_z1 := i_min e_z1
  have hP9 := hP.sub (ws' := [(h0, .inr (5, [.ref jb, .ref qm, .int mc, .ref qh, .ref qk, .ref qf, .int bg, .ref jp]))]) [0] rfl
  have hD9 := hD.sub (ws' := [(h0, .inr (5, [.ref jb, .ref qm, .int mc, .ref qh, .ref qk, .ref qf, .int bg, .ref jp]))]) [0] (by decide) rfl
  have hK9 := hK.sub (tys' := []) [] rfl
  exact W.iret (v := z1) hx hb hr (fun t ht hW => ⟨⟨z1, (), rfl, ⟨by omega, by omega⟩, by rw [ht]; exact hP9, va_K.moved hW.alike hK9, hD9⟩, hS.F ht⟩) hS.2.2 dX6_keptMarks_9

theorem in_X6_isHeld_X6 : ∀ w ∈ wsX60, w ∈ wsX6_isHeld := fun _ h => List.mem_cons_of_mem _ (List.mem_append_left _ (List.mem_append_right _ h))
set_option maxRecDepth 100000 in
set_option maxHeartbeats 4000000 in
/-- Runner.isHeld -/
theorem c_X6_isHeld (l : Launch) (dC : Nat → ClassId) (dI : Nat → Nat → Nat) (h0 : Nat) (p0 : Int32) (jb : Nat) (qm : Nat) (mc : Int32) (qh : Nat) (qk : Nat) (qf : Nat) (bg : Int32) (jp : Nat) (kh : ClassId) (fh : Nat → Int32) (av0 : Value) (av1 : Value) (av2 : Value) (av3 : Value) (av4 : Value) (av5 : Value) (av6 : Value) (aacc : Int32) (av8 : Value) (av9 : Value) (av10 : Value) (av11 : Value) (av12 : Value) (sz : Nat) (ra2 : aacc.toInt ≤ 8) : Met l yX6_isHeld wsX6_isHeld ({ frames := 1, cells := 0, slots := 0, locals := 21 }) (va_Pc [.ref h0, .int p0] (fun U => U.heap.size = sz ∧ va_P (dC, dI) vwCl [(h0, .inr (5, [.ref jb, .ref qm, .int mc, .ref qh, .ref qk, .ref qf, .int bg, .ref jp])), (qh, .inl (kh, 8, .inl fh)), (jb, .inr (0, [av0, av1, av2, av3, av4, av5, av6, .int aacc, av8, av9, av10, av11, av12]))] U.heap ∧ va_K (dC, dI) vwCl [(kh, .int)] U ∧ va_D (fun _ => True) [(h0, .inr (5, [.ref jb, .ref qm, .int mc, .ref qh, .ref qk, .ref qf, .int bg, .ref jp])), (qh, .inl (kh, 8, .inl fh)), (jb, .inr (0, [av0, av1, av2, av3, av4, av5, av6, .int aacc, av8, av9, av10, av11, av12]))])) (va_Qi (fun (r : Int32) (_ : Unit) => (r = 1 ∧ 0 ≤ p0.toInt ∧ p0.toInt < aacc.toInt) ∨ (r = 0 ∧ (0 : Int) ≤ 0)) (fun (_ : Unit) (t : State) => va_P (dC, dI) vwCl [(h0, .inr (5, [.ref jb, .ref qm, .int mc, .ref qh, .ref qk, .ref qf, .int bg, .ref jp])), (qh, .inl (kh, 8, .inl fh)), (jb, .inr (0, [av0, av1, av2, av3, av4, av5, av6, .int aacc, av8, av9, av10, av11, av12]))] t.heap ∧ va_K (dC, dI) vwCl [(kh, .int)] t ∧ va_D (va_A [(h0, .inr (5, [.ref jb, .ref qm, .int mc, .ref qh, .ref qk, .ref qf, .int bg, .ref jp])), (qh, .inl (kh, 8, .inl fh)), (jb, .inr (0, [av0, av1, av2, av3, av4, av5, av6, .int aacc, av8, av9, av10, av11, av12]))] sz) [(h0, .inr (5, [.ref jb, .ref qm, .int mc, .ref qh, .ref qk, .ref qf, .int bg, .ref jp])), (qh, .inl (kh, 8, .inl fh)), (jb, .inr (0, [av0, av1, av2, av3, av4, av5, av6, .int aacc, av8, av9, av10, av11, av12]))]) (va_A [(h0, .inr (5, [.ref jb, .ref qm, .int mc, .ref qh, .ref qk, .ref qf, .int bg, .ref jp])), (qh, .inl (kh, 8, .inl fh)), (jb, .inr (0, [av0, av1, av2, av3, av4, av5, av6, .int aacc, av8, av9, av10, av11, av12]))] sz)) 0 0 (va_A [(h0, .inr (5, [.ref jb, .ref qm, .int mc, .ref qh, .ref qk, .ref qf, .int bg, .ref jp])), (qh, .inl (kh, 8, .inl fh)), (jb, .inr (0, [av0, av1, av2, av3, av4, av5, av6, .int aacc, av8, av9, av10, av11, av12]))] sz) := by
  refine Met.ofW (cc := cX6_isHeld) (maxL := 2) (ret := (some .boolean)) (by decide) rfl ?_
  intro p e s m args below meth c s₁ B hml hv
  obtain ⟨rfl, hsz, hP, hK, hD0⟩ := hv
  have hx := B.exec
  have hb := B.bytes
  have hr := B.returns
  have hts := atoms_spec (ws := wsX6_isHeld) B.pre
  have hown : s.vm.findClass RX6 = some m.cls := findClass_of_methodNamed B.named
  have hlocks := B.notSynchronized
  subst hsz
  have hD := hD0.self (sz := s.heap.size)
  generalize hAe : va_A [(h0, .inr (5, [.ref jb, .ref qm, .int mc, .ref qh, .ref qk, .ref qf, .int bg, .ref jp])), (qh, .inl (kh, 8, .inl fh)), (jb, .inr (0, [av0, av1, av2, av3, av4, av5, av6, .int aacc, av8, av9, av10, av11, av12]))] s.heap.size = A at hD ⊢
  have hA : ∀ q : Nat, s.heap.size ≤ q → A q := fun q h => by rw [← hAe]; exact Or.inr h
  have hS : va_S A s.heap s.heap [] := va_S.rf
  have hP : va_P (dC, dI) vwCl [(h0, .inr (5, [.ref jb, .ref qm, .int mc, .ref qh, .ref qk, .ref qf, .int bg, .ref jp])), (qh, .inl (kh, 8, .inl fh)), (jb, .inr (0, [av0, av1, av2, av3, av4, av5, av6, .int aacc, av8, av9, av10, av11, av12]))] s.heap := hP
  have hl := lv_entry ([.ref h0, .int p0]) (n := 2) (Nat.le_of_ble_eq_true rfl)
  rw [lg_entry_eq]
  generalize (lg_sl ([.ref h0, .int p0]) ++ List.replicate (2 - (lg_sl ([.ref h0, .int p0])).length) Slot.unset).toArray = ls at hl ⊢
  have hl : lv_has ls 2 [(0, .ref h0), (1, .int p0)] := hl
  have k_0 : (0 : Int32).toInt = 0 := by decide
  have k_1 : (1 : Int32).toInt = 1 := by decide
  refine lv_aload_n hx hb dX6_isHeld_0 rfl (lv_at hl 0 rfl) ?_
  refine va_get (D := (dC, dI)) (ci := 5) (v := .ref jb) (C := RX6) (T := TX6) (N := 8) hx hb hts in_X6_isHeld_X6 hown hK hP 0 rfl rfl 0 (by decide) (hts (.fieldLink RX6 27 "ClearingGates$Runner" "books" "LClearingGates$Books;") (List.mem_of_getElem? (i := 1) (by decide +kernel))) (fun _ h9 => h9) rfl dX6_isHeld_1 ?_
  refine lv_iload_n hx hb dX6_isHeld_4 rfl (lv_at hl 1 rfl) ?_
  have hPc := hP.sub (ws' := [(jb, .inr (0, [av0, av1, av2, av3, av4, av5, av6, .int aacc, av8, av9, av10, av11, av12]))]) [2] rfl
  have hDc := hD.sub (ws' := [(jb, .inr (0, [av0, av1, av2, av3, av4, av5, av6, .int aacc, av8, av9, av10, av11, av12]))]) [2] (by decide) rfl
  have hKc := hK.sub (tys' := []) [] rfl
  have hFc := va_free (wc := [(jb, .inr (0, [av0, av1, av2, av3, av4, av5, av6, .int aacc, av8, av9, av10, av11, av12]))]) hD hS hA [2] rfl
  refine va_calli (va_runV (As := [.int p0]) (rest := []) ⟨hx, hb, hml, hown, hts⟩ (c_X0_has l dC dI jb p0 (av0) (av1) (av2) (av3) (av4) (av5) (av6) aacc (av8) (av9) (av10) (av11) (av12) s.heap.size) (cwV 1 hts gX6_isHeld_X0_has rfl rfl rfl (by decide +kernel) ⟨Nat.le_of_ble_eq_true rfl, Nat.le_of_ble_eq_true rfl⟩) ⟨fun a U g mk q => by obtain ⟨q0, q1, qP, qK, qD⟩ := q; exact ⟨q0, q1, qP, va_K.moved (u := U) (U := U.calling g mk a) (Vm.Alike.refl U.vm) qK, qD⟩, va_recv hKc hPc (ci := 0) (q0 := 0) rfl rfl, fun U hU hW => ⟨rfl, by rw [hU], by rw [hU]; exact hPc, va_K.moved hW.alike hKc, hDc.weaken (fun _ _ _ _ => trivial)⟩⟩ rfl rfl hl.1 rfl (lv_room (Nat.le_of_ble_eq_true rfl)) dX6_isHeld_5 ⟨Nat.le_of_ble_eq_true rfl, Nat.le_of_ble_eq_true rfl⟩) hS (fun q _ h => hFc q h) hFc (fun r1 u t H1 locs ht hvm hw hB hz1 hk1 hS => ?_)
  obtain ⟨hP1, hK1, hD1⟩ := hB
  rw [ht] at hP1
  have hK1 := va_K.moved hvm.symm hK1
  try dsimp only at hw
  obtain ⟨hP, hD⟩ := va_join (wr := [(h0, .inr (5, [.ref jb, .ref qm, .int mc, .ref qh, .ref qk, .ref qf, .int bg, .ref jp])), (qh, .inl (kh, 8, .inl fh))]) (w1 := [(jb, .inr (0, [av0, av1, av2, av3, av4, av5, av6, .int aacc, av8, av9, av10, av11, av12]))]) hP hD [2] [0, 1] rfl rfl (by decide) (by decide) hk1 hFc hP1 hD1
  have hK := (hK.sub (tys' := [(kh, .int)]) [0] rfl).app hK1
  generalize H1 = H at hP hS ⊢
  have hP : va_P (dC, dI) vwCl [(h0, .inr (5, [.ref jb, .ref qm, .int mc, .ref qh, .ref qk, .ref qf, .int bg, .ref jp])), (qh, .inl (kh, 8, .inl fh)), (jb, .inr (0, [av0, av1, av2, av3, av4, av5, av6, .int aacc, av8, av9, av10, av11, av12]))] H := hP
  have hD : va_D A [(h0, .inr (5, [.ref jb, .ref qm, .int mc, .ref qh, .ref qk, .ref qf, .int bg, .ref jp])), (qh, .inl (kh, 8, .inl fh)), (jb, .inr (0, [av0, av1, av2, av3, av4, av5, av6, .int aacc, av8, av9, av10, av11, av12]))] := hD
  have hK : va_K (dC, dI) vwCl [(kh, .int)] s := hK
  rcases hw with ⟨e_r1, f_r1⟩ | ⟨e_r1, f_r1⟩
  · subst e_r1
    refine lv_if_eq (tgt := 24) hx hb dX6_isHeld_8 (by decide) (fun c2 => absurd c2 (by decide)) (fun c2 => ?_)
    refine lv_aload_n hx hb dX6_isHeld_11 rfl (lv_at hl 0 rfl) ?_
    refine va_get (D := (dC, dI)) (ci := 5) (v := .ref qh) (C := RX6) (T := TX6) (N := 8) hx hb hts in_X6_isHeld_X6 hown hK hP 0 rfl rfl 3 (by decide) (hts (.fieldLink RX6 15 "ClearingGates$Runner" "held" "[I") (List.mem_of_getElem? (i := 2) (by decide +kernel))) (fun _ h9 => h9) rfl dX6_isHeld_12 ?_
    refine lv_iload_n hx hb dX6_isHeld_15 rfl (lv_at hl 1 rfl) ?_
    refine va_iald (D := (dC, dI)) hx hb hK hP 1 0 rfl rfl (vp_in_iff.mpr ⟨by omega, by omega⟩) dX6_isHeld_16 ?_
    refine lv_topi (fun z3 e_z3 => ?_)
    refine lv_if_le (tgt := 24) hx hb dX6_isHeld_17 (by decide) (fun c4 => ?_) (fun c4 => ?_)
    · skip
      have f_c4 := i_le c4
      refine lv_iconst (v := 0) hx hb dX6_isHeld_24 (by decide) ?_
      have hP9 := hP.sub (ws' := [(h0, .inr (5, [.ref jb, .ref qm, .int mc, .ref qh, .ref qk, .ref qf, .int bg, .ref jp])), (qh, .inl (kh, 8, .inl fh)), (jb, .inr (0, [av0, av1, av2, av3, av4, av5, av6, .int aacc, av8, av9, av10, av11, av12]))]) [0, 1, 2] rfl
      have hD9 := hD.sub (ws' := [(h0, .inr (5, [.ref jb, .ref qm, .int mc, .ref qh, .ref qk, .ref qf, .int bg, .ref jp])), (qh, .inl (kh, 8, .inl fh)), (jb, .inr (0, [av0, av1, av2, av3, av4, av5, av6, .int aacc, av8, av9, av10, av11, av12]))]) [0, 1, 2] (by decide) rfl
      have hK9 := hK.sub (tys' := [(kh, .int)]) [0] rfl
      exact W.zret (v := 0) hx hb hr (by decide) (fun t ht hW => ⟨⟨0, (), rfl, Or.inr (⟨rfl, by first | trivial | omega⟩), by rw [ht]; exact hP9, va_K.moved hW.alike hK9, hD9⟩, hS.F ht⟩) hS.2.2 dX6_isHeld_25
    · skip
      have f_c4 := i_nle c4
      refine lv_iconst (v := 1) hx hb dX6_isHeld_20 (by decide) ?_
      refine lv_goto (tgt := 25) hx hb dX6_isHeld_21 (by decide) ?_
      have hP9 := hP.sub (ws' := [(h0, .inr (5, [.ref jb, .ref qm, .int mc, .ref qh, .ref qk, .ref qf, .int bg, .ref jp])), (qh, .inl (kh, 8, .inl fh)), (jb, .inr (0, [av0, av1, av2, av3, av4, av5, av6, .int aacc, av8, av9, av10, av11, av12]))]) [0, 1, 2] rfl
      have hD9 := hD.sub (ws' := [(h0, .inr (5, [.ref jb, .ref qm, .int mc, .ref qh, .ref qk, .ref qf, .int bg, .ref jp])), (qh, .inl (kh, 8, .inl fh)), (jb, .inr (0, [av0, av1, av2, av3, av4, av5, av6, .int aacc, av8, av9, av10, av11, av12]))]) [0, 1, 2] (by decide) rfl
      have hK9 := hK.sub (tys' := [(kh, .int)]) [0] rfl
      exact W.zret (v := 1) hx hb hr (by decide) (fun t ht hW => ⟨⟨1, (), rfl, Or.inl ⟨rfl, by first | trivial | omega⟩, by rw [ht]; exact hP9, va_K.moved hW.alike hK9, hD9⟩, hS.F ht⟩) hS.2.2 dX6_isHeld_25
  · subst e_r1
    refine lv_if_eq (tgt := 24) hx hb dX6_isHeld_8 (by decide) (fun c5 => ?_) (fun c5 => absurd (by decide) c5)
    refine lv_iconst (v := 0) hx hb dX6_isHeld_24 (by decide) ?_
    have hP9 := hP.sub (ws' := [(h0, .inr (5, [.ref jb, .ref qm, .int mc, .ref qh, .ref qk, .ref qf, .int bg, .ref jp])), (qh, .inl (kh, 8, .inl fh)), (jb, .inr (0, [av0, av1, av2, av3, av4, av5, av6, .int aacc, av8, av9, av10, av11, av12]))]) [0, 1, 2] rfl
    have hD9 := hD.sub (ws' := [(h0, .inr (5, [.ref jb, .ref qm, .int mc, .ref qh, .ref qk, .ref qf, .int bg, .ref jp])), (qh, .inl (kh, 8, .inl fh)), (jb, .inr (0, [av0, av1, av2, av3, av4, av5, av6, .int aacc, av8, av9, av10, av11, av12]))]) [0, 1, 2] (by decide) rfl
    have hK9 := hK.sub (tys' := [(kh, .int)]) [0] rfl
    exact W.zret (v := 0) hx hb hr (by decide) (fun t ht hW => ⟨⟨0, (), rfl, Or.inr (⟨rfl, by first | trivial | omega⟩), by rw [ht]; exact hP9, va_K.moved hW.alike hK9, hD9⟩, hS.F ht⟩) hS.2.2 dX6_isHeld_25

theorem in_X6_isGreaterHeld_X6 : ∀ w ∈ wsX60, w ∈ wsX6_isGreaterHeld := fun _ h => List.mem_cons_of_mem _ (List.mem_append_right _ h)
set_option maxRecDepth 100000 in
set_option maxHeartbeats 4000000 in
/-- Runner.isGreaterHeld -/
theorem c_X6_isGreaterHeld (l : Launch) (dC : Nat → ClassId) (dI : Nat → Nat → Nat) (h0 : Nat) (p0 : Int32) (jb : Nat) (qm : Nat) (mc : Int32) (qh : Nat) (qk : Nat) (qf : Nat) (bg : Int32) (jp : Nat) (kh : ClassId) (fh : Nat → Int32) (sz : Nat) (h1 : 0 ≤ p0.toInt) (h2 : p0.toInt < 8) : Met l yX6_isGreaterHeld wsX6_isGreaterHeld ({ frames := 0, cells := 0, slots := 0, locals := 0 }) (va_Pc [.ref h0, .int p0] (fun U => U.heap.size = sz ∧ va_P (dC, dI) vwCl [(h0, .inr (5, [.ref jb, .ref qm, .int mc, .ref qh, .ref qk, .ref qf, .int bg, .ref jp])), (qh, .inl (kh, 8, .inl fh))] U.heap ∧ va_K (dC, dI) vwCl [(kh, .int)] U ∧ va_D (fun _ => True) [(h0, .inr (5, [.ref jb, .ref qm, .int mc, .ref qh, .ref qk, .ref qf, .int bg, .ref jp])), (qh, .inl (kh, 8, .inl fh))])) (va_Qi (fun (r : Int32) (_ : Unit) => (r = 1 ∧ (0 : Int) ≤ 0) ∨ (r = 0 ∧ (0 : Int) ≤ 0)) (fun (_ : Unit) (t : State) => va_P (dC, dI) vwCl [(h0, .inr (5, [.ref jb, .ref qm, .int mc, .ref qh, .ref qk, .ref qf, .int bg, .ref jp])), (qh, .inl (kh, 8, .inl fh))] t.heap ∧ va_K (dC, dI) vwCl [(kh, .int)] t ∧ va_D (va_A [(h0, .inr (5, [.ref jb, .ref qm, .int mc, .ref qh, .ref qk, .ref qf, .int bg, .ref jp])), (qh, .inl (kh, 8, .inl fh))] sz) [(h0, .inr (5, [.ref jb, .ref qm, .int mc, .ref qh, .ref qk, .ref qf, .int bg, .ref jp])), (qh, .inl (kh, 8, .inl fh))]) (va_A [(h0, .inr (5, [.ref jb, .ref qm, .int mc, .ref qh, .ref qk, .ref qf, .int bg, .ref jp])), (qh, .inl (kh, 8, .inl fh))] sz)) 0 0 (va_A [(h0, .inr (5, [.ref jb, .ref qm, .int mc, .ref qh, .ref qk, .ref qf, .int bg, .ref jp])), (qh, .inl (kh, 8, .inl fh))] sz) := by
  refine Met.ofW (cc := cX6_isGreaterHeld) (maxL := 3) (ret := (some .boolean)) (by decide) rfl ?_
  intro p e s m args below meth c s₁ B hml hv
  obtain ⟨rfl, hsz, hP, hK, hD0⟩ := hv
  have hx := B.exec
  have hb := B.bytes
  have hr := B.returns
  have hts := atoms_spec (ws := wsX6_isGreaterHeld) B.pre
  have hown : s.vm.findClass RX6 = some m.cls := findClass_of_methodNamed B.named
  have hlocks := B.notSynchronized
  subst hsz
  have hD := hD0.self (sz := s.heap.size)
  generalize hAe : va_A [(h0, .inr (5, [.ref jb, .ref qm, .int mc, .ref qh, .ref qk, .ref qf, .int bg, .ref jp])), (qh, .inl (kh, 8, .inl fh))] s.heap.size = A at hD ⊢
  have hA : ∀ q : Nat, s.heap.size ≤ q → A q := fun q h => by rw [← hAe]; exact Or.inr h
  have hS : va_S A s.heap s.heap [] := va_S.rf
  have hP : va_P (dC, dI) vwCl [(h0, .inr (5, [.ref jb, .ref qm, .int mc, .ref qh, .ref qk, .ref qf, .int bg, .ref jp])), (qh, .inl (kh, 8, .inl fh))] s.heap := hP
  have hl := lv_entry ([.ref h0, .int p0]) (n := 3) (Nat.le_of_ble_eq_true rfl)
  rw [lg_entry_eq]
  generalize (lg_sl ([.ref h0, .int p0]) ++ List.replicate (3 - (lg_sl ([.ref h0, .int p0])).length) Slot.unset).toArray = ls at hl ⊢
  have hl : lv_has ls 3 [(0, .ref h0), (1, .int p0)] := hl
  have k_0 : (0 : Int32).toInt = 0 := by decide
  have k_1 : (1 : Int32).toInt = 1 := by decide
  have k_8 : (8 : Int32).toInt = 8 := by decide
  refine lv_iload_n hx hb dX6_isGreaterHeld_0 rfl (lv_at hl 1 rfl) ?_
  refine lv_iconst (v := 1) hx hb dX6_isGreaterHeld_1 (by decide) ?_
  refine lv_iadd hx hb dX6_isGreaterHeld_2 ?_
  refine lv_topi (fun z1 e_z1 => ?_)
  have t_z1 := i_add e_z1 (by omega) (by omega)
  refine lv_istore_n (lv' := [(2, .int z1), (0, .ref h0), (1, .int p0)]) hx hb dX6_isGreaterHeld_3 rfl hl (by decide) rfl (fun ls hl => ?_)
  have loop_4 : ∀ (n : Nat) (x : Int32), (0 ≤ x.toInt) → (x.toInt ≤ 8) → (8 - x.toInt) < (n : Int) → ∀ (H : Heap) (locs : List Loc), va_K (dC, dI) vwCl [(kh, .int)] s → va_P (dC, dI) vwCl [(h0, .inr (5, [.ref jb, .ref qm, .int mc, .ref qh, .ref qk, .ref qf, .int bg, .ref jp])), (qh, .inl (kh, 8, .inl fh))] H → va_D A [(h0, .inr (5, [.ref jb, .ref qm, .int mc, .ref qh, .ref qk, .ref qf, .int bg, .ref jp])), (qh, .inl (kh, 8, .inl fh))] → va_S A s.heap H locs → ∀ (ls : Array Slot), lv_has ls 3 [(2, .int x), (0, .ref h0), (1, .int p0)] → W p l e ({ frames := 0, cells := 0, slots := 0, locals := 0 }) s m (([.ref h0, .int p0] : List Value).toArray) below meth c H locs 0 0 (MQ below (va_Qi (fun (r : Int32) (_ : Unit) => (r = 1 ∧ (0 : Int) ≤ 0) ∨ (r = 0 ∧ (0 : Int) ≤ 0)) (fun (_ : Unit) (t : State) => va_P (dC, dI) vwCl [(h0, .inr (5, [.ref jb, .ref qm, .int mc, .ref qh, .ref qk, .ref qf, .int bg, .ref jp])), (qh, .inl (kh, 8, .inl fh))] t.heap ∧ va_K (dC, dI) vwCl [(kh, .int)] t ∧ va_D A [(h0, .inr (5, [.ref jb, .ref qm, .int mc, .ref qh, .ref qk, .ref qf, .int bg, .ref jp])), (qh, .inl (kh, 8, .inl fh))]) A) (([.ref h0, .int p0] : List Value).toArray) s 0 0 A) (F0 m 4 ls []) := by
    intro n
    induction n with
    | zero => intro x i1 i2 hM_4; exfalso; omega
    | succ n ih_4 =>
      intro x i1 i2 hM_4 H locs hK hP hD hS ls hl
      refine lv_iload_n hx hb dX6_isGreaterHeld_4 rfl (lv_at hl 0 rfl) ?_
      refine lv_bipush (v := 8) hx hb dX6_isGreaterHeld_5 (by decide) ?_
      refine lv_icmp_ge (tgt := 27) hx hb dX6_isGreaterHeld_7 (by decide) (fun c2 => ?_) (fun c2 => ?_)
      · skip
        have f_c2 := i_le c2
        refine lv_iconst (v := 0) hx hb dX6_isGreaterHeld_27 (by decide) ?_
        have hP9 := hP.sub (ws' := [(h0, .inr (5, [.ref jb, .ref qm, .int mc, .ref qh, .ref qk, .ref qf, .int bg, .ref jp])), (qh, .inl (kh, 8, .inl fh))]) [0, 1] rfl
        have hD9 := hD.sub (ws' := [(h0, .inr (5, [.ref jb, .ref qm, .int mc, .ref qh, .ref qk, .ref qf, .int bg, .ref jp])), (qh, .inl (kh, 8, .inl fh))]) [0, 1] (by decide) rfl
        have hK9 := hK.sub (tys' := [(kh, .int)]) [0] rfl
        exact W.zret (v := 0) hx hb hr (by decide) (fun t ht hW => ⟨⟨0, (), rfl, Or.inr (⟨rfl, by first | trivial | omega⟩), by rw [ht]; exact hP9, va_K.moved hW.alike hK9, hD9⟩, hS.F ht⟩) hS.2.2 dX6_isGreaterHeld_28
      · skip
        have f_c2 := i_nle c2
        refine lv_aload_n hx hb dX6_isGreaterHeld_10 rfl (lv_at hl 1 rfl) ?_
        refine va_get (D := (dC, dI)) (ci := 5) (v := .ref qh) (C := RX6) (T := TX6) (N := 8) hx hb hts in_X6_isGreaterHeld_X6 hown hK hP 0 rfl rfl 3 (by decide) (hts (.fieldLink RX6 15 "ClearingGates$Runner" "held" "[I") (List.mem_of_getElem? (i := 1) (by decide +kernel))) (fun _ h9 => h9) rfl dX6_isGreaterHeld_11 ?_
        refine lv_iload_n hx hb dX6_isGreaterHeld_14 rfl (lv_at hl 0 rfl) ?_
        refine va_iald (D := (dC, dI)) hx hb hK hP 1 0 rfl rfl (vp_in_iff.mpr ⟨by omega, by omega⟩) dX6_isGreaterHeld_15 ?_
        refine lv_topi (fun z3 e_z3 => ?_)
        refine lv_if_le (tgt := 21) hx hb dX6_isGreaterHeld_16 (by decide) (fun c4 => ?_) (fun c4 => ?_)
        · skip
          have f_c4 := i_le c4
          obtain ⟨x5, e_x5⟩ : ∃ yy : Int32, yy = x + 1 := ⟨_, rfl⟩
          refine lv_iinc (v := x5) (lv' := [(2, .int x5), (0, .ref h0), (1, .int p0)]) hx hb dX6_isGreaterHeld_21 hl (k := 0) rfl (by rw [e_x5]; rfl) (by decide) rfl (fun ls hl => ?_)
          have t_x5 := i_add e_x5 (by omega) (by omega)
          refine lv_goto (tgt := 4) hx hb dX6_isGreaterHeld_24 (by decide) ?_
          exact ih_4 x5 (by first | assumption | omega) (by first | assumption | omega) (by omega) _ _ (hK.sub [0] rfl) (hP.sub [0, 1] rfl) (hD.sub [0, 1] (by decide) rfl) hS ls (lv_sub hl [0, 1, 2] rfl)
        · skip
          have f_c4 := i_nle c4
          refine lv_iconst (v := 1) hx hb dX6_isGreaterHeld_19 (by decide) ?_
          have hP9 := hP.sub (ws' := [(h0, .inr (5, [.ref jb, .ref qm, .int mc, .ref qh, .ref qk, .ref qf, .int bg, .ref jp])), (qh, .inl (kh, 8, .inl fh))]) [0, 1] rfl
          have hD9 := hD.sub (ws' := [(h0, .inr (5, [.ref jb, .ref qm, .int mc, .ref qh, .ref qk, .ref qf, .int bg, .ref jp])), (qh, .inl (kh, 8, .inl fh))]) [0, 1] (by decide) rfl
          have hK9 := hK.sub (tys' := [(kh, .int)]) [0] rfl
          exact W.zret (v := 1) hx hb hr (by decide) (fun t ht hW => ⟨⟨1, (), rfl, Or.inl ⟨rfl, by first | trivial | omega⟩, by rw [ht]; exact hP9, va_K.moved hW.alike hK9, hD9⟩, hS.F ht⟩) hS.2.2 dX6_isGreaterHeld_20
  exact loop_4 (1000) z1 (by first | assumption | omega) (by first | assumption | omega) (by omega) _ _ hK hP hD hS ls (lv_sub hl [0, 1, 2] rfl)

theorem in_X6_keep_X6 : ∀ w ∈ wsX60, w ∈ wsX6_keep := fun _ h => List.mem_cons_of_mem _ (List.mem_append_left _ (List.mem_append_right _ h))
theorem in_X6_keep_X0 : ∀ w ∈ wsX00, w ∈ wsX6_keep := fun _ h => List.mem_cons_of_mem _ (List.mem_append_right _ h)
set_option maxRecDepth 100000 in
set_option maxHeartbeats 4000000 in
/-- Runner.keep at 0 -/
theorem c_X6_keep_d0 (l : Launch) (dC : Nat → ClassId) (dI : Nat → Nat → Nat) (h0 : Nat) (jb : Nat) (qm : Nat) (mc : Int32) (qh : Nat) (qk : Nat) (qf : Nat) (bg : Int32) (jp : Nat) (kk : ClassId) (fo : Nat → Option Nat) (ro0 : Nat) (kr0 : ClassId) (fr0 : Nat → Int32) (kf : ClassId) (ff : Nat → Int64) (av0 : Value) (aq1 : Nat) (av2 : Value) (av3 : Value) (av4 : Value) (av5 : Value) (av6 : Value) (av7 : Value) (afees : Int64) (av9 : Value) (av10 : Value) (av11 : Value) (av12 : Value) (ak1 : ClassId) (ag1 : Nat → Int32) (sz : Nat) (hf0 : fo 0 = some ro0) : Met l yX6_keep wsX6_keep ({ frames := 1, cells := 0, slots := 0, locals := 60 }) (va_Pc [.ref h0, .int 0] (fun U => U.heap.size = sz ∧ va_P (dC, dI) vwCl [(h0, .inr (5, [.ref jb, .ref qm, .int mc, .ref qh, .ref qk, .ref qf, .int bg, .ref jp])), (qk, .inl (kk, 9, .inr (.inr (.inr (.inr fo))))), (ro0, .inl (kr0, 8, .inl fr0)), (qf, .inl (kf, 9, .inr (.inl ff))), (jb, .inr (0, [av0, .ref aq1, av2, av3, av4, av5, av6, av7, .long afees, av9, av10, av11, av12])), (aq1, .inl (ak1, 8, .inl ag1))] U.heap ∧ va_K (dC, dI) vwCl [(kk, .array .int), (kr0, .int), (kf, .long), (ak1, .int)] U ∧ va_D (fun _ => True) [(h0, .inr (5, [.ref jb, .ref qm, .int mc, .ref qh, .ref qk, .ref qf, .int bg, .ref jp])), (qk, .inl (kk, 9, .inr (.inr (.inr (.inr fo))))), (ro0, .inl (kr0, 8, .inl fr0)), (qf, .inl (kf, 9, .inr (.inl ff))), (jb, .inr (0, [av0, .ref aq1, av2, av3, av4, av5, av6, av7, .long afees, av9, av10, av11, av12])), (aq1, .inl (ak1, 8, .inl ag1))])) (va_Qv (fun (_ : Unit) => True) (fun (_ : Unit) (t : State) => ∃ (fr0' : Nat → Int32), ∃ (ff' : Nat → Int64), va_P (dC, dI) vwCl [(h0, .inr (5, [.ref jb, .ref qm, .int mc, .ref qh, .ref qk, .ref qf, .int bg, .ref jp])), (qk, .inl (kk, 9, .inr (.inr (.inr (.inr fo))))), (ro0, .inl (kr0, 8, .inl (fr0'))), (qf, .inl (kf, 9, .inr (.inl (ff')))), (jb, .inr (0, [av0, .ref aq1, av2, av3, av4, av5, av6, av7, .long afees, av9, av10, av11, av12])), (aq1, .inl (ak1, 8, .inl ag1))] t.heap ∧ va_K (dC, dI) vwCl [(kk, .array .int), (kr0, .int), (kf, .long), (ak1, .int)] t ∧ va_D (va_A [(h0, .inr (5, [.ref jb, .ref qm, .int mc, .ref qh, .ref qk, .ref qf, .int bg, .ref jp])), (qk, .inl (kk, 9, .inr (.inr (.inr (.inr fo))))), (ro0, .inl (kr0, 8, .inl fr0)), (qf, .inl (kf, 9, .inr (.inl ff))), (jb, .inr (0, [av0, .ref aq1, av2, av3, av4, av5, av6, av7, .long afees, av9, av10, av11, av12])), (aq1, .inl (ak1, 8, .inl ag1))] sz) [(h0, .inr (5, [.ref jb, .ref qm, .int mc, .ref qh, .ref qk, .ref qf, .int bg, .ref jp])), (qk, .inl (kk, 9, .inr (.inr (.inr (.inr fo))))), (ro0, .inl (kr0, 8, .inl (fr0'))), (qf, .inl (kf, 9, .inr (.inl (ff')))), (jb, .inr (0, [av0, .ref aq1, av2, av3, av4, av5, av6, av7, .long afees, av9, av10, av11, av12])), (aq1, .inl (ak1, 8, .inl ag1))]) (va_A [(h0, .inr (5, [.ref jb, .ref qm, .int mc, .ref qh, .ref qk, .ref qf, .int bg, .ref jp])), (qk, .inl (kk, 9, .inr (.inr (.inr (.inr fo))))), (ro0, .inl (kr0, 8, .inl fr0)), (qf, .inl (kf, 9, .inr (.inl ff))), (jb, .inr (0, [av0, .ref aq1, av2, av3, av4, av5, av6, av7, .long afees, av9, av10, av11, av12])), (aq1, .inl (ak1, 8, .inl ag1))] sz)) 0 0 (va_A [(h0, .inr (5, [.ref jb, .ref qm, .int mc, .ref qh, .ref qk, .ref qf, .int bg, .ref jp])), (qk, .inl (kk, 9, .inr (.inr (.inr (.inr fo))))), (ro0, .inl (kr0, 8, .inl fr0)), (qf, .inl (kf, 9, .inr (.inl ff))), (jb, .inr (0, [av0, .ref aq1, av2, av3, av4, av5, av6, av7, .long afees, av9, av10, av11, av12])), (aq1, .inl (ak1, 8, .inl ag1))] sz) := by
  refine Met.ofW (cc := cX6_keep) (maxL := 2) (ret := none) (by decide) rfl ?_
  intro p e s m args below meth c s₁ B hml hv
  obtain ⟨rfl, hsz, hP, hK, hD0⟩ := hv
  have hx := B.exec
  have hb := B.bytes
  have hr := B.returns
  have hts := atoms_spec (ws := wsX6_keep) B.pre
  have hown : s.vm.findClass RX6 = some m.cls := findClass_of_methodNamed B.named
  have hlocks := B.notSynchronized
  subst hsz
  have hD := hD0.self (sz := s.heap.size)
  generalize hAe : va_A [(h0, .inr (5, [.ref jb, .ref qm, .int mc, .ref qh, .ref qk, .ref qf, .int bg, .ref jp])), (qk, .inl (kk, 9, .inr (.inr (.inr (.inr fo))))), (ro0, .inl (kr0, 8, .inl fr0)), (qf, .inl (kf, 9, .inr (.inl ff))), (jb, .inr (0, [av0, .ref aq1, av2, av3, av4, av5, av6, av7, .long afees, av9, av10, av11, av12])), (aq1, .inl (ak1, 8, .inl ag1))] s.heap.size = A at hD ⊢
  have hA : ∀ q : Nat, s.heap.size ≤ q → A q := fun q h => by rw [← hAe]; exact Or.inr h
  have hS : va_S A s.heap s.heap [] := va_S.rf
  have hP : va_P (dC, dI) vwCl [(h0, .inr (5, [.ref jb, .ref qm, .int mc, .ref qh, .ref qk, .ref qf, .int bg, .ref jp])), (qk, .inl (kk, 9, .inr (.inr (.inr (.inr fo))))), (ro0, .inl (kr0, 8, .inl fr0)), (qf, .inl (kf, 9, .inr (.inl ff))), (jb, .inr (0, [av0, .ref aq1, av2, av3, av4, av5, av6, av7, .long afees, av9, av10, av11, av12])), (aq1, .inl (ak1, 8, .inl ag1))] s.heap := hP
  have hl := lv_entry ([.ref h0, .int 0]) (n := 2) (Nat.le_of_ble_eq_true rfl)
  rw [lg_entry_eq]
  generalize (lg_sl ([.ref h0, .int 0]) ++ List.replicate (2 - (lg_sl ([.ref h0, .int 0])).length) Slot.unset).toArray = ls at hl ⊢
  have hl : lv_has ls 2 [(0, .ref h0), (1, .int 0)] := hl
  refine lv_iload_n hx hb dX6_keep_0 rfl (lv_at hl 1 rfl) ?_
  refine lv_bipush (v := 8) hx hb dX6_keep_1 (by decide) ?_
  refine lv_icmp_le (tgt := 7) hx hb dX6_keep_3 (by decide) (fun c1 => ?_) (fun c1 => absurd (by decide) c1)
  refine lv_aload_n hx hb dX6_keep_7 rfl (lv_at hl 0 rfl) ?_
  refine va_get (D := (dC, dI)) (ci := 5) (v := .ref jb) (C := RX6) (T := TX6) (N := 8) hx hb hts in_X6_keep_X6 hown hK hP 0 rfl rfl 0 (by decide) (hts (.fieldLink RX6 27 "ClearingGates$Runner" "books" "LClearingGates$Books;") (List.mem_of_getElem? (i := 1) (by decide +kernel))) (fun _ h9 => h9) rfl dX6_keep_8 ?_
  refine va_get (D := (dC, dI)) (ci := 0) (v := .ref aq1) (C := RX0) (T := TX0) (N := 13) hx hb hts in_X6_keep_X0 hown hK hP 4 rfl rfl 1 (by decide) (hts (.fieldLink RX6 134 "ClearingGates$Books" "balances" "[I") (List.mem_of_getElem? (i := 2) (by decide +kernel))) (fun _ h9 => h9) rfl dX6_keep_11 ?_
  refine lv_iconst (v := 0) hx hb dX6_keep_14 (by decide) ?_
  refine lv_aload_n hx hb dX6_keep_15 rfl (lv_at hl 0 rfl) ?_
  refine va_get (D := (dC, dI)) (ci := 5) (v := .ref qk) (C := RX6) (T := TX6) (N := 8) hx hb hts in_X6_keep_X6 hown hK hP 0 rfl rfl 4 (by decide) (hts (.fieldLink RX6 20 "ClearingGates$Runner" "keptBalances" "[[I") (List.mem_of_getElem? (i := 3) (by decide +kernel))) (fun _ h9 => h9) rfl dX6_keep_16 ?_
  refine lv_iload_n hx hb dX6_keep_19 rfl (lv_at hl 1 rfl) ?_
  refine va_aldm (D := (dC, dI)) hx hb hK hP 1 0 rfl rfl (vp_in_iff.mpr ⟨by decide, by decide⟩) dX6_keep_20 ?_
  rw [show va_rf (fo (0 : Int32).toNatClampNeg) = .ref ro0 from by rw [show (0 : Int32).toNatClampNeg = 0 from rfl, hf0]; rfl]
  refine lv_iconst (v := 0) hx hb dX6_keep_21 (by decide) ?_
  refine lv_bipush (v := 8) hx hb dX6_keep_22 (by decide) ?_
  refine va_copyi (D := (dC, dI)) hx hb (hml.trans hl.1.symm) hown (hts (.methodLink RX6 154 arraycopyName) (List.mem_of_getElem? (i := 4) (by decide +kernel))) (hts (.native arraycopyName) (List.mem_of_getElem? (i := 5) (by decide +kernel))) (hts (.static arraycopyName) (List.mem_of_getElem? (i := 6) (by decide +kernel))) (hts (.initialized "java/lang/System") (List.mem_of_getElem? (i := 7) (by decide +kernel))) hK hP hD hS 5 2 3 1 rfl rfl rfl rfl rfl (by decide) (by decide) (by decide) (by decide) (by decide) (fun _ _ => rfl) (Nat.le_of_ble_eq_true rfl) (by decide) dX6_keep_24 (fun H locs hP hD hS => ?_)
  generalize e_g2 : (va_cpy ag1 fr0 (0 : Int32).toNatClampNeg (0 : Int32).toNatClampNeg (8 : Int32).toNatClampNeg) = g2 at hP hD
  have hP : va_P (dC, dI) vwCl [(h0, .inr (5, [.ref jb, .ref qm, .int mc, .ref qh, .ref qk, .ref qf, .int bg, .ref jp])), (qk, .inl (kk, 9, .inr (.inr (.inr (.inr fo))))), (ro0, .inl (kr0, 8, .inl g2)), (qf, .inl (kf, 9, .inr (.inl ff))), (jb, .inr (0, [av0, .ref aq1, av2, av3, av4, av5, av6, av7, .long afees, av9, av10, av11, av12])), (aq1, .inl (ak1, 8, .inl ag1))] H := hP
  have hD : va_D A [(h0, .inr (5, [.ref jb, .ref qm, .int mc, .ref qh, .ref qk, .ref qf, .int bg, .ref jp])), (qk, .inl (kk, 9, .inr (.inr (.inr (.inr fo))))), (ro0, .inl (kr0, 8, .inl g2)), (qf, .inl (kf, 9, .inr (.inl ff))), (jb, .inr (0, [av0, .ref aq1, av2, av3, av4, av5, av6, av7, .long afees, av9, av10, av11, av12])), (aq1, .inl (ak1, 8, .inl ag1))] := hD
  refine lv_aload_n hx hb dX6_keep_27 rfl (lv_at hl 0 rfl) ?_
  refine va_get (D := (dC, dI)) (ci := 5) (v := .ref qf) (C := RX6) (T := TX6) (N := 8) hx hb hts in_X6_keep_X6 hown hK hP 0 rfl rfl 5 (by decide) (hts (.fieldLink RX6 23 "ClearingGates$Runner" "keptFees" "[J") (List.mem_of_getElem? (i := 8) (by decide +kernel))) (fun _ h9 => h9) rfl dX6_keep_28 ?_
  refine lv_iload_n hx hb dX6_keep_31 rfl (lv_at hl 1 rfl) ?_
  refine lv_aload_n hx hb dX6_keep_32 rfl (lv_at hl 0 rfl) ?_
  refine va_get (D := (dC, dI)) (ci := 5) (v := .ref jb) (C := RX6) (T := TX6) (N := 8) hx hb hts in_X6_keep_X6 hown hK hP 0 rfl rfl 0 (by decide) (hts (.fieldLink RX6 27 "ClearingGates$Runner" "books" "LClearingGates$Books;") (List.mem_of_getElem? (i := 1) (by decide +kernel))) (fun _ h9 => h9) rfl dX6_keep_33 ?_
  refine va_get (D := (dC, dI)) (ci := 0) (v := .long afees) (C := RX0) (T := TX0) (N := 13) hx hb hts in_X6_keep_X0 hown hK hP 4 rfl rfl 8 (by decide) (hts (.fieldLink RX6 141 "ClearingGates$Books" "fees" "J") (List.mem_of_getElem? (i := 9) (by decide +kernel))) (fun _ h9 => h9) rfl dX6_keep_36 ?_
  refine va_last (D := (dC, dI)) hx hb hK hP hD hS 3 2 rfl rfl (vp_in_iff.mpr ⟨by decide, by decide⟩) dX6_keep_39 (fun H locs hP hD hS => ?_)
  generalize e_g3 : (vp_updL ff ((0 : Int32)).toNatClampNeg afees) = g3 at hP hD
  have hP : va_P (dC, dI) vwCl [(h0, .inr (5, [.ref jb, .ref qm, .int mc, .ref qh, .ref qk, .ref qf, .int bg, .ref jp])), (qk, .inl (kk, 9, .inr (.inr (.inr (.inr fo))))), (ro0, .inl (kr0, 8, .inl g2)), (qf, .inl (kf, 9, .inr (.inl g3))), (jb, .inr (0, [av0, .ref aq1, av2, av3, av4, av5, av6, av7, .long afees, av9, av10, av11, av12])), (aq1, .inl (ak1, 8, .inl ag1))] H := hP
  have hD : va_D A [(h0, .inr (5, [.ref jb, .ref qm, .int mc, .ref qh, .ref qk, .ref qf, .int bg, .ref jp])), (qk, .inl (kk, 9, .inr (.inr (.inr (.inr fo))))), (ro0, .inl (kr0, 8, .inl g2)), (qf, .inl (kf, 9, .inr (.inl g3))), (jb, .inr (0, [av0, .ref aq1, av2, av3, av4, av5, av6, av7, .long afees, av9, av10, av11, av12])), (aq1, .inl (ak1, 8, .inl ag1))] := hD
  have hP9 := hP.sub (ws' := [(h0, .inr (5, [.ref jb, .ref qm, .int mc, .ref qh, .ref qk, .ref qf, .int bg, .ref jp])), (qk, .inl (kk, 9, .inr (.inr (.inr (.inr fo))))), (ro0, .inl (kr0, 8, .inl g2)), (qf, .inl (kf, 9, .inr (.inl g3))), (jb, .inr (0, [av0, .ref aq1, av2, av3, av4, av5, av6, av7, .long afees, av9, av10, av11, av12])), (aq1, .inl (ak1, 8, .inl ag1))]) [0, 1, 2, 3, 4, 5] rfl
  have hD9 := hD.sub (ws' := [(h0, .inr (5, [.ref jb, .ref qm, .int mc, .ref qh, .ref qk, .ref qf, .int bg, .ref jp])), (qk, .inl (kk, 9, .inr (.inr (.inr (.inr fo))))), (ro0, .inl (kr0, 8, .inl g2)), (qf, .inl (kf, 9, .inr (.inl g3))), (jb, .inr (0, [av0, .ref aq1, av2, av3, av4, av5, av6, av7, .long afees, av9, av10, av11, av12])), (aq1, .inl (ak1, 8, .inl ag1))]) [0, 1, 2, 3, 4, 5] (by decide) rfl
  have hK9 := hK.sub (tys' := [(kk, .array .int), (kr0, .int), (kf, .long), (ak1, .int)]) [0, 1, 2, 3] rfl
  exact W.vret hx hb hr (fun t ht hW => ⟨⟨(), rfl, (by first | rfl | trivial), g2, g3, by rw [ht]; exact hP9, va_K.moved hW.alike hK9, hD9⟩, hS.F ht⟩) hS.2.2 dX6_keep_40

theorem in_X6_undo_X6 : ∀ w ∈ wsX60, w ∈ wsX6_undo := fun _ h => List.mem_cons_of_mem _ (List.mem_append_left _ (List.mem_append_right _ h))
theorem in_X6_undo_X0 : ∀ w ∈ wsX00, w ∈ wsX6_undo := fun _ h => List.mem_cons_of_mem _ (List.mem_append_right _ h)
set_option maxRecDepth 100000 in
set_option maxHeartbeats 4000000 in
/-- Runner.undo at 0 -/
theorem c_X6_undo_d0 (l : Launch) (dC : Nat → ClassId) (dI : Nat → Nat → Nat) (h0 : Nat) (jb : Nat) (qm : Nat) (mc : Int32) (qh : Nat) (qk : Nat) (qf : Nat) (bg : Int32) (jp : Nat) (kk : ClassId) (fo : Nat → Option Nat) (ro0 : Nat) (kr0 : ClassId) (fr0 : Nat → Int32) (kf : ClassId) (ff : Nat → Int64) (av0 : Value) (aq1 : Nat) (av2 : Value) (av3 : Value) (av4 : Value) (av5 : Value) (av6 : Value) (av7 : Value) (afees : Int64) (av9 : Value) (av10 : Value) (av11 : Value) (av12 : Value) (ak1 : ClassId) (ag1 : Nat → Int32) (sz : Nat) (hf0 : fo 0 = some ro0) : Met l yX6_undo wsX6_undo ({ frames := 1, cells := 0, slots := 0, locals := 60 }) (va_Pc [.ref h0, .int 0] (fun U => U.heap.size = sz ∧ va_P (dC, dI) vwCl [(h0, .inr (5, [.ref jb, .ref qm, .int mc, .ref qh, .ref qk, .ref qf, .int bg, .ref jp])), (qk, .inl (kk, 9, .inr (.inr (.inr (.inr fo))))), (ro0, .inl (kr0, 8, .inl fr0)), (qf, .inl (kf, 9, .inr (.inl ff))), (jb, .inr (0, [av0, .ref aq1, av2, av3, av4, av5, av6, av7, .long afees, av9, av10, av11, av12])), (aq1, .inl (ak1, 8, .inl ag1))] U.heap ∧ va_K (dC, dI) vwCl [(kk, .array .int), (kr0, .int), (kf, .long), (ak1, .int)] U ∧ va_D (fun _ => True) [(h0, .inr (5, [.ref jb, .ref qm, .int mc, .ref qh, .ref qk, .ref qf, .int bg, .ref jp])), (qk, .inl (kk, 9, .inr (.inr (.inr (.inr fo))))), (ro0, .inl (kr0, 8, .inl fr0)), (qf, .inl (kf, 9, .inr (.inl ff))), (jb, .inr (0, [av0, .ref aq1, av2, av3, av4, av5, av6, av7, .long afees, av9, av10, av11, av12])), (aq1, .inl (ak1, 8, .inl ag1))])) (va_Qv (fun (_ : Unit) => True) (fun (_ : Unit) (t : State) => ∃ (ag1' : Nat → Int32), ∃ (afees' : Int64), va_P (dC, dI) vwCl [(h0, .inr (5, [.ref jb, .ref qm, .int mc, .ref qh, .ref qk, .ref qf, .int bg, .ref jp])), (qk, .inl (kk, 9, .inr (.inr (.inr (.inr fo))))), (ro0, .inl (kr0, 8, .inl fr0)), (qf, .inl (kf, 9, .inr (.inl ff))), (jb, .inr (0, [av0, .ref aq1, av2, av3, av4, av5, av6, av7, .long afees', av9, av10, av11, av12])), (aq1, .inl (ak1, 8, .inl (ag1')))] t.heap ∧ va_K (dC, dI) vwCl [(kk, .array .int), (kr0, .int), (kf, .long), (ak1, .int)] t ∧ va_D (va_A [(h0, .inr (5, [.ref jb, .ref qm, .int mc, .ref qh, .ref qk, .ref qf, .int bg, .ref jp])), (qk, .inl (kk, 9, .inr (.inr (.inr (.inr fo))))), (ro0, .inl (kr0, 8, .inl fr0)), (qf, .inl (kf, 9, .inr (.inl ff))), (jb, .inr (0, [av0, .ref aq1, av2, av3, av4, av5, av6, av7, .long afees, av9, av10, av11, av12])), (aq1, .inl (ak1, 8, .inl ag1))] sz) [(h0, .inr (5, [.ref jb, .ref qm, .int mc, .ref qh, .ref qk, .ref qf, .int bg, .ref jp])), (qk, .inl (kk, 9, .inr (.inr (.inr (.inr fo))))), (ro0, .inl (kr0, 8, .inl fr0)), (qf, .inl (kf, 9, .inr (.inl ff))), (jb, .inr (0, [av0, .ref aq1, av2, av3, av4, av5, av6, av7, .long afees', av9, av10, av11, av12])), (aq1, .inl (ak1, 8, .inl (ag1')))]) (va_A [(h0, .inr (5, [.ref jb, .ref qm, .int mc, .ref qh, .ref qk, .ref qf, .int bg, .ref jp])), (qk, .inl (kk, 9, .inr (.inr (.inr (.inr fo))))), (ro0, .inl (kr0, 8, .inl fr0)), (qf, .inl (kf, 9, .inr (.inl ff))), (jb, .inr (0, [av0, .ref aq1, av2, av3, av4, av5, av6, av7, .long afees, av9, av10, av11, av12])), (aq1, .inl (ak1, 8, .inl ag1))] sz)) 0 0 (va_A [(h0, .inr (5, [.ref jb, .ref qm, .int mc, .ref qh, .ref qk, .ref qf, .int bg, .ref jp])), (qk, .inl (kk, 9, .inr (.inr (.inr (.inr fo))))), (ro0, .inl (kr0, 8, .inl fr0)), (qf, .inl (kf, 9, .inr (.inl ff))), (jb, .inr (0, [av0, .ref aq1, av2, av3, av4, av5, av6, av7, .long afees, av9, av10, av11, av12])), (aq1, .inl (ak1, 8, .inl ag1))] sz) := by
  refine Met.ofW (cc := cX6_undo) (maxL := 2) (ret := none) (by decide) rfl ?_
  intro p e s m args below meth c s₁ B hml hv
  obtain ⟨rfl, hsz, hP, hK, hD0⟩ := hv
  have hx := B.exec
  have hb := B.bytes
  have hr := B.returns
  have hts := atoms_spec (ws := wsX6_undo) B.pre
  have hown : s.vm.findClass RX6 = some m.cls := findClass_of_methodNamed B.named
  have hlocks := B.notSynchronized
  subst hsz
  have hD := hD0.self (sz := s.heap.size)
  generalize hAe : va_A [(h0, .inr (5, [.ref jb, .ref qm, .int mc, .ref qh, .ref qk, .ref qf, .int bg, .ref jp])), (qk, .inl (kk, 9, .inr (.inr (.inr (.inr fo))))), (ro0, .inl (kr0, 8, .inl fr0)), (qf, .inl (kf, 9, .inr (.inl ff))), (jb, .inr (0, [av0, .ref aq1, av2, av3, av4, av5, av6, av7, .long afees, av9, av10, av11, av12])), (aq1, .inl (ak1, 8, .inl ag1))] s.heap.size = A at hD ⊢
  have hA : ∀ q : Nat, s.heap.size ≤ q → A q := fun q h => by rw [← hAe]; exact Or.inr h
  have hS : va_S A s.heap s.heap [] := va_S.rf
  have hP : va_P (dC, dI) vwCl [(h0, .inr (5, [.ref jb, .ref qm, .int mc, .ref qh, .ref qk, .ref qf, .int bg, .ref jp])), (qk, .inl (kk, 9, .inr (.inr (.inr (.inr fo))))), (ro0, .inl (kr0, 8, .inl fr0)), (qf, .inl (kf, 9, .inr (.inl ff))), (jb, .inr (0, [av0, .ref aq1, av2, av3, av4, av5, av6, av7, .long afees, av9, av10, av11, av12])), (aq1, .inl (ak1, 8, .inl ag1))] s.heap := hP
  have hl := lv_entry ([.ref h0, .int 0]) (n := 2) (Nat.le_of_ble_eq_true rfl)
  rw [lg_entry_eq]
  generalize (lg_sl ([.ref h0, .int 0]) ++ List.replicate (2 - (lg_sl ([.ref h0, .int 0])).length) Slot.unset).toArray = ls at hl ⊢
  have hl : lv_has ls 2 [(0, .ref h0), (1, .int 0)] := hl
  refine lv_iload_n hx hb dX6_undo_0 rfl (lv_at hl 1 rfl) ?_
  refine lv_bipush (v := 8) hx hb dX6_undo_1 (by decide) ?_
  refine lv_icmp_le (tgt := 7) hx hb dX6_undo_3 (by decide) (fun c1 => ?_) (fun c1 => absurd (by decide) c1)
  refine lv_aload_n hx hb dX6_undo_7 rfl (lv_at hl 0 rfl) ?_
  refine va_get (D := (dC, dI)) (ci := 5) (v := .ref qk) (C := RX6) (T := TX6) (N := 8) hx hb hts in_X6_undo_X6 hown hK hP 0 rfl rfl 4 (by decide) (hts (.fieldLink RX6 20 "ClearingGates$Runner" "keptBalances" "[[I") (List.mem_of_getElem? (i := 1) (by decide +kernel))) (fun _ h9 => h9) rfl dX6_undo_8 ?_
  refine lv_iload_n hx hb dX6_undo_11 rfl (lv_at hl 1 rfl) ?_
  refine va_aldm (D := (dC, dI)) hx hb hK hP 1 0 rfl rfl (vp_in_iff.mpr ⟨by decide, by decide⟩) dX6_undo_12 ?_
  rw [show va_rf (fo (0 : Int32).toNatClampNeg) = .ref ro0 from by rw [show (0 : Int32).toNatClampNeg = 0 from rfl, hf0]; rfl]
  refine lv_iconst (v := 0) hx hb dX6_undo_13 (by decide) ?_
  refine lv_aload_n hx hb dX6_undo_14 rfl (lv_at hl 0 rfl) ?_
  refine va_get (D := (dC, dI)) (ci := 5) (v := .ref jb) (C := RX6) (T := TX6) (N := 8) hx hb hts in_X6_undo_X6 hown hK hP 0 rfl rfl 0 (by decide) (hts (.fieldLink RX6 27 "ClearingGates$Runner" "books" "LClearingGates$Books;") (List.mem_of_getElem? (i := 2) (by decide +kernel))) (fun _ h9 => h9) rfl dX6_undo_15 ?_
  refine va_get (D := (dC, dI)) (ci := 0) (v := .ref aq1) (C := RX0) (T := TX0) (N := 13) hx hb hts in_X6_undo_X0 hown hK hP 4 rfl rfl 1 (by decide) (hts (.fieldLink RX6 134 "ClearingGates$Books" "balances" "[I") (List.mem_of_getElem? (i := 3) (by decide +kernel))) (fun _ h9 => h9) rfl dX6_undo_18 ?_
  refine lv_iconst (v := 0) hx hb dX6_undo_21 (by decide) ?_
  refine lv_bipush (v := 8) hx hb dX6_undo_22 (by decide) ?_
  refine va_copyi (D := (dC, dI)) hx hb (hml.trans hl.1.symm) hown (hts (.methodLink RX6 154 arraycopyName) (List.mem_of_getElem? (i := 4) (by decide +kernel))) (hts (.native arraycopyName) (List.mem_of_getElem? (i := 5) (by decide +kernel))) (hts (.static arraycopyName) (List.mem_of_getElem? (i := 6) (by decide +kernel))) (hts (.initialized "java/lang/System") (List.mem_of_getElem? (i := 7) (by decide +kernel))) hK hP hD hS 2 5 1 3 rfl rfl rfl rfl rfl (by decide) (by decide) (by decide) (by decide) (by decide) (fun _ _ => rfl) (Nat.le_of_ble_eq_true rfl) (by decide) dX6_undo_24 (fun H locs hP hD hS => ?_)
  generalize e_g2 : (va_cpy fr0 ag1 (0 : Int32).toNatClampNeg (0 : Int32).toNatClampNeg (8 : Int32).toNatClampNeg) = g2 at hP hD
  have hP : va_P (dC, dI) vwCl [(h0, .inr (5, [.ref jb, .ref qm, .int mc, .ref qh, .ref qk, .ref qf, .int bg, .ref jp])), (qk, .inl (kk, 9, .inr (.inr (.inr (.inr fo))))), (ro0, .inl (kr0, 8, .inl fr0)), (qf, .inl (kf, 9, .inr (.inl ff))), (jb, .inr (0, [av0, .ref aq1, av2, av3, av4, av5, av6, av7, .long afees, av9, av10, av11, av12])), (aq1, .inl (ak1, 8, .inl g2))] H := hP
  have hD : va_D A [(h0, .inr (5, [.ref jb, .ref qm, .int mc, .ref qh, .ref qk, .ref qf, .int bg, .ref jp])), (qk, .inl (kk, 9, .inr (.inr (.inr (.inr fo))))), (ro0, .inl (kr0, 8, .inl fr0)), (qf, .inl (kf, 9, .inr (.inl ff))), (jb, .inr (0, [av0, .ref aq1, av2, av3, av4, av5, av6, av7, .long afees, av9, av10, av11, av12])), (aq1, .inl (ak1, 8, .inl g2))] := hD
  refine lv_aload_n hx hb dX6_undo_27 rfl (lv_at hl 0 rfl) ?_
  refine va_get (D := (dC, dI)) (ci := 5) (v := .ref jb) (C := RX6) (T := TX6) (N := 8) hx hb hts in_X6_undo_X6 hown hK hP 0 rfl rfl 0 (by decide) (hts (.fieldLink RX6 27 "ClearingGates$Runner" "books" "LClearingGates$Books;") (List.mem_of_getElem? (i := 2) (by decide +kernel))) (fun _ h9 => h9) rfl dX6_undo_28 ?_
  refine lv_aload_n hx hb dX6_undo_31 rfl (lv_at hl 0 rfl) ?_
  refine va_get (D := (dC, dI)) (ci := 5) (v := .ref qf) (C := RX6) (T := TX6) (N := 8) hx hb hts in_X6_undo_X6 hown hK hP 0 rfl rfl 5 (by decide) (hts (.fieldLink RX6 23 "ClearingGates$Runner" "keptFees" "[J") (List.mem_of_getElem? (i := 8) (by decide +kernel))) (fun _ h9 => h9) rfl dX6_undo_32 ?_
  refine lv_iload_n hx hb dX6_undo_35 rfl (lv_at hl 1 rfl) ?_
  refine va_lald (D := (dC, dI)) hx hb hK hP 3 2 rfl rfl (vp_in_iff.mpr ⟨by decide, by decide⟩) dX6_undo_36 ?_
  refine lv_topl (fun z3 e_z3 => ?_)
  refine va_put (D := (dC, dI)) (ci := 0) (v := .long z3) (ty := .long) (C := RX0) (T := TX0) (N := 13) hx hb hts in_X6_undo_X0 tyX0 tyX0_ok nmX0 hown hK hP hD hS 4 rfl rfl 8 (by decide) (hts (.fieldLink RX6 141 "ClearingGates$Books" "fees" "J") (List.mem_of_getElem? (i := 9) (by decide +kernel))) (fun _ h9 => h9) rfl (by decide +kernel) rfl rfl (Nat.le_of_ble_eq_true rfl) dX6_undo_37 (fun H locs hP hD hS => ?_)
  have hP : va_P (dC, dI) vwCl [(h0, .inr (5, [.ref jb, .ref qm, .int mc, .ref qh, .ref qk, .ref qf, .int bg, .ref jp])), (qk, .inl (kk, 9, .inr (.inr (.inr (.inr fo))))), (ro0, .inl (kr0, 8, .inl fr0)), (qf, .inl (kf, 9, .inr (.inl ff))), (jb, .inr (0, [av0, .ref aq1, av2, av3, av4, av5, av6, av7, .long z3, av9, av10, av11, av12])), (aq1, .inl (ak1, 8, .inl g2))] H := hP
  have hD : va_D A [(h0, .inr (5, [.ref jb, .ref qm, .int mc, .ref qh, .ref qk, .ref qf, .int bg, .ref jp])), (qk, .inl (kk, 9, .inr (.inr (.inr (.inr fo))))), (ro0, .inl (kr0, 8, .inl fr0)), (qf, .inl (kf, 9, .inr (.inl ff))), (jb, .inr (0, [av0, .ref aq1, av2, av3, av4, av5, av6, av7, .long z3, av9, av10, av11, av12])), (aq1, .inl (ak1, 8, .inl g2))] := hD
  have hP9 := hP.sub (ws' := [(h0, .inr (5, [.ref jb, .ref qm, .int mc, .ref qh, .ref qk, .ref qf, .int bg, .ref jp])), (qk, .inl (kk, 9, .inr (.inr (.inr (.inr fo))))), (ro0, .inl (kr0, 8, .inl fr0)), (qf, .inl (kf, 9, .inr (.inl ff))), (jb, .inr (0, [av0, .ref aq1, av2, av3, av4, av5, av6, av7, .long z3, av9, av10, av11, av12])), (aq1, .inl (ak1, 8, .inl g2))]) [0, 1, 2, 3, 4, 5] rfl
  have hD9 := hD.sub (ws' := [(h0, .inr (5, [.ref jb, .ref qm, .int mc, .ref qh, .ref qk, .ref qf, .int bg, .ref jp])), (qk, .inl (kk, 9, .inr (.inr (.inr (.inr fo))))), (ro0, .inl (kr0, 8, .inl fr0)), (qf, .inl (kf, 9, .inr (.inl ff))), (jb, .inr (0, [av0, .ref aq1, av2, av3, av4, av5, av6, av7, .long z3, av9, av10, av11, av12])), (aq1, .inl (ak1, 8, .inl g2))]) [0, 1, 2, 3, 4, 5] (by decide) rfl
  have hK9 := hK.sub (tys' := [(kk, .array .int), (kr0, .int), (kf, .long), (ak1, .int)]) [0, 1, 2, 3] rfl
  exact W.vret hx hb hr (fun t ht hW => ⟨⟨(), rfl, (by first | rfl | trivial), g2, z3, by rw [ht]; exact hP9, va_K.moved hW.alike hK9, hD9⟩, hS.F ht⟩) hS.2.2 dX6_undo_40

set_option maxRecDepth 100000 in
set_option maxHeartbeats 4000000 in
/-- Runner.keep at 1 -/
theorem c_X6_keep_d1 (l : Launch) (dC : Nat → ClassId) (dI : Nat → Nat → Nat) (h0 : Nat) (jb : Nat) (qm : Nat) (mc : Int32) (qh : Nat) (qk : Nat) (qf : Nat) (bg : Int32) (jp : Nat) (kk : ClassId) (fo : Nat → Option Nat) (ro1 : Nat) (kr1 : ClassId) (fr1 : Nat → Int32) (kf : ClassId) (ff : Nat → Int64) (av0 : Value) (aq1 : Nat) (av2 : Value) (av3 : Value) (av4 : Value) (av5 : Value) (av6 : Value) (av7 : Value) (afees : Int64) (av9 : Value) (av10 : Value) (av11 : Value) (av12 : Value) (ak1 : ClassId) (ag1 : Nat → Int32) (sz : Nat) (hf1 : fo 1 = some ro1) : Met l yX6_keep wsX6_keep ({ frames := 1, cells := 0, slots := 0, locals := 60 }) (va_Pc [.ref h0, .int 1] (fun U => U.heap.size = sz ∧ va_P (dC, dI) vwCl [(h0, .inr (5, [.ref jb, .ref qm, .int mc, .ref qh, .ref qk, .ref qf, .int bg, .ref jp])), (qk, .inl (kk, 9, .inr (.inr (.inr (.inr fo))))), (ro1, .inl (kr1, 8, .inl fr1)), (qf, .inl (kf, 9, .inr (.inl ff))), (jb, .inr (0, [av0, .ref aq1, av2, av3, av4, av5, av6, av7, .long afees, av9, av10, av11, av12])), (aq1, .inl (ak1, 8, .inl ag1))] U.heap ∧ va_K (dC, dI) vwCl [(kk, .array .int), (kr1, .int), (kf, .long), (ak1, .int)] U ∧ va_D (fun _ => True) [(h0, .inr (5, [.ref jb, .ref qm, .int mc, .ref qh, .ref qk, .ref qf, .int bg, .ref jp])), (qk, .inl (kk, 9, .inr (.inr (.inr (.inr fo))))), (ro1, .inl (kr1, 8, .inl fr1)), (qf, .inl (kf, 9, .inr (.inl ff))), (jb, .inr (0, [av0, .ref aq1, av2, av3, av4, av5, av6, av7, .long afees, av9, av10, av11, av12])), (aq1, .inl (ak1, 8, .inl ag1))])) (va_Qv (fun (_ : Unit) => True) (fun (_ : Unit) (t : State) => ∃ (fr1' : Nat → Int32), ∃ (ff' : Nat → Int64), va_P (dC, dI) vwCl [(h0, .inr (5, [.ref jb, .ref qm, .int mc, .ref qh, .ref qk, .ref qf, .int bg, .ref jp])), (qk, .inl (kk, 9, .inr (.inr (.inr (.inr fo))))), (ro1, .inl (kr1, 8, .inl (fr1'))), (qf, .inl (kf, 9, .inr (.inl (ff')))), (jb, .inr (0, [av0, .ref aq1, av2, av3, av4, av5, av6, av7, .long afees, av9, av10, av11, av12])), (aq1, .inl (ak1, 8, .inl ag1))] t.heap ∧ va_K (dC, dI) vwCl [(kk, .array .int), (kr1, .int), (kf, .long), (ak1, .int)] t ∧ va_D (va_A [(h0, .inr (5, [.ref jb, .ref qm, .int mc, .ref qh, .ref qk, .ref qf, .int bg, .ref jp])), (qk, .inl (kk, 9, .inr (.inr (.inr (.inr fo))))), (ro1, .inl (kr1, 8, .inl fr1)), (qf, .inl (kf, 9, .inr (.inl ff))), (jb, .inr (0, [av0, .ref aq1, av2, av3, av4, av5, av6, av7, .long afees, av9, av10, av11, av12])), (aq1, .inl (ak1, 8, .inl ag1))] sz) [(h0, .inr (5, [.ref jb, .ref qm, .int mc, .ref qh, .ref qk, .ref qf, .int bg, .ref jp])), (qk, .inl (kk, 9, .inr (.inr (.inr (.inr fo))))), (ro1, .inl (kr1, 8, .inl (fr1'))), (qf, .inl (kf, 9, .inr (.inl (ff')))), (jb, .inr (0, [av0, .ref aq1, av2, av3, av4, av5, av6, av7, .long afees, av9, av10, av11, av12])), (aq1, .inl (ak1, 8, .inl ag1))]) (va_A [(h0, .inr (5, [.ref jb, .ref qm, .int mc, .ref qh, .ref qk, .ref qf, .int bg, .ref jp])), (qk, .inl (kk, 9, .inr (.inr (.inr (.inr fo))))), (ro1, .inl (kr1, 8, .inl fr1)), (qf, .inl (kf, 9, .inr (.inl ff))), (jb, .inr (0, [av0, .ref aq1, av2, av3, av4, av5, av6, av7, .long afees, av9, av10, av11, av12])), (aq1, .inl (ak1, 8, .inl ag1))] sz)) 0 0 (va_A [(h0, .inr (5, [.ref jb, .ref qm, .int mc, .ref qh, .ref qk, .ref qf, .int bg, .ref jp])), (qk, .inl (kk, 9, .inr (.inr (.inr (.inr fo))))), (ro1, .inl (kr1, 8, .inl fr1)), (qf, .inl (kf, 9, .inr (.inl ff))), (jb, .inr (0, [av0, .ref aq1, av2, av3, av4, av5, av6, av7, .long afees, av9, av10, av11, av12])), (aq1, .inl (ak1, 8, .inl ag1))] sz) := by
  refine Met.ofW (cc := cX6_keep) (maxL := 2) (ret := none) (by decide) rfl ?_
  intro p e s m args below meth c s₁ B hml hv
  obtain ⟨rfl, hsz, hP, hK, hD0⟩ := hv
  have hx := B.exec
  have hb := B.bytes
  have hr := B.returns
  have hts := atoms_spec (ws := wsX6_keep) B.pre
  have hown : s.vm.findClass RX6 = some m.cls := findClass_of_methodNamed B.named
  have hlocks := B.notSynchronized
  subst hsz
  have hD := hD0.self (sz := s.heap.size)
  generalize hAe : va_A [(h0, .inr (5, [.ref jb, .ref qm, .int mc, .ref qh, .ref qk, .ref qf, .int bg, .ref jp])), (qk, .inl (kk, 9, .inr (.inr (.inr (.inr fo))))), (ro1, .inl (kr1, 8, .inl fr1)), (qf, .inl (kf, 9, .inr (.inl ff))), (jb, .inr (0, [av0, .ref aq1, av2, av3, av4, av5, av6, av7, .long afees, av9, av10, av11, av12])), (aq1, .inl (ak1, 8, .inl ag1))] s.heap.size = A at hD ⊢
  have hA : ∀ q : Nat, s.heap.size ≤ q → A q := fun q h => by rw [← hAe]; exact Or.inr h
  have hS : va_S A s.heap s.heap [] := va_S.rf
  have hP : va_P (dC, dI) vwCl [(h0, .inr (5, [.ref jb, .ref qm, .int mc, .ref qh, .ref qk, .ref qf, .int bg, .ref jp])), (qk, .inl (kk, 9, .inr (.inr (.inr (.inr fo))))), (ro1, .inl (kr1, 8, .inl fr1)), (qf, .inl (kf, 9, .inr (.inl ff))), (jb, .inr (0, [av0, .ref aq1, av2, av3, av4, av5, av6, av7, .long afees, av9, av10, av11, av12])), (aq1, .inl (ak1, 8, .inl ag1))] s.heap := hP
  have hl := lv_entry ([.ref h0, .int 1]) (n := 2) (Nat.le_of_ble_eq_true rfl)
  rw [lg_entry_eq]
  generalize (lg_sl ([.ref h0, .int 1]) ++ List.replicate (2 - (lg_sl ([.ref h0, .int 1])).length) Slot.unset).toArray = ls at hl ⊢
  have hl : lv_has ls 2 [(0, .ref h0), (1, .int 1)] := hl
  refine lv_iload_n hx hb dX6_keep_0 rfl (lv_at hl 1 rfl) ?_
  refine lv_bipush (v := 8) hx hb dX6_keep_1 (by decide) ?_
  refine lv_icmp_le (tgt := 7) hx hb dX6_keep_3 (by decide) (fun c1 => ?_) (fun c1 => absurd (by decide) c1)
  refine lv_aload_n hx hb dX6_keep_7 rfl (lv_at hl 0 rfl) ?_
  refine va_get (D := (dC, dI)) (ci := 5) (v := .ref jb) (C := RX6) (T := TX6) (N := 8) hx hb hts in_X6_keep_X6 hown hK hP 0 rfl rfl 0 (by decide) (hts (.fieldLink RX6 27 "ClearingGates$Runner" "books" "LClearingGates$Books;") (List.mem_of_getElem? (i := 1) (by decide +kernel))) (fun _ h9 => h9) rfl dX6_keep_8 ?_
  refine va_get (D := (dC, dI)) (ci := 0) (v := .ref aq1) (C := RX0) (T := TX0) (N := 13) hx hb hts in_X6_keep_X0 hown hK hP 4 rfl rfl 1 (by decide) (hts (.fieldLink RX6 134 "ClearingGates$Books" "balances" "[I") (List.mem_of_getElem? (i := 2) (by decide +kernel))) (fun _ h9 => h9) rfl dX6_keep_11 ?_
  refine lv_iconst (v := 0) hx hb dX6_keep_14 (by decide) ?_
  refine lv_aload_n hx hb dX6_keep_15 rfl (lv_at hl 0 rfl) ?_
  refine va_get (D := (dC, dI)) (ci := 5) (v := .ref qk) (C := RX6) (T := TX6) (N := 8) hx hb hts in_X6_keep_X6 hown hK hP 0 rfl rfl 4 (by decide) (hts (.fieldLink RX6 20 "ClearingGates$Runner" "keptBalances" "[[I") (List.mem_of_getElem? (i := 3) (by decide +kernel))) (fun _ h9 => h9) rfl dX6_keep_16 ?_
  refine lv_iload_n hx hb dX6_keep_19 rfl (lv_at hl 1 rfl) ?_
  refine va_aldm (D := (dC, dI)) hx hb hK hP 1 0 rfl rfl (vp_in_iff.mpr ⟨by decide, by decide⟩) dX6_keep_20 ?_
  rw [show va_rf (fo (1 : Int32).toNatClampNeg) = .ref ro1 from by rw [show (1 : Int32).toNatClampNeg = 1 from rfl, hf1]; rfl]
  refine lv_iconst (v := 0) hx hb dX6_keep_21 (by decide) ?_
  refine lv_bipush (v := 8) hx hb dX6_keep_22 (by decide) ?_
  refine va_copyi (D := (dC, dI)) hx hb (hml.trans hl.1.symm) hown (hts (.methodLink RX6 154 arraycopyName) (List.mem_of_getElem? (i := 4) (by decide +kernel))) (hts (.native arraycopyName) (List.mem_of_getElem? (i := 5) (by decide +kernel))) (hts (.static arraycopyName) (List.mem_of_getElem? (i := 6) (by decide +kernel))) (hts (.initialized "java/lang/System") (List.mem_of_getElem? (i := 7) (by decide +kernel))) hK hP hD hS 5 2 3 1 rfl rfl rfl rfl rfl (by decide) (by decide) (by decide) (by decide) (by decide) (fun _ _ => rfl) (Nat.le_of_ble_eq_true rfl) (by decide) dX6_keep_24 (fun H locs hP hD hS => ?_)
  generalize e_g2 : (va_cpy ag1 fr1 (0 : Int32).toNatClampNeg (0 : Int32).toNatClampNeg (8 : Int32).toNatClampNeg) = g2 at hP hD
  have hP : va_P (dC, dI) vwCl [(h0, .inr (5, [.ref jb, .ref qm, .int mc, .ref qh, .ref qk, .ref qf, .int bg, .ref jp])), (qk, .inl (kk, 9, .inr (.inr (.inr (.inr fo))))), (ro1, .inl (kr1, 8, .inl g2)), (qf, .inl (kf, 9, .inr (.inl ff))), (jb, .inr (0, [av0, .ref aq1, av2, av3, av4, av5, av6, av7, .long afees, av9, av10, av11, av12])), (aq1, .inl (ak1, 8, .inl ag1))] H := hP
  have hD : va_D A [(h0, .inr (5, [.ref jb, .ref qm, .int mc, .ref qh, .ref qk, .ref qf, .int bg, .ref jp])), (qk, .inl (kk, 9, .inr (.inr (.inr (.inr fo))))), (ro1, .inl (kr1, 8, .inl g2)), (qf, .inl (kf, 9, .inr (.inl ff))), (jb, .inr (0, [av0, .ref aq1, av2, av3, av4, av5, av6, av7, .long afees, av9, av10, av11, av12])), (aq1, .inl (ak1, 8, .inl ag1))] := hD
  refine lv_aload_n hx hb dX6_keep_27 rfl (lv_at hl 0 rfl) ?_
  refine va_get (D := (dC, dI)) (ci := 5) (v := .ref qf) (C := RX6) (T := TX6) (N := 8) hx hb hts in_X6_keep_X6 hown hK hP 0 rfl rfl 5 (by decide) (hts (.fieldLink RX6 23 "ClearingGates$Runner" "keptFees" "[J") (List.mem_of_getElem? (i := 8) (by decide +kernel))) (fun _ h9 => h9) rfl dX6_keep_28 ?_
  refine lv_iload_n hx hb dX6_keep_31 rfl (lv_at hl 1 rfl) ?_
  refine lv_aload_n hx hb dX6_keep_32 rfl (lv_at hl 0 rfl) ?_
  refine va_get (D := (dC, dI)) (ci := 5) (v := .ref jb) (C := RX6) (T := TX6) (N := 8) hx hb hts in_X6_keep_X6 hown hK hP 0 rfl rfl 0 (by decide) (hts (.fieldLink RX6 27 "ClearingGates$Runner" "books" "LClearingGates$Books;") (List.mem_of_getElem? (i := 1) (by decide +kernel))) (fun _ h9 => h9) rfl dX6_keep_33 ?_
  refine va_get (D := (dC, dI)) (ci := 0) (v := .long afees) (C := RX0) (T := TX0) (N := 13) hx hb hts in_X6_keep_X0 hown hK hP 4 rfl rfl 8 (by decide) (hts (.fieldLink RX6 141 "ClearingGates$Books" "fees" "J") (List.mem_of_getElem? (i := 9) (by decide +kernel))) (fun _ h9 => h9) rfl dX6_keep_36 ?_
  refine va_last (D := (dC, dI)) hx hb hK hP hD hS 3 2 rfl rfl (vp_in_iff.mpr ⟨by decide, by decide⟩) dX6_keep_39 (fun H locs hP hD hS => ?_)
  generalize e_g3 : (vp_updL ff ((1 : Int32)).toNatClampNeg afees) = g3 at hP hD
  have hP : va_P (dC, dI) vwCl [(h0, .inr (5, [.ref jb, .ref qm, .int mc, .ref qh, .ref qk, .ref qf, .int bg, .ref jp])), (qk, .inl (kk, 9, .inr (.inr (.inr (.inr fo))))), (ro1, .inl (kr1, 8, .inl g2)), (qf, .inl (kf, 9, .inr (.inl g3))), (jb, .inr (0, [av0, .ref aq1, av2, av3, av4, av5, av6, av7, .long afees, av9, av10, av11, av12])), (aq1, .inl (ak1, 8, .inl ag1))] H := hP
  have hD : va_D A [(h0, .inr (5, [.ref jb, .ref qm, .int mc, .ref qh, .ref qk, .ref qf, .int bg, .ref jp])), (qk, .inl (kk, 9, .inr (.inr (.inr (.inr fo))))), (ro1, .inl (kr1, 8, .inl g2)), (qf, .inl (kf, 9, .inr (.inl g3))), (jb, .inr (0, [av0, .ref aq1, av2, av3, av4, av5, av6, av7, .long afees, av9, av10, av11, av12])), (aq1, .inl (ak1, 8, .inl ag1))] := hD
  have hP9 := hP.sub (ws' := [(h0, .inr (5, [.ref jb, .ref qm, .int mc, .ref qh, .ref qk, .ref qf, .int bg, .ref jp])), (qk, .inl (kk, 9, .inr (.inr (.inr (.inr fo))))), (ro1, .inl (kr1, 8, .inl g2)), (qf, .inl (kf, 9, .inr (.inl g3))), (jb, .inr (0, [av0, .ref aq1, av2, av3, av4, av5, av6, av7, .long afees, av9, av10, av11, av12])), (aq1, .inl (ak1, 8, .inl ag1))]) [0, 1, 2, 3, 4, 5] rfl
  have hD9 := hD.sub (ws' := [(h0, .inr (5, [.ref jb, .ref qm, .int mc, .ref qh, .ref qk, .ref qf, .int bg, .ref jp])), (qk, .inl (kk, 9, .inr (.inr (.inr (.inr fo))))), (ro1, .inl (kr1, 8, .inl g2)), (qf, .inl (kf, 9, .inr (.inl g3))), (jb, .inr (0, [av0, .ref aq1, av2, av3, av4, av5, av6, av7, .long afees, av9, av10, av11, av12])), (aq1, .inl (ak1, 8, .inl ag1))]) [0, 1, 2, 3, 4, 5] (by decide) rfl
  have hK9 := hK.sub (tys' := [(kk, .array .int), (kr1, .int), (kf, .long), (ak1, .int)]) [0, 1, 2, 3] rfl
  exact W.vret hx hb hr (fun t ht hW => ⟨⟨(), rfl, (by first | rfl | trivial), g2, g3, by rw [ht]; exact hP9, va_K.moved hW.alike hK9, hD9⟩, hS.F ht⟩) hS.2.2 dX6_keep_40

set_option maxRecDepth 100000 in
set_option maxHeartbeats 4000000 in
/-- Runner.undo at 1 -/
theorem c_X6_undo_d1 (l : Launch) (dC : Nat → ClassId) (dI : Nat → Nat → Nat) (h0 : Nat) (jb : Nat) (qm : Nat) (mc : Int32) (qh : Nat) (qk : Nat) (qf : Nat) (bg : Int32) (jp : Nat) (kk : ClassId) (fo : Nat → Option Nat) (ro1 : Nat) (kr1 : ClassId) (fr1 : Nat → Int32) (kf : ClassId) (ff : Nat → Int64) (av0 : Value) (aq1 : Nat) (av2 : Value) (av3 : Value) (av4 : Value) (av5 : Value) (av6 : Value) (av7 : Value) (afees : Int64) (av9 : Value) (av10 : Value) (av11 : Value) (av12 : Value) (ak1 : ClassId) (ag1 : Nat → Int32) (sz : Nat) (hf1 : fo 1 = some ro1) : Met l yX6_undo wsX6_undo ({ frames := 1, cells := 0, slots := 0, locals := 60 }) (va_Pc [.ref h0, .int 1] (fun U => U.heap.size = sz ∧ va_P (dC, dI) vwCl [(h0, .inr (5, [.ref jb, .ref qm, .int mc, .ref qh, .ref qk, .ref qf, .int bg, .ref jp])), (qk, .inl (kk, 9, .inr (.inr (.inr (.inr fo))))), (ro1, .inl (kr1, 8, .inl fr1)), (qf, .inl (kf, 9, .inr (.inl ff))), (jb, .inr (0, [av0, .ref aq1, av2, av3, av4, av5, av6, av7, .long afees, av9, av10, av11, av12])), (aq1, .inl (ak1, 8, .inl ag1))] U.heap ∧ va_K (dC, dI) vwCl [(kk, .array .int), (kr1, .int), (kf, .long), (ak1, .int)] U ∧ va_D (fun _ => True) [(h0, .inr (5, [.ref jb, .ref qm, .int mc, .ref qh, .ref qk, .ref qf, .int bg, .ref jp])), (qk, .inl (kk, 9, .inr (.inr (.inr (.inr fo))))), (ro1, .inl (kr1, 8, .inl fr1)), (qf, .inl (kf, 9, .inr (.inl ff))), (jb, .inr (0, [av0, .ref aq1, av2, av3, av4, av5, av6, av7, .long afees, av9, av10, av11, av12])), (aq1, .inl (ak1, 8, .inl ag1))])) (va_Qv (fun (_ : Unit) => True) (fun (_ : Unit) (t : State) => ∃ (ag1' : Nat → Int32), ∃ (afees' : Int64), va_P (dC, dI) vwCl [(h0, .inr (5, [.ref jb, .ref qm, .int mc, .ref qh, .ref qk, .ref qf, .int bg, .ref jp])), (qk, .inl (kk, 9, .inr (.inr (.inr (.inr fo))))), (ro1, .inl (kr1, 8, .inl fr1)), (qf, .inl (kf, 9, .inr (.inl ff))), (jb, .inr (0, [av0, .ref aq1, av2, av3, av4, av5, av6, av7, .long afees', av9, av10, av11, av12])), (aq1, .inl (ak1, 8, .inl (ag1')))] t.heap ∧ va_K (dC, dI) vwCl [(kk, .array .int), (kr1, .int), (kf, .long), (ak1, .int)] t ∧ va_D (va_A [(h0, .inr (5, [.ref jb, .ref qm, .int mc, .ref qh, .ref qk, .ref qf, .int bg, .ref jp])), (qk, .inl (kk, 9, .inr (.inr (.inr (.inr fo))))), (ro1, .inl (kr1, 8, .inl fr1)), (qf, .inl (kf, 9, .inr (.inl ff))), (jb, .inr (0, [av0, .ref aq1, av2, av3, av4, av5, av6, av7, .long afees, av9, av10, av11, av12])), (aq1, .inl (ak1, 8, .inl ag1))] sz) [(h0, .inr (5, [.ref jb, .ref qm, .int mc, .ref qh, .ref qk, .ref qf, .int bg, .ref jp])), (qk, .inl (kk, 9, .inr (.inr (.inr (.inr fo))))), (ro1, .inl (kr1, 8, .inl fr1)), (qf, .inl (kf, 9, .inr (.inl ff))), (jb, .inr (0, [av0, .ref aq1, av2, av3, av4, av5, av6, av7, .long afees', av9, av10, av11, av12])), (aq1, .inl (ak1, 8, .inl (ag1')))]) (va_A [(h0, .inr (5, [.ref jb, .ref qm, .int mc, .ref qh, .ref qk, .ref qf, .int bg, .ref jp])), (qk, .inl (kk, 9, .inr (.inr (.inr (.inr fo))))), (ro1, .inl (kr1, 8, .inl fr1)), (qf, .inl (kf, 9, .inr (.inl ff))), (jb, .inr (0, [av0, .ref aq1, av2, av3, av4, av5, av6, av7, .long afees, av9, av10, av11, av12])), (aq1, .inl (ak1, 8, .inl ag1))] sz)) 0 0 (va_A [(h0, .inr (5, [.ref jb, .ref qm, .int mc, .ref qh, .ref qk, .ref qf, .int bg, .ref jp])), (qk, .inl (kk, 9, .inr (.inr (.inr (.inr fo))))), (ro1, .inl (kr1, 8, .inl fr1)), (qf, .inl (kf, 9, .inr (.inl ff))), (jb, .inr (0, [av0, .ref aq1, av2, av3, av4, av5, av6, av7, .long afees, av9, av10, av11, av12])), (aq1, .inl (ak1, 8, .inl ag1))] sz) := by
  refine Met.ofW (cc := cX6_undo) (maxL := 2) (ret := none) (by decide) rfl ?_
  intro p e s m args below meth c s₁ B hml hv
  obtain ⟨rfl, hsz, hP, hK, hD0⟩ := hv
  have hx := B.exec
  have hb := B.bytes
  have hr := B.returns
  have hts := atoms_spec (ws := wsX6_undo) B.pre
  have hown : s.vm.findClass RX6 = some m.cls := findClass_of_methodNamed B.named
  have hlocks := B.notSynchronized
  subst hsz
  have hD := hD0.self (sz := s.heap.size)
  generalize hAe : va_A [(h0, .inr (5, [.ref jb, .ref qm, .int mc, .ref qh, .ref qk, .ref qf, .int bg, .ref jp])), (qk, .inl (kk, 9, .inr (.inr (.inr (.inr fo))))), (ro1, .inl (kr1, 8, .inl fr1)), (qf, .inl (kf, 9, .inr (.inl ff))), (jb, .inr (0, [av0, .ref aq1, av2, av3, av4, av5, av6, av7, .long afees, av9, av10, av11, av12])), (aq1, .inl (ak1, 8, .inl ag1))] s.heap.size = A at hD ⊢
  have hA : ∀ q : Nat, s.heap.size ≤ q → A q := fun q h => by rw [← hAe]; exact Or.inr h
  have hS : va_S A s.heap s.heap [] := va_S.rf
  have hP : va_P (dC, dI) vwCl [(h0, .inr (5, [.ref jb, .ref qm, .int mc, .ref qh, .ref qk, .ref qf, .int bg, .ref jp])), (qk, .inl (kk, 9, .inr (.inr (.inr (.inr fo))))), (ro1, .inl (kr1, 8, .inl fr1)), (qf, .inl (kf, 9, .inr (.inl ff))), (jb, .inr (0, [av0, .ref aq1, av2, av3, av4, av5, av6, av7, .long afees, av9, av10, av11, av12])), (aq1, .inl (ak1, 8, .inl ag1))] s.heap := hP
  have hl := lv_entry ([.ref h0, .int 1]) (n := 2) (Nat.le_of_ble_eq_true rfl)
  rw [lg_entry_eq]
  generalize (lg_sl ([.ref h0, .int 1]) ++ List.replicate (2 - (lg_sl ([.ref h0, .int 1])).length) Slot.unset).toArray = ls at hl ⊢
  have hl : lv_has ls 2 [(0, .ref h0), (1, .int 1)] := hl
  refine lv_iload_n hx hb dX6_undo_0 rfl (lv_at hl 1 rfl) ?_
  refine lv_bipush (v := 8) hx hb dX6_undo_1 (by decide) ?_
  refine lv_icmp_le (tgt := 7) hx hb dX6_undo_3 (by decide) (fun c1 => ?_) (fun c1 => absurd (by decide) c1)
  refine lv_aload_n hx hb dX6_undo_7 rfl (lv_at hl 0 rfl) ?_
  refine va_get (D := (dC, dI)) (ci := 5) (v := .ref qk) (C := RX6) (T := TX6) (N := 8) hx hb hts in_X6_undo_X6 hown hK hP 0 rfl rfl 4 (by decide) (hts (.fieldLink RX6 20 "ClearingGates$Runner" "keptBalances" "[[I") (List.mem_of_getElem? (i := 1) (by decide +kernel))) (fun _ h9 => h9) rfl dX6_undo_8 ?_
  refine lv_iload_n hx hb dX6_undo_11 rfl (lv_at hl 1 rfl) ?_
  refine va_aldm (D := (dC, dI)) hx hb hK hP 1 0 rfl rfl (vp_in_iff.mpr ⟨by decide, by decide⟩) dX6_undo_12 ?_
  rw [show va_rf (fo (1 : Int32).toNatClampNeg) = .ref ro1 from by rw [show (1 : Int32).toNatClampNeg = 1 from rfl, hf1]; rfl]
  refine lv_iconst (v := 0) hx hb dX6_undo_13 (by decide) ?_
  refine lv_aload_n hx hb dX6_undo_14 rfl (lv_at hl 0 rfl) ?_
  refine va_get (D := (dC, dI)) (ci := 5) (v := .ref jb) (C := RX6) (T := TX6) (N := 8) hx hb hts in_X6_undo_X6 hown hK hP 0 rfl rfl 0 (by decide) (hts (.fieldLink RX6 27 "ClearingGates$Runner" "books" "LClearingGates$Books;") (List.mem_of_getElem? (i := 2) (by decide +kernel))) (fun _ h9 => h9) rfl dX6_undo_15 ?_
  refine va_get (D := (dC, dI)) (ci := 0) (v := .ref aq1) (C := RX0) (T := TX0) (N := 13) hx hb hts in_X6_undo_X0 hown hK hP 4 rfl rfl 1 (by decide) (hts (.fieldLink RX6 134 "ClearingGates$Books" "balances" "[I") (List.mem_of_getElem? (i := 3) (by decide +kernel))) (fun _ h9 => h9) rfl dX6_undo_18 ?_
  refine lv_iconst (v := 0) hx hb dX6_undo_21 (by decide) ?_
  refine lv_bipush (v := 8) hx hb dX6_undo_22 (by decide) ?_
  refine va_copyi (D := (dC, dI)) hx hb (hml.trans hl.1.symm) hown (hts (.methodLink RX6 154 arraycopyName) (List.mem_of_getElem? (i := 4) (by decide +kernel))) (hts (.native arraycopyName) (List.mem_of_getElem? (i := 5) (by decide +kernel))) (hts (.static arraycopyName) (List.mem_of_getElem? (i := 6) (by decide +kernel))) (hts (.initialized "java/lang/System") (List.mem_of_getElem? (i := 7) (by decide +kernel))) hK hP hD hS 2 5 1 3 rfl rfl rfl rfl rfl (by decide) (by decide) (by decide) (by decide) (by decide) (fun _ _ => rfl) (Nat.le_of_ble_eq_true rfl) (by decide) dX6_undo_24 (fun H locs hP hD hS => ?_)
  generalize e_g2 : (va_cpy fr1 ag1 (0 : Int32).toNatClampNeg (0 : Int32).toNatClampNeg (8 : Int32).toNatClampNeg) = g2 at hP hD
  have hP : va_P (dC, dI) vwCl [(h0, .inr (5, [.ref jb, .ref qm, .int mc, .ref qh, .ref qk, .ref qf, .int bg, .ref jp])), (qk, .inl (kk, 9, .inr (.inr (.inr (.inr fo))))), (ro1, .inl (kr1, 8, .inl fr1)), (qf, .inl (kf, 9, .inr (.inl ff))), (jb, .inr (0, [av0, .ref aq1, av2, av3, av4, av5, av6, av7, .long afees, av9, av10, av11, av12])), (aq1, .inl (ak1, 8, .inl g2))] H := hP
  have hD : va_D A [(h0, .inr (5, [.ref jb, .ref qm, .int mc, .ref qh, .ref qk, .ref qf, .int bg, .ref jp])), (qk, .inl (kk, 9, .inr (.inr (.inr (.inr fo))))), (ro1, .inl (kr1, 8, .inl fr1)), (qf, .inl (kf, 9, .inr (.inl ff))), (jb, .inr (0, [av0, .ref aq1, av2, av3, av4, av5, av6, av7, .long afees, av9, av10, av11, av12])), (aq1, .inl (ak1, 8, .inl g2))] := hD
  refine lv_aload_n hx hb dX6_undo_27 rfl (lv_at hl 0 rfl) ?_
  refine va_get (D := (dC, dI)) (ci := 5) (v := .ref jb) (C := RX6) (T := TX6) (N := 8) hx hb hts in_X6_undo_X6 hown hK hP 0 rfl rfl 0 (by decide) (hts (.fieldLink RX6 27 "ClearingGates$Runner" "books" "LClearingGates$Books;") (List.mem_of_getElem? (i := 2) (by decide +kernel))) (fun _ h9 => h9) rfl dX6_undo_28 ?_
  refine lv_aload_n hx hb dX6_undo_31 rfl (lv_at hl 0 rfl) ?_
  refine va_get (D := (dC, dI)) (ci := 5) (v := .ref qf) (C := RX6) (T := TX6) (N := 8) hx hb hts in_X6_undo_X6 hown hK hP 0 rfl rfl 5 (by decide) (hts (.fieldLink RX6 23 "ClearingGates$Runner" "keptFees" "[J") (List.mem_of_getElem? (i := 8) (by decide +kernel))) (fun _ h9 => h9) rfl dX6_undo_32 ?_
  refine lv_iload_n hx hb dX6_undo_35 rfl (lv_at hl 1 rfl) ?_
  refine va_lald (D := (dC, dI)) hx hb hK hP 3 2 rfl rfl (vp_in_iff.mpr ⟨by decide, by decide⟩) dX6_undo_36 ?_
  refine lv_topl (fun z3 e_z3 => ?_)
  refine va_put (D := (dC, dI)) (ci := 0) (v := .long z3) (ty := .long) (C := RX0) (T := TX0) (N := 13) hx hb hts in_X6_undo_X0 tyX0 tyX0_ok nmX0 hown hK hP hD hS 4 rfl rfl 8 (by decide) (hts (.fieldLink RX6 141 "ClearingGates$Books" "fees" "J") (List.mem_of_getElem? (i := 9) (by decide +kernel))) (fun _ h9 => h9) rfl (by decide +kernel) rfl rfl (Nat.le_of_ble_eq_true rfl) dX6_undo_37 (fun H locs hP hD hS => ?_)
  have hP : va_P (dC, dI) vwCl [(h0, .inr (5, [.ref jb, .ref qm, .int mc, .ref qh, .ref qk, .ref qf, .int bg, .ref jp])), (qk, .inl (kk, 9, .inr (.inr (.inr (.inr fo))))), (ro1, .inl (kr1, 8, .inl fr1)), (qf, .inl (kf, 9, .inr (.inl ff))), (jb, .inr (0, [av0, .ref aq1, av2, av3, av4, av5, av6, av7, .long z3, av9, av10, av11, av12])), (aq1, .inl (ak1, 8, .inl g2))] H := hP
  have hD : va_D A [(h0, .inr (5, [.ref jb, .ref qm, .int mc, .ref qh, .ref qk, .ref qf, .int bg, .ref jp])), (qk, .inl (kk, 9, .inr (.inr (.inr (.inr fo))))), (ro1, .inl (kr1, 8, .inl fr1)), (qf, .inl (kf, 9, .inr (.inl ff))), (jb, .inr (0, [av0, .ref aq1, av2, av3, av4, av5, av6, av7, .long z3, av9, av10, av11, av12])), (aq1, .inl (ak1, 8, .inl g2))] := hD
  have hP9 := hP.sub (ws' := [(h0, .inr (5, [.ref jb, .ref qm, .int mc, .ref qh, .ref qk, .ref qf, .int bg, .ref jp])), (qk, .inl (kk, 9, .inr (.inr (.inr (.inr fo))))), (ro1, .inl (kr1, 8, .inl fr1)), (qf, .inl (kf, 9, .inr (.inl ff))), (jb, .inr (0, [av0, .ref aq1, av2, av3, av4, av5, av6, av7, .long z3, av9, av10, av11, av12])), (aq1, .inl (ak1, 8, .inl g2))]) [0, 1, 2, 3, 4, 5] rfl
  have hD9 := hD.sub (ws' := [(h0, .inr (5, [.ref jb, .ref qm, .int mc, .ref qh, .ref qk, .ref qf, .int bg, .ref jp])), (qk, .inl (kk, 9, .inr (.inr (.inr (.inr fo))))), (ro1, .inl (kr1, 8, .inl fr1)), (qf, .inl (kf, 9, .inr (.inl ff))), (jb, .inr (0, [av0, .ref aq1, av2, av3, av4, av5, av6, av7, .long z3, av9, av10, av11, av12])), (aq1, .inl (ak1, 8, .inl g2))]) [0, 1, 2, 3, 4, 5] (by decide) rfl
  have hK9 := hK.sub (tys' := [(kk, .array .int), (kr1, .int), (kf, .long), (ak1, .int)]) [0, 1, 2, 3] rfl
  exact W.vret hx hb hr (fun t ht hW => ⟨⟨(), rfl, (by first | rfl | trivial), g2, z3, by rw [ht]; exact hP9, va_K.moved hW.alike hK9, hD9⟩, hS.F ht⟩) hS.2.2 dX6_undo_40

set_option maxRecDepth 100000 in
set_option maxHeartbeats 4000000 in
/-- Runner.keep at 2 -/
theorem c_X6_keep_d2 (l : Launch) (dC : Nat → ClassId) (dI : Nat → Nat → Nat) (h0 : Nat) (jb : Nat) (qm : Nat) (mc : Int32) (qh : Nat) (qk : Nat) (qf : Nat) (bg : Int32) (jp : Nat) (kk : ClassId) (fo : Nat → Option Nat) (ro2 : Nat) (kr2 : ClassId) (fr2 : Nat → Int32) (kf : ClassId) (ff : Nat → Int64) (av0 : Value) (aq1 : Nat) (av2 : Value) (av3 : Value) (av4 : Value) (av5 : Value) (av6 : Value) (av7 : Value) (afees : Int64) (av9 : Value) (av10 : Value) (av11 : Value) (av12 : Value) (ak1 : ClassId) (ag1 : Nat → Int32) (sz : Nat) (hf2 : fo 2 = some ro2) : Met l yX6_keep wsX6_keep ({ frames := 1, cells := 0, slots := 0, locals := 60 }) (va_Pc [.ref h0, .int 2] (fun U => U.heap.size = sz ∧ va_P (dC, dI) vwCl [(h0, .inr (5, [.ref jb, .ref qm, .int mc, .ref qh, .ref qk, .ref qf, .int bg, .ref jp])), (qk, .inl (kk, 9, .inr (.inr (.inr (.inr fo))))), (ro2, .inl (kr2, 8, .inl fr2)), (qf, .inl (kf, 9, .inr (.inl ff))), (jb, .inr (0, [av0, .ref aq1, av2, av3, av4, av5, av6, av7, .long afees, av9, av10, av11, av12])), (aq1, .inl (ak1, 8, .inl ag1))] U.heap ∧ va_K (dC, dI) vwCl [(kk, .array .int), (kr2, .int), (kf, .long), (ak1, .int)] U ∧ va_D (fun _ => True) [(h0, .inr (5, [.ref jb, .ref qm, .int mc, .ref qh, .ref qk, .ref qf, .int bg, .ref jp])), (qk, .inl (kk, 9, .inr (.inr (.inr (.inr fo))))), (ro2, .inl (kr2, 8, .inl fr2)), (qf, .inl (kf, 9, .inr (.inl ff))), (jb, .inr (0, [av0, .ref aq1, av2, av3, av4, av5, av6, av7, .long afees, av9, av10, av11, av12])), (aq1, .inl (ak1, 8, .inl ag1))])) (va_Qv (fun (_ : Unit) => True) (fun (_ : Unit) (t : State) => ∃ (fr2' : Nat → Int32), ∃ (ff' : Nat → Int64), va_P (dC, dI) vwCl [(h0, .inr (5, [.ref jb, .ref qm, .int mc, .ref qh, .ref qk, .ref qf, .int bg, .ref jp])), (qk, .inl (kk, 9, .inr (.inr (.inr (.inr fo))))), (ro2, .inl (kr2, 8, .inl (fr2'))), (qf, .inl (kf, 9, .inr (.inl (ff')))), (jb, .inr (0, [av0, .ref aq1, av2, av3, av4, av5, av6, av7, .long afees, av9, av10, av11, av12])), (aq1, .inl (ak1, 8, .inl ag1))] t.heap ∧ va_K (dC, dI) vwCl [(kk, .array .int), (kr2, .int), (kf, .long), (ak1, .int)] t ∧ va_D (va_A [(h0, .inr (5, [.ref jb, .ref qm, .int mc, .ref qh, .ref qk, .ref qf, .int bg, .ref jp])), (qk, .inl (kk, 9, .inr (.inr (.inr (.inr fo))))), (ro2, .inl (kr2, 8, .inl fr2)), (qf, .inl (kf, 9, .inr (.inl ff))), (jb, .inr (0, [av0, .ref aq1, av2, av3, av4, av5, av6, av7, .long afees, av9, av10, av11, av12])), (aq1, .inl (ak1, 8, .inl ag1))] sz) [(h0, .inr (5, [.ref jb, .ref qm, .int mc, .ref qh, .ref qk, .ref qf, .int bg, .ref jp])), (qk, .inl (kk, 9, .inr (.inr (.inr (.inr fo))))), (ro2, .inl (kr2, 8, .inl (fr2'))), (qf, .inl (kf, 9, .inr (.inl (ff')))), (jb, .inr (0, [av0, .ref aq1, av2, av3, av4, av5, av6, av7, .long afees, av9, av10, av11, av12])), (aq1, .inl (ak1, 8, .inl ag1))]) (va_A [(h0, .inr (5, [.ref jb, .ref qm, .int mc, .ref qh, .ref qk, .ref qf, .int bg, .ref jp])), (qk, .inl (kk, 9, .inr (.inr (.inr (.inr fo))))), (ro2, .inl (kr2, 8, .inl fr2)), (qf, .inl (kf, 9, .inr (.inl ff))), (jb, .inr (0, [av0, .ref aq1, av2, av3, av4, av5, av6, av7, .long afees, av9, av10, av11, av12])), (aq1, .inl (ak1, 8, .inl ag1))] sz)) 0 0 (va_A [(h0, .inr (5, [.ref jb, .ref qm, .int mc, .ref qh, .ref qk, .ref qf, .int bg, .ref jp])), (qk, .inl (kk, 9, .inr (.inr (.inr (.inr fo))))), (ro2, .inl (kr2, 8, .inl fr2)), (qf, .inl (kf, 9, .inr (.inl ff))), (jb, .inr (0, [av0, .ref aq1, av2, av3, av4, av5, av6, av7, .long afees, av9, av10, av11, av12])), (aq1, .inl (ak1, 8, .inl ag1))] sz) := by
  refine Met.ofW (cc := cX6_keep) (maxL := 2) (ret := none) (by decide) rfl ?_
  intro p e s m args below meth c s₁ B hml hv
  obtain ⟨rfl, hsz, hP, hK, hD0⟩ := hv
  have hx := B.exec
  have hb := B.bytes
  have hr := B.returns
  have hts := atoms_spec (ws := wsX6_keep) B.pre
  have hown : s.vm.findClass RX6 = some m.cls := findClass_of_methodNamed B.named
  have hlocks := B.notSynchronized
  subst hsz
  have hD := hD0.self (sz := s.heap.size)
  generalize hAe : va_A [(h0, .inr (5, [.ref jb, .ref qm, .int mc, .ref qh, .ref qk, .ref qf, .int bg, .ref jp])), (qk, .inl (kk, 9, .inr (.inr (.inr (.inr fo))))), (ro2, .inl (kr2, 8, .inl fr2)), (qf, .inl (kf, 9, .inr (.inl ff))), (jb, .inr (0, [av0, .ref aq1, av2, av3, av4, av5, av6, av7, .long afees, av9, av10, av11, av12])), (aq1, .inl (ak1, 8, .inl ag1))] s.heap.size = A at hD ⊢
  have hA : ∀ q : Nat, s.heap.size ≤ q → A q := fun q h => by rw [← hAe]; exact Or.inr h
  have hS : va_S A s.heap s.heap [] := va_S.rf
  have hP : va_P (dC, dI) vwCl [(h0, .inr (5, [.ref jb, .ref qm, .int mc, .ref qh, .ref qk, .ref qf, .int bg, .ref jp])), (qk, .inl (kk, 9, .inr (.inr (.inr (.inr fo))))), (ro2, .inl (kr2, 8, .inl fr2)), (qf, .inl (kf, 9, .inr (.inl ff))), (jb, .inr (0, [av0, .ref aq1, av2, av3, av4, av5, av6, av7, .long afees, av9, av10, av11, av12])), (aq1, .inl (ak1, 8, .inl ag1))] s.heap := hP
  have hl := lv_entry ([.ref h0, .int 2]) (n := 2) (Nat.le_of_ble_eq_true rfl)
  rw [lg_entry_eq]
  generalize (lg_sl ([.ref h0, .int 2]) ++ List.replicate (2 - (lg_sl ([.ref h0, .int 2])).length) Slot.unset).toArray = ls at hl ⊢
  have hl : lv_has ls 2 [(0, .ref h0), (1, .int 2)] := hl
  refine lv_iload_n hx hb dX6_keep_0 rfl (lv_at hl 1 rfl) ?_
  refine lv_bipush (v := 8) hx hb dX6_keep_1 (by decide) ?_
  refine lv_icmp_le (tgt := 7) hx hb dX6_keep_3 (by decide) (fun c1 => ?_) (fun c1 => absurd (by decide) c1)
  refine lv_aload_n hx hb dX6_keep_7 rfl (lv_at hl 0 rfl) ?_
  refine va_get (D := (dC, dI)) (ci := 5) (v := .ref jb) (C := RX6) (T := TX6) (N := 8) hx hb hts in_X6_keep_X6 hown hK hP 0 rfl rfl 0 (by decide) (hts (.fieldLink RX6 27 "ClearingGates$Runner" "books" "LClearingGates$Books;") (List.mem_of_getElem? (i := 1) (by decide +kernel))) (fun _ h9 => h9) rfl dX6_keep_8 ?_
  refine va_get (D := (dC, dI)) (ci := 0) (v := .ref aq1) (C := RX0) (T := TX0) (N := 13) hx hb hts in_X6_keep_X0 hown hK hP 4 rfl rfl 1 (by decide) (hts (.fieldLink RX6 134 "ClearingGates$Books" "balances" "[I") (List.mem_of_getElem? (i := 2) (by decide +kernel))) (fun _ h9 => h9) rfl dX6_keep_11 ?_
  refine lv_iconst (v := 0) hx hb dX6_keep_14 (by decide) ?_
  refine lv_aload_n hx hb dX6_keep_15 rfl (lv_at hl 0 rfl) ?_
  refine va_get (D := (dC, dI)) (ci := 5) (v := .ref qk) (C := RX6) (T := TX6) (N := 8) hx hb hts in_X6_keep_X6 hown hK hP 0 rfl rfl 4 (by decide) (hts (.fieldLink RX6 20 "ClearingGates$Runner" "keptBalances" "[[I") (List.mem_of_getElem? (i := 3) (by decide +kernel))) (fun _ h9 => h9) rfl dX6_keep_16 ?_
  refine lv_iload_n hx hb dX6_keep_19 rfl (lv_at hl 1 rfl) ?_
  refine va_aldm (D := (dC, dI)) hx hb hK hP 1 0 rfl rfl (vp_in_iff.mpr ⟨by decide, by decide⟩) dX6_keep_20 ?_
  rw [show va_rf (fo (2 : Int32).toNatClampNeg) = .ref ro2 from by rw [show (2 : Int32).toNatClampNeg = 2 from rfl, hf2]; rfl]
  refine lv_iconst (v := 0) hx hb dX6_keep_21 (by decide) ?_
  refine lv_bipush (v := 8) hx hb dX6_keep_22 (by decide) ?_
  refine va_copyi (D := (dC, dI)) hx hb (hml.trans hl.1.symm) hown (hts (.methodLink RX6 154 arraycopyName) (List.mem_of_getElem? (i := 4) (by decide +kernel))) (hts (.native arraycopyName) (List.mem_of_getElem? (i := 5) (by decide +kernel))) (hts (.static arraycopyName) (List.mem_of_getElem? (i := 6) (by decide +kernel))) (hts (.initialized "java/lang/System") (List.mem_of_getElem? (i := 7) (by decide +kernel))) hK hP hD hS 5 2 3 1 rfl rfl rfl rfl rfl (by decide) (by decide) (by decide) (by decide) (by decide) (fun _ _ => rfl) (Nat.le_of_ble_eq_true rfl) (by decide) dX6_keep_24 (fun H locs hP hD hS => ?_)
  generalize e_g2 : (va_cpy ag1 fr2 (0 : Int32).toNatClampNeg (0 : Int32).toNatClampNeg (8 : Int32).toNatClampNeg) = g2 at hP hD
  have hP : va_P (dC, dI) vwCl [(h0, .inr (5, [.ref jb, .ref qm, .int mc, .ref qh, .ref qk, .ref qf, .int bg, .ref jp])), (qk, .inl (kk, 9, .inr (.inr (.inr (.inr fo))))), (ro2, .inl (kr2, 8, .inl g2)), (qf, .inl (kf, 9, .inr (.inl ff))), (jb, .inr (0, [av0, .ref aq1, av2, av3, av4, av5, av6, av7, .long afees, av9, av10, av11, av12])), (aq1, .inl (ak1, 8, .inl ag1))] H := hP
  have hD : va_D A [(h0, .inr (5, [.ref jb, .ref qm, .int mc, .ref qh, .ref qk, .ref qf, .int bg, .ref jp])), (qk, .inl (kk, 9, .inr (.inr (.inr (.inr fo))))), (ro2, .inl (kr2, 8, .inl g2)), (qf, .inl (kf, 9, .inr (.inl ff))), (jb, .inr (0, [av0, .ref aq1, av2, av3, av4, av5, av6, av7, .long afees, av9, av10, av11, av12])), (aq1, .inl (ak1, 8, .inl ag1))] := hD
  refine lv_aload_n hx hb dX6_keep_27 rfl (lv_at hl 0 rfl) ?_
  refine va_get (D := (dC, dI)) (ci := 5) (v := .ref qf) (C := RX6) (T := TX6) (N := 8) hx hb hts in_X6_keep_X6 hown hK hP 0 rfl rfl 5 (by decide) (hts (.fieldLink RX6 23 "ClearingGates$Runner" "keptFees" "[J") (List.mem_of_getElem? (i := 8) (by decide +kernel))) (fun _ h9 => h9) rfl dX6_keep_28 ?_
  refine lv_iload_n hx hb dX6_keep_31 rfl (lv_at hl 1 rfl) ?_
  refine lv_aload_n hx hb dX6_keep_32 rfl (lv_at hl 0 rfl) ?_
  refine va_get (D := (dC, dI)) (ci := 5) (v := .ref jb) (C := RX6) (T := TX6) (N := 8) hx hb hts in_X6_keep_X6 hown hK hP 0 rfl rfl 0 (by decide) (hts (.fieldLink RX6 27 "ClearingGates$Runner" "books" "LClearingGates$Books;") (List.mem_of_getElem? (i := 1) (by decide +kernel))) (fun _ h9 => h9) rfl dX6_keep_33 ?_
  refine va_get (D := (dC, dI)) (ci := 0) (v := .long afees) (C := RX0) (T := TX0) (N := 13) hx hb hts in_X6_keep_X0 hown hK hP 4 rfl rfl 8 (by decide) (hts (.fieldLink RX6 141 "ClearingGates$Books" "fees" "J") (List.mem_of_getElem? (i := 9) (by decide +kernel))) (fun _ h9 => h9) rfl dX6_keep_36 ?_
  refine va_last (D := (dC, dI)) hx hb hK hP hD hS 3 2 rfl rfl (vp_in_iff.mpr ⟨by decide, by decide⟩) dX6_keep_39 (fun H locs hP hD hS => ?_)
  generalize e_g3 : (vp_updL ff ((2 : Int32)).toNatClampNeg afees) = g3 at hP hD
  have hP : va_P (dC, dI) vwCl [(h0, .inr (5, [.ref jb, .ref qm, .int mc, .ref qh, .ref qk, .ref qf, .int bg, .ref jp])), (qk, .inl (kk, 9, .inr (.inr (.inr (.inr fo))))), (ro2, .inl (kr2, 8, .inl g2)), (qf, .inl (kf, 9, .inr (.inl g3))), (jb, .inr (0, [av0, .ref aq1, av2, av3, av4, av5, av6, av7, .long afees, av9, av10, av11, av12])), (aq1, .inl (ak1, 8, .inl ag1))] H := hP
  have hD : va_D A [(h0, .inr (5, [.ref jb, .ref qm, .int mc, .ref qh, .ref qk, .ref qf, .int bg, .ref jp])), (qk, .inl (kk, 9, .inr (.inr (.inr (.inr fo))))), (ro2, .inl (kr2, 8, .inl g2)), (qf, .inl (kf, 9, .inr (.inl g3))), (jb, .inr (0, [av0, .ref aq1, av2, av3, av4, av5, av6, av7, .long afees, av9, av10, av11, av12])), (aq1, .inl (ak1, 8, .inl ag1))] := hD
  have hP9 := hP.sub (ws' := [(h0, .inr (5, [.ref jb, .ref qm, .int mc, .ref qh, .ref qk, .ref qf, .int bg, .ref jp])), (qk, .inl (kk, 9, .inr (.inr (.inr (.inr fo))))), (ro2, .inl (kr2, 8, .inl g2)), (qf, .inl (kf, 9, .inr (.inl g3))), (jb, .inr (0, [av0, .ref aq1, av2, av3, av4, av5, av6, av7, .long afees, av9, av10, av11, av12])), (aq1, .inl (ak1, 8, .inl ag1))]) [0, 1, 2, 3, 4, 5] rfl
  have hD9 := hD.sub (ws' := [(h0, .inr (5, [.ref jb, .ref qm, .int mc, .ref qh, .ref qk, .ref qf, .int bg, .ref jp])), (qk, .inl (kk, 9, .inr (.inr (.inr (.inr fo))))), (ro2, .inl (kr2, 8, .inl g2)), (qf, .inl (kf, 9, .inr (.inl g3))), (jb, .inr (0, [av0, .ref aq1, av2, av3, av4, av5, av6, av7, .long afees, av9, av10, av11, av12])), (aq1, .inl (ak1, 8, .inl ag1))]) [0, 1, 2, 3, 4, 5] (by decide) rfl
  have hK9 := hK.sub (tys' := [(kk, .array .int), (kr2, .int), (kf, .long), (ak1, .int)]) [0, 1, 2, 3] rfl
  exact W.vret hx hb hr (fun t ht hW => ⟨⟨(), rfl, (by first | rfl | trivial), g2, g3, by rw [ht]; exact hP9, va_K.moved hW.alike hK9, hD9⟩, hS.F ht⟩) hS.2.2 dX6_keep_40

set_option maxRecDepth 100000 in
set_option maxHeartbeats 4000000 in
/-- Runner.undo at 2 -/
theorem c_X6_undo_d2 (l : Launch) (dC : Nat → ClassId) (dI : Nat → Nat → Nat) (h0 : Nat) (jb : Nat) (qm : Nat) (mc : Int32) (qh : Nat) (qk : Nat) (qf : Nat) (bg : Int32) (jp : Nat) (kk : ClassId) (fo : Nat → Option Nat) (ro2 : Nat) (kr2 : ClassId) (fr2 : Nat → Int32) (kf : ClassId) (ff : Nat → Int64) (av0 : Value) (aq1 : Nat) (av2 : Value) (av3 : Value) (av4 : Value) (av5 : Value) (av6 : Value) (av7 : Value) (afees : Int64) (av9 : Value) (av10 : Value) (av11 : Value) (av12 : Value) (ak1 : ClassId) (ag1 : Nat → Int32) (sz : Nat) (hf2 : fo 2 = some ro2) : Met l yX6_undo wsX6_undo ({ frames := 1, cells := 0, slots := 0, locals := 60 }) (va_Pc [.ref h0, .int 2] (fun U => U.heap.size = sz ∧ va_P (dC, dI) vwCl [(h0, .inr (5, [.ref jb, .ref qm, .int mc, .ref qh, .ref qk, .ref qf, .int bg, .ref jp])), (qk, .inl (kk, 9, .inr (.inr (.inr (.inr fo))))), (ro2, .inl (kr2, 8, .inl fr2)), (qf, .inl (kf, 9, .inr (.inl ff))), (jb, .inr (0, [av0, .ref aq1, av2, av3, av4, av5, av6, av7, .long afees, av9, av10, av11, av12])), (aq1, .inl (ak1, 8, .inl ag1))] U.heap ∧ va_K (dC, dI) vwCl [(kk, .array .int), (kr2, .int), (kf, .long), (ak1, .int)] U ∧ va_D (fun _ => True) [(h0, .inr (5, [.ref jb, .ref qm, .int mc, .ref qh, .ref qk, .ref qf, .int bg, .ref jp])), (qk, .inl (kk, 9, .inr (.inr (.inr (.inr fo))))), (ro2, .inl (kr2, 8, .inl fr2)), (qf, .inl (kf, 9, .inr (.inl ff))), (jb, .inr (0, [av0, .ref aq1, av2, av3, av4, av5, av6, av7, .long afees, av9, av10, av11, av12])), (aq1, .inl (ak1, 8, .inl ag1))])) (va_Qv (fun (_ : Unit) => True) (fun (_ : Unit) (t : State) => ∃ (ag1' : Nat → Int32), ∃ (afees' : Int64), va_P (dC, dI) vwCl [(h0, .inr (5, [.ref jb, .ref qm, .int mc, .ref qh, .ref qk, .ref qf, .int bg, .ref jp])), (qk, .inl (kk, 9, .inr (.inr (.inr (.inr fo))))), (ro2, .inl (kr2, 8, .inl fr2)), (qf, .inl (kf, 9, .inr (.inl ff))), (jb, .inr (0, [av0, .ref aq1, av2, av3, av4, av5, av6, av7, .long afees', av9, av10, av11, av12])), (aq1, .inl (ak1, 8, .inl (ag1')))] t.heap ∧ va_K (dC, dI) vwCl [(kk, .array .int), (kr2, .int), (kf, .long), (ak1, .int)] t ∧ va_D (va_A [(h0, .inr (5, [.ref jb, .ref qm, .int mc, .ref qh, .ref qk, .ref qf, .int bg, .ref jp])), (qk, .inl (kk, 9, .inr (.inr (.inr (.inr fo))))), (ro2, .inl (kr2, 8, .inl fr2)), (qf, .inl (kf, 9, .inr (.inl ff))), (jb, .inr (0, [av0, .ref aq1, av2, av3, av4, av5, av6, av7, .long afees, av9, av10, av11, av12])), (aq1, .inl (ak1, 8, .inl ag1))] sz) [(h0, .inr (5, [.ref jb, .ref qm, .int mc, .ref qh, .ref qk, .ref qf, .int bg, .ref jp])), (qk, .inl (kk, 9, .inr (.inr (.inr (.inr fo))))), (ro2, .inl (kr2, 8, .inl fr2)), (qf, .inl (kf, 9, .inr (.inl ff))), (jb, .inr (0, [av0, .ref aq1, av2, av3, av4, av5, av6, av7, .long afees', av9, av10, av11, av12])), (aq1, .inl (ak1, 8, .inl (ag1')))]) (va_A [(h0, .inr (5, [.ref jb, .ref qm, .int mc, .ref qh, .ref qk, .ref qf, .int bg, .ref jp])), (qk, .inl (kk, 9, .inr (.inr (.inr (.inr fo))))), (ro2, .inl (kr2, 8, .inl fr2)), (qf, .inl (kf, 9, .inr (.inl ff))), (jb, .inr (0, [av0, .ref aq1, av2, av3, av4, av5, av6, av7, .long afees, av9, av10, av11, av12])), (aq1, .inl (ak1, 8, .inl ag1))] sz)) 0 0 (va_A [(h0, .inr (5, [.ref jb, .ref qm, .int mc, .ref qh, .ref qk, .ref qf, .int bg, .ref jp])), (qk, .inl (kk, 9, .inr (.inr (.inr (.inr fo))))), (ro2, .inl (kr2, 8, .inl fr2)), (qf, .inl (kf, 9, .inr (.inl ff))), (jb, .inr (0, [av0, .ref aq1, av2, av3, av4, av5, av6, av7, .long afees, av9, av10, av11, av12])), (aq1, .inl (ak1, 8, .inl ag1))] sz) := by
  refine Met.ofW (cc := cX6_undo) (maxL := 2) (ret := none) (by decide) rfl ?_
  intro p e s m args below meth c s₁ B hml hv
  obtain ⟨rfl, hsz, hP, hK, hD0⟩ := hv
  have hx := B.exec
  have hb := B.bytes
  have hr := B.returns
  have hts := atoms_spec (ws := wsX6_undo) B.pre
  have hown : s.vm.findClass RX6 = some m.cls := findClass_of_methodNamed B.named
  have hlocks := B.notSynchronized
  subst hsz
  have hD := hD0.self (sz := s.heap.size)
  generalize hAe : va_A [(h0, .inr (5, [.ref jb, .ref qm, .int mc, .ref qh, .ref qk, .ref qf, .int bg, .ref jp])), (qk, .inl (kk, 9, .inr (.inr (.inr (.inr fo))))), (ro2, .inl (kr2, 8, .inl fr2)), (qf, .inl (kf, 9, .inr (.inl ff))), (jb, .inr (0, [av0, .ref aq1, av2, av3, av4, av5, av6, av7, .long afees, av9, av10, av11, av12])), (aq1, .inl (ak1, 8, .inl ag1))] s.heap.size = A at hD ⊢
  have hA : ∀ q : Nat, s.heap.size ≤ q → A q := fun q h => by rw [← hAe]; exact Or.inr h
  have hS : va_S A s.heap s.heap [] := va_S.rf
  have hP : va_P (dC, dI) vwCl [(h0, .inr (5, [.ref jb, .ref qm, .int mc, .ref qh, .ref qk, .ref qf, .int bg, .ref jp])), (qk, .inl (kk, 9, .inr (.inr (.inr (.inr fo))))), (ro2, .inl (kr2, 8, .inl fr2)), (qf, .inl (kf, 9, .inr (.inl ff))), (jb, .inr (0, [av0, .ref aq1, av2, av3, av4, av5, av6, av7, .long afees, av9, av10, av11, av12])), (aq1, .inl (ak1, 8, .inl ag1))] s.heap := hP
  have hl := lv_entry ([.ref h0, .int 2]) (n := 2) (Nat.le_of_ble_eq_true rfl)
  rw [lg_entry_eq]
  generalize (lg_sl ([.ref h0, .int 2]) ++ List.replicate (2 - (lg_sl ([.ref h0, .int 2])).length) Slot.unset).toArray = ls at hl ⊢
  have hl : lv_has ls 2 [(0, .ref h0), (1, .int 2)] := hl
  refine lv_iload_n hx hb dX6_undo_0 rfl (lv_at hl 1 rfl) ?_
  refine lv_bipush (v := 8) hx hb dX6_undo_1 (by decide) ?_
  refine lv_icmp_le (tgt := 7) hx hb dX6_undo_3 (by decide) (fun c1 => ?_) (fun c1 => absurd (by decide) c1)
  refine lv_aload_n hx hb dX6_undo_7 rfl (lv_at hl 0 rfl) ?_
  refine va_get (D := (dC, dI)) (ci := 5) (v := .ref qk) (C := RX6) (T := TX6) (N := 8) hx hb hts in_X6_undo_X6 hown hK hP 0 rfl rfl 4 (by decide) (hts (.fieldLink RX6 20 "ClearingGates$Runner" "keptBalances" "[[I") (List.mem_of_getElem? (i := 1) (by decide +kernel))) (fun _ h9 => h9) rfl dX6_undo_8 ?_
  refine lv_iload_n hx hb dX6_undo_11 rfl (lv_at hl 1 rfl) ?_
  refine va_aldm (D := (dC, dI)) hx hb hK hP 1 0 rfl rfl (vp_in_iff.mpr ⟨by decide, by decide⟩) dX6_undo_12 ?_
  rw [show va_rf (fo (2 : Int32).toNatClampNeg) = .ref ro2 from by rw [show (2 : Int32).toNatClampNeg = 2 from rfl, hf2]; rfl]
  refine lv_iconst (v := 0) hx hb dX6_undo_13 (by decide) ?_
  refine lv_aload_n hx hb dX6_undo_14 rfl (lv_at hl 0 rfl) ?_
  refine va_get (D := (dC, dI)) (ci := 5) (v := .ref jb) (C := RX6) (T := TX6) (N := 8) hx hb hts in_X6_undo_X6 hown hK hP 0 rfl rfl 0 (by decide) (hts (.fieldLink RX6 27 "ClearingGates$Runner" "books" "LClearingGates$Books;") (List.mem_of_getElem? (i := 2) (by decide +kernel))) (fun _ h9 => h9) rfl dX6_undo_15 ?_
  refine va_get (D := (dC, dI)) (ci := 0) (v := .ref aq1) (C := RX0) (T := TX0) (N := 13) hx hb hts in_X6_undo_X0 hown hK hP 4 rfl rfl 1 (by decide) (hts (.fieldLink RX6 134 "ClearingGates$Books" "balances" "[I") (List.mem_of_getElem? (i := 3) (by decide +kernel))) (fun _ h9 => h9) rfl dX6_undo_18 ?_
  refine lv_iconst (v := 0) hx hb dX6_undo_21 (by decide) ?_
  refine lv_bipush (v := 8) hx hb dX6_undo_22 (by decide) ?_
  refine va_copyi (D := (dC, dI)) hx hb (hml.trans hl.1.symm) hown (hts (.methodLink RX6 154 arraycopyName) (List.mem_of_getElem? (i := 4) (by decide +kernel))) (hts (.native arraycopyName) (List.mem_of_getElem? (i := 5) (by decide +kernel))) (hts (.static arraycopyName) (List.mem_of_getElem? (i := 6) (by decide +kernel))) (hts (.initialized "java/lang/System") (List.mem_of_getElem? (i := 7) (by decide +kernel))) hK hP hD hS 2 5 1 3 rfl rfl rfl rfl rfl (by decide) (by decide) (by decide) (by decide) (by decide) (fun _ _ => rfl) (Nat.le_of_ble_eq_true rfl) (by decide) dX6_undo_24 (fun H locs hP hD hS => ?_)
  generalize e_g2 : (va_cpy fr2 ag1 (0 : Int32).toNatClampNeg (0 : Int32).toNatClampNeg (8 : Int32).toNatClampNeg) = g2 at hP hD
  have hP : va_P (dC, dI) vwCl [(h0, .inr (5, [.ref jb, .ref qm, .int mc, .ref qh, .ref qk, .ref qf, .int bg, .ref jp])), (qk, .inl (kk, 9, .inr (.inr (.inr (.inr fo))))), (ro2, .inl (kr2, 8, .inl fr2)), (qf, .inl (kf, 9, .inr (.inl ff))), (jb, .inr (0, [av0, .ref aq1, av2, av3, av4, av5, av6, av7, .long afees, av9, av10, av11, av12])), (aq1, .inl (ak1, 8, .inl g2))] H := hP
  have hD : va_D A [(h0, .inr (5, [.ref jb, .ref qm, .int mc, .ref qh, .ref qk, .ref qf, .int bg, .ref jp])), (qk, .inl (kk, 9, .inr (.inr (.inr (.inr fo))))), (ro2, .inl (kr2, 8, .inl fr2)), (qf, .inl (kf, 9, .inr (.inl ff))), (jb, .inr (0, [av0, .ref aq1, av2, av3, av4, av5, av6, av7, .long afees, av9, av10, av11, av12])), (aq1, .inl (ak1, 8, .inl g2))] := hD
  refine lv_aload_n hx hb dX6_undo_27 rfl (lv_at hl 0 rfl) ?_
  refine va_get (D := (dC, dI)) (ci := 5) (v := .ref jb) (C := RX6) (T := TX6) (N := 8) hx hb hts in_X6_undo_X6 hown hK hP 0 rfl rfl 0 (by decide) (hts (.fieldLink RX6 27 "ClearingGates$Runner" "books" "LClearingGates$Books;") (List.mem_of_getElem? (i := 2) (by decide +kernel))) (fun _ h9 => h9) rfl dX6_undo_28 ?_
  refine lv_aload_n hx hb dX6_undo_31 rfl (lv_at hl 0 rfl) ?_
  refine va_get (D := (dC, dI)) (ci := 5) (v := .ref qf) (C := RX6) (T := TX6) (N := 8) hx hb hts in_X6_undo_X6 hown hK hP 0 rfl rfl 5 (by decide) (hts (.fieldLink RX6 23 "ClearingGates$Runner" "keptFees" "[J") (List.mem_of_getElem? (i := 8) (by decide +kernel))) (fun _ h9 => h9) rfl dX6_undo_32 ?_
  refine lv_iload_n hx hb dX6_undo_35 rfl (lv_at hl 1 rfl) ?_
  refine va_lald (D := (dC, dI)) hx hb hK hP 3 2 rfl rfl (vp_in_iff.mpr ⟨by decide, by decide⟩) dX6_undo_36 ?_
  refine lv_topl (fun z3 e_z3 => ?_)
  refine va_put (D := (dC, dI)) (ci := 0) (v := .long z3) (ty := .long) (C := RX0) (T := TX0) (N := 13) hx hb hts in_X6_undo_X0 tyX0 tyX0_ok nmX0 hown hK hP hD hS 4 rfl rfl 8 (by decide) (hts (.fieldLink RX6 141 "ClearingGates$Books" "fees" "J") (List.mem_of_getElem? (i := 9) (by decide +kernel))) (fun _ h9 => h9) rfl (by decide +kernel) rfl rfl (Nat.le_of_ble_eq_true rfl) dX6_undo_37 (fun H locs hP hD hS => ?_)
  have hP : va_P (dC, dI) vwCl [(h0, .inr (5, [.ref jb, .ref qm, .int mc, .ref qh, .ref qk, .ref qf, .int bg, .ref jp])), (qk, .inl (kk, 9, .inr (.inr (.inr (.inr fo))))), (ro2, .inl (kr2, 8, .inl fr2)), (qf, .inl (kf, 9, .inr (.inl ff))), (jb, .inr (0, [av0, .ref aq1, av2, av3, av4, av5, av6, av7, .long z3, av9, av10, av11, av12])), (aq1, .inl (ak1, 8, .inl g2))] H := hP
  have hD : va_D A [(h0, .inr (5, [.ref jb, .ref qm, .int mc, .ref qh, .ref qk, .ref qf, .int bg, .ref jp])), (qk, .inl (kk, 9, .inr (.inr (.inr (.inr fo))))), (ro2, .inl (kr2, 8, .inl fr2)), (qf, .inl (kf, 9, .inr (.inl ff))), (jb, .inr (0, [av0, .ref aq1, av2, av3, av4, av5, av6, av7, .long z3, av9, av10, av11, av12])), (aq1, .inl (ak1, 8, .inl g2))] := hD
  have hP9 := hP.sub (ws' := [(h0, .inr (5, [.ref jb, .ref qm, .int mc, .ref qh, .ref qk, .ref qf, .int bg, .ref jp])), (qk, .inl (kk, 9, .inr (.inr (.inr (.inr fo))))), (ro2, .inl (kr2, 8, .inl fr2)), (qf, .inl (kf, 9, .inr (.inl ff))), (jb, .inr (0, [av0, .ref aq1, av2, av3, av4, av5, av6, av7, .long z3, av9, av10, av11, av12])), (aq1, .inl (ak1, 8, .inl g2))]) [0, 1, 2, 3, 4, 5] rfl
  have hD9 := hD.sub (ws' := [(h0, .inr (5, [.ref jb, .ref qm, .int mc, .ref qh, .ref qk, .ref qf, .int bg, .ref jp])), (qk, .inl (kk, 9, .inr (.inr (.inr (.inr fo))))), (ro2, .inl (kr2, 8, .inl fr2)), (qf, .inl (kf, 9, .inr (.inl ff))), (jb, .inr (0, [av0, .ref aq1, av2, av3, av4, av5, av6, av7, .long z3, av9, av10, av11, av12])), (aq1, .inl (ak1, 8, .inl g2))]) [0, 1, 2, 3, 4, 5] (by decide) rfl
  have hK9 := hK.sub (tys' := [(kk, .array .int), (kr2, .int), (kf, .long), (ak1, .int)]) [0, 1, 2, 3] rfl
  exact W.vret hx hb hr (fun t ht hW => ⟨⟨(), rfl, (by first | rfl | trivial), g2, z3, by rw [ht]; exact hP9, va_K.moved hW.alike hK9, hD9⟩, hS.F ht⟩) hS.2.2 dX6_undo_40

set_option maxRecDepth 100000 in
set_option maxHeartbeats 4000000 in
/-- Runner.keep at 3 -/
theorem c_X6_keep_d3 (l : Launch) (dC : Nat → ClassId) (dI : Nat → Nat → Nat) (h0 : Nat) (jb : Nat) (qm : Nat) (mc : Int32) (qh : Nat) (qk : Nat) (qf : Nat) (bg : Int32) (jp : Nat) (kk : ClassId) (fo : Nat → Option Nat) (ro3 : Nat) (kr3 : ClassId) (fr3 : Nat → Int32) (kf : ClassId) (ff : Nat → Int64) (av0 : Value) (aq1 : Nat) (av2 : Value) (av3 : Value) (av4 : Value) (av5 : Value) (av6 : Value) (av7 : Value) (afees : Int64) (av9 : Value) (av10 : Value) (av11 : Value) (av12 : Value) (ak1 : ClassId) (ag1 : Nat → Int32) (sz : Nat) (hf3 : fo 3 = some ro3) : Met l yX6_keep wsX6_keep ({ frames := 1, cells := 0, slots := 0, locals := 60 }) (va_Pc [.ref h0, .int 3] (fun U => U.heap.size = sz ∧ va_P (dC, dI) vwCl [(h0, .inr (5, [.ref jb, .ref qm, .int mc, .ref qh, .ref qk, .ref qf, .int bg, .ref jp])), (qk, .inl (kk, 9, .inr (.inr (.inr (.inr fo))))), (ro3, .inl (kr3, 8, .inl fr3)), (qf, .inl (kf, 9, .inr (.inl ff))), (jb, .inr (0, [av0, .ref aq1, av2, av3, av4, av5, av6, av7, .long afees, av9, av10, av11, av12])), (aq1, .inl (ak1, 8, .inl ag1))] U.heap ∧ va_K (dC, dI) vwCl [(kk, .array .int), (kr3, .int), (kf, .long), (ak1, .int)] U ∧ va_D (fun _ => True) [(h0, .inr (5, [.ref jb, .ref qm, .int mc, .ref qh, .ref qk, .ref qf, .int bg, .ref jp])), (qk, .inl (kk, 9, .inr (.inr (.inr (.inr fo))))), (ro3, .inl (kr3, 8, .inl fr3)), (qf, .inl (kf, 9, .inr (.inl ff))), (jb, .inr (0, [av0, .ref aq1, av2, av3, av4, av5, av6, av7, .long afees, av9, av10, av11, av12])), (aq1, .inl (ak1, 8, .inl ag1))])) (va_Qv (fun (_ : Unit) => True) (fun (_ : Unit) (t : State) => ∃ (fr3' : Nat → Int32), ∃ (ff' : Nat → Int64), va_P (dC, dI) vwCl [(h0, .inr (5, [.ref jb, .ref qm, .int mc, .ref qh, .ref qk, .ref qf, .int bg, .ref jp])), (qk, .inl (kk, 9, .inr (.inr (.inr (.inr fo))))), (ro3, .inl (kr3, 8, .inl (fr3'))), (qf, .inl (kf, 9, .inr (.inl (ff')))), (jb, .inr (0, [av0, .ref aq1, av2, av3, av4, av5, av6, av7, .long afees, av9, av10, av11, av12])), (aq1, .inl (ak1, 8, .inl ag1))] t.heap ∧ va_K (dC, dI) vwCl [(kk, .array .int), (kr3, .int), (kf, .long), (ak1, .int)] t ∧ va_D (va_A [(h0, .inr (5, [.ref jb, .ref qm, .int mc, .ref qh, .ref qk, .ref qf, .int bg, .ref jp])), (qk, .inl (kk, 9, .inr (.inr (.inr (.inr fo))))), (ro3, .inl (kr3, 8, .inl fr3)), (qf, .inl (kf, 9, .inr (.inl ff))), (jb, .inr (0, [av0, .ref aq1, av2, av3, av4, av5, av6, av7, .long afees, av9, av10, av11, av12])), (aq1, .inl (ak1, 8, .inl ag1))] sz) [(h0, .inr (5, [.ref jb, .ref qm, .int mc, .ref qh, .ref qk, .ref qf, .int bg, .ref jp])), (qk, .inl (kk, 9, .inr (.inr (.inr (.inr fo))))), (ro3, .inl (kr3, 8, .inl (fr3'))), (qf, .inl (kf, 9, .inr (.inl (ff')))), (jb, .inr (0, [av0, .ref aq1, av2, av3, av4, av5, av6, av7, .long afees, av9, av10, av11, av12])), (aq1, .inl (ak1, 8, .inl ag1))]) (va_A [(h0, .inr (5, [.ref jb, .ref qm, .int mc, .ref qh, .ref qk, .ref qf, .int bg, .ref jp])), (qk, .inl (kk, 9, .inr (.inr (.inr (.inr fo))))), (ro3, .inl (kr3, 8, .inl fr3)), (qf, .inl (kf, 9, .inr (.inl ff))), (jb, .inr (0, [av0, .ref aq1, av2, av3, av4, av5, av6, av7, .long afees, av9, av10, av11, av12])), (aq1, .inl (ak1, 8, .inl ag1))] sz)) 0 0 (va_A [(h0, .inr (5, [.ref jb, .ref qm, .int mc, .ref qh, .ref qk, .ref qf, .int bg, .ref jp])), (qk, .inl (kk, 9, .inr (.inr (.inr (.inr fo))))), (ro3, .inl (kr3, 8, .inl fr3)), (qf, .inl (kf, 9, .inr (.inl ff))), (jb, .inr (0, [av0, .ref aq1, av2, av3, av4, av5, av6, av7, .long afees, av9, av10, av11, av12])), (aq1, .inl (ak1, 8, .inl ag1))] sz) := by
  refine Met.ofW (cc := cX6_keep) (maxL := 2) (ret := none) (by decide) rfl ?_
  intro p e s m args below meth c s₁ B hml hv
  obtain ⟨rfl, hsz, hP, hK, hD0⟩ := hv
  have hx := B.exec
  have hb := B.bytes
  have hr := B.returns
  have hts := atoms_spec (ws := wsX6_keep) B.pre
  have hown : s.vm.findClass RX6 = some m.cls := findClass_of_methodNamed B.named
  have hlocks := B.notSynchronized
  subst hsz
  have hD := hD0.self (sz := s.heap.size)
  generalize hAe : va_A [(h0, .inr (5, [.ref jb, .ref qm, .int mc, .ref qh, .ref qk, .ref qf, .int bg, .ref jp])), (qk, .inl (kk, 9, .inr (.inr (.inr (.inr fo))))), (ro3, .inl (kr3, 8, .inl fr3)), (qf, .inl (kf, 9, .inr (.inl ff))), (jb, .inr (0, [av0, .ref aq1, av2, av3, av4, av5, av6, av7, .long afees, av9, av10, av11, av12])), (aq1, .inl (ak1, 8, .inl ag1))] s.heap.size = A at hD ⊢
  have hA : ∀ q : Nat, s.heap.size ≤ q → A q := fun q h => by rw [← hAe]; exact Or.inr h
  have hS : va_S A s.heap s.heap [] := va_S.rf
  have hP : va_P (dC, dI) vwCl [(h0, .inr (5, [.ref jb, .ref qm, .int mc, .ref qh, .ref qk, .ref qf, .int bg, .ref jp])), (qk, .inl (kk, 9, .inr (.inr (.inr (.inr fo))))), (ro3, .inl (kr3, 8, .inl fr3)), (qf, .inl (kf, 9, .inr (.inl ff))), (jb, .inr (0, [av0, .ref aq1, av2, av3, av4, av5, av6, av7, .long afees, av9, av10, av11, av12])), (aq1, .inl (ak1, 8, .inl ag1))] s.heap := hP
  have hl := lv_entry ([.ref h0, .int 3]) (n := 2) (Nat.le_of_ble_eq_true rfl)
  rw [lg_entry_eq]
  generalize (lg_sl ([.ref h0, .int 3]) ++ List.replicate (2 - (lg_sl ([.ref h0, .int 3])).length) Slot.unset).toArray = ls at hl ⊢
  have hl : lv_has ls 2 [(0, .ref h0), (1, .int 3)] := hl
  refine lv_iload_n hx hb dX6_keep_0 rfl (lv_at hl 1 rfl) ?_
  refine lv_bipush (v := 8) hx hb dX6_keep_1 (by decide) ?_
  refine lv_icmp_le (tgt := 7) hx hb dX6_keep_3 (by decide) (fun c1 => ?_) (fun c1 => absurd (by decide) c1)
  refine lv_aload_n hx hb dX6_keep_7 rfl (lv_at hl 0 rfl) ?_
  refine va_get (D := (dC, dI)) (ci := 5) (v := .ref jb) (C := RX6) (T := TX6) (N := 8) hx hb hts in_X6_keep_X6 hown hK hP 0 rfl rfl 0 (by decide) (hts (.fieldLink RX6 27 "ClearingGates$Runner" "books" "LClearingGates$Books;") (List.mem_of_getElem? (i := 1) (by decide +kernel))) (fun _ h9 => h9) rfl dX6_keep_8 ?_
  refine va_get (D := (dC, dI)) (ci := 0) (v := .ref aq1) (C := RX0) (T := TX0) (N := 13) hx hb hts in_X6_keep_X0 hown hK hP 4 rfl rfl 1 (by decide) (hts (.fieldLink RX6 134 "ClearingGates$Books" "balances" "[I") (List.mem_of_getElem? (i := 2) (by decide +kernel))) (fun _ h9 => h9) rfl dX6_keep_11 ?_
  refine lv_iconst (v := 0) hx hb dX6_keep_14 (by decide) ?_
  refine lv_aload_n hx hb dX6_keep_15 rfl (lv_at hl 0 rfl) ?_
  refine va_get (D := (dC, dI)) (ci := 5) (v := .ref qk) (C := RX6) (T := TX6) (N := 8) hx hb hts in_X6_keep_X6 hown hK hP 0 rfl rfl 4 (by decide) (hts (.fieldLink RX6 20 "ClearingGates$Runner" "keptBalances" "[[I") (List.mem_of_getElem? (i := 3) (by decide +kernel))) (fun _ h9 => h9) rfl dX6_keep_16 ?_
  refine lv_iload_n hx hb dX6_keep_19 rfl (lv_at hl 1 rfl) ?_
  refine va_aldm (D := (dC, dI)) hx hb hK hP 1 0 rfl rfl (vp_in_iff.mpr ⟨by decide, by decide⟩) dX6_keep_20 ?_
  rw [show va_rf (fo (3 : Int32).toNatClampNeg) = .ref ro3 from by rw [show (3 : Int32).toNatClampNeg = 3 from rfl, hf3]; rfl]
  refine lv_iconst (v := 0) hx hb dX6_keep_21 (by decide) ?_
  refine lv_bipush (v := 8) hx hb dX6_keep_22 (by decide) ?_
  refine va_copyi (D := (dC, dI)) hx hb (hml.trans hl.1.symm) hown (hts (.methodLink RX6 154 arraycopyName) (List.mem_of_getElem? (i := 4) (by decide +kernel))) (hts (.native arraycopyName) (List.mem_of_getElem? (i := 5) (by decide +kernel))) (hts (.static arraycopyName) (List.mem_of_getElem? (i := 6) (by decide +kernel))) (hts (.initialized "java/lang/System") (List.mem_of_getElem? (i := 7) (by decide +kernel))) hK hP hD hS 5 2 3 1 rfl rfl rfl rfl rfl (by decide) (by decide) (by decide) (by decide) (by decide) (fun _ _ => rfl) (Nat.le_of_ble_eq_true rfl) (by decide) dX6_keep_24 (fun H locs hP hD hS => ?_)
  generalize e_g2 : (va_cpy ag1 fr3 (0 : Int32).toNatClampNeg (0 : Int32).toNatClampNeg (8 : Int32).toNatClampNeg) = g2 at hP hD
  have hP : va_P (dC, dI) vwCl [(h0, .inr (5, [.ref jb, .ref qm, .int mc, .ref qh, .ref qk, .ref qf, .int bg, .ref jp])), (qk, .inl (kk, 9, .inr (.inr (.inr (.inr fo))))), (ro3, .inl (kr3, 8, .inl g2)), (qf, .inl (kf, 9, .inr (.inl ff))), (jb, .inr (0, [av0, .ref aq1, av2, av3, av4, av5, av6, av7, .long afees, av9, av10, av11, av12])), (aq1, .inl (ak1, 8, .inl ag1))] H := hP
  have hD : va_D A [(h0, .inr (5, [.ref jb, .ref qm, .int mc, .ref qh, .ref qk, .ref qf, .int bg, .ref jp])), (qk, .inl (kk, 9, .inr (.inr (.inr (.inr fo))))), (ro3, .inl (kr3, 8, .inl g2)), (qf, .inl (kf, 9, .inr (.inl ff))), (jb, .inr (0, [av0, .ref aq1, av2, av3, av4, av5, av6, av7, .long afees, av9, av10, av11, av12])), (aq1, .inl (ak1, 8, .inl ag1))] := hD
  refine lv_aload_n hx hb dX6_keep_27 rfl (lv_at hl 0 rfl) ?_
  refine va_get (D := (dC, dI)) (ci := 5) (v := .ref qf) (C := RX6) (T := TX6) (N := 8) hx hb hts in_X6_keep_X6 hown hK hP 0 rfl rfl 5 (by decide) (hts (.fieldLink RX6 23 "ClearingGates$Runner" "keptFees" "[J") (List.mem_of_getElem? (i := 8) (by decide +kernel))) (fun _ h9 => h9) rfl dX6_keep_28 ?_
  refine lv_iload_n hx hb dX6_keep_31 rfl (lv_at hl 1 rfl) ?_
  refine lv_aload_n hx hb dX6_keep_32 rfl (lv_at hl 0 rfl) ?_
  refine va_get (D := (dC, dI)) (ci := 5) (v := .ref jb) (C := RX6) (T := TX6) (N := 8) hx hb hts in_X6_keep_X6 hown hK hP 0 rfl rfl 0 (by decide) (hts (.fieldLink RX6 27 "ClearingGates$Runner" "books" "LClearingGates$Books;") (List.mem_of_getElem? (i := 1) (by decide +kernel))) (fun _ h9 => h9) rfl dX6_keep_33 ?_
  refine va_get (D := (dC, dI)) (ci := 0) (v := .long afees) (C := RX0) (T := TX0) (N := 13) hx hb hts in_X6_keep_X0 hown hK hP 4 rfl rfl 8 (by decide) (hts (.fieldLink RX6 141 "ClearingGates$Books" "fees" "J") (List.mem_of_getElem? (i := 9) (by decide +kernel))) (fun _ h9 => h9) rfl dX6_keep_36 ?_
  refine va_last (D := (dC, dI)) hx hb hK hP hD hS 3 2 rfl rfl (vp_in_iff.mpr ⟨by decide, by decide⟩) dX6_keep_39 (fun H locs hP hD hS => ?_)
  generalize e_g3 : (vp_updL ff ((3 : Int32)).toNatClampNeg afees) = g3 at hP hD
  have hP : va_P (dC, dI) vwCl [(h0, .inr (5, [.ref jb, .ref qm, .int mc, .ref qh, .ref qk, .ref qf, .int bg, .ref jp])), (qk, .inl (kk, 9, .inr (.inr (.inr (.inr fo))))), (ro3, .inl (kr3, 8, .inl g2)), (qf, .inl (kf, 9, .inr (.inl g3))), (jb, .inr (0, [av0, .ref aq1, av2, av3, av4, av5, av6, av7, .long afees, av9, av10, av11, av12])), (aq1, .inl (ak1, 8, .inl ag1))] H := hP
  have hD : va_D A [(h0, .inr (5, [.ref jb, .ref qm, .int mc, .ref qh, .ref qk, .ref qf, .int bg, .ref jp])), (qk, .inl (kk, 9, .inr (.inr (.inr (.inr fo))))), (ro3, .inl (kr3, 8, .inl g2)), (qf, .inl (kf, 9, .inr (.inl g3))), (jb, .inr (0, [av0, .ref aq1, av2, av3, av4, av5, av6, av7, .long afees, av9, av10, av11, av12])), (aq1, .inl (ak1, 8, .inl ag1))] := hD
  have hP9 := hP.sub (ws' := [(h0, .inr (5, [.ref jb, .ref qm, .int mc, .ref qh, .ref qk, .ref qf, .int bg, .ref jp])), (qk, .inl (kk, 9, .inr (.inr (.inr (.inr fo))))), (ro3, .inl (kr3, 8, .inl g2)), (qf, .inl (kf, 9, .inr (.inl g3))), (jb, .inr (0, [av0, .ref aq1, av2, av3, av4, av5, av6, av7, .long afees, av9, av10, av11, av12])), (aq1, .inl (ak1, 8, .inl ag1))]) [0, 1, 2, 3, 4, 5] rfl
  have hD9 := hD.sub (ws' := [(h0, .inr (5, [.ref jb, .ref qm, .int mc, .ref qh, .ref qk, .ref qf, .int bg, .ref jp])), (qk, .inl (kk, 9, .inr (.inr (.inr (.inr fo))))), (ro3, .inl (kr3, 8, .inl g2)), (qf, .inl (kf, 9, .inr (.inl g3))), (jb, .inr (0, [av0, .ref aq1, av2, av3, av4, av5, av6, av7, .long afees, av9, av10, av11, av12])), (aq1, .inl (ak1, 8, .inl ag1))]) [0, 1, 2, 3, 4, 5] (by decide) rfl
  have hK9 := hK.sub (tys' := [(kk, .array .int), (kr3, .int), (kf, .long), (ak1, .int)]) [0, 1, 2, 3] rfl
  exact W.vret hx hb hr (fun t ht hW => ⟨⟨(), rfl, (by first | rfl | trivial), g2, g3, by rw [ht]; exact hP9, va_K.moved hW.alike hK9, hD9⟩, hS.F ht⟩) hS.2.2 dX6_keep_40

set_option maxRecDepth 100000 in
set_option maxHeartbeats 4000000 in
/-- Runner.undo at 3 -/
theorem c_X6_undo_d3 (l : Launch) (dC : Nat → ClassId) (dI : Nat → Nat → Nat) (h0 : Nat) (jb : Nat) (qm : Nat) (mc : Int32) (qh : Nat) (qk : Nat) (qf : Nat) (bg : Int32) (jp : Nat) (kk : ClassId) (fo : Nat → Option Nat) (ro3 : Nat) (kr3 : ClassId) (fr3 : Nat → Int32) (kf : ClassId) (ff : Nat → Int64) (av0 : Value) (aq1 : Nat) (av2 : Value) (av3 : Value) (av4 : Value) (av5 : Value) (av6 : Value) (av7 : Value) (afees : Int64) (av9 : Value) (av10 : Value) (av11 : Value) (av12 : Value) (ak1 : ClassId) (ag1 : Nat → Int32) (sz : Nat) (hf3 : fo 3 = some ro3) : Met l yX6_undo wsX6_undo ({ frames := 1, cells := 0, slots := 0, locals := 60 }) (va_Pc [.ref h0, .int 3] (fun U => U.heap.size = sz ∧ va_P (dC, dI) vwCl [(h0, .inr (5, [.ref jb, .ref qm, .int mc, .ref qh, .ref qk, .ref qf, .int bg, .ref jp])), (qk, .inl (kk, 9, .inr (.inr (.inr (.inr fo))))), (ro3, .inl (kr3, 8, .inl fr3)), (qf, .inl (kf, 9, .inr (.inl ff))), (jb, .inr (0, [av0, .ref aq1, av2, av3, av4, av5, av6, av7, .long afees, av9, av10, av11, av12])), (aq1, .inl (ak1, 8, .inl ag1))] U.heap ∧ va_K (dC, dI) vwCl [(kk, .array .int), (kr3, .int), (kf, .long), (ak1, .int)] U ∧ va_D (fun _ => True) [(h0, .inr (5, [.ref jb, .ref qm, .int mc, .ref qh, .ref qk, .ref qf, .int bg, .ref jp])), (qk, .inl (kk, 9, .inr (.inr (.inr (.inr fo))))), (ro3, .inl (kr3, 8, .inl fr3)), (qf, .inl (kf, 9, .inr (.inl ff))), (jb, .inr (0, [av0, .ref aq1, av2, av3, av4, av5, av6, av7, .long afees, av9, av10, av11, av12])), (aq1, .inl (ak1, 8, .inl ag1))])) (va_Qv (fun (_ : Unit) => True) (fun (_ : Unit) (t : State) => ∃ (ag1' : Nat → Int32), ∃ (afees' : Int64), va_P (dC, dI) vwCl [(h0, .inr (5, [.ref jb, .ref qm, .int mc, .ref qh, .ref qk, .ref qf, .int bg, .ref jp])), (qk, .inl (kk, 9, .inr (.inr (.inr (.inr fo))))), (ro3, .inl (kr3, 8, .inl fr3)), (qf, .inl (kf, 9, .inr (.inl ff))), (jb, .inr (0, [av0, .ref aq1, av2, av3, av4, av5, av6, av7, .long afees', av9, av10, av11, av12])), (aq1, .inl (ak1, 8, .inl (ag1')))] t.heap ∧ va_K (dC, dI) vwCl [(kk, .array .int), (kr3, .int), (kf, .long), (ak1, .int)] t ∧ va_D (va_A [(h0, .inr (5, [.ref jb, .ref qm, .int mc, .ref qh, .ref qk, .ref qf, .int bg, .ref jp])), (qk, .inl (kk, 9, .inr (.inr (.inr (.inr fo))))), (ro3, .inl (kr3, 8, .inl fr3)), (qf, .inl (kf, 9, .inr (.inl ff))), (jb, .inr (0, [av0, .ref aq1, av2, av3, av4, av5, av6, av7, .long afees, av9, av10, av11, av12])), (aq1, .inl (ak1, 8, .inl ag1))] sz) [(h0, .inr (5, [.ref jb, .ref qm, .int mc, .ref qh, .ref qk, .ref qf, .int bg, .ref jp])), (qk, .inl (kk, 9, .inr (.inr (.inr (.inr fo))))), (ro3, .inl (kr3, 8, .inl fr3)), (qf, .inl (kf, 9, .inr (.inl ff))), (jb, .inr (0, [av0, .ref aq1, av2, av3, av4, av5, av6, av7, .long afees', av9, av10, av11, av12])), (aq1, .inl (ak1, 8, .inl (ag1')))]) (va_A [(h0, .inr (5, [.ref jb, .ref qm, .int mc, .ref qh, .ref qk, .ref qf, .int bg, .ref jp])), (qk, .inl (kk, 9, .inr (.inr (.inr (.inr fo))))), (ro3, .inl (kr3, 8, .inl fr3)), (qf, .inl (kf, 9, .inr (.inl ff))), (jb, .inr (0, [av0, .ref aq1, av2, av3, av4, av5, av6, av7, .long afees, av9, av10, av11, av12])), (aq1, .inl (ak1, 8, .inl ag1))] sz)) 0 0 (va_A [(h0, .inr (5, [.ref jb, .ref qm, .int mc, .ref qh, .ref qk, .ref qf, .int bg, .ref jp])), (qk, .inl (kk, 9, .inr (.inr (.inr (.inr fo))))), (ro3, .inl (kr3, 8, .inl fr3)), (qf, .inl (kf, 9, .inr (.inl ff))), (jb, .inr (0, [av0, .ref aq1, av2, av3, av4, av5, av6, av7, .long afees, av9, av10, av11, av12])), (aq1, .inl (ak1, 8, .inl ag1))] sz) := by
  refine Met.ofW (cc := cX6_undo) (maxL := 2) (ret := none) (by decide) rfl ?_
  intro p e s m args below meth c s₁ B hml hv
  obtain ⟨rfl, hsz, hP, hK, hD0⟩ := hv
  have hx := B.exec
  have hb := B.bytes
  have hr := B.returns
  have hts := atoms_spec (ws := wsX6_undo) B.pre
  have hown : s.vm.findClass RX6 = some m.cls := findClass_of_methodNamed B.named
  have hlocks := B.notSynchronized
  subst hsz
  have hD := hD0.self (sz := s.heap.size)
  generalize hAe : va_A [(h0, .inr (5, [.ref jb, .ref qm, .int mc, .ref qh, .ref qk, .ref qf, .int bg, .ref jp])), (qk, .inl (kk, 9, .inr (.inr (.inr (.inr fo))))), (ro3, .inl (kr3, 8, .inl fr3)), (qf, .inl (kf, 9, .inr (.inl ff))), (jb, .inr (0, [av0, .ref aq1, av2, av3, av4, av5, av6, av7, .long afees, av9, av10, av11, av12])), (aq1, .inl (ak1, 8, .inl ag1))] s.heap.size = A at hD ⊢
  have hA : ∀ q : Nat, s.heap.size ≤ q → A q := fun q h => by rw [← hAe]; exact Or.inr h
  have hS : va_S A s.heap s.heap [] := va_S.rf
  have hP : va_P (dC, dI) vwCl [(h0, .inr (5, [.ref jb, .ref qm, .int mc, .ref qh, .ref qk, .ref qf, .int bg, .ref jp])), (qk, .inl (kk, 9, .inr (.inr (.inr (.inr fo))))), (ro3, .inl (kr3, 8, .inl fr3)), (qf, .inl (kf, 9, .inr (.inl ff))), (jb, .inr (0, [av0, .ref aq1, av2, av3, av4, av5, av6, av7, .long afees, av9, av10, av11, av12])), (aq1, .inl (ak1, 8, .inl ag1))] s.heap := hP
  have hl := lv_entry ([.ref h0, .int 3]) (n := 2) (Nat.le_of_ble_eq_true rfl)
  rw [lg_entry_eq]
  generalize (lg_sl ([.ref h0, .int 3]) ++ List.replicate (2 - (lg_sl ([.ref h0, .int 3])).length) Slot.unset).toArray = ls at hl ⊢
  have hl : lv_has ls 2 [(0, .ref h0), (1, .int 3)] := hl
  refine lv_iload_n hx hb dX6_undo_0 rfl (lv_at hl 1 rfl) ?_
  refine lv_bipush (v := 8) hx hb dX6_undo_1 (by decide) ?_
  refine lv_icmp_le (tgt := 7) hx hb dX6_undo_3 (by decide) (fun c1 => ?_) (fun c1 => absurd (by decide) c1)
  refine lv_aload_n hx hb dX6_undo_7 rfl (lv_at hl 0 rfl) ?_
  refine va_get (D := (dC, dI)) (ci := 5) (v := .ref qk) (C := RX6) (T := TX6) (N := 8) hx hb hts in_X6_undo_X6 hown hK hP 0 rfl rfl 4 (by decide) (hts (.fieldLink RX6 20 "ClearingGates$Runner" "keptBalances" "[[I") (List.mem_of_getElem? (i := 1) (by decide +kernel))) (fun _ h9 => h9) rfl dX6_undo_8 ?_
  refine lv_iload_n hx hb dX6_undo_11 rfl (lv_at hl 1 rfl) ?_
  refine va_aldm (D := (dC, dI)) hx hb hK hP 1 0 rfl rfl (vp_in_iff.mpr ⟨by decide, by decide⟩) dX6_undo_12 ?_
  rw [show va_rf (fo (3 : Int32).toNatClampNeg) = .ref ro3 from by rw [show (3 : Int32).toNatClampNeg = 3 from rfl, hf3]; rfl]
  refine lv_iconst (v := 0) hx hb dX6_undo_13 (by decide) ?_
  refine lv_aload_n hx hb dX6_undo_14 rfl (lv_at hl 0 rfl) ?_
  refine va_get (D := (dC, dI)) (ci := 5) (v := .ref jb) (C := RX6) (T := TX6) (N := 8) hx hb hts in_X6_undo_X6 hown hK hP 0 rfl rfl 0 (by decide) (hts (.fieldLink RX6 27 "ClearingGates$Runner" "books" "LClearingGates$Books;") (List.mem_of_getElem? (i := 2) (by decide +kernel))) (fun _ h9 => h9) rfl dX6_undo_15 ?_
  refine va_get (D := (dC, dI)) (ci := 0) (v := .ref aq1) (C := RX0) (T := TX0) (N := 13) hx hb hts in_X6_undo_X0 hown hK hP 4 rfl rfl 1 (by decide) (hts (.fieldLink RX6 134 "ClearingGates$Books" "balances" "[I") (List.mem_of_getElem? (i := 3) (by decide +kernel))) (fun _ h9 => h9) rfl dX6_undo_18 ?_
  refine lv_iconst (v := 0) hx hb dX6_undo_21 (by decide) ?_
  refine lv_bipush (v := 8) hx hb dX6_undo_22 (by decide) ?_
  refine va_copyi (D := (dC, dI)) hx hb (hml.trans hl.1.symm) hown (hts (.methodLink RX6 154 arraycopyName) (List.mem_of_getElem? (i := 4) (by decide +kernel))) (hts (.native arraycopyName) (List.mem_of_getElem? (i := 5) (by decide +kernel))) (hts (.static arraycopyName) (List.mem_of_getElem? (i := 6) (by decide +kernel))) (hts (.initialized "java/lang/System") (List.mem_of_getElem? (i := 7) (by decide +kernel))) hK hP hD hS 2 5 1 3 rfl rfl rfl rfl rfl (by decide) (by decide) (by decide) (by decide) (by decide) (fun _ _ => rfl) (Nat.le_of_ble_eq_true rfl) (by decide) dX6_undo_24 (fun H locs hP hD hS => ?_)
  generalize e_g2 : (va_cpy fr3 ag1 (0 : Int32).toNatClampNeg (0 : Int32).toNatClampNeg (8 : Int32).toNatClampNeg) = g2 at hP hD
  have hP : va_P (dC, dI) vwCl [(h0, .inr (5, [.ref jb, .ref qm, .int mc, .ref qh, .ref qk, .ref qf, .int bg, .ref jp])), (qk, .inl (kk, 9, .inr (.inr (.inr (.inr fo))))), (ro3, .inl (kr3, 8, .inl fr3)), (qf, .inl (kf, 9, .inr (.inl ff))), (jb, .inr (0, [av0, .ref aq1, av2, av3, av4, av5, av6, av7, .long afees, av9, av10, av11, av12])), (aq1, .inl (ak1, 8, .inl g2))] H := hP
  have hD : va_D A [(h0, .inr (5, [.ref jb, .ref qm, .int mc, .ref qh, .ref qk, .ref qf, .int bg, .ref jp])), (qk, .inl (kk, 9, .inr (.inr (.inr (.inr fo))))), (ro3, .inl (kr3, 8, .inl fr3)), (qf, .inl (kf, 9, .inr (.inl ff))), (jb, .inr (0, [av0, .ref aq1, av2, av3, av4, av5, av6, av7, .long afees, av9, av10, av11, av12])), (aq1, .inl (ak1, 8, .inl g2))] := hD
  refine lv_aload_n hx hb dX6_undo_27 rfl (lv_at hl 0 rfl) ?_
  refine va_get (D := (dC, dI)) (ci := 5) (v := .ref jb) (C := RX6) (T := TX6) (N := 8) hx hb hts in_X6_undo_X6 hown hK hP 0 rfl rfl 0 (by decide) (hts (.fieldLink RX6 27 "ClearingGates$Runner" "books" "LClearingGates$Books;") (List.mem_of_getElem? (i := 2) (by decide +kernel))) (fun _ h9 => h9) rfl dX6_undo_28 ?_
  refine lv_aload_n hx hb dX6_undo_31 rfl (lv_at hl 0 rfl) ?_
  refine va_get (D := (dC, dI)) (ci := 5) (v := .ref qf) (C := RX6) (T := TX6) (N := 8) hx hb hts in_X6_undo_X6 hown hK hP 0 rfl rfl 5 (by decide) (hts (.fieldLink RX6 23 "ClearingGates$Runner" "keptFees" "[J") (List.mem_of_getElem? (i := 8) (by decide +kernel))) (fun _ h9 => h9) rfl dX6_undo_32 ?_
  refine lv_iload_n hx hb dX6_undo_35 rfl (lv_at hl 1 rfl) ?_
  refine va_lald (D := (dC, dI)) hx hb hK hP 3 2 rfl rfl (vp_in_iff.mpr ⟨by decide, by decide⟩) dX6_undo_36 ?_
  refine lv_topl (fun z3 e_z3 => ?_)
  refine va_put (D := (dC, dI)) (ci := 0) (v := .long z3) (ty := .long) (C := RX0) (T := TX0) (N := 13) hx hb hts in_X6_undo_X0 tyX0 tyX0_ok nmX0 hown hK hP hD hS 4 rfl rfl 8 (by decide) (hts (.fieldLink RX6 141 "ClearingGates$Books" "fees" "J") (List.mem_of_getElem? (i := 9) (by decide +kernel))) (fun _ h9 => h9) rfl (by decide +kernel) rfl rfl (Nat.le_of_ble_eq_true rfl) dX6_undo_37 (fun H locs hP hD hS => ?_)
  have hP : va_P (dC, dI) vwCl [(h0, .inr (5, [.ref jb, .ref qm, .int mc, .ref qh, .ref qk, .ref qf, .int bg, .ref jp])), (qk, .inl (kk, 9, .inr (.inr (.inr (.inr fo))))), (ro3, .inl (kr3, 8, .inl fr3)), (qf, .inl (kf, 9, .inr (.inl ff))), (jb, .inr (0, [av0, .ref aq1, av2, av3, av4, av5, av6, av7, .long z3, av9, av10, av11, av12])), (aq1, .inl (ak1, 8, .inl g2))] H := hP
  have hD : va_D A [(h0, .inr (5, [.ref jb, .ref qm, .int mc, .ref qh, .ref qk, .ref qf, .int bg, .ref jp])), (qk, .inl (kk, 9, .inr (.inr (.inr (.inr fo))))), (ro3, .inl (kr3, 8, .inl fr3)), (qf, .inl (kf, 9, .inr (.inl ff))), (jb, .inr (0, [av0, .ref aq1, av2, av3, av4, av5, av6, av7, .long z3, av9, av10, av11, av12])), (aq1, .inl (ak1, 8, .inl g2))] := hD
  have hP9 := hP.sub (ws' := [(h0, .inr (5, [.ref jb, .ref qm, .int mc, .ref qh, .ref qk, .ref qf, .int bg, .ref jp])), (qk, .inl (kk, 9, .inr (.inr (.inr (.inr fo))))), (ro3, .inl (kr3, 8, .inl fr3)), (qf, .inl (kf, 9, .inr (.inl ff))), (jb, .inr (0, [av0, .ref aq1, av2, av3, av4, av5, av6, av7, .long z3, av9, av10, av11, av12])), (aq1, .inl (ak1, 8, .inl g2))]) [0, 1, 2, 3, 4, 5] rfl
  have hD9 := hD.sub (ws' := [(h0, .inr (5, [.ref jb, .ref qm, .int mc, .ref qh, .ref qk, .ref qf, .int bg, .ref jp])), (qk, .inl (kk, 9, .inr (.inr (.inr (.inr fo))))), (ro3, .inl (kr3, 8, .inl fr3)), (qf, .inl (kf, 9, .inr (.inl ff))), (jb, .inr (0, [av0, .ref aq1, av2, av3, av4, av5, av6, av7, .long z3, av9, av10, av11, av12])), (aq1, .inl (ak1, 8, .inl g2))]) [0, 1, 2, 3, 4, 5] (by decide) rfl
  have hK9 := hK.sub (tys' := [(kk, .array .int), (kr3, .int), (kf, .long), (ak1, .int)]) [0, 1, 2, 3] rfl
  exact W.vret hx hb hr (fun t ht hW => ⟨⟨(), rfl, (by first | rfl | trivial), g2, z3, by rw [ht]; exact hP9, va_K.moved hW.alike hK9, hD9⟩, hS.F ht⟩) hS.2.2 dX6_undo_40

set_option maxRecDepth 100000 in
set_option maxHeartbeats 4000000 in
/-- Runner.keep at 4 -/
theorem c_X6_keep_d4 (l : Launch) (dC : Nat → ClassId) (dI : Nat → Nat → Nat) (h0 : Nat) (jb : Nat) (qm : Nat) (mc : Int32) (qh : Nat) (qk : Nat) (qf : Nat) (bg : Int32) (jp : Nat) (kk : ClassId) (fo : Nat → Option Nat) (ro4 : Nat) (kr4 : ClassId) (fr4 : Nat → Int32) (kf : ClassId) (ff : Nat → Int64) (av0 : Value) (aq1 : Nat) (av2 : Value) (av3 : Value) (av4 : Value) (av5 : Value) (av6 : Value) (av7 : Value) (afees : Int64) (av9 : Value) (av10 : Value) (av11 : Value) (av12 : Value) (ak1 : ClassId) (ag1 : Nat → Int32) (sz : Nat) (hf4 : fo 4 = some ro4) : Met l yX6_keep wsX6_keep ({ frames := 1, cells := 0, slots := 0, locals := 60 }) (va_Pc [.ref h0, .int 4] (fun U => U.heap.size = sz ∧ va_P (dC, dI) vwCl [(h0, .inr (5, [.ref jb, .ref qm, .int mc, .ref qh, .ref qk, .ref qf, .int bg, .ref jp])), (qk, .inl (kk, 9, .inr (.inr (.inr (.inr fo))))), (ro4, .inl (kr4, 8, .inl fr4)), (qf, .inl (kf, 9, .inr (.inl ff))), (jb, .inr (0, [av0, .ref aq1, av2, av3, av4, av5, av6, av7, .long afees, av9, av10, av11, av12])), (aq1, .inl (ak1, 8, .inl ag1))] U.heap ∧ va_K (dC, dI) vwCl [(kk, .array .int), (kr4, .int), (kf, .long), (ak1, .int)] U ∧ va_D (fun _ => True) [(h0, .inr (5, [.ref jb, .ref qm, .int mc, .ref qh, .ref qk, .ref qf, .int bg, .ref jp])), (qk, .inl (kk, 9, .inr (.inr (.inr (.inr fo))))), (ro4, .inl (kr4, 8, .inl fr4)), (qf, .inl (kf, 9, .inr (.inl ff))), (jb, .inr (0, [av0, .ref aq1, av2, av3, av4, av5, av6, av7, .long afees, av9, av10, av11, av12])), (aq1, .inl (ak1, 8, .inl ag1))])) (va_Qv (fun (_ : Unit) => True) (fun (_ : Unit) (t : State) => ∃ (fr4' : Nat → Int32), ∃ (ff' : Nat → Int64), va_P (dC, dI) vwCl [(h0, .inr (5, [.ref jb, .ref qm, .int mc, .ref qh, .ref qk, .ref qf, .int bg, .ref jp])), (qk, .inl (kk, 9, .inr (.inr (.inr (.inr fo))))), (ro4, .inl (kr4, 8, .inl (fr4'))), (qf, .inl (kf, 9, .inr (.inl (ff')))), (jb, .inr (0, [av0, .ref aq1, av2, av3, av4, av5, av6, av7, .long afees, av9, av10, av11, av12])), (aq1, .inl (ak1, 8, .inl ag1))] t.heap ∧ va_K (dC, dI) vwCl [(kk, .array .int), (kr4, .int), (kf, .long), (ak1, .int)] t ∧ va_D (va_A [(h0, .inr (5, [.ref jb, .ref qm, .int mc, .ref qh, .ref qk, .ref qf, .int bg, .ref jp])), (qk, .inl (kk, 9, .inr (.inr (.inr (.inr fo))))), (ro4, .inl (kr4, 8, .inl fr4)), (qf, .inl (kf, 9, .inr (.inl ff))), (jb, .inr (0, [av0, .ref aq1, av2, av3, av4, av5, av6, av7, .long afees, av9, av10, av11, av12])), (aq1, .inl (ak1, 8, .inl ag1))] sz) [(h0, .inr (5, [.ref jb, .ref qm, .int mc, .ref qh, .ref qk, .ref qf, .int bg, .ref jp])), (qk, .inl (kk, 9, .inr (.inr (.inr (.inr fo))))), (ro4, .inl (kr4, 8, .inl (fr4'))), (qf, .inl (kf, 9, .inr (.inl (ff')))), (jb, .inr (0, [av0, .ref aq1, av2, av3, av4, av5, av6, av7, .long afees, av9, av10, av11, av12])), (aq1, .inl (ak1, 8, .inl ag1))]) (va_A [(h0, .inr (5, [.ref jb, .ref qm, .int mc, .ref qh, .ref qk, .ref qf, .int bg, .ref jp])), (qk, .inl (kk, 9, .inr (.inr (.inr (.inr fo))))), (ro4, .inl (kr4, 8, .inl fr4)), (qf, .inl (kf, 9, .inr (.inl ff))), (jb, .inr (0, [av0, .ref aq1, av2, av3, av4, av5, av6, av7, .long afees, av9, av10, av11, av12])), (aq1, .inl (ak1, 8, .inl ag1))] sz)) 0 0 (va_A [(h0, .inr (5, [.ref jb, .ref qm, .int mc, .ref qh, .ref qk, .ref qf, .int bg, .ref jp])), (qk, .inl (kk, 9, .inr (.inr (.inr (.inr fo))))), (ro4, .inl (kr4, 8, .inl fr4)), (qf, .inl (kf, 9, .inr (.inl ff))), (jb, .inr (0, [av0, .ref aq1, av2, av3, av4, av5, av6, av7, .long afees, av9, av10, av11, av12])), (aq1, .inl (ak1, 8, .inl ag1))] sz) := by
  refine Met.ofW (cc := cX6_keep) (maxL := 2) (ret := none) (by decide) rfl ?_
  intro p e s m args below meth c s₁ B hml hv
  obtain ⟨rfl, hsz, hP, hK, hD0⟩ := hv
  have hx := B.exec
  have hb := B.bytes
  have hr := B.returns
  have hts := atoms_spec (ws := wsX6_keep) B.pre
  have hown : s.vm.findClass RX6 = some m.cls := findClass_of_methodNamed B.named
  have hlocks := B.notSynchronized
  subst hsz
  have hD := hD0.self (sz := s.heap.size)
  generalize hAe : va_A [(h0, .inr (5, [.ref jb, .ref qm, .int mc, .ref qh, .ref qk, .ref qf, .int bg, .ref jp])), (qk, .inl (kk, 9, .inr (.inr (.inr (.inr fo))))), (ro4, .inl (kr4, 8, .inl fr4)), (qf, .inl (kf, 9, .inr (.inl ff))), (jb, .inr (0, [av0, .ref aq1, av2, av3, av4, av5, av6, av7, .long afees, av9, av10, av11, av12])), (aq1, .inl (ak1, 8, .inl ag1))] s.heap.size = A at hD ⊢
  have hA : ∀ q : Nat, s.heap.size ≤ q → A q := fun q h => by rw [← hAe]; exact Or.inr h
  have hS : va_S A s.heap s.heap [] := va_S.rf
  have hP : va_P (dC, dI) vwCl [(h0, .inr (5, [.ref jb, .ref qm, .int mc, .ref qh, .ref qk, .ref qf, .int bg, .ref jp])), (qk, .inl (kk, 9, .inr (.inr (.inr (.inr fo))))), (ro4, .inl (kr4, 8, .inl fr4)), (qf, .inl (kf, 9, .inr (.inl ff))), (jb, .inr (0, [av0, .ref aq1, av2, av3, av4, av5, av6, av7, .long afees, av9, av10, av11, av12])), (aq1, .inl (ak1, 8, .inl ag1))] s.heap := hP
  have hl := lv_entry ([.ref h0, .int 4]) (n := 2) (Nat.le_of_ble_eq_true rfl)
  rw [lg_entry_eq]
  generalize (lg_sl ([.ref h0, .int 4]) ++ List.replicate (2 - (lg_sl ([.ref h0, .int 4])).length) Slot.unset).toArray = ls at hl ⊢
  have hl : lv_has ls 2 [(0, .ref h0), (1, .int 4)] := hl
  refine lv_iload_n hx hb dX6_keep_0 rfl (lv_at hl 1 rfl) ?_
  refine lv_bipush (v := 8) hx hb dX6_keep_1 (by decide) ?_
  refine lv_icmp_le (tgt := 7) hx hb dX6_keep_3 (by decide) (fun c1 => ?_) (fun c1 => absurd (by decide) c1)
  refine lv_aload_n hx hb dX6_keep_7 rfl (lv_at hl 0 rfl) ?_
  refine va_get (D := (dC, dI)) (ci := 5) (v := .ref jb) (C := RX6) (T := TX6) (N := 8) hx hb hts in_X6_keep_X6 hown hK hP 0 rfl rfl 0 (by decide) (hts (.fieldLink RX6 27 "ClearingGates$Runner" "books" "LClearingGates$Books;") (List.mem_of_getElem? (i := 1) (by decide +kernel))) (fun _ h9 => h9) rfl dX6_keep_8 ?_
  refine va_get (D := (dC, dI)) (ci := 0) (v := .ref aq1) (C := RX0) (T := TX0) (N := 13) hx hb hts in_X6_keep_X0 hown hK hP 4 rfl rfl 1 (by decide) (hts (.fieldLink RX6 134 "ClearingGates$Books" "balances" "[I") (List.mem_of_getElem? (i := 2) (by decide +kernel))) (fun _ h9 => h9) rfl dX6_keep_11 ?_
  refine lv_iconst (v := 0) hx hb dX6_keep_14 (by decide) ?_
  refine lv_aload_n hx hb dX6_keep_15 rfl (lv_at hl 0 rfl) ?_
  refine va_get (D := (dC, dI)) (ci := 5) (v := .ref qk) (C := RX6) (T := TX6) (N := 8) hx hb hts in_X6_keep_X6 hown hK hP 0 rfl rfl 4 (by decide) (hts (.fieldLink RX6 20 "ClearingGates$Runner" "keptBalances" "[[I") (List.mem_of_getElem? (i := 3) (by decide +kernel))) (fun _ h9 => h9) rfl dX6_keep_16 ?_
  refine lv_iload_n hx hb dX6_keep_19 rfl (lv_at hl 1 rfl) ?_
  refine va_aldm (D := (dC, dI)) hx hb hK hP 1 0 rfl rfl (vp_in_iff.mpr ⟨by decide, by decide⟩) dX6_keep_20 ?_
  rw [show va_rf (fo (4 : Int32).toNatClampNeg) = .ref ro4 from by rw [show (4 : Int32).toNatClampNeg = 4 from rfl, hf4]; rfl]
  refine lv_iconst (v := 0) hx hb dX6_keep_21 (by decide) ?_
  refine lv_bipush (v := 8) hx hb dX6_keep_22 (by decide) ?_
  refine va_copyi (D := (dC, dI)) hx hb (hml.trans hl.1.symm) hown (hts (.methodLink RX6 154 arraycopyName) (List.mem_of_getElem? (i := 4) (by decide +kernel))) (hts (.native arraycopyName) (List.mem_of_getElem? (i := 5) (by decide +kernel))) (hts (.static arraycopyName) (List.mem_of_getElem? (i := 6) (by decide +kernel))) (hts (.initialized "java/lang/System") (List.mem_of_getElem? (i := 7) (by decide +kernel))) hK hP hD hS 5 2 3 1 rfl rfl rfl rfl rfl (by decide) (by decide) (by decide) (by decide) (by decide) (fun _ _ => rfl) (Nat.le_of_ble_eq_true rfl) (by decide) dX6_keep_24 (fun H locs hP hD hS => ?_)
  generalize e_g2 : (va_cpy ag1 fr4 (0 : Int32).toNatClampNeg (0 : Int32).toNatClampNeg (8 : Int32).toNatClampNeg) = g2 at hP hD
  have hP : va_P (dC, dI) vwCl [(h0, .inr (5, [.ref jb, .ref qm, .int mc, .ref qh, .ref qk, .ref qf, .int bg, .ref jp])), (qk, .inl (kk, 9, .inr (.inr (.inr (.inr fo))))), (ro4, .inl (kr4, 8, .inl g2)), (qf, .inl (kf, 9, .inr (.inl ff))), (jb, .inr (0, [av0, .ref aq1, av2, av3, av4, av5, av6, av7, .long afees, av9, av10, av11, av12])), (aq1, .inl (ak1, 8, .inl ag1))] H := hP
  have hD : va_D A [(h0, .inr (5, [.ref jb, .ref qm, .int mc, .ref qh, .ref qk, .ref qf, .int bg, .ref jp])), (qk, .inl (kk, 9, .inr (.inr (.inr (.inr fo))))), (ro4, .inl (kr4, 8, .inl g2)), (qf, .inl (kf, 9, .inr (.inl ff))), (jb, .inr (0, [av0, .ref aq1, av2, av3, av4, av5, av6, av7, .long afees, av9, av10, av11, av12])), (aq1, .inl (ak1, 8, .inl ag1))] := hD
  refine lv_aload_n hx hb dX6_keep_27 rfl (lv_at hl 0 rfl) ?_
  refine va_get (D := (dC, dI)) (ci := 5) (v := .ref qf) (C := RX6) (T := TX6) (N := 8) hx hb hts in_X6_keep_X6 hown hK hP 0 rfl rfl 5 (by decide) (hts (.fieldLink RX6 23 "ClearingGates$Runner" "keptFees" "[J") (List.mem_of_getElem? (i := 8) (by decide +kernel))) (fun _ h9 => h9) rfl dX6_keep_28 ?_
  refine lv_iload_n hx hb dX6_keep_31 rfl (lv_at hl 1 rfl) ?_
  refine lv_aload_n hx hb dX6_keep_32 rfl (lv_at hl 0 rfl) ?_
  refine va_get (D := (dC, dI)) (ci := 5) (v := .ref jb) (C := RX6) (T := TX6) (N := 8) hx hb hts in_X6_keep_X6 hown hK hP 0 rfl rfl 0 (by decide) (hts (.fieldLink RX6 27 "ClearingGates$Runner" "books" "LClearingGates$Books;") (List.mem_of_getElem? (i := 1) (by decide +kernel))) (fun _ h9 => h9) rfl dX6_keep_33 ?_
  refine va_get (D := (dC, dI)) (ci := 0) (v := .long afees) (C := RX0) (T := TX0) (N := 13) hx hb hts in_X6_keep_X0 hown hK hP 4 rfl rfl 8 (by decide) (hts (.fieldLink RX6 141 "ClearingGates$Books" "fees" "J") (List.mem_of_getElem? (i := 9) (by decide +kernel))) (fun _ h9 => h9) rfl dX6_keep_36 ?_
  refine va_last (D := (dC, dI)) hx hb hK hP hD hS 3 2 rfl rfl (vp_in_iff.mpr ⟨by decide, by decide⟩) dX6_keep_39 (fun H locs hP hD hS => ?_)
  generalize e_g3 : (vp_updL ff ((4 : Int32)).toNatClampNeg afees) = g3 at hP hD
  have hP : va_P (dC, dI) vwCl [(h0, .inr (5, [.ref jb, .ref qm, .int mc, .ref qh, .ref qk, .ref qf, .int bg, .ref jp])), (qk, .inl (kk, 9, .inr (.inr (.inr (.inr fo))))), (ro4, .inl (kr4, 8, .inl g2)), (qf, .inl (kf, 9, .inr (.inl g3))), (jb, .inr (0, [av0, .ref aq1, av2, av3, av4, av5, av6, av7, .long afees, av9, av10, av11, av12])), (aq1, .inl (ak1, 8, .inl ag1))] H := hP
  have hD : va_D A [(h0, .inr (5, [.ref jb, .ref qm, .int mc, .ref qh, .ref qk, .ref qf, .int bg, .ref jp])), (qk, .inl (kk, 9, .inr (.inr (.inr (.inr fo))))), (ro4, .inl (kr4, 8, .inl g2)), (qf, .inl (kf, 9, .inr (.inl g3))), (jb, .inr (0, [av0, .ref aq1, av2, av3, av4, av5, av6, av7, .long afees, av9, av10, av11, av12])), (aq1, .inl (ak1, 8, .inl ag1))] := hD
  have hP9 := hP.sub (ws' := [(h0, .inr (5, [.ref jb, .ref qm, .int mc, .ref qh, .ref qk, .ref qf, .int bg, .ref jp])), (qk, .inl (kk, 9, .inr (.inr (.inr (.inr fo))))), (ro4, .inl (kr4, 8, .inl g2)), (qf, .inl (kf, 9, .inr (.inl g3))), (jb, .inr (0, [av0, .ref aq1, av2, av3, av4, av5, av6, av7, .long afees, av9, av10, av11, av12])), (aq1, .inl (ak1, 8, .inl ag1))]) [0, 1, 2, 3, 4, 5] rfl
  have hD9 := hD.sub (ws' := [(h0, .inr (5, [.ref jb, .ref qm, .int mc, .ref qh, .ref qk, .ref qf, .int bg, .ref jp])), (qk, .inl (kk, 9, .inr (.inr (.inr (.inr fo))))), (ro4, .inl (kr4, 8, .inl g2)), (qf, .inl (kf, 9, .inr (.inl g3))), (jb, .inr (0, [av0, .ref aq1, av2, av3, av4, av5, av6, av7, .long afees, av9, av10, av11, av12])), (aq1, .inl (ak1, 8, .inl ag1))]) [0, 1, 2, 3, 4, 5] (by decide) rfl
  have hK9 := hK.sub (tys' := [(kk, .array .int), (kr4, .int), (kf, .long), (ak1, .int)]) [0, 1, 2, 3] rfl
  exact W.vret hx hb hr (fun t ht hW => ⟨⟨(), rfl, (by first | rfl | trivial), g2, g3, by rw [ht]; exact hP9, va_K.moved hW.alike hK9, hD9⟩, hS.F ht⟩) hS.2.2 dX6_keep_40

set_option maxRecDepth 100000 in
set_option maxHeartbeats 4000000 in
/-- Runner.undo at 4 -/
theorem c_X6_undo_d4 (l : Launch) (dC : Nat → ClassId) (dI : Nat → Nat → Nat) (h0 : Nat) (jb : Nat) (qm : Nat) (mc : Int32) (qh : Nat) (qk : Nat) (qf : Nat) (bg : Int32) (jp : Nat) (kk : ClassId) (fo : Nat → Option Nat) (ro4 : Nat) (kr4 : ClassId) (fr4 : Nat → Int32) (kf : ClassId) (ff : Nat → Int64) (av0 : Value) (aq1 : Nat) (av2 : Value) (av3 : Value) (av4 : Value) (av5 : Value) (av6 : Value) (av7 : Value) (afees : Int64) (av9 : Value) (av10 : Value) (av11 : Value) (av12 : Value) (ak1 : ClassId) (ag1 : Nat → Int32) (sz : Nat) (hf4 : fo 4 = some ro4) : Met l yX6_undo wsX6_undo ({ frames := 1, cells := 0, slots := 0, locals := 60 }) (va_Pc [.ref h0, .int 4] (fun U => U.heap.size = sz ∧ va_P (dC, dI) vwCl [(h0, .inr (5, [.ref jb, .ref qm, .int mc, .ref qh, .ref qk, .ref qf, .int bg, .ref jp])), (qk, .inl (kk, 9, .inr (.inr (.inr (.inr fo))))), (ro4, .inl (kr4, 8, .inl fr4)), (qf, .inl (kf, 9, .inr (.inl ff))), (jb, .inr (0, [av0, .ref aq1, av2, av3, av4, av5, av6, av7, .long afees, av9, av10, av11, av12])), (aq1, .inl (ak1, 8, .inl ag1))] U.heap ∧ va_K (dC, dI) vwCl [(kk, .array .int), (kr4, .int), (kf, .long), (ak1, .int)] U ∧ va_D (fun _ => True) [(h0, .inr (5, [.ref jb, .ref qm, .int mc, .ref qh, .ref qk, .ref qf, .int bg, .ref jp])), (qk, .inl (kk, 9, .inr (.inr (.inr (.inr fo))))), (ro4, .inl (kr4, 8, .inl fr4)), (qf, .inl (kf, 9, .inr (.inl ff))), (jb, .inr (0, [av0, .ref aq1, av2, av3, av4, av5, av6, av7, .long afees, av9, av10, av11, av12])), (aq1, .inl (ak1, 8, .inl ag1))])) (va_Qv (fun (_ : Unit) => True) (fun (_ : Unit) (t : State) => ∃ (ag1' : Nat → Int32), ∃ (afees' : Int64), va_P (dC, dI) vwCl [(h0, .inr (5, [.ref jb, .ref qm, .int mc, .ref qh, .ref qk, .ref qf, .int bg, .ref jp])), (qk, .inl (kk, 9, .inr (.inr (.inr (.inr fo))))), (ro4, .inl (kr4, 8, .inl fr4)), (qf, .inl (kf, 9, .inr (.inl ff))), (jb, .inr (0, [av0, .ref aq1, av2, av3, av4, av5, av6, av7, .long afees', av9, av10, av11, av12])), (aq1, .inl (ak1, 8, .inl (ag1')))] t.heap ∧ va_K (dC, dI) vwCl [(kk, .array .int), (kr4, .int), (kf, .long), (ak1, .int)] t ∧ va_D (va_A [(h0, .inr (5, [.ref jb, .ref qm, .int mc, .ref qh, .ref qk, .ref qf, .int bg, .ref jp])), (qk, .inl (kk, 9, .inr (.inr (.inr (.inr fo))))), (ro4, .inl (kr4, 8, .inl fr4)), (qf, .inl (kf, 9, .inr (.inl ff))), (jb, .inr (0, [av0, .ref aq1, av2, av3, av4, av5, av6, av7, .long afees, av9, av10, av11, av12])), (aq1, .inl (ak1, 8, .inl ag1))] sz) [(h0, .inr (5, [.ref jb, .ref qm, .int mc, .ref qh, .ref qk, .ref qf, .int bg, .ref jp])), (qk, .inl (kk, 9, .inr (.inr (.inr (.inr fo))))), (ro4, .inl (kr4, 8, .inl fr4)), (qf, .inl (kf, 9, .inr (.inl ff))), (jb, .inr (0, [av0, .ref aq1, av2, av3, av4, av5, av6, av7, .long afees', av9, av10, av11, av12])), (aq1, .inl (ak1, 8, .inl (ag1')))]) (va_A [(h0, .inr (5, [.ref jb, .ref qm, .int mc, .ref qh, .ref qk, .ref qf, .int bg, .ref jp])), (qk, .inl (kk, 9, .inr (.inr (.inr (.inr fo))))), (ro4, .inl (kr4, 8, .inl fr4)), (qf, .inl (kf, 9, .inr (.inl ff))), (jb, .inr (0, [av0, .ref aq1, av2, av3, av4, av5, av6, av7, .long afees, av9, av10, av11, av12])), (aq1, .inl (ak1, 8, .inl ag1))] sz)) 0 0 (va_A [(h0, .inr (5, [.ref jb, .ref qm, .int mc, .ref qh, .ref qk, .ref qf, .int bg, .ref jp])), (qk, .inl (kk, 9, .inr (.inr (.inr (.inr fo))))), (ro4, .inl (kr4, 8, .inl fr4)), (qf, .inl (kf, 9, .inr (.inl ff))), (jb, .inr (0, [av0, .ref aq1, av2, av3, av4, av5, av6, av7, .long afees, av9, av10, av11, av12])), (aq1, .inl (ak1, 8, .inl ag1))] sz) := by
  refine Met.ofW (cc := cX6_undo) (maxL := 2) (ret := none) (by decide) rfl ?_
  intro p e s m args below meth c s₁ B hml hv
  obtain ⟨rfl, hsz, hP, hK, hD0⟩ := hv
  have hx := B.exec
  have hb := B.bytes
  have hr := B.returns
  have hts := atoms_spec (ws := wsX6_undo) B.pre
  have hown : s.vm.findClass RX6 = some m.cls := findClass_of_methodNamed B.named
  have hlocks := B.notSynchronized
  subst hsz
  have hD := hD0.self (sz := s.heap.size)
  generalize hAe : va_A [(h0, .inr (5, [.ref jb, .ref qm, .int mc, .ref qh, .ref qk, .ref qf, .int bg, .ref jp])), (qk, .inl (kk, 9, .inr (.inr (.inr (.inr fo))))), (ro4, .inl (kr4, 8, .inl fr4)), (qf, .inl (kf, 9, .inr (.inl ff))), (jb, .inr (0, [av0, .ref aq1, av2, av3, av4, av5, av6, av7, .long afees, av9, av10, av11, av12])), (aq1, .inl (ak1, 8, .inl ag1))] s.heap.size = A at hD ⊢
  have hA : ∀ q : Nat, s.heap.size ≤ q → A q := fun q h => by rw [← hAe]; exact Or.inr h
  have hS : va_S A s.heap s.heap [] := va_S.rf
  have hP : va_P (dC, dI) vwCl [(h0, .inr (5, [.ref jb, .ref qm, .int mc, .ref qh, .ref qk, .ref qf, .int bg, .ref jp])), (qk, .inl (kk, 9, .inr (.inr (.inr (.inr fo))))), (ro4, .inl (kr4, 8, .inl fr4)), (qf, .inl (kf, 9, .inr (.inl ff))), (jb, .inr (0, [av0, .ref aq1, av2, av3, av4, av5, av6, av7, .long afees, av9, av10, av11, av12])), (aq1, .inl (ak1, 8, .inl ag1))] s.heap := hP
  have hl := lv_entry ([.ref h0, .int 4]) (n := 2) (Nat.le_of_ble_eq_true rfl)
  rw [lg_entry_eq]
  generalize (lg_sl ([.ref h0, .int 4]) ++ List.replicate (2 - (lg_sl ([.ref h0, .int 4])).length) Slot.unset).toArray = ls at hl ⊢
  have hl : lv_has ls 2 [(0, .ref h0), (1, .int 4)] := hl
  refine lv_iload_n hx hb dX6_undo_0 rfl (lv_at hl 1 rfl) ?_
  refine lv_bipush (v := 8) hx hb dX6_undo_1 (by decide) ?_
  refine lv_icmp_le (tgt := 7) hx hb dX6_undo_3 (by decide) (fun c1 => ?_) (fun c1 => absurd (by decide) c1)
  refine lv_aload_n hx hb dX6_undo_7 rfl (lv_at hl 0 rfl) ?_
  refine va_get (D := (dC, dI)) (ci := 5) (v := .ref qk) (C := RX6) (T := TX6) (N := 8) hx hb hts in_X6_undo_X6 hown hK hP 0 rfl rfl 4 (by decide) (hts (.fieldLink RX6 20 "ClearingGates$Runner" "keptBalances" "[[I") (List.mem_of_getElem? (i := 1) (by decide +kernel))) (fun _ h9 => h9) rfl dX6_undo_8 ?_
  refine lv_iload_n hx hb dX6_undo_11 rfl (lv_at hl 1 rfl) ?_
  refine va_aldm (D := (dC, dI)) hx hb hK hP 1 0 rfl rfl (vp_in_iff.mpr ⟨by decide, by decide⟩) dX6_undo_12 ?_
  rw [show va_rf (fo (4 : Int32).toNatClampNeg) = .ref ro4 from by rw [show (4 : Int32).toNatClampNeg = 4 from rfl, hf4]; rfl]
  refine lv_iconst (v := 0) hx hb dX6_undo_13 (by decide) ?_
  refine lv_aload_n hx hb dX6_undo_14 rfl (lv_at hl 0 rfl) ?_
  refine va_get (D := (dC, dI)) (ci := 5) (v := .ref jb) (C := RX6) (T := TX6) (N := 8) hx hb hts in_X6_undo_X6 hown hK hP 0 rfl rfl 0 (by decide) (hts (.fieldLink RX6 27 "ClearingGates$Runner" "books" "LClearingGates$Books;") (List.mem_of_getElem? (i := 2) (by decide +kernel))) (fun _ h9 => h9) rfl dX6_undo_15 ?_
  refine va_get (D := (dC, dI)) (ci := 0) (v := .ref aq1) (C := RX0) (T := TX0) (N := 13) hx hb hts in_X6_undo_X0 hown hK hP 4 rfl rfl 1 (by decide) (hts (.fieldLink RX6 134 "ClearingGates$Books" "balances" "[I") (List.mem_of_getElem? (i := 3) (by decide +kernel))) (fun _ h9 => h9) rfl dX6_undo_18 ?_
  refine lv_iconst (v := 0) hx hb dX6_undo_21 (by decide) ?_
  refine lv_bipush (v := 8) hx hb dX6_undo_22 (by decide) ?_
  refine va_copyi (D := (dC, dI)) hx hb (hml.trans hl.1.symm) hown (hts (.methodLink RX6 154 arraycopyName) (List.mem_of_getElem? (i := 4) (by decide +kernel))) (hts (.native arraycopyName) (List.mem_of_getElem? (i := 5) (by decide +kernel))) (hts (.static arraycopyName) (List.mem_of_getElem? (i := 6) (by decide +kernel))) (hts (.initialized "java/lang/System") (List.mem_of_getElem? (i := 7) (by decide +kernel))) hK hP hD hS 2 5 1 3 rfl rfl rfl rfl rfl (by decide) (by decide) (by decide) (by decide) (by decide) (fun _ _ => rfl) (Nat.le_of_ble_eq_true rfl) (by decide) dX6_undo_24 (fun H locs hP hD hS => ?_)
  generalize e_g2 : (va_cpy fr4 ag1 (0 : Int32).toNatClampNeg (0 : Int32).toNatClampNeg (8 : Int32).toNatClampNeg) = g2 at hP hD
  have hP : va_P (dC, dI) vwCl [(h0, .inr (5, [.ref jb, .ref qm, .int mc, .ref qh, .ref qk, .ref qf, .int bg, .ref jp])), (qk, .inl (kk, 9, .inr (.inr (.inr (.inr fo))))), (ro4, .inl (kr4, 8, .inl fr4)), (qf, .inl (kf, 9, .inr (.inl ff))), (jb, .inr (0, [av0, .ref aq1, av2, av3, av4, av5, av6, av7, .long afees, av9, av10, av11, av12])), (aq1, .inl (ak1, 8, .inl g2))] H := hP
  have hD : va_D A [(h0, .inr (5, [.ref jb, .ref qm, .int mc, .ref qh, .ref qk, .ref qf, .int bg, .ref jp])), (qk, .inl (kk, 9, .inr (.inr (.inr (.inr fo))))), (ro4, .inl (kr4, 8, .inl fr4)), (qf, .inl (kf, 9, .inr (.inl ff))), (jb, .inr (0, [av0, .ref aq1, av2, av3, av4, av5, av6, av7, .long afees, av9, av10, av11, av12])), (aq1, .inl (ak1, 8, .inl g2))] := hD
  refine lv_aload_n hx hb dX6_undo_27 rfl (lv_at hl 0 rfl) ?_
  refine va_get (D := (dC, dI)) (ci := 5) (v := .ref jb) (C := RX6) (T := TX6) (N := 8) hx hb hts in_X6_undo_X6 hown hK hP 0 rfl rfl 0 (by decide) (hts (.fieldLink RX6 27 "ClearingGates$Runner" "books" "LClearingGates$Books;") (List.mem_of_getElem? (i := 2) (by decide +kernel))) (fun _ h9 => h9) rfl dX6_undo_28 ?_
  refine lv_aload_n hx hb dX6_undo_31 rfl (lv_at hl 0 rfl) ?_
  refine va_get (D := (dC, dI)) (ci := 5) (v := .ref qf) (C := RX6) (T := TX6) (N := 8) hx hb hts in_X6_undo_X6 hown hK hP 0 rfl rfl 5 (by decide) (hts (.fieldLink RX6 23 "ClearingGates$Runner" "keptFees" "[J") (List.mem_of_getElem? (i := 8) (by decide +kernel))) (fun _ h9 => h9) rfl dX6_undo_32 ?_
  refine lv_iload_n hx hb dX6_undo_35 rfl (lv_at hl 1 rfl) ?_
  refine va_lald (D := (dC, dI)) hx hb hK hP 3 2 rfl rfl (vp_in_iff.mpr ⟨by decide, by decide⟩) dX6_undo_36 ?_
  refine lv_topl (fun z3 e_z3 => ?_)
  refine va_put (D := (dC, dI)) (ci := 0) (v := .long z3) (ty := .long) (C := RX0) (T := TX0) (N := 13) hx hb hts in_X6_undo_X0 tyX0 tyX0_ok nmX0 hown hK hP hD hS 4 rfl rfl 8 (by decide) (hts (.fieldLink RX6 141 "ClearingGates$Books" "fees" "J") (List.mem_of_getElem? (i := 9) (by decide +kernel))) (fun _ h9 => h9) rfl (by decide +kernel) rfl rfl (Nat.le_of_ble_eq_true rfl) dX6_undo_37 (fun H locs hP hD hS => ?_)
  have hP : va_P (dC, dI) vwCl [(h0, .inr (5, [.ref jb, .ref qm, .int mc, .ref qh, .ref qk, .ref qf, .int bg, .ref jp])), (qk, .inl (kk, 9, .inr (.inr (.inr (.inr fo))))), (ro4, .inl (kr4, 8, .inl fr4)), (qf, .inl (kf, 9, .inr (.inl ff))), (jb, .inr (0, [av0, .ref aq1, av2, av3, av4, av5, av6, av7, .long z3, av9, av10, av11, av12])), (aq1, .inl (ak1, 8, .inl g2))] H := hP
  have hD : va_D A [(h0, .inr (5, [.ref jb, .ref qm, .int mc, .ref qh, .ref qk, .ref qf, .int bg, .ref jp])), (qk, .inl (kk, 9, .inr (.inr (.inr (.inr fo))))), (ro4, .inl (kr4, 8, .inl fr4)), (qf, .inl (kf, 9, .inr (.inl ff))), (jb, .inr (0, [av0, .ref aq1, av2, av3, av4, av5, av6, av7, .long z3, av9, av10, av11, av12])), (aq1, .inl (ak1, 8, .inl g2))] := hD
  have hP9 := hP.sub (ws' := [(h0, .inr (5, [.ref jb, .ref qm, .int mc, .ref qh, .ref qk, .ref qf, .int bg, .ref jp])), (qk, .inl (kk, 9, .inr (.inr (.inr (.inr fo))))), (ro4, .inl (kr4, 8, .inl fr4)), (qf, .inl (kf, 9, .inr (.inl ff))), (jb, .inr (0, [av0, .ref aq1, av2, av3, av4, av5, av6, av7, .long z3, av9, av10, av11, av12])), (aq1, .inl (ak1, 8, .inl g2))]) [0, 1, 2, 3, 4, 5] rfl
  have hD9 := hD.sub (ws' := [(h0, .inr (5, [.ref jb, .ref qm, .int mc, .ref qh, .ref qk, .ref qf, .int bg, .ref jp])), (qk, .inl (kk, 9, .inr (.inr (.inr (.inr fo))))), (ro4, .inl (kr4, 8, .inl fr4)), (qf, .inl (kf, 9, .inr (.inl ff))), (jb, .inr (0, [av0, .ref aq1, av2, av3, av4, av5, av6, av7, .long z3, av9, av10, av11, av12])), (aq1, .inl (ak1, 8, .inl g2))]) [0, 1, 2, 3, 4, 5] (by decide) rfl
  have hK9 := hK.sub (tys' := [(kk, .array .int), (kr4, .int), (kf, .long), (ak1, .int)]) [0, 1, 2, 3] rfl
  exact W.vret hx hb hr (fun t ht hW => ⟨⟨(), rfl, (by first | rfl | trivial), g2, z3, by rw [ht]; exact hP9, va_K.moved hW.alike hK9, hD9⟩, hS.F ht⟩) hS.2.2 dX6_undo_40

set_option maxRecDepth 100000 in
set_option maxHeartbeats 4000000 in
/-- Runner.keep at 5 -/
theorem c_X6_keep_d5 (l : Launch) (dC : Nat → ClassId) (dI : Nat → Nat → Nat) (h0 : Nat) (jb : Nat) (qm : Nat) (mc : Int32) (qh : Nat) (qk : Nat) (qf : Nat) (bg : Int32) (jp : Nat) (kk : ClassId) (fo : Nat → Option Nat) (ro5 : Nat) (kr5 : ClassId) (fr5 : Nat → Int32) (kf : ClassId) (ff : Nat → Int64) (av0 : Value) (aq1 : Nat) (av2 : Value) (av3 : Value) (av4 : Value) (av5 : Value) (av6 : Value) (av7 : Value) (afees : Int64) (av9 : Value) (av10 : Value) (av11 : Value) (av12 : Value) (ak1 : ClassId) (ag1 : Nat → Int32) (sz : Nat) (hf5 : fo 5 = some ro5) : Met l yX6_keep wsX6_keep ({ frames := 1, cells := 0, slots := 0, locals := 60 }) (va_Pc [.ref h0, .int 5] (fun U => U.heap.size = sz ∧ va_P (dC, dI) vwCl [(h0, .inr (5, [.ref jb, .ref qm, .int mc, .ref qh, .ref qk, .ref qf, .int bg, .ref jp])), (qk, .inl (kk, 9, .inr (.inr (.inr (.inr fo))))), (ro5, .inl (kr5, 8, .inl fr5)), (qf, .inl (kf, 9, .inr (.inl ff))), (jb, .inr (0, [av0, .ref aq1, av2, av3, av4, av5, av6, av7, .long afees, av9, av10, av11, av12])), (aq1, .inl (ak1, 8, .inl ag1))] U.heap ∧ va_K (dC, dI) vwCl [(kk, .array .int), (kr5, .int), (kf, .long), (ak1, .int)] U ∧ va_D (fun _ => True) [(h0, .inr (5, [.ref jb, .ref qm, .int mc, .ref qh, .ref qk, .ref qf, .int bg, .ref jp])), (qk, .inl (kk, 9, .inr (.inr (.inr (.inr fo))))), (ro5, .inl (kr5, 8, .inl fr5)), (qf, .inl (kf, 9, .inr (.inl ff))), (jb, .inr (0, [av0, .ref aq1, av2, av3, av4, av5, av6, av7, .long afees, av9, av10, av11, av12])), (aq1, .inl (ak1, 8, .inl ag1))])) (va_Qv (fun (_ : Unit) => True) (fun (_ : Unit) (t : State) => ∃ (fr5' : Nat → Int32), ∃ (ff' : Nat → Int64), va_P (dC, dI) vwCl [(h0, .inr (5, [.ref jb, .ref qm, .int mc, .ref qh, .ref qk, .ref qf, .int bg, .ref jp])), (qk, .inl (kk, 9, .inr (.inr (.inr (.inr fo))))), (ro5, .inl (kr5, 8, .inl (fr5'))), (qf, .inl (kf, 9, .inr (.inl (ff')))), (jb, .inr (0, [av0, .ref aq1, av2, av3, av4, av5, av6, av7, .long afees, av9, av10, av11, av12])), (aq1, .inl (ak1, 8, .inl ag1))] t.heap ∧ va_K (dC, dI) vwCl [(kk, .array .int), (kr5, .int), (kf, .long), (ak1, .int)] t ∧ va_D (va_A [(h0, .inr (5, [.ref jb, .ref qm, .int mc, .ref qh, .ref qk, .ref qf, .int bg, .ref jp])), (qk, .inl (kk, 9, .inr (.inr (.inr (.inr fo))))), (ro5, .inl (kr5, 8, .inl fr5)), (qf, .inl (kf, 9, .inr (.inl ff))), (jb, .inr (0, [av0, .ref aq1, av2, av3, av4, av5, av6, av7, .long afees, av9, av10, av11, av12])), (aq1, .inl (ak1, 8, .inl ag1))] sz) [(h0, .inr (5, [.ref jb, .ref qm, .int mc, .ref qh, .ref qk, .ref qf, .int bg, .ref jp])), (qk, .inl (kk, 9, .inr (.inr (.inr (.inr fo))))), (ro5, .inl (kr5, 8, .inl (fr5'))), (qf, .inl (kf, 9, .inr (.inl (ff')))), (jb, .inr (0, [av0, .ref aq1, av2, av3, av4, av5, av6, av7, .long afees, av9, av10, av11, av12])), (aq1, .inl (ak1, 8, .inl ag1))]) (va_A [(h0, .inr (5, [.ref jb, .ref qm, .int mc, .ref qh, .ref qk, .ref qf, .int bg, .ref jp])), (qk, .inl (kk, 9, .inr (.inr (.inr (.inr fo))))), (ro5, .inl (kr5, 8, .inl fr5)), (qf, .inl (kf, 9, .inr (.inl ff))), (jb, .inr (0, [av0, .ref aq1, av2, av3, av4, av5, av6, av7, .long afees, av9, av10, av11, av12])), (aq1, .inl (ak1, 8, .inl ag1))] sz)) 0 0 (va_A [(h0, .inr (5, [.ref jb, .ref qm, .int mc, .ref qh, .ref qk, .ref qf, .int bg, .ref jp])), (qk, .inl (kk, 9, .inr (.inr (.inr (.inr fo))))), (ro5, .inl (kr5, 8, .inl fr5)), (qf, .inl (kf, 9, .inr (.inl ff))), (jb, .inr (0, [av0, .ref aq1, av2, av3, av4, av5, av6, av7, .long afees, av9, av10, av11, av12])), (aq1, .inl (ak1, 8, .inl ag1))] sz) := by
  refine Met.ofW (cc := cX6_keep) (maxL := 2) (ret := none) (by decide) rfl ?_
  intro p e s m args below meth c s₁ B hml hv
  obtain ⟨rfl, hsz, hP, hK, hD0⟩ := hv
  have hx := B.exec
  have hb := B.bytes
  have hr := B.returns
  have hts := atoms_spec (ws := wsX6_keep) B.pre
  have hown : s.vm.findClass RX6 = some m.cls := findClass_of_methodNamed B.named
  have hlocks := B.notSynchronized
  subst hsz
  have hD := hD0.self (sz := s.heap.size)
  generalize hAe : va_A [(h0, .inr (5, [.ref jb, .ref qm, .int mc, .ref qh, .ref qk, .ref qf, .int bg, .ref jp])), (qk, .inl (kk, 9, .inr (.inr (.inr (.inr fo))))), (ro5, .inl (kr5, 8, .inl fr5)), (qf, .inl (kf, 9, .inr (.inl ff))), (jb, .inr (0, [av0, .ref aq1, av2, av3, av4, av5, av6, av7, .long afees, av9, av10, av11, av12])), (aq1, .inl (ak1, 8, .inl ag1))] s.heap.size = A at hD ⊢
  have hA : ∀ q : Nat, s.heap.size ≤ q → A q := fun q h => by rw [← hAe]; exact Or.inr h
  have hS : va_S A s.heap s.heap [] := va_S.rf
  have hP : va_P (dC, dI) vwCl [(h0, .inr (5, [.ref jb, .ref qm, .int mc, .ref qh, .ref qk, .ref qf, .int bg, .ref jp])), (qk, .inl (kk, 9, .inr (.inr (.inr (.inr fo))))), (ro5, .inl (kr5, 8, .inl fr5)), (qf, .inl (kf, 9, .inr (.inl ff))), (jb, .inr (0, [av0, .ref aq1, av2, av3, av4, av5, av6, av7, .long afees, av9, av10, av11, av12])), (aq1, .inl (ak1, 8, .inl ag1))] s.heap := hP
  have hl := lv_entry ([.ref h0, .int 5]) (n := 2) (Nat.le_of_ble_eq_true rfl)
  rw [lg_entry_eq]
  generalize (lg_sl ([.ref h0, .int 5]) ++ List.replicate (2 - (lg_sl ([.ref h0, .int 5])).length) Slot.unset).toArray = ls at hl ⊢
  have hl : lv_has ls 2 [(0, .ref h0), (1, .int 5)] := hl
  refine lv_iload_n hx hb dX6_keep_0 rfl (lv_at hl 1 rfl) ?_
  refine lv_bipush (v := 8) hx hb dX6_keep_1 (by decide) ?_
  refine lv_icmp_le (tgt := 7) hx hb dX6_keep_3 (by decide) (fun c1 => ?_) (fun c1 => absurd (by decide) c1)
  refine lv_aload_n hx hb dX6_keep_7 rfl (lv_at hl 0 rfl) ?_
  refine va_get (D := (dC, dI)) (ci := 5) (v := .ref jb) (C := RX6) (T := TX6) (N := 8) hx hb hts in_X6_keep_X6 hown hK hP 0 rfl rfl 0 (by decide) (hts (.fieldLink RX6 27 "ClearingGates$Runner" "books" "LClearingGates$Books;") (List.mem_of_getElem? (i := 1) (by decide +kernel))) (fun _ h9 => h9) rfl dX6_keep_8 ?_
  refine va_get (D := (dC, dI)) (ci := 0) (v := .ref aq1) (C := RX0) (T := TX0) (N := 13) hx hb hts in_X6_keep_X0 hown hK hP 4 rfl rfl 1 (by decide) (hts (.fieldLink RX6 134 "ClearingGates$Books" "balances" "[I") (List.mem_of_getElem? (i := 2) (by decide +kernel))) (fun _ h9 => h9) rfl dX6_keep_11 ?_
  refine lv_iconst (v := 0) hx hb dX6_keep_14 (by decide) ?_
  refine lv_aload_n hx hb dX6_keep_15 rfl (lv_at hl 0 rfl) ?_
  refine va_get (D := (dC, dI)) (ci := 5) (v := .ref qk) (C := RX6) (T := TX6) (N := 8) hx hb hts in_X6_keep_X6 hown hK hP 0 rfl rfl 4 (by decide) (hts (.fieldLink RX6 20 "ClearingGates$Runner" "keptBalances" "[[I") (List.mem_of_getElem? (i := 3) (by decide +kernel))) (fun _ h9 => h9) rfl dX6_keep_16 ?_
  refine lv_iload_n hx hb dX6_keep_19 rfl (lv_at hl 1 rfl) ?_
  refine va_aldm (D := (dC, dI)) hx hb hK hP 1 0 rfl rfl (vp_in_iff.mpr ⟨by decide, by decide⟩) dX6_keep_20 ?_
  rw [show va_rf (fo (5 : Int32).toNatClampNeg) = .ref ro5 from by rw [show (5 : Int32).toNatClampNeg = 5 from rfl, hf5]; rfl]
  refine lv_iconst (v := 0) hx hb dX6_keep_21 (by decide) ?_
  refine lv_bipush (v := 8) hx hb dX6_keep_22 (by decide) ?_
  refine va_copyi (D := (dC, dI)) hx hb (hml.trans hl.1.symm) hown (hts (.methodLink RX6 154 arraycopyName) (List.mem_of_getElem? (i := 4) (by decide +kernel))) (hts (.native arraycopyName) (List.mem_of_getElem? (i := 5) (by decide +kernel))) (hts (.static arraycopyName) (List.mem_of_getElem? (i := 6) (by decide +kernel))) (hts (.initialized "java/lang/System") (List.mem_of_getElem? (i := 7) (by decide +kernel))) hK hP hD hS 5 2 3 1 rfl rfl rfl rfl rfl (by decide) (by decide) (by decide) (by decide) (by decide) (fun _ _ => rfl) (Nat.le_of_ble_eq_true rfl) (by decide) dX6_keep_24 (fun H locs hP hD hS => ?_)
  generalize e_g2 : (va_cpy ag1 fr5 (0 : Int32).toNatClampNeg (0 : Int32).toNatClampNeg (8 : Int32).toNatClampNeg) = g2 at hP hD
  have hP : va_P (dC, dI) vwCl [(h0, .inr (5, [.ref jb, .ref qm, .int mc, .ref qh, .ref qk, .ref qf, .int bg, .ref jp])), (qk, .inl (kk, 9, .inr (.inr (.inr (.inr fo))))), (ro5, .inl (kr5, 8, .inl g2)), (qf, .inl (kf, 9, .inr (.inl ff))), (jb, .inr (0, [av0, .ref aq1, av2, av3, av4, av5, av6, av7, .long afees, av9, av10, av11, av12])), (aq1, .inl (ak1, 8, .inl ag1))] H := hP
  have hD : va_D A [(h0, .inr (5, [.ref jb, .ref qm, .int mc, .ref qh, .ref qk, .ref qf, .int bg, .ref jp])), (qk, .inl (kk, 9, .inr (.inr (.inr (.inr fo))))), (ro5, .inl (kr5, 8, .inl g2)), (qf, .inl (kf, 9, .inr (.inl ff))), (jb, .inr (0, [av0, .ref aq1, av2, av3, av4, av5, av6, av7, .long afees, av9, av10, av11, av12])), (aq1, .inl (ak1, 8, .inl ag1))] := hD
  refine lv_aload_n hx hb dX6_keep_27 rfl (lv_at hl 0 rfl) ?_
  refine va_get (D := (dC, dI)) (ci := 5) (v := .ref qf) (C := RX6) (T := TX6) (N := 8) hx hb hts in_X6_keep_X6 hown hK hP 0 rfl rfl 5 (by decide) (hts (.fieldLink RX6 23 "ClearingGates$Runner" "keptFees" "[J") (List.mem_of_getElem? (i := 8) (by decide +kernel))) (fun _ h9 => h9) rfl dX6_keep_28 ?_
  refine lv_iload_n hx hb dX6_keep_31 rfl (lv_at hl 1 rfl) ?_
  refine lv_aload_n hx hb dX6_keep_32 rfl (lv_at hl 0 rfl) ?_
  refine va_get (D := (dC, dI)) (ci := 5) (v := .ref jb) (C := RX6) (T := TX6) (N := 8) hx hb hts in_X6_keep_X6 hown hK hP 0 rfl rfl 0 (by decide) (hts (.fieldLink RX6 27 "ClearingGates$Runner" "books" "LClearingGates$Books;") (List.mem_of_getElem? (i := 1) (by decide +kernel))) (fun _ h9 => h9) rfl dX6_keep_33 ?_
  refine va_get (D := (dC, dI)) (ci := 0) (v := .long afees) (C := RX0) (T := TX0) (N := 13) hx hb hts in_X6_keep_X0 hown hK hP 4 rfl rfl 8 (by decide) (hts (.fieldLink RX6 141 "ClearingGates$Books" "fees" "J") (List.mem_of_getElem? (i := 9) (by decide +kernel))) (fun _ h9 => h9) rfl dX6_keep_36 ?_
  refine va_last (D := (dC, dI)) hx hb hK hP hD hS 3 2 rfl rfl (vp_in_iff.mpr ⟨by decide, by decide⟩) dX6_keep_39 (fun H locs hP hD hS => ?_)
  generalize e_g3 : (vp_updL ff ((5 : Int32)).toNatClampNeg afees) = g3 at hP hD
  have hP : va_P (dC, dI) vwCl [(h0, .inr (5, [.ref jb, .ref qm, .int mc, .ref qh, .ref qk, .ref qf, .int bg, .ref jp])), (qk, .inl (kk, 9, .inr (.inr (.inr (.inr fo))))), (ro5, .inl (kr5, 8, .inl g2)), (qf, .inl (kf, 9, .inr (.inl g3))), (jb, .inr (0, [av0, .ref aq1, av2, av3, av4, av5, av6, av7, .long afees, av9, av10, av11, av12])), (aq1, .inl (ak1, 8, .inl ag1))] H := hP
  have hD : va_D A [(h0, .inr (5, [.ref jb, .ref qm, .int mc, .ref qh, .ref qk, .ref qf, .int bg, .ref jp])), (qk, .inl (kk, 9, .inr (.inr (.inr (.inr fo))))), (ro5, .inl (kr5, 8, .inl g2)), (qf, .inl (kf, 9, .inr (.inl g3))), (jb, .inr (0, [av0, .ref aq1, av2, av3, av4, av5, av6, av7, .long afees, av9, av10, av11, av12])), (aq1, .inl (ak1, 8, .inl ag1))] := hD
  have hP9 := hP.sub (ws' := [(h0, .inr (5, [.ref jb, .ref qm, .int mc, .ref qh, .ref qk, .ref qf, .int bg, .ref jp])), (qk, .inl (kk, 9, .inr (.inr (.inr (.inr fo))))), (ro5, .inl (kr5, 8, .inl g2)), (qf, .inl (kf, 9, .inr (.inl g3))), (jb, .inr (0, [av0, .ref aq1, av2, av3, av4, av5, av6, av7, .long afees, av9, av10, av11, av12])), (aq1, .inl (ak1, 8, .inl ag1))]) [0, 1, 2, 3, 4, 5] rfl
  have hD9 := hD.sub (ws' := [(h0, .inr (5, [.ref jb, .ref qm, .int mc, .ref qh, .ref qk, .ref qf, .int bg, .ref jp])), (qk, .inl (kk, 9, .inr (.inr (.inr (.inr fo))))), (ro5, .inl (kr5, 8, .inl g2)), (qf, .inl (kf, 9, .inr (.inl g3))), (jb, .inr (0, [av0, .ref aq1, av2, av3, av4, av5, av6, av7, .long afees, av9, av10, av11, av12])), (aq1, .inl (ak1, 8, .inl ag1))]) [0, 1, 2, 3, 4, 5] (by decide) rfl
  have hK9 := hK.sub (tys' := [(kk, .array .int), (kr5, .int), (kf, .long), (ak1, .int)]) [0, 1, 2, 3] rfl
  exact W.vret hx hb hr (fun t ht hW => ⟨⟨(), rfl, (by first | rfl | trivial), g2, g3, by rw [ht]; exact hP9, va_K.moved hW.alike hK9, hD9⟩, hS.F ht⟩) hS.2.2 dX6_keep_40

set_option maxRecDepth 100000 in
set_option maxHeartbeats 4000000 in
/-- Runner.undo at 5 -/
theorem c_X6_undo_d5 (l : Launch) (dC : Nat → ClassId) (dI : Nat → Nat → Nat) (h0 : Nat) (jb : Nat) (qm : Nat) (mc : Int32) (qh : Nat) (qk : Nat) (qf : Nat) (bg : Int32) (jp : Nat) (kk : ClassId) (fo : Nat → Option Nat) (ro5 : Nat) (kr5 : ClassId) (fr5 : Nat → Int32) (kf : ClassId) (ff : Nat → Int64) (av0 : Value) (aq1 : Nat) (av2 : Value) (av3 : Value) (av4 : Value) (av5 : Value) (av6 : Value) (av7 : Value) (afees : Int64) (av9 : Value) (av10 : Value) (av11 : Value) (av12 : Value) (ak1 : ClassId) (ag1 : Nat → Int32) (sz : Nat) (hf5 : fo 5 = some ro5) : Met l yX6_undo wsX6_undo ({ frames := 1, cells := 0, slots := 0, locals := 60 }) (va_Pc [.ref h0, .int 5] (fun U => U.heap.size = sz ∧ va_P (dC, dI) vwCl [(h0, .inr (5, [.ref jb, .ref qm, .int mc, .ref qh, .ref qk, .ref qf, .int bg, .ref jp])), (qk, .inl (kk, 9, .inr (.inr (.inr (.inr fo))))), (ro5, .inl (kr5, 8, .inl fr5)), (qf, .inl (kf, 9, .inr (.inl ff))), (jb, .inr (0, [av0, .ref aq1, av2, av3, av4, av5, av6, av7, .long afees, av9, av10, av11, av12])), (aq1, .inl (ak1, 8, .inl ag1))] U.heap ∧ va_K (dC, dI) vwCl [(kk, .array .int), (kr5, .int), (kf, .long), (ak1, .int)] U ∧ va_D (fun _ => True) [(h0, .inr (5, [.ref jb, .ref qm, .int mc, .ref qh, .ref qk, .ref qf, .int bg, .ref jp])), (qk, .inl (kk, 9, .inr (.inr (.inr (.inr fo))))), (ro5, .inl (kr5, 8, .inl fr5)), (qf, .inl (kf, 9, .inr (.inl ff))), (jb, .inr (0, [av0, .ref aq1, av2, av3, av4, av5, av6, av7, .long afees, av9, av10, av11, av12])), (aq1, .inl (ak1, 8, .inl ag1))])) (va_Qv (fun (_ : Unit) => True) (fun (_ : Unit) (t : State) => ∃ (ag1' : Nat → Int32), ∃ (afees' : Int64), va_P (dC, dI) vwCl [(h0, .inr (5, [.ref jb, .ref qm, .int mc, .ref qh, .ref qk, .ref qf, .int bg, .ref jp])), (qk, .inl (kk, 9, .inr (.inr (.inr (.inr fo))))), (ro5, .inl (kr5, 8, .inl fr5)), (qf, .inl (kf, 9, .inr (.inl ff))), (jb, .inr (0, [av0, .ref aq1, av2, av3, av4, av5, av6, av7, .long afees', av9, av10, av11, av12])), (aq1, .inl (ak1, 8, .inl (ag1')))] t.heap ∧ va_K (dC, dI) vwCl [(kk, .array .int), (kr5, .int), (kf, .long), (ak1, .int)] t ∧ va_D (va_A [(h0, .inr (5, [.ref jb, .ref qm, .int mc, .ref qh, .ref qk, .ref qf, .int bg, .ref jp])), (qk, .inl (kk, 9, .inr (.inr (.inr (.inr fo))))), (ro5, .inl (kr5, 8, .inl fr5)), (qf, .inl (kf, 9, .inr (.inl ff))), (jb, .inr (0, [av0, .ref aq1, av2, av3, av4, av5, av6, av7, .long afees, av9, av10, av11, av12])), (aq1, .inl (ak1, 8, .inl ag1))] sz) [(h0, .inr (5, [.ref jb, .ref qm, .int mc, .ref qh, .ref qk, .ref qf, .int bg, .ref jp])), (qk, .inl (kk, 9, .inr (.inr (.inr (.inr fo))))), (ro5, .inl (kr5, 8, .inl fr5)), (qf, .inl (kf, 9, .inr (.inl ff))), (jb, .inr (0, [av0, .ref aq1, av2, av3, av4, av5, av6, av7, .long afees', av9, av10, av11, av12])), (aq1, .inl (ak1, 8, .inl (ag1')))]) (va_A [(h0, .inr (5, [.ref jb, .ref qm, .int mc, .ref qh, .ref qk, .ref qf, .int bg, .ref jp])), (qk, .inl (kk, 9, .inr (.inr (.inr (.inr fo))))), (ro5, .inl (kr5, 8, .inl fr5)), (qf, .inl (kf, 9, .inr (.inl ff))), (jb, .inr (0, [av0, .ref aq1, av2, av3, av4, av5, av6, av7, .long afees, av9, av10, av11, av12])), (aq1, .inl (ak1, 8, .inl ag1))] sz)) 0 0 (va_A [(h0, .inr (5, [.ref jb, .ref qm, .int mc, .ref qh, .ref qk, .ref qf, .int bg, .ref jp])), (qk, .inl (kk, 9, .inr (.inr (.inr (.inr fo))))), (ro5, .inl (kr5, 8, .inl fr5)), (qf, .inl (kf, 9, .inr (.inl ff))), (jb, .inr (0, [av0, .ref aq1, av2, av3, av4, av5, av6, av7, .long afees, av9, av10, av11, av12])), (aq1, .inl (ak1, 8, .inl ag1))] sz) := by
  refine Met.ofW (cc := cX6_undo) (maxL := 2) (ret := none) (by decide) rfl ?_
  intro p e s m args below meth c s₁ B hml hv
  obtain ⟨rfl, hsz, hP, hK, hD0⟩ := hv
  have hx := B.exec
  have hb := B.bytes
  have hr := B.returns
  have hts := atoms_spec (ws := wsX6_undo) B.pre
  have hown : s.vm.findClass RX6 = some m.cls := findClass_of_methodNamed B.named
  have hlocks := B.notSynchronized
  subst hsz
  have hD := hD0.self (sz := s.heap.size)
  generalize hAe : va_A [(h0, .inr (5, [.ref jb, .ref qm, .int mc, .ref qh, .ref qk, .ref qf, .int bg, .ref jp])), (qk, .inl (kk, 9, .inr (.inr (.inr (.inr fo))))), (ro5, .inl (kr5, 8, .inl fr5)), (qf, .inl (kf, 9, .inr (.inl ff))), (jb, .inr (0, [av0, .ref aq1, av2, av3, av4, av5, av6, av7, .long afees, av9, av10, av11, av12])), (aq1, .inl (ak1, 8, .inl ag1))] s.heap.size = A at hD ⊢
  have hA : ∀ q : Nat, s.heap.size ≤ q → A q := fun q h => by rw [← hAe]; exact Or.inr h
  have hS : va_S A s.heap s.heap [] := va_S.rf
  have hP : va_P (dC, dI) vwCl [(h0, .inr (5, [.ref jb, .ref qm, .int mc, .ref qh, .ref qk, .ref qf, .int bg, .ref jp])), (qk, .inl (kk, 9, .inr (.inr (.inr (.inr fo))))), (ro5, .inl (kr5, 8, .inl fr5)), (qf, .inl (kf, 9, .inr (.inl ff))), (jb, .inr (0, [av0, .ref aq1, av2, av3, av4, av5, av6, av7, .long afees, av9, av10, av11, av12])), (aq1, .inl (ak1, 8, .inl ag1))] s.heap := hP
  have hl := lv_entry ([.ref h0, .int 5]) (n := 2) (Nat.le_of_ble_eq_true rfl)
  rw [lg_entry_eq]
  generalize (lg_sl ([.ref h0, .int 5]) ++ List.replicate (2 - (lg_sl ([.ref h0, .int 5])).length) Slot.unset).toArray = ls at hl ⊢
  have hl : lv_has ls 2 [(0, .ref h0), (1, .int 5)] := hl
  refine lv_iload_n hx hb dX6_undo_0 rfl (lv_at hl 1 rfl) ?_
  refine lv_bipush (v := 8) hx hb dX6_undo_1 (by decide) ?_
  refine lv_icmp_le (tgt := 7) hx hb dX6_undo_3 (by decide) (fun c1 => ?_) (fun c1 => absurd (by decide) c1)
  refine lv_aload_n hx hb dX6_undo_7 rfl (lv_at hl 0 rfl) ?_
  refine va_get (D := (dC, dI)) (ci := 5) (v := .ref qk) (C := RX6) (T := TX6) (N := 8) hx hb hts in_X6_undo_X6 hown hK hP 0 rfl rfl 4 (by decide) (hts (.fieldLink RX6 20 "ClearingGates$Runner" "keptBalances" "[[I") (List.mem_of_getElem? (i := 1) (by decide +kernel))) (fun _ h9 => h9) rfl dX6_undo_8 ?_
  refine lv_iload_n hx hb dX6_undo_11 rfl (lv_at hl 1 rfl) ?_
  refine va_aldm (D := (dC, dI)) hx hb hK hP 1 0 rfl rfl (vp_in_iff.mpr ⟨by decide, by decide⟩) dX6_undo_12 ?_
  rw [show va_rf (fo (5 : Int32).toNatClampNeg) = .ref ro5 from by rw [show (5 : Int32).toNatClampNeg = 5 from rfl, hf5]; rfl]
  refine lv_iconst (v := 0) hx hb dX6_undo_13 (by decide) ?_
  refine lv_aload_n hx hb dX6_undo_14 rfl (lv_at hl 0 rfl) ?_
  refine va_get (D := (dC, dI)) (ci := 5) (v := .ref jb) (C := RX6) (T := TX6) (N := 8) hx hb hts in_X6_undo_X6 hown hK hP 0 rfl rfl 0 (by decide) (hts (.fieldLink RX6 27 "ClearingGates$Runner" "books" "LClearingGates$Books;") (List.mem_of_getElem? (i := 2) (by decide +kernel))) (fun _ h9 => h9) rfl dX6_undo_15 ?_
  refine va_get (D := (dC, dI)) (ci := 0) (v := .ref aq1) (C := RX0) (T := TX0) (N := 13) hx hb hts in_X6_undo_X0 hown hK hP 4 rfl rfl 1 (by decide) (hts (.fieldLink RX6 134 "ClearingGates$Books" "balances" "[I") (List.mem_of_getElem? (i := 3) (by decide +kernel))) (fun _ h9 => h9) rfl dX6_undo_18 ?_
  refine lv_iconst (v := 0) hx hb dX6_undo_21 (by decide) ?_
  refine lv_bipush (v := 8) hx hb dX6_undo_22 (by decide) ?_
  refine va_copyi (D := (dC, dI)) hx hb (hml.trans hl.1.symm) hown (hts (.methodLink RX6 154 arraycopyName) (List.mem_of_getElem? (i := 4) (by decide +kernel))) (hts (.native arraycopyName) (List.mem_of_getElem? (i := 5) (by decide +kernel))) (hts (.static arraycopyName) (List.mem_of_getElem? (i := 6) (by decide +kernel))) (hts (.initialized "java/lang/System") (List.mem_of_getElem? (i := 7) (by decide +kernel))) hK hP hD hS 2 5 1 3 rfl rfl rfl rfl rfl (by decide) (by decide) (by decide) (by decide) (by decide) (fun _ _ => rfl) (Nat.le_of_ble_eq_true rfl) (by decide) dX6_undo_24 (fun H locs hP hD hS => ?_)
  generalize e_g2 : (va_cpy fr5 ag1 (0 : Int32).toNatClampNeg (0 : Int32).toNatClampNeg (8 : Int32).toNatClampNeg) = g2 at hP hD
  have hP : va_P (dC, dI) vwCl [(h0, .inr (5, [.ref jb, .ref qm, .int mc, .ref qh, .ref qk, .ref qf, .int bg, .ref jp])), (qk, .inl (kk, 9, .inr (.inr (.inr (.inr fo))))), (ro5, .inl (kr5, 8, .inl fr5)), (qf, .inl (kf, 9, .inr (.inl ff))), (jb, .inr (0, [av0, .ref aq1, av2, av3, av4, av5, av6, av7, .long afees, av9, av10, av11, av12])), (aq1, .inl (ak1, 8, .inl g2))] H := hP
  have hD : va_D A [(h0, .inr (5, [.ref jb, .ref qm, .int mc, .ref qh, .ref qk, .ref qf, .int bg, .ref jp])), (qk, .inl (kk, 9, .inr (.inr (.inr (.inr fo))))), (ro5, .inl (kr5, 8, .inl fr5)), (qf, .inl (kf, 9, .inr (.inl ff))), (jb, .inr (0, [av0, .ref aq1, av2, av3, av4, av5, av6, av7, .long afees, av9, av10, av11, av12])), (aq1, .inl (ak1, 8, .inl g2))] := hD
  refine lv_aload_n hx hb dX6_undo_27 rfl (lv_at hl 0 rfl) ?_
  refine va_get (D := (dC, dI)) (ci := 5) (v := .ref jb) (C := RX6) (T := TX6) (N := 8) hx hb hts in_X6_undo_X6 hown hK hP 0 rfl rfl 0 (by decide) (hts (.fieldLink RX6 27 "ClearingGates$Runner" "books" "LClearingGates$Books;") (List.mem_of_getElem? (i := 2) (by decide +kernel))) (fun _ h9 => h9) rfl dX6_undo_28 ?_
  refine lv_aload_n hx hb dX6_undo_31 rfl (lv_at hl 0 rfl) ?_
  refine va_get (D := (dC, dI)) (ci := 5) (v := .ref qf) (C := RX6) (T := TX6) (N := 8) hx hb hts in_X6_undo_X6 hown hK hP 0 rfl rfl 5 (by decide) (hts (.fieldLink RX6 23 "ClearingGates$Runner" "keptFees" "[J") (List.mem_of_getElem? (i := 8) (by decide +kernel))) (fun _ h9 => h9) rfl dX6_undo_32 ?_
  refine lv_iload_n hx hb dX6_undo_35 rfl (lv_at hl 1 rfl) ?_
  refine va_lald (D := (dC, dI)) hx hb hK hP 3 2 rfl rfl (vp_in_iff.mpr ⟨by decide, by decide⟩) dX6_undo_36 ?_
  refine lv_topl (fun z3 e_z3 => ?_)
  refine va_put (D := (dC, dI)) (ci := 0) (v := .long z3) (ty := .long) (C := RX0) (T := TX0) (N := 13) hx hb hts in_X6_undo_X0 tyX0 tyX0_ok nmX0 hown hK hP hD hS 4 rfl rfl 8 (by decide) (hts (.fieldLink RX6 141 "ClearingGates$Books" "fees" "J") (List.mem_of_getElem? (i := 9) (by decide +kernel))) (fun _ h9 => h9) rfl (by decide +kernel) rfl rfl (Nat.le_of_ble_eq_true rfl) dX6_undo_37 (fun H locs hP hD hS => ?_)
  have hP : va_P (dC, dI) vwCl [(h0, .inr (5, [.ref jb, .ref qm, .int mc, .ref qh, .ref qk, .ref qf, .int bg, .ref jp])), (qk, .inl (kk, 9, .inr (.inr (.inr (.inr fo))))), (ro5, .inl (kr5, 8, .inl fr5)), (qf, .inl (kf, 9, .inr (.inl ff))), (jb, .inr (0, [av0, .ref aq1, av2, av3, av4, av5, av6, av7, .long z3, av9, av10, av11, av12])), (aq1, .inl (ak1, 8, .inl g2))] H := hP
  have hD : va_D A [(h0, .inr (5, [.ref jb, .ref qm, .int mc, .ref qh, .ref qk, .ref qf, .int bg, .ref jp])), (qk, .inl (kk, 9, .inr (.inr (.inr (.inr fo))))), (ro5, .inl (kr5, 8, .inl fr5)), (qf, .inl (kf, 9, .inr (.inl ff))), (jb, .inr (0, [av0, .ref aq1, av2, av3, av4, av5, av6, av7, .long z3, av9, av10, av11, av12])), (aq1, .inl (ak1, 8, .inl g2))] := hD
  have hP9 := hP.sub (ws' := [(h0, .inr (5, [.ref jb, .ref qm, .int mc, .ref qh, .ref qk, .ref qf, .int bg, .ref jp])), (qk, .inl (kk, 9, .inr (.inr (.inr (.inr fo))))), (ro5, .inl (kr5, 8, .inl fr5)), (qf, .inl (kf, 9, .inr (.inl ff))), (jb, .inr (0, [av0, .ref aq1, av2, av3, av4, av5, av6, av7, .long z3, av9, av10, av11, av12])), (aq1, .inl (ak1, 8, .inl g2))]) [0, 1, 2, 3, 4, 5] rfl
  have hD9 := hD.sub (ws' := [(h0, .inr (5, [.ref jb, .ref qm, .int mc, .ref qh, .ref qk, .ref qf, .int bg, .ref jp])), (qk, .inl (kk, 9, .inr (.inr (.inr (.inr fo))))), (ro5, .inl (kr5, 8, .inl fr5)), (qf, .inl (kf, 9, .inr (.inl ff))), (jb, .inr (0, [av0, .ref aq1, av2, av3, av4, av5, av6, av7, .long z3, av9, av10, av11, av12])), (aq1, .inl (ak1, 8, .inl g2))]) [0, 1, 2, 3, 4, 5] (by decide) rfl
  have hK9 := hK.sub (tys' := [(kk, .array .int), (kr5, .int), (kf, .long), (ak1, .int)]) [0, 1, 2, 3] rfl
  exact W.vret hx hb hr (fun t ht hW => ⟨⟨(), rfl, (by first | rfl | trivial), g2, z3, by rw [ht]; exact hP9, va_K.moved hW.alike hK9, hD9⟩, hS.F ht⟩) hS.2.2 dX6_undo_40

set_option maxRecDepth 100000 in
set_option maxHeartbeats 4000000 in
/-- Runner.keep at 6 -/
theorem c_X6_keep_d6 (l : Launch) (dC : Nat → ClassId) (dI : Nat → Nat → Nat) (h0 : Nat) (jb : Nat) (qm : Nat) (mc : Int32) (qh : Nat) (qk : Nat) (qf : Nat) (bg : Int32) (jp : Nat) (kk : ClassId) (fo : Nat → Option Nat) (ro6 : Nat) (kr6 : ClassId) (fr6 : Nat → Int32) (kf : ClassId) (ff : Nat → Int64) (av0 : Value) (aq1 : Nat) (av2 : Value) (av3 : Value) (av4 : Value) (av5 : Value) (av6 : Value) (av7 : Value) (afees : Int64) (av9 : Value) (av10 : Value) (av11 : Value) (av12 : Value) (ak1 : ClassId) (ag1 : Nat → Int32) (sz : Nat) (hf6 : fo 6 = some ro6) : Met l yX6_keep wsX6_keep ({ frames := 1, cells := 0, slots := 0, locals := 60 }) (va_Pc [.ref h0, .int 6] (fun U => U.heap.size = sz ∧ va_P (dC, dI) vwCl [(h0, .inr (5, [.ref jb, .ref qm, .int mc, .ref qh, .ref qk, .ref qf, .int bg, .ref jp])), (qk, .inl (kk, 9, .inr (.inr (.inr (.inr fo))))), (ro6, .inl (kr6, 8, .inl fr6)), (qf, .inl (kf, 9, .inr (.inl ff))), (jb, .inr (0, [av0, .ref aq1, av2, av3, av4, av5, av6, av7, .long afees, av9, av10, av11, av12])), (aq1, .inl (ak1, 8, .inl ag1))] U.heap ∧ va_K (dC, dI) vwCl [(kk, .array .int), (kr6, .int), (kf, .long), (ak1, .int)] U ∧ va_D (fun _ => True) [(h0, .inr (5, [.ref jb, .ref qm, .int mc, .ref qh, .ref qk, .ref qf, .int bg, .ref jp])), (qk, .inl (kk, 9, .inr (.inr (.inr (.inr fo))))), (ro6, .inl (kr6, 8, .inl fr6)), (qf, .inl (kf, 9, .inr (.inl ff))), (jb, .inr (0, [av0, .ref aq1, av2, av3, av4, av5, av6, av7, .long afees, av9, av10, av11, av12])), (aq1, .inl (ak1, 8, .inl ag1))])) (va_Qv (fun (_ : Unit) => True) (fun (_ : Unit) (t : State) => ∃ (fr6' : Nat → Int32), ∃ (ff' : Nat → Int64), va_P (dC, dI) vwCl [(h0, .inr (5, [.ref jb, .ref qm, .int mc, .ref qh, .ref qk, .ref qf, .int bg, .ref jp])), (qk, .inl (kk, 9, .inr (.inr (.inr (.inr fo))))), (ro6, .inl (kr6, 8, .inl (fr6'))), (qf, .inl (kf, 9, .inr (.inl (ff')))), (jb, .inr (0, [av0, .ref aq1, av2, av3, av4, av5, av6, av7, .long afees, av9, av10, av11, av12])), (aq1, .inl (ak1, 8, .inl ag1))] t.heap ∧ va_K (dC, dI) vwCl [(kk, .array .int), (kr6, .int), (kf, .long), (ak1, .int)] t ∧ va_D (va_A [(h0, .inr (5, [.ref jb, .ref qm, .int mc, .ref qh, .ref qk, .ref qf, .int bg, .ref jp])), (qk, .inl (kk, 9, .inr (.inr (.inr (.inr fo))))), (ro6, .inl (kr6, 8, .inl fr6)), (qf, .inl (kf, 9, .inr (.inl ff))), (jb, .inr (0, [av0, .ref aq1, av2, av3, av4, av5, av6, av7, .long afees, av9, av10, av11, av12])), (aq1, .inl (ak1, 8, .inl ag1))] sz) [(h0, .inr (5, [.ref jb, .ref qm, .int mc, .ref qh, .ref qk, .ref qf, .int bg, .ref jp])), (qk, .inl (kk, 9, .inr (.inr (.inr (.inr fo))))), (ro6, .inl (kr6, 8, .inl (fr6'))), (qf, .inl (kf, 9, .inr (.inl (ff')))), (jb, .inr (0, [av0, .ref aq1, av2, av3, av4, av5, av6, av7, .long afees, av9, av10, av11, av12])), (aq1, .inl (ak1, 8, .inl ag1))]) (va_A [(h0, .inr (5, [.ref jb, .ref qm, .int mc, .ref qh, .ref qk, .ref qf, .int bg, .ref jp])), (qk, .inl (kk, 9, .inr (.inr (.inr (.inr fo))))), (ro6, .inl (kr6, 8, .inl fr6)), (qf, .inl (kf, 9, .inr (.inl ff))), (jb, .inr (0, [av0, .ref aq1, av2, av3, av4, av5, av6, av7, .long afees, av9, av10, av11, av12])), (aq1, .inl (ak1, 8, .inl ag1))] sz)) 0 0 (va_A [(h0, .inr (5, [.ref jb, .ref qm, .int mc, .ref qh, .ref qk, .ref qf, .int bg, .ref jp])), (qk, .inl (kk, 9, .inr (.inr (.inr (.inr fo))))), (ro6, .inl (kr6, 8, .inl fr6)), (qf, .inl (kf, 9, .inr (.inl ff))), (jb, .inr (0, [av0, .ref aq1, av2, av3, av4, av5, av6, av7, .long afees, av9, av10, av11, av12])), (aq1, .inl (ak1, 8, .inl ag1))] sz) := by
  refine Met.ofW (cc := cX6_keep) (maxL := 2) (ret := none) (by decide) rfl ?_
  intro p e s m args below meth c s₁ B hml hv
  obtain ⟨rfl, hsz, hP, hK, hD0⟩ := hv
  have hx := B.exec
  have hb := B.bytes
  have hr := B.returns
  have hts := atoms_spec (ws := wsX6_keep) B.pre
  have hown : s.vm.findClass RX6 = some m.cls := findClass_of_methodNamed B.named
  have hlocks := B.notSynchronized
  subst hsz
  have hD := hD0.self (sz := s.heap.size)
  generalize hAe : va_A [(h0, .inr (5, [.ref jb, .ref qm, .int mc, .ref qh, .ref qk, .ref qf, .int bg, .ref jp])), (qk, .inl (kk, 9, .inr (.inr (.inr (.inr fo))))), (ro6, .inl (kr6, 8, .inl fr6)), (qf, .inl (kf, 9, .inr (.inl ff))), (jb, .inr (0, [av0, .ref aq1, av2, av3, av4, av5, av6, av7, .long afees, av9, av10, av11, av12])), (aq1, .inl (ak1, 8, .inl ag1))] s.heap.size = A at hD ⊢
  have hA : ∀ q : Nat, s.heap.size ≤ q → A q := fun q h => by rw [← hAe]; exact Or.inr h
  have hS : va_S A s.heap s.heap [] := va_S.rf
  have hP : va_P (dC, dI) vwCl [(h0, .inr (5, [.ref jb, .ref qm, .int mc, .ref qh, .ref qk, .ref qf, .int bg, .ref jp])), (qk, .inl (kk, 9, .inr (.inr (.inr (.inr fo))))), (ro6, .inl (kr6, 8, .inl fr6)), (qf, .inl (kf, 9, .inr (.inl ff))), (jb, .inr (0, [av0, .ref aq1, av2, av3, av4, av5, av6, av7, .long afees, av9, av10, av11, av12])), (aq1, .inl (ak1, 8, .inl ag1))] s.heap := hP
  have hl := lv_entry ([.ref h0, .int 6]) (n := 2) (Nat.le_of_ble_eq_true rfl)
  rw [lg_entry_eq]
  generalize (lg_sl ([.ref h0, .int 6]) ++ List.replicate (2 - (lg_sl ([.ref h0, .int 6])).length) Slot.unset).toArray = ls at hl ⊢
  have hl : lv_has ls 2 [(0, .ref h0), (1, .int 6)] := hl
  refine lv_iload_n hx hb dX6_keep_0 rfl (lv_at hl 1 rfl) ?_
  refine lv_bipush (v := 8) hx hb dX6_keep_1 (by decide) ?_
  refine lv_icmp_le (tgt := 7) hx hb dX6_keep_3 (by decide) (fun c1 => ?_) (fun c1 => absurd (by decide) c1)
  refine lv_aload_n hx hb dX6_keep_7 rfl (lv_at hl 0 rfl) ?_
  refine va_get (D := (dC, dI)) (ci := 5) (v := .ref jb) (C := RX6) (T := TX6) (N := 8) hx hb hts in_X6_keep_X6 hown hK hP 0 rfl rfl 0 (by decide) (hts (.fieldLink RX6 27 "ClearingGates$Runner" "books" "LClearingGates$Books;") (List.mem_of_getElem? (i := 1) (by decide +kernel))) (fun _ h9 => h9) rfl dX6_keep_8 ?_
  refine va_get (D := (dC, dI)) (ci := 0) (v := .ref aq1) (C := RX0) (T := TX0) (N := 13) hx hb hts in_X6_keep_X0 hown hK hP 4 rfl rfl 1 (by decide) (hts (.fieldLink RX6 134 "ClearingGates$Books" "balances" "[I") (List.mem_of_getElem? (i := 2) (by decide +kernel))) (fun _ h9 => h9) rfl dX6_keep_11 ?_
  refine lv_iconst (v := 0) hx hb dX6_keep_14 (by decide) ?_
  refine lv_aload_n hx hb dX6_keep_15 rfl (lv_at hl 0 rfl) ?_
  refine va_get (D := (dC, dI)) (ci := 5) (v := .ref qk) (C := RX6) (T := TX6) (N := 8) hx hb hts in_X6_keep_X6 hown hK hP 0 rfl rfl 4 (by decide) (hts (.fieldLink RX6 20 "ClearingGates$Runner" "keptBalances" "[[I") (List.mem_of_getElem? (i := 3) (by decide +kernel))) (fun _ h9 => h9) rfl dX6_keep_16 ?_
  refine lv_iload_n hx hb dX6_keep_19 rfl (lv_at hl 1 rfl) ?_
  refine va_aldm (D := (dC, dI)) hx hb hK hP 1 0 rfl rfl (vp_in_iff.mpr ⟨by decide, by decide⟩) dX6_keep_20 ?_
  rw [show va_rf (fo (6 : Int32).toNatClampNeg) = .ref ro6 from by rw [show (6 : Int32).toNatClampNeg = 6 from rfl, hf6]; rfl]
  refine lv_iconst (v := 0) hx hb dX6_keep_21 (by decide) ?_
  refine lv_bipush (v := 8) hx hb dX6_keep_22 (by decide) ?_
  refine va_copyi (D := (dC, dI)) hx hb (hml.trans hl.1.symm) hown (hts (.methodLink RX6 154 arraycopyName) (List.mem_of_getElem? (i := 4) (by decide +kernel))) (hts (.native arraycopyName) (List.mem_of_getElem? (i := 5) (by decide +kernel))) (hts (.static arraycopyName) (List.mem_of_getElem? (i := 6) (by decide +kernel))) (hts (.initialized "java/lang/System") (List.mem_of_getElem? (i := 7) (by decide +kernel))) hK hP hD hS 5 2 3 1 rfl rfl rfl rfl rfl (by decide) (by decide) (by decide) (by decide) (by decide) (fun _ _ => rfl) (Nat.le_of_ble_eq_true rfl) (by decide) dX6_keep_24 (fun H locs hP hD hS => ?_)
  generalize e_g2 : (va_cpy ag1 fr6 (0 : Int32).toNatClampNeg (0 : Int32).toNatClampNeg (8 : Int32).toNatClampNeg) = g2 at hP hD
  have hP : va_P (dC, dI) vwCl [(h0, .inr (5, [.ref jb, .ref qm, .int mc, .ref qh, .ref qk, .ref qf, .int bg, .ref jp])), (qk, .inl (kk, 9, .inr (.inr (.inr (.inr fo))))), (ro6, .inl (kr6, 8, .inl g2)), (qf, .inl (kf, 9, .inr (.inl ff))), (jb, .inr (0, [av0, .ref aq1, av2, av3, av4, av5, av6, av7, .long afees, av9, av10, av11, av12])), (aq1, .inl (ak1, 8, .inl ag1))] H := hP
  have hD : va_D A [(h0, .inr (5, [.ref jb, .ref qm, .int mc, .ref qh, .ref qk, .ref qf, .int bg, .ref jp])), (qk, .inl (kk, 9, .inr (.inr (.inr (.inr fo))))), (ro6, .inl (kr6, 8, .inl g2)), (qf, .inl (kf, 9, .inr (.inl ff))), (jb, .inr (0, [av0, .ref aq1, av2, av3, av4, av5, av6, av7, .long afees, av9, av10, av11, av12])), (aq1, .inl (ak1, 8, .inl ag1))] := hD
  refine lv_aload_n hx hb dX6_keep_27 rfl (lv_at hl 0 rfl) ?_
  refine va_get (D := (dC, dI)) (ci := 5) (v := .ref qf) (C := RX6) (T := TX6) (N := 8) hx hb hts in_X6_keep_X6 hown hK hP 0 rfl rfl 5 (by decide) (hts (.fieldLink RX6 23 "ClearingGates$Runner" "keptFees" "[J") (List.mem_of_getElem? (i := 8) (by decide +kernel))) (fun _ h9 => h9) rfl dX6_keep_28 ?_
  refine lv_iload_n hx hb dX6_keep_31 rfl (lv_at hl 1 rfl) ?_
  refine lv_aload_n hx hb dX6_keep_32 rfl (lv_at hl 0 rfl) ?_
  refine va_get (D := (dC, dI)) (ci := 5) (v := .ref jb) (C := RX6) (T := TX6) (N := 8) hx hb hts in_X6_keep_X6 hown hK hP 0 rfl rfl 0 (by decide) (hts (.fieldLink RX6 27 "ClearingGates$Runner" "books" "LClearingGates$Books;") (List.mem_of_getElem? (i := 1) (by decide +kernel))) (fun _ h9 => h9) rfl dX6_keep_33 ?_
  refine va_get (D := (dC, dI)) (ci := 0) (v := .long afees) (C := RX0) (T := TX0) (N := 13) hx hb hts in_X6_keep_X0 hown hK hP 4 rfl rfl 8 (by decide) (hts (.fieldLink RX6 141 "ClearingGates$Books" "fees" "J") (List.mem_of_getElem? (i := 9) (by decide +kernel))) (fun _ h9 => h9) rfl dX6_keep_36 ?_
  refine va_last (D := (dC, dI)) hx hb hK hP hD hS 3 2 rfl rfl (vp_in_iff.mpr ⟨by decide, by decide⟩) dX6_keep_39 (fun H locs hP hD hS => ?_)
  generalize e_g3 : (vp_updL ff ((6 : Int32)).toNatClampNeg afees) = g3 at hP hD
  have hP : va_P (dC, dI) vwCl [(h0, .inr (5, [.ref jb, .ref qm, .int mc, .ref qh, .ref qk, .ref qf, .int bg, .ref jp])), (qk, .inl (kk, 9, .inr (.inr (.inr (.inr fo))))), (ro6, .inl (kr6, 8, .inl g2)), (qf, .inl (kf, 9, .inr (.inl g3))), (jb, .inr (0, [av0, .ref aq1, av2, av3, av4, av5, av6, av7, .long afees, av9, av10, av11, av12])), (aq1, .inl (ak1, 8, .inl ag1))] H := hP
  have hD : va_D A [(h0, .inr (5, [.ref jb, .ref qm, .int mc, .ref qh, .ref qk, .ref qf, .int bg, .ref jp])), (qk, .inl (kk, 9, .inr (.inr (.inr (.inr fo))))), (ro6, .inl (kr6, 8, .inl g2)), (qf, .inl (kf, 9, .inr (.inl g3))), (jb, .inr (0, [av0, .ref aq1, av2, av3, av4, av5, av6, av7, .long afees, av9, av10, av11, av12])), (aq1, .inl (ak1, 8, .inl ag1))] := hD
  have hP9 := hP.sub (ws' := [(h0, .inr (5, [.ref jb, .ref qm, .int mc, .ref qh, .ref qk, .ref qf, .int bg, .ref jp])), (qk, .inl (kk, 9, .inr (.inr (.inr (.inr fo))))), (ro6, .inl (kr6, 8, .inl g2)), (qf, .inl (kf, 9, .inr (.inl g3))), (jb, .inr (0, [av0, .ref aq1, av2, av3, av4, av5, av6, av7, .long afees, av9, av10, av11, av12])), (aq1, .inl (ak1, 8, .inl ag1))]) [0, 1, 2, 3, 4, 5] rfl
  have hD9 := hD.sub (ws' := [(h0, .inr (5, [.ref jb, .ref qm, .int mc, .ref qh, .ref qk, .ref qf, .int bg, .ref jp])), (qk, .inl (kk, 9, .inr (.inr (.inr (.inr fo))))), (ro6, .inl (kr6, 8, .inl g2)), (qf, .inl (kf, 9, .inr (.inl g3))), (jb, .inr (0, [av0, .ref aq1, av2, av3, av4, av5, av6, av7, .long afees, av9, av10, av11, av12])), (aq1, .inl (ak1, 8, .inl ag1))]) [0, 1, 2, 3, 4, 5] (by decide) rfl
  have hK9 := hK.sub (tys' := [(kk, .array .int), (kr6, .int), (kf, .long), (ak1, .int)]) [0, 1, 2, 3] rfl
  exact W.vret hx hb hr (fun t ht hW => ⟨⟨(), rfl, (by first | rfl | trivial), g2, g3, by rw [ht]; exact hP9, va_K.moved hW.alike hK9, hD9⟩, hS.F ht⟩) hS.2.2 dX6_keep_40

set_option maxRecDepth 100000 in
set_option maxHeartbeats 4000000 in
/-- Runner.undo at 6 -/
theorem c_X6_undo_d6 (l : Launch) (dC : Nat → ClassId) (dI : Nat → Nat → Nat) (h0 : Nat) (jb : Nat) (qm : Nat) (mc : Int32) (qh : Nat) (qk : Nat) (qf : Nat) (bg : Int32) (jp : Nat) (kk : ClassId) (fo : Nat → Option Nat) (ro6 : Nat) (kr6 : ClassId) (fr6 : Nat → Int32) (kf : ClassId) (ff : Nat → Int64) (av0 : Value) (aq1 : Nat) (av2 : Value) (av3 : Value) (av4 : Value) (av5 : Value) (av6 : Value) (av7 : Value) (afees : Int64) (av9 : Value) (av10 : Value) (av11 : Value) (av12 : Value) (ak1 : ClassId) (ag1 : Nat → Int32) (sz : Nat) (hf6 : fo 6 = some ro6) : Met l yX6_undo wsX6_undo ({ frames := 1, cells := 0, slots := 0, locals := 60 }) (va_Pc [.ref h0, .int 6] (fun U => U.heap.size = sz ∧ va_P (dC, dI) vwCl [(h0, .inr (5, [.ref jb, .ref qm, .int mc, .ref qh, .ref qk, .ref qf, .int bg, .ref jp])), (qk, .inl (kk, 9, .inr (.inr (.inr (.inr fo))))), (ro6, .inl (kr6, 8, .inl fr6)), (qf, .inl (kf, 9, .inr (.inl ff))), (jb, .inr (0, [av0, .ref aq1, av2, av3, av4, av5, av6, av7, .long afees, av9, av10, av11, av12])), (aq1, .inl (ak1, 8, .inl ag1))] U.heap ∧ va_K (dC, dI) vwCl [(kk, .array .int), (kr6, .int), (kf, .long), (ak1, .int)] U ∧ va_D (fun _ => True) [(h0, .inr (5, [.ref jb, .ref qm, .int mc, .ref qh, .ref qk, .ref qf, .int bg, .ref jp])), (qk, .inl (kk, 9, .inr (.inr (.inr (.inr fo))))), (ro6, .inl (kr6, 8, .inl fr6)), (qf, .inl (kf, 9, .inr (.inl ff))), (jb, .inr (0, [av0, .ref aq1, av2, av3, av4, av5, av6, av7, .long afees, av9, av10, av11, av12])), (aq1, .inl (ak1, 8, .inl ag1))])) (va_Qv (fun (_ : Unit) => True) (fun (_ : Unit) (t : State) => ∃ (ag1' : Nat → Int32), ∃ (afees' : Int64), va_P (dC, dI) vwCl [(h0, .inr (5, [.ref jb, .ref qm, .int mc, .ref qh, .ref qk, .ref qf, .int bg, .ref jp])), (qk, .inl (kk, 9, .inr (.inr (.inr (.inr fo))))), (ro6, .inl (kr6, 8, .inl fr6)), (qf, .inl (kf, 9, .inr (.inl ff))), (jb, .inr (0, [av0, .ref aq1, av2, av3, av4, av5, av6, av7, .long afees', av9, av10, av11, av12])), (aq1, .inl (ak1, 8, .inl (ag1')))] t.heap ∧ va_K (dC, dI) vwCl [(kk, .array .int), (kr6, .int), (kf, .long), (ak1, .int)] t ∧ va_D (va_A [(h0, .inr (5, [.ref jb, .ref qm, .int mc, .ref qh, .ref qk, .ref qf, .int bg, .ref jp])), (qk, .inl (kk, 9, .inr (.inr (.inr (.inr fo))))), (ro6, .inl (kr6, 8, .inl fr6)), (qf, .inl (kf, 9, .inr (.inl ff))), (jb, .inr (0, [av0, .ref aq1, av2, av3, av4, av5, av6, av7, .long afees, av9, av10, av11, av12])), (aq1, .inl (ak1, 8, .inl ag1))] sz) [(h0, .inr (5, [.ref jb, .ref qm, .int mc, .ref qh, .ref qk, .ref qf, .int bg, .ref jp])), (qk, .inl (kk, 9, .inr (.inr (.inr (.inr fo))))), (ro6, .inl (kr6, 8, .inl fr6)), (qf, .inl (kf, 9, .inr (.inl ff))), (jb, .inr (0, [av0, .ref aq1, av2, av3, av4, av5, av6, av7, .long afees', av9, av10, av11, av12])), (aq1, .inl (ak1, 8, .inl (ag1')))]) (va_A [(h0, .inr (5, [.ref jb, .ref qm, .int mc, .ref qh, .ref qk, .ref qf, .int bg, .ref jp])), (qk, .inl (kk, 9, .inr (.inr (.inr (.inr fo))))), (ro6, .inl (kr6, 8, .inl fr6)), (qf, .inl (kf, 9, .inr (.inl ff))), (jb, .inr (0, [av0, .ref aq1, av2, av3, av4, av5, av6, av7, .long afees, av9, av10, av11, av12])), (aq1, .inl (ak1, 8, .inl ag1))] sz)) 0 0 (va_A [(h0, .inr (5, [.ref jb, .ref qm, .int mc, .ref qh, .ref qk, .ref qf, .int bg, .ref jp])), (qk, .inl (kk, 9, .inr (.inr (.inr (.inr fo))))), (ro6, .inl (kr6, 8, .inl fr6)), (qf, .inl (kf, 9, .inr (.inl ff))), (jb, .inr (0, [av0, .ref aq1, av2, av3, av4, av5, av6, av7, .long afees, av9, av10, av11, av12])), (aq1, .inl (ak1, 8, .inl ag1))] sz) := by
  refine Met.ofW (cc := cX6_undo) (maxL := 2) (ret := none) (by decide) rfl ?_
  intro p e s m args below meth c s₁ B hml hv
  obtain ⟨rfl, hsz, hP, hK, hD0⟩ := hv
  have hx := B.exec
  have hb := B.bytes
  have hr := B.returns
  have hts := atoms_spec (ws := wsX6_undo) B.pre
  have hown : s.vm.findClass RX6 = some m.cls := findClass_of_methodNamed B.named
  have hlocks := B.notSynchronized
  subst hsz
  have hD := hD0.self (sz := s.heap.size)
  generalize hAe : va_A [(h0, .inr (5, [.ref jb, .ref qm, .int mc, .ref qh, .ref qk, .ref qf, .int bg, .ref jp])), (qk, .inl (kk, 9, .inr (.inr (.inr (.inr fo))))), (ro6, .inl (kr6, 8, .inl fr6)), (qf, .inl (kf, 9, .inr (.inl ff))), (jb, .inr (0, [av0, .ref aq1, av2, av3, av4, av5, av6, av7, .long afees, av9, av10, av11, av12])), (aq1, .inl (ak1, 8, .inl ag1))] s.heap.size = A at hD ⊢
  have hA : ∀ q : Nat, s.heap.size ≤ q → A q := fun q h => by rw [← hAe]; exact Or.inr h
  have hS : va_S A s.heap s.heap [] := va_S.rf
  have hP : va_P (dC, dI) vwCl [(h0, .inr (5, [.ref jb, .ref qm, .int mc, .ref qh, .ref qk, .ref qf, .int bg, .ref jp])), (qk, .inl (kk, 9, .inr (.inr (.inr (.inr fo))))), (ro6, .inl (kr6, 8, .inl fr6)), (qf, .inl (kf, 9, .inr (.inl ff))), (jb, .inr (0, [av0, .ref aq1, av2, av3, av4, av5, av6, av7, .long afees, av9, av10, av11, av12])), (aq1, .inl (ak1, 8, .inl ag1))] s.heap := hP
  have hl := lv_entry ([.ref h0, .int 6]) (n := 2) (Nat.le_of_ble_eq_true rfl)
  rw [lg_entry_eq]
  generalize (lg_sl ([.ref h0, .int 6]) ++ List.replicate (2 - (lg_sl ([.ref h0, .int 6])).length) Slot.unset).toArray = ls at hl ⊢
  have hl : lv_has ls 2 [(0, .ref h0), (1, .int 6)] := hl
  refine lv_iload_n hx hb dX6_undo_0 rfl (lv_at hl 1 rfl) ?_
  refine lv_bipush (v := 8) hx hb dX6_undo_1 (by decide) ?_
  refine lv_icmp_le (tgt := 7) hx hb dX6_undo_3 (by decide) (fun c1 => ?_) (fun c1 => absurd (by decide) c1)
  refine lv_aload_n hx hb dX6_undo_7 rfl (lv_at hl 0 rfl) ?_
  refine va_get (D := (dC, dI)) (ci := 5) (v := .ref qk) (C := RX6) (T := TX6) (N := 8) hx hb hts in_X6_undo_X6 hown hK hP 0 rfl rfl 4 (by decide) (hts (.fieldLink RX6 20 "ClearingGates$Runner" "keptBalances" "[[I") (List.mem_of_getElem? (i := 1) (by decide +kernel))) (fun _ h9 => h9) rfl dX6_undo_8 ?_
  refine lv_iload_n hx hb dX6_undo_11 rfl (lv_at hl 1 rfl) ?_
  refine va_aldm (D := (dC, dI)) hx hb hK hP 1 0 rfl rfl (vp_in_iff.mpr ⟨by decide, by decide⟩) dX6_undo_12 ?_
  rw [show va_rf (fo (6 : Int32).toNatClampNeg) = .ref ro6 from by rw [show (6 : Int32).toNatClampNeg = 6 from rfl, hf6]; rfl]
  refine lv_iconst (v := 0) hx hb dX6_undo_13 (by decide) ?_
  refine lv_aload_n hx hb dX6_undo_14 rfl (lv_at hl 0 rfl) ?_
  refine va_get (D := (dC, dI)) (ci := 5) (v := .ref jb) (C := RX6) (T := TX6) (N := 8) hx hb hts in_X6_undo_X6 hown hK hP 0 rfl rfl 0 (by decide) (hts (.fieldLink RX6 27 "ClearingGates$Runner" "books" "LClearingGates$Books;") (List.mem_of_getElem? (i := 2) (by decide +kernel))) (fun _ h9 => h9) rfl dX6_undo_15 ?_
  refine va_get (D := (dC, dI)) (ci := 0) (v := .ref aq1) (C := RX0) (T := TX0) (N := 13) hx hb hts in_X6_undo_X0 hown hK hP 4 rfl rfl 1 (by decide) (hts (.fieldLink RX6 134 "ClearingGates$Books" "balances" "[I") (List.mem_of_getElem? (i := 3) (by decide +kernel))) (fun _ h9 => h9) rfl dX6_undo_18 ?_
  refine lv_iconst (v := 0) hx hb dX6_undo_21 (by decide) ?_
  refine lv_bipush (v := 8) hx hb dX6_undo_22 (by decide) ?_
  refine va_copyi (D := (dC, dI)) hx hb (hml.trans hl.1.symm) hown (hts (.methodLink RX6 154 arraycopyName) (List.mem_of_getElem? (i := 4) (by decide +kernel))) (hts (.native arraycopyName) (List.mem_of_getElem? (i := 5) (by decide +kernel))) (hts (.static arraycopyName) (List.mem_of_getElem? (i := 6) (by decide +kernel))) (hts (.initialized "java/lang/System") (List.mem_of_getElem? (i := 7) (by decide +kernel))) hK hP hD hS 2 5 1 3 rfl rfl rfl rfl rfl (by decide) (by decide) (by decide) (by decide) (by decide) (fun _ _ => rfl) (Nat.le_of_ble_eq_true rfl) (by decide) dX6_undo_24 (fun H locs hP hD hS => ?_)
  generalize e_g2 : (va_cpy fr6 ag1 (0 : Int32).toNatClampNeg (0 : Int32).toNatClampNeg (8 : Int32).toNatClampNeg) = g2 at hP hD
  have hP : va_P (dC, dI) vwCl [(h0, .inr (5, [.ref jb, .ref qm, .int mc, .ref qh, .ref qk, .ref qf, .int bg, .ref jp])), (qk, .inl (kk, 9, .inr (.inr (.inr (.inr fo))))), (ro6, .inl (kr6, 8, .inl fr6)), (qf, .inl (kf, 9, .inr (.inl ff))), (jb, .inr (0, [av0, .ref aq1, av2, av3, av4, av5, av6, av7, .long afees, av9, av10, av11, av12])), (aq1, .inl (ak1, 8, .inl g2))] H := hP
  have hD : va_D A [(h0, .inr (5, [.ref jb, .ref qm, .int mc, .ref qh, .ref qk, .ref qf, .int bg, .ref jp])), (qk, .inl (kk, 9, .inr (.inr (.inr (.inr fo))))), (ro6, .inl (kr6, 8, .inl fr6)), (qf, .inl (kf, 9, .inr (.inl ff))), (jb, .inr (0, [av0, .ref aq1, av2, av3, av4, av5, av6, av7, .long afees, av9, av10, av11, av12])), (aq1, .inl (ak1, 8, .inl g2))] := hD
  refine lv_aload_n hx hb dX6_undo_27 rfl (lv_at hl 0 rfl) ?_
  refine va_get (D := (dC, dI)) (ci := 5) (v := .ref jb) (C := RX6) (T := TX6) (N := 8) hx hb hts in_X6_undo_X6 hown hK hP 0 rfl rfl 0 (by decide) (hts (.fieldLink RX6 27 "ClearingGates$Runner" "books" "LClearingGates$Books;") (List.mem_of_getElem? (i := 2) (by decide +kernel))) (fun _ h9 => h9) rfl dX6_undo_28 ?_
  refine lv_aload_n hx hb dX6_undo_31 rfl (lv_at hl 0 rfl) ?_
  refine va_get (D := (dC, dI)) (ci := 5) (v := .ref qf) (C := RX6) (T := TX6) (N := 8) hx hb hts in_X6_undo_X6 hown hK hP 0 rfl rfl 5 (by decide) (hts (.fieldLink RX6 23 "ClearingGates$Runner" "keptFees" "[J") (List.mem_of_getElem? (i := 8) (by decide +kernel))) (fun _ h9 => h9) rfl dX6_undo_32 ?_
  refine lv_iload_n hx hb dX6_undo_35 rfl (lv_at hl 1 rfl) ?_
  refine va_lald (D := (dC, dI)) hx hb hK hP 3 2 rfl rfl (vp_in_iff.mpr ⟨by decide, by decide⟩) dX6_undo_36 ?_
  refine lv_topl (fun z3 e_z3 => ?_)
  refine va_put (D := (dC, dI)) (ci := 0) (v := .long z3) (ty := .long) (C := RX0) (T := TX0) (N := 13) hx hb hts in_X6_undo_X0 tyX0 tyX0_ok nmX0 hown hK hP hD hS 4 rfl rfl 8 (by decide) (hts (.fieldLink RX6 141 "ClearingGates$Books" "fees" "J") (List.mem_of_getElem? (i := 9) (by decide +kernel))) (fun _ h9 => h9) rfl (by decide +kernel) rfl rfl (Nat.le_of_ble_eq_true rfl) dX6_undo_37 (fun H locs hP hD hS => ?_)
  have hP : va_P (dC, dI) vwCl [(h0, .inr (5, [.ref jb, .ref qm, .int mc, .ref qh, .ref qk, .ref qf, .int bg, .ref jp])), (qk, .inl (kk, 9, .inr (.inr (.inr (.inr fo))))), (ro6, .inl (kr6, 8, .inl fr6)), (qf, .inl (kf, 9, .inr (.inl ff))), (jb, .inr (0, [av0, .ref aq1, av2, av3, av4, av5, av6, av7, .long z3, av9, av10, av11, av12])), (aq1, .inl (ak1, 8, .inl g2))] H := hP
  have hD : va_D A [(h0, .inr (5, [.ref jb, .ref qm, .int mc, .ref qh, .ref qk, .ref qf, .int bg, .ref jp])), (qk, .inl (kk, 9, .inr (.inr (.inr (.inr fo))))), (ro6, .inl (kr6, 8, .inl fr6)), (qf, .inl (kf, 9, .inr (.inl ff))), (jb, .inr (0, [av0, .ref aq1, av2, av3, av4, av5, av6, av7, .long z3, av9, av10, av11, av12])), (aq1, .inl (ak1, 8, .inl g2))] := hD
  have hP9 := hP.sub (ws' := [(h0, .inr (5, [.ref jb, .ref qm, .int mc, .ref qh, .ref qk, .ref qf, .int bg, .ref jp])), (qk, .inl (kk, 9, .inr (.inr (.inr (.inr fo))))), (ro6, .inl (kr6, 8, .inl fr6)), (qf, .inl (kf, 9, .inr (.inl ff))), (jb, .inr (0, [av0, .ref aq1, av2, av3, av4, av5, av6, av7, .long z3, av9, av10, av11, av12])), (aq1, .inl (ak1, 8, .inl g2))]) [0, 1, 2, 3, 4, 5] rfl
  have hD9 := hD.sub (ws' := [(h0, .inr (5, [.ref jb, .ref qm, .int mc, .ref qh, .ref qk, .ref qf, .int bg, .ref jp])), (qk, .inl (kk, 9, .inr (.inr (.inr (.inr fo))))), (ro6, .inl (kr6, 8, .inl fr6)), (qf, .inl (kf, 9, .inr (.inl ff))), (jb, .inr (0, [av0, .ref aq1, av2, av3, av4, av5, av6, av7, .long z3, av9, av10, av11, av12])), (aq1, .inl (ak1, 8, .inl g2))]) [0, 1, 2, 3, 4, 5] (by decide) rfl
  have hK9 := hK.sub (tys' := [(kk, .array .int), (kr6, .int), (kf, .long), (ak1, .int)]) [0, 1, 2, 3] rfl
  exact W.vret hx hb hr (fun t ht hW => ⟨⟨(), rfl, (by first | rfl | trivial), g2, z3, by rw [ht]; exact hP9, va_K.moved hW.alike hK9, hD9⟩, hS.F ht⟩) hS.2.2 dX6_undo_40

set_option maxRecDepth 100000 in
set_option maxHeartbeats 4000000 in
/-- Runner.keep at 7 -/
theorem c_X6_keep_d7 (l : Launch) (dC : Nat → ClassId) (dI : Nat → Nat → Nat) (h0 : Nat) (jb : Nat) (qm : Nat) (mc : Int32) (qh : Nat) (qk : Nat) (qf : Nat) (bg : Int32) (jp : Nat) (kk : ClassId) (fo : Nat → Option Nat) (ro7 : Nat) (kr7 : ClassId) (fr7 : Nat → Int32) (kf : ClassId) (ff : Nat → Int64) (av0 : Value) (aq1 : Nat) (av2 : Value) (av3 : Value) (av4 : Value) (av5 : Value) (av6 : Value) (av7 : Value) (afees : Int64) (av9 : Value) (av10 : Value) (av11 : Value) (av12 : Value) (ak1 : ClassId) (ag1 : Nat → Int32) (sz : Nat) (hf7 : fo 7 = some ro7) : Met l yX6_keep wsX6_keep ({ frames := 1, cells := 0, slots := 0, locals := 60 }) (va_Pc [.ref h0, .int 7] (fun U => U.heap.size = sz ∧ va_P (dC, dI) vwCl [(h0, .inr (5, [.ref jb, .ref qm, .int mc, .ref qh, .ref qk, .ref qf, .int bg, .ref jp])), (qk, .inl (kk, 9, .inr (.inr (.inr (.inr fo))))), (ro7, .inl (kr7, 8, .inl fr7)), (qf, .inl (kf, 9, .inr (.inl ff))), (jb, .inr (0, [av0, .ref aq1, av2, av3, av4, av5, av6, av7, .long afees, av9, av10, av11, av12])), (aq1, .inl (ak1, 8, .inl ag1))] U.heap ∧ va_K (dC, dI) vwCl [(kk, .array .int), (kr7, .int), (kf, .long), (ak1, .int)] U ∧ va_D (fun _ => True) [(h0, .inr (5, [.ref jb, .ref qm, .int mc, .ref qh, .ref qk, .ref qf, .int bg, .ref jp])), (qk, .inl (kk, 9, .inr (.inr (.inr (.inr fo))))), (ro7, .inl (kr7, 8, .inl fr7)), (qf, .inl (kf, 9, .inr (.inl ff))), (jb, .inr (0, [av0, .ref aq1, av2, av3, av4, av5, av6, av7, .long afees, av9, av10, av11, av12])), (aq1, .inl (ak1, 8, .inl ag1))])) (va_Qv (fun (_ : Unit) => True) (fun (_ : Unit) (t : State) => ∃ (fr7' : Nat → Int32), ∃ (ff' : Nat → Int64), va_P (dC, dI) vwCl [(h0, .inr (5, [.ref jb, .ref qm, .int mc, .ref qh, .ref qk, .ref qf, .int bg, .ref jp])), (qk, .inl (kk, 9, .inr (.inr (.inr (.inr fo))))), (ro7, .inl (kr7, 8, .inl (fr7'))), (qf, .inl (kf, 9, .inr (.inl (ff')))), (jb, .inr (0, [av0, .ref aq1, av2, av3, av4, av5, av6, av7, .long afees, av9, av10, av11, av12])), (aq1, .inl (ak1, 8, .inl ag1))] t.heap ∧ va_K (dC, dI) vwCl [(kk, .array .int), (kr7, .int), (kf, .long), (ak1, .int)] t ∧ va_D (va_A [(h0, .inr (5, [.ref jb, .ref qm, .int mc, .ref qh, .ref qk, .ref qf, .int bg, .ref jp])), (qk, .inl (kk, 9, .inr (.inr (.inr (.inr fo))))), (ro7, .inl (kr7, 8, .inl fr7)), (qf, .inl (kf, 9, .inr (.inl ff))), (jb, .inr (0, [av0, .ref aq1, av2, av3, av4, av5, av6, av7, .long afees, av9, av10, av11, av12])), (aq1, .inl (ak1, 8, .inl ag1))] sz) [(h0, .inr (5, [.ref jb, .ref qm, .int mc, .ref qh, .ref qk, .ref qf, .int bg, .ref jp])), (qk, .inl (kk, 9, .inr (.inr (.inr (.inr fo))))), (ro7, .inl (kr7, 8, .inl (fr7'))), (qf, .inl (kf, 9, .inr (.inl (ff')))), (jb, .inr (0, [av0, .ref aq1, av2, av3, av4, av5, av6, av7, .long afees, av9, av10, av11, av12])), (aq1, .inl (ak1, 8, .inl ag1))]) (va_A [(h0, .inr (5, [.ref jb, .ref qm, .int mc, .ref qh, .ref qk, .ref qf, .int bg, .ref jp])), (qk, .inl (kk, 9, .inr (.inr (.inr (.inr fo))))), (ro7, .inl (kr7, 8, .inl fr7)), (qf, .inl (kf, 9, .inr (.inl ff))), (jb, .inr (0, [av0, .ref aq1, av2, av3, av4, av5, av6, av7, .long afees, av9, av10, av11, av12])), (aq1, .inl (ak1, 8, .inl ag1))] sz)) 0 0 (va_A [(h0, .inr (5, [.ref jb, .ref qm, .int mc, .ref qh, .ref qk, .ref qf, .int bg, .ref jp])), (qk, .inl (kk, 9, .inr (.inr (.inr (.inr fo))))), (ro7, .inl (kr7, 8, .inl fr7)), (qf, .inl (kf, 9, .inr (.inl ff))), (jb, .inr (0, [av0, .ref aq1, av2, av3, av4, av5, av6, av7, .long afees, av9, av10, av11, av12])), (aq1, .inl (ak1, 8, .inl ag1))] sz) := by
  refine Met.ofW (cc := cX6_keep) (maxL := 2) (ret := none) (by decide) rfl ?_
  intro p e s m args below meth c s₁ B hml hv
  obtain ⟨rfl, hsz, hP, hK, hD0⟩ := hv
  have hx := B.exec
  have hb := B.bytes
  have hr := B.returns
  have hts := atoms_spec (ws := wsX6_keep) B.pre
  have hown : s.vm.findClass RX6 = some m.cls := findClass_of_methodNamed B.named
  have hlocks := B.notSynchronized
  subst hsz
  have hD := hD0.self (sz := s.heap.size)
  generalize hAe : va_A [(h0, .inr (5, [.ref jb, .ref qm, .int mc, .ref qh, .ref qk, .ref qf, .int bg, .ref jp])), (qk, .inl (kk, 9, .inr (.inr (.inr (.inr fo))))), (ro7, .inl (kr7, 8, .inl fr7)), (qf, .inl (kf, 9, .inr (.inl ff))), (jb, .inr (0, [av0, .ref aq1, av2, av3, av4, av5, av6, av7, .long afees, av9, av10, av11, av12])), (aq1, .inl (ak1, 8, .inl ag1))] s.heap.size = A at hD ⊢
  have hA : ∀ q : Nat, s.heap.size ≤ q → A q := fun q h => by rw [← hAe]; exact Or.inr h
  have hS : va_S A s.heap s.heap [] := va_S.rf
  have hP : va_P (dC, dI) vwCl [(h0, .inr (5, [.ref jb, .ref qm, .int mc, .ref qh, .ref qk, .ref qf, .int bg, .ref jp])), (qk, .inl (kk, 9, .inr (.inr (.inr (.inr fo))))), (ro7, .inl (kr7, 8, .inl fr7)), (qf, .inl (kf, 9, .inr (.inl ff))), (jb, .inr (0, [av0, .ref aq1, av2, av3, av4, av5, av6, av7, .long afees, av9, av10, av11, av12])), (aq1, .inl (ak1, 8, .inl ag1))] s.heap := hP
  have hl := lv_entry ([.ref h0, .int 7]) (n := 2) (Nat.le_of_ble_eq_true rfl)
  rw [lg_entry_eq]
  generalize (lg_sl ([.ref h0, .int 7]) ++ List.replicate (2 - (lg_sl ([.ref h0, .int 7])).length) Slot.unset).toArray = ls at hl ⊢
  have hl : lv_has ls 2 [(0, .ref h0), (1, .int 7)] := hl
  refine lv_iload_n hx hb dX6_keep_0 rfl (lv_at hl 1 rfl) ?_
  refine lv_bipush (v := 8) hx hb dX6_keep_1 (by decide) ?_
  refine lv_icmp_le (tgt := 7) hx hb dX6_keep_3 (by decide) (fun c1 => ?_) (fun c1 => absurd (by decide) c1)
  refine lv_aload_n hx hb dX6_keep_7 rfl (lv_at hl 0 rfl) ?_
  refine va_get (D := (dC, dI)) (ci := 5) (v := .ref jb) (C := RX6) (T := TX6) (N := 8) hx hb hts in_X6_keep_X6 hown hK hP 0 rfl rfl 0 (by decide) (hts (.fieldLink RX6 27 "ClearingGates$Runner" "books" "LClearingGates$Books;") (List.mem_of_getElem? (i := 1) (by decide +kernel))) (fun _ h9 => h9) rfl dX6_keep_8 ?_
  refine va_get (D := (dC, dI)) (ci := 0) (v := .ref aq1) (C := RX0) (T := TX0) (N := 13) hx hb hts in_X6_keep_X0 hown hK hP 4 rfl rfl 1 (by decide) (hts (.fieldLink RX6 134 "ClearingGates$Books" "balances" "[I") (List.mem_of_getElem? (i := 2) (by decide +kernel))) (fun _ h9 => h9) rfl dX6_keep_11 ?_
  refine lv_iconst (v := 0) hx hb dX6_keep_14 (by decide) ?_
  refine lv_aload_n hx hb dX6_keep_15 rfl (lv_at hl 0 rfl) ?_
  refine va_get (D := (dC, dI)) (ci := 5) (v := .ref qk) (C := RX6) (T := TX6) (N := 8) hx hb hts in_X6_keep_X6 hown hK hP 0 rfl rfl 4 (by decide) (hts (.fieldLink RX6 20 "ClearingGates$Runner" "keptBalances" "[[I") (List.mem_of_getElem? (i := 3) (by decide +kernel))) (fun _ h9 => h9) rfl dX6_keep_16 ?_
  refine lv_iload_n hx hb dX6_keep_19 rfl (lv_at hl 1 rfl) ?_
  refine va_aldm (D := (dC, dI)) hx hb hK hP 1 0 rfl rfl (vp_in_iff.mpr ⟨by decide, by decide⟩) dX6_keep_20 ?_
  rw [show va_rf (fo (7 : Int32).toNatClampNeg) = .ref ro7 from by rw [show (7 : Int32).toNatClampNeg = 7 from rfl, hf7]; rfl]
  refine lv_iconst (v := 0) hx hb dX6_keep_21 (by decide) ?_
  refine lv_bipush (v := 8) hx hb dX6_keep_22 (by decide) ?_
  refine va_copyi (D := (dC, dI)) hx hb (hml.trans hl.1.symm) hown (hts (.methodLink RX6 154 arraycopyName) (List.mem_of_getElem? (i := 4) (by decide +kernel))) (hts (.native arraycopyName) (List.mem_of_getElem? (i := 5) (by decide +kernel))) (hts (.static arraycopyName) (List.mem_of_getElem? (i := 6) (by decide +kernel))) (hts (.initialized "java/lang/System") (List.mem_of_getElem? (i := 7) (by decide +kernel))) hK hP hD hS 5 2 3 1 rfl rfl rfl rfl rfl (by decide) (by decide) (by decide) (by decide) (by decide) (fun _ _ => rfl) (Nat.le_of_ble_eq_true rfl) (by decide) dX6_keep_24 (fun H locs hP hD hS => ?_)
  generalize e_g2 : (va_cpy ag1 fr7 (0 : Int32).toNatClampNeg (0 : Int32).toNatClampNeg (8 : Int32).toNatClampNeg) = g2 at hP hD
  have hP : va_P (dC, dI) vwCl [(h0, .inr (5, [.ref jb, .ref qm, .int mc, .ref qh, .ref qk, .ref qf, .int bg, .ref jp])), (qk, .inl (kk, 9, .inr (.inr (.inr (.inr fo))))), (ro7, .inl (kr7, 8, .inl g2)), (qf, .inl (kf, 9, .inr (.inl ff))), (jb, .inr (0, [av0, .ref aq1, av2, av3, av4, av5, av6, av7, .long afees, av9, av10, av11, av12])), (aq1, .inl (ak1, 8, .inl ag1))] H := hP
  have hD : va_D A [(h0, .inr (5, [.ref jb, .ref qm, .int mc, .ref qh, .ref qk, .ref qf, .int bg, .ref jp])), (qk, .inl (kk, 9, .inr (.inr (.inr (.inr fo))))), (ro7, .inl (kr7, 8, .inl g2)), (qf, .inl (kf, 9, .inr (.inl ff))), (jb, .inr (0, [av0, .ref aq1, av2, av3, av4, av5, av6, av7, .long afees, av9, av10, av11, av12])), (aq1, .inl (ak1, 8, .inl ag1))] := hD
  refine lv_aload_n hx hb dX6_keep_27 rfl (lv_at hl 0 rfl) ?_
  refine va_get (D := (dC, dI)) (ci := 5) (v := .ref qf) (C := RX6) (T := TX6) (N := 8) hx hb hts in_X6_keep_X6 hown hK hP 0 rfl rfl 5 (by decide) (hts (.fieldLink RX6 23 "ClearingGates$Runner" "keptFees" "[J") (List.mem_of_getElem? (i := 8) (by decide +kernel))) (fun _ h9 => h9) rfl dX6_keep_28 ?_
  refine lv_iload_n hx hb dX6_keep_31 rfl (lv_at hl 1 rfl) ?_
  refine lv_aload_n hx hb dX6_keep_32 rfl (lv_at hl 0 rfl) ?_
  refine va_get (D := (dC, dI)) (ci := 5) (v := .ref jb) (C := RX6) (T := TX6) (N := 8) hx hb hts in_X6_keep_X6 hown hK hP 0 rfl rfl 0 (by decide) (hts (.fieldLink RX6 27 "ClearingGates$Runner" "books" "LClearingGates$Books;") (List.mem_of_getElem? (i := 1) (by decide +kernel))) (fun _ h9 => h9) rfl dX6_keep_33 ?_
  refine va_get (D := (dC, dI)) (ci := 0) (v := .long afees) (C := RX0) (T := TX0) (N := 13) hx hb hts in_X6_keep_X0 hown hK hP 4 rfl rfl 8 (by decide) (hts (.fieldLink RX6 141 "ClearingGates$Books" "fees" "J") (List.mem_of_getElem? (i := 9) (by decide +kernel))) (fun _ h9 => h9) rfl dX6_keep_36 ?_
  refine va_last (D := (dC, dI)) hx hb hK hP hD hS 3 2 rfl rfl (vp_in_iff.mpr ⟨by decide, by decide⟩) dX6_keep_39 (fun H locs hP hD hS => ?_)
  generalize e_g3 : (vp_updL ff ((7 : Int32)).toNatClampNeg afees) = g3 at hP hD
  have hP : va_P (dC, dI) vwCl [(h0, .inr (5, [.ref jb, .ref qm, .int mc, .ref qh, .ref qk, .ref qf, .int bg, .ref jp])), (qk, .inl (kk, 9, .inr (.inr (.inr (.inr fo))))), (ro7, .inl (kr7, 8, .inl g2)), (qf, .inl (kf, 9, .inr (.inl g3))), (jb, .inr (0, [av0, .ref aq1, av2, av3, av4, av5, av6, av7, .long afees, av9, av10, av11, av12])), (aq1, .inl (ak1, 8, .inl ag1))] H := hP
  have hD : va_D A [(h0, .inr (5, [.ref jb, .ref qm, .int mc, .ref qh, .ref qk, .ref qf, .int bg, .ref jp])), (qk, .inl (kk, 9, .inr (.inr (.inr (.inr fo))))), (ro7, .inl (kr7, 8, .inl g2)), (qf, .inl (kf, 9, .inr (.inl g3))), (jb, .inr (0, [av0, .ref aq1, av2, av3, av4, av5, av6, av7, .long afees, av9, av10, av11, av12])), (aq1, .inl (ak1, 8, .inl ag1))] := hD
  have hP9 := hP.sub (ws' := [(h0, .inr (5, [.ref jb, .ref qm, .int mc, .ref qh, .ref qk, .ref qf, .int bg, .ref jp])), (qk, .inl (kk, 9, .inr (.inr (.inr (.inr fo))))), (ro7, .inl (kr7, 8, .inl g2)), (qf, .inl (kf, 9, .inr (.inl g3))), (jb, .inr (0, [av0, .ref aq1, av2, av3, av4, av5, av6, av7, .long afees, av9, av10, av11, av12])), (aq1, .inl (ak1, 8, .inl ag1))]) [0, 1, 2, 3, 4, 5] rfl
  have hD9 := hD.sub (ws' := [(h0, .inr (5, [.ref jb, .ref qm, .int mc, .ref qh, .ref qk, .ref qf, .int bg, .ref jp])), (qk, .inl (kk, 9, .inr (.inr (.inr (.inr fo))))), (ro7, .inl (kr7, 8, .inl g2)), (qf, .inl (kf, 9, .inr (.inl g3))), (jb, .inr (0, [av0, .ref aq1, av2, av3, av4, av5, av6, av7, .long afees, av9, av10, av11, av12])), (aq1, .inl (ak1, 8, .inl ag1))]) [0, 1, 2, 3, 4, 5] (by decide) rfl
  have hK9 := hK.sub (tys' := [(kk, .array .int), (kr7, .int), (kf, .long), (ak1, .int)]) [0, 1, 2, 3] rfl
  exact W.vret hx hb hr (fun t ht hW => ⟨⟨(), rfl, (by first | rfl | trivial), g2, g3, by rw [ht]; exact hP9, va_K.moved hW.alike hK9, hD9⟩, hS.F ht⟩) hS.2.2 dX6_keep_40

set_option maxRecDepth 100000 in
set_option maxHeartbeats 4000000 in
/-- Runner.undo at 7 -/
theorem c_X6_undo_d7 (l : Launch) (dC : Nat → ClassId) (dI : Nat → Nat → Nat) (h0 : Nat) (jb : Nat) (qm : Nat) (mc : Int32) (qh : Nat) (qk : Nat) (qf : Nat) (bg : Int32) (jp : Nat) (kk : ClassId) (fo : Nat → Option Nat) (ro7 : Nat) (kr7 : ClassId) (fr7 : Nat → Int32) (kf : ClassId) (ff : Nat → Int64) (av0 : Value) (aq1 : Nat) (av2 : Value) (av3 : Value) (av4 : Value) (av5 : Value) (av6 : Value) (av7 : Value) (afees : Int64) (av9 : Value) (av10 : Value) (av11 : Value) (av12 : Value) (ak1 : ClassId) (ag1 : Nat → Int32) (sz : Nat) (hf7 : fo 7 = some ro7) : Met l yX6_undo wsX6_undo ({ frames := 1, cells := 0, slots := 0, locals := 60 }) (va_Pc [.ref h0, .int 7] (fun U => U.heap.size = sz ∧ va_P (dC, dI) vwCl [(h0, .inr (5, [.ref jb, .ref qm, .int mc, .ref qh, .ref qk, .ref qf, .int bg, .ref jp])), (qk, .inl (kk, 9, .inr (.inr (.inr (.inr fo))))), (ro7, .inl (kr7, 8, .inl fr7)), (qf, .inl (kf, 9, .inr (.inl ff))), (jb, .inr (0, [av0, .ref aq1, av2, av3, av4, av5, av6, av7, .long afees, av9, av10, av11, av12])), (aq1, .inl (ak1, 8, .inl ag1))] U.heap ∧ va_K (dC, dI) vwCl [(kk, .array .int), (kr7, .int), (kf, .long), (ak1, .int)] U ∧ va_D (fun _ => True) [(h0, .inr (5, [.ref jb, .ref qm, .int mc, .ref qh, .ref qk, .ref qf, .int bg, .ref jp])), (qk, .inl (kk, 9, .inr (.inr (.inr (.inr fo))))), (ro7, .inl (kr7, 8, .inl fr7)), (qf, .inl (kf, 9, .inr (.inl ff))), (jb, .inr (0, [av0, .ref aq1, av2, av3, av4, av5, av6, av7, .long afees, av9, av10, av11, av12])), (aq1, .inl (ak1, 8, .inl ag1))])) (va_Qv (fun (_ : Unit) => True) (fun (_ : Unit) (t : State) => ∃ (ag1' : Nat → Int32), ∃ (afees' : Int64), va_P (dC, dI) vwCl [(h0, .inr (5, [.ref jb, .ref qm, .int mc, .ref qh, .ref qk, .ref qf, .int bg, .ref jp])), (qk, .inl (kk, 9, .inr (.inr (.inr (.inr fo))))), (ro7, .inl (kr7, 8, .inl fr7)), (qf, .inl (kf, 9, .inr (.inl ff))), (jb, .inr (0, [av0, .ref aq1, av2, av3, av4, av5, av6, av7, .long afees', av9, av10, av11, av12])), (aq1, .inl (ak1, 8, .inl (ag1')))] t.heap ∧ va_K (dC, dI) vwCl [(kk, .array .int), (kr7, .int), (kf, .long), (ak1, .int)] t ∧ va_D (va_A [(h0, .inr (5, [.ref jb, .ref qm, .int mc, .ref qh, .ref qk, .ref qf, .int bg, .ref jp])), (qk, .inl (kk, 9, .inr (.inr (.inr (.inr fo))))), (ro7, .inl (kr7, 8, .inl fr7)), (qf, .inl (kf, 9, .inr (.inl ff))), (jb, .inr (0, [av0, .ref aq1, av2, av3, av4, av5, av6, av7, .long afees, av9, av10, av11, av12])), (aq1, .inl (ak1, 8, .inl ag1))] sz) [(h0, .inr (5, [.ref jb, .ref qm, .int mc, .ref qh, .ref qk, .ref qf, .int bg, .ref jp])), (qk, .inl (kk, 9, .inr (.inr (.inr (.inr fo))))), (ro7, .inl (kr7, 8, .inl fr7)), (qf, .inl (kf, 9, .inr (.inl ff))), (jb, .inr (0, [av0, .ref aq1, av2, av3, av4, av5, av6, av7, .long afees', av9, av10, av11, av12])), (aq1, .inl (ak1, 8, .inl (ag1')))]) (va_A [(h0, .inr (5, [.ref jb, .ref qm, .int mc, .ref qh, .ref qk, .ref qf, .int bg, .ref jp])), (qk, .inl (kk, 9, .inr (.inr (.inr (.inr fo))))), (ro7, .inl (kr7, 8, .inl fr7)), (qf, .inl (kf, 9, .inr (.inl ff))), (jb, .inr (0, [av0, .ref aq1, av2, av3, av4, av5, av6, av7, .long afees, av9, av10, av11, av12])), (aq1, .inl (ak1, 8, .inl ag1))] sz)) 0 0 (va_A [(h0, .inr (5, [.ref jb, .ref qm, .int mc, .ref qh, .ref qk, .ref qf, .int bg, .ref jp])), (qk, .inl (kk, 9, .inr (.inr (.inr (.inr fo))))), (ro7, .inl (kr7, 8, .inl fr7)), (qf, .inl (kf, 9, .inr (.inl ff))), (jb, .inr (0, [av0, .ref aq1, av2, av3, av4, av5, av6, av7, .long afees, av9, av10, av11, av12])), (aq1, .inl (ak1, 8, .inl ag1))] sz) := by
  refine Met.ofW (cc := cX6_undo) (maxL := 2) (ret := none) (by decide) rfl ?_
  intro p e s m args below meth c s₁ B hml hv
  obtain ⟨rfl, hsz, hP, hK, hD0⟩ := hv
  have hx := B.exec
  have hb := B.bytes
  have hr := B.returns
  have hts := atoms_spec (ws := wsX6_undo) B.pre
  have hown : s.vm.findClass RX6 = some m.cls := findClass_of_methodNamed B.named
  have hlocks := B.notSynchronized
  subst hsz
  have hD := hD0.self (sz := s.heap.size)
  generalize hAe : va_A [(h0, .inr (5, [.ref jb, .ref qm, .int mc, .ref qh, .ref qk, .ref qf, .int bg, .ref jp])), (qk, .inl (kk, 9, .inr (.inr (.inr (.inr fo))))), (ro7, .inl (kr7, 8, .inl fr7)), (qf, .inl (kf, 9, .inr (.inl ff))), (jb, .inr (0, [av0, .ref aq1, av2, av3, av4, av5, av6, av7, .long afees, av9, av10, av11, av12])), (aq1, .inl (ak1, 8, .inl ag1))] s.heap.size = A at hD ⊢
  have hA : ∀ q : Nat, s.heap.size ≤ q → A q := fun q h => by rw [← hAe]; exact Or.inr h
  have hS : va_S A s.heap s.heap [] := va_S.rf
  have hP : va_P (dC, dI) vwCl [(h0, .inr (5, [.ref jb, .ref qm, .int mc, .ref qh, .ref qk, .ref qf, .int bg, .ref jp])), (qk, .inl (kk, 9, .inr (.inr (.inr (.inr fo))))), (ro7, .inl (kr7, 8, .inl fr7)), (qf, .inl (kf, 9, .inr (.inl ff))), (jb, .inr (0, [av0, .ref aq1, av2, av3, av4, av5, av6, av7, .long afees, av9, av10, av11, av12])), (aq1, .inl (ak1, 8, .inl ag1))] s.heap := hP
  have hl := lv_entry ([.ref h0, .int 7]) (n := 2) (Nat.le_of_ble_eq_true rfl)
  rw [lg_entry_eq]
  generalize (lg_sl ([.ref h0, .int 7]) ++ List.replicate (2 - (lg_sl ([.ref h0, .int 7])).length) Slot.unset).toArray = ls at hl ⊢
  have hl : lv_has ls 2 [(0, .ref h0), (1, .int 7)] := hl
  refine lv_iload_n hx hb dX6_undo_0 rfl (lv_at hl 1 rfl) ?_
  refine lv_bipush (v := 8) hx hb dX6_undo_1 (by decide) ?_
  refine lv_icmp_le (tgt := 7) hx hb dX6_undo_3 (by decide) (fun c1 => ?_) (fun c1 => absurd (by decide) c1)
  refine lv_aload_n hx hb dX6_undo_7 rfl (lv_at hl 0 rfl) ?_
  refine va_get (D := (dC, dI)) (ci := 5) (v := .ref qk) (C := RX6) (T := TX6) (N := 8) hx hb hts in_X6_undo_X6 hown hK hP 0 rfl rfl 4 (by decide) (hts (.fieldLink RX6 20 "ClearingGates$Runner" "keptBalances" "[[I") (List.mem_of_getElem? (i := 1) (by decide +kernel))) (fun _ h9 => h9) rfl dX6_undo_8 ?_
  refine lv_iload_n hx hb dX6_undo_11 rfl (lv_at hl 1 rfl) ?_
  refine va_aldm (D := (dC, dI)) hx hb hK hP 1 0 rfl rfl (vp_in_iff.mpr ⟨by decide, by decide⟩) dX6_undo_12 ?_
  rw [show va_rf (fo (7 : Int32).toNatClampNeg) = .ref ro7 from by rw [show (7 : Int32).toNatClampNeg = 7 from rfl, hf7]; rfl]
  refine lv_iconst (v := 0) hx hb dX6_undo_13 (by decide) ?_
  refine lv_aload_n hx hb dX6_undo_14 rfl (lv_at hl 0 rfl) ?_
  refine va_get (D := (dC, dI)) (ci := 5) (v := .ref jb) (C := RX6) (T := TX6) (N := 8) hx hb hts in_X6_undo_X6 hown hK hP 0 rfl rfl 0 (by decide) (hts (.fieldLink RX6 27 "ClearingGates$Runner" "books" "LClearingGates$Books;") (List.mem_of_getElem? (i := 2) (by decide +kernel))) (fun _ h9 => h9) rfl dX6_undo_15 ?_
  refine va_get (D := (dC, dI)) (ci := 0) (v := .ref aq1) (C := RX0) (T := TX0) (N := 13) hx hb hts in_X6_undo_X0 hown hK hP 4 rfl rfl 1 (by decide) (hts (.fieldLink RX6 134 "ClearingGates$Books" "balances" "[I") (List.mem_of_getElem? (i := 3) (by decide +kernel))) (fun _ h9 => h9) rfl dX6_undo_18 ?_
  refine lv_iconst (v := 0) hx hb dX6_undo_21 (by decide) ?_
  refine lv_bipush (v := 8) hx hb dX6_undo_22 (by decide) ?_
  refine va_copyi (D := (dC, dI)) hx hb (hml.trans hl.1.symm) hown (hts (.methodLink RX6 154 arraycopyName) (List.mem_of_getElem? (i := 4) (by decide +kernel))) (hts (.native arraycopyName) (List.mem_of_getElem? (i := 5) (by decide +kernel))) (hts (.static arraycopyName) (List.mem_of_getElem? (i := 6) (by decide +kernel))) (hts (.initialized "java/lang/System") (List.mem_of_getElem? (i := 7) (by decide +kernel))) hK hP hD hS 2 5 1 3 rfl rfl rfl rfl rfl (by decide) (by decide) (by decide) (by decide) (by decide) (fun _ _ => rfl) (Nat.le_of_ble_eq_true rfl) (by decide) dX6_undo_24 (fun H locs hP hD hS => ?_)
  generalize e_g2 : (va_cpy fr7 ag1 (0 : Int32).toNatClampNeg (0 : Int32).toNatClampNeg (8 : Int32).toNatClampNeg) = g2 at hP hD
  have hP : va_P (dC, dI) vwCl [(h0, .inr (5, [.ref jb, .ref qm, .int mc, .ref qh, .ref qk, .ref qf, .int bg, .ref jp])), (qk, .inl (kk, 9, .inr (.inr (.inr (.inr fo))))), (ro7, .inl (kr7, 8, .inl fr7)), (qf, .inl (kf, 9, .inr (.inl ff))), (jb, .inr (0, [av0, .ref aq1, av2, av3, av4, av5, av6, av7, .long afees, av9, av10, av11, av12])), (aq1, .inl (ak1, 8, .inl g2))] H := hP
  have hD : va_D A [(h0, .inr (5, [.ref jb, .ref qm, .int mc, .ref qh, .ref qk, .ref qf, .int bg, .ref jp])), (qk, .inl (kk, 9, .inr (.inr (.inr (.inr fo))))), (ro7, .inl (kr7, 8, .inl fr7)), (qf, .inl (kf, 9, .inr (.inl ff))), (jb, .inr (0, [av0, .ref aq1, av2, av3, av4, av5, av6, av7, .long afees, av9, av10, av11, av12])), (aq1, .inl (ak1, 8, .inl g2))] := hD
  refine lv_aload_n hx hb dX6_undo_27 rfl (lv_at hl 0 rfl) ?_
  refine va_get (D := (dC, dI)) (ci := 5) (v := .ref jb) (C := RX6) (T := TX6) (N := 8) hx hb hts in_X6_undo_X6 hown hK hP 0 rfl rfl 0 (by decide) (hts (.fieldLink RX6 27 "ClearingGates$Runner" "books" "LClearingGates$Books;") (List.mem_of_getElem? (i := 2) (by decide +kernel))) (fun _ h9 => h9) rfl dX6_undo_28 ?_
  refine lv_aload_n hx hb dX6_undo_31 rfl (lv_at hl 0 rfl) ?_
  refine va_get (D := (dC, dI)) (ci := 5) (v := .ref qf) (C := RX6) (T := TX6) (N := 8) hx hb hts in_X6_undo_X6 hown hK hP 0 rfl rfl 5 (by decide) (hts (.fieldLink RX6 23 "ClearingGates$Runner" "keptFees" "[J") (List.mem_of_getElem? (i := 8) (by decide +kernel))) (fun _ h9 => h9) rfl dX6_undo_32 ?_
  refine lv_iload_n hx hb dX6_undo_35 rfl (lv_at hl 1 rfl) ?_
  refine va_lald (D := (dC, dI)) hx hb hK hP 3 2 rfl rfl (vp_in_iff.mpr ⟨by decide, by decide⟩) dX6_undo_36 ?_
  refine lv_topl (fun z3 e_z3 => ?_)
  refine va_put (D := (dC, dI)) (ci := 0) (v := .long z3) (ty := .long) (C := RX0) (T := TX0) (N := 13) hx hb hts in_X6_undo_X0 tyX0 tyX0_ok nmX0 hown hK hP hD hS 4 rfl rfl 8 (by decide) (hts (.fieldLink RX6 141 "ClearingGates$Books" "fees" "J") (List.mem_of_getElem? (i := 9) (by decide +kernel))) (fun _ h9 => h9) rfl (by decide +kernel) rfl rfl (Nat.le_of_ble_eq_true rfl) dX6_undo_37 (fun H locs hP hD hS => ?_)
  have hP : va_P (dC, dI) vwCl [(h0, .inr (5, [.ref jb, .ref qm, .int mc, .ref qh, .ref qk, .ref qf, .int bg, .ref jp])), (qk, .inl (kk, 9, .inr (.inr (.inr (.inr fo))))), (ro7, .inl (kr7, 8, .inl fr7)), (qf, .inl (kf, 9, .inr (.inl ff))), (jb, .inr (0, [av0, .ref aq1, av2, av3, av4, av5, av6, av7, .long z3, av9, av10, av11, av12])), (aq1, .inl (ak1, 8, .inl g2))] H := hP
  have hD : va_D A [(h0, .inr (5, [.ref jb, .ref qm, .int mc, .ref qh, .ref qk, .ref qf, .int bg, .ref jp])), (qk, .inl (kk, 9, .inr (.inr (.inr (.inr fo))))), (ro7, .inl (kr7, 8, .inl fr7)), (qf, .inl (kf, 9, .inr (.inl ff))), (jb, .inr (0, [av0, .ref aq1, av2, av3, av4, av5, av6, av7, .long z3, av9, av10, av11, av12])), (aq1, .inl (ak1, 8, .inl g2))] := hD
  have hP9 := hP.sub (ws' := [(h0, .inr (5, [.ref jb, .ref qm, .int mc, .ref qh, .ref qk, .ref qf, .int bg, .ref jp])), (qk, .inl (kk, 9, .inr (.inr (.inr (.inr fo))))), (ro7, .inl (kr7, 8, .inl fr7)), (qf, .inl (kf, 9, .inr (.inl ff))), (jb, .inr (0, [av0, .ref aq1, av2, av3, av4, av5, av6, av7, .long z3, av9, av10, av11, av12])), (aq1, .inl (ak1, 8, .inl g2))]) [0, 1, 2, 3, 4, 5] rfl
  have hD9 := hD.sub (ws' := [(h0, .inr (5, [.ref jb, .ref qm, .int mc, .ref qh, .ref qk, .ref qf, .int bg, .ref jp])), (qk, .inl (kk, 9, .inr (.inr (.inr (.inr fo))))), (ro7, .inl (kr7, 8, .inl fr7)), (qf, .inl (kf, 9, .inr (.inl ff))), (jb, .inr (0, [av0, .ref aq1, av2, av3, av4, av5, av6, av7, .long z3, av9, av10, av11, av12])), (aq1, .inl (ak1, 8, .inl g2))]) [0, 1, 2, 3, 4, 5] (by decide) rfl
  have hK9 := hK.sub (tys' := [(kk, .array .int), (kr7, .int), (kf, .long), (ak1, .int)]) [0, 1, 2, 3] rfl
  exact W.vret hx hb hr (fun t ht hW => ⟨⟨(), rfl, (by first | rfl | trivial), g2, z3, by rw [ht]; exact hP9, va_K.moved hW.alike hK9, hD9⟩, hS.F ht⟩) hS.2.2 dX6_undo_40

set_option maxRecDepth 100000 in
set_option maxHeartbeats 4000000 in
/-- Runner.keep at 8 -/
theorem c_X6_keep_d8 (l : Launch) (dC : Nat → ClassId) (dI : Nat → Nat → Nat) (h0 : Nat) (jb : Nat) (qm : Nat) (mc : Int32) (qh : Nat) (qk : Nat) (qf : Nat) (bg : Int32) (jp : Nat) (kk : ClassId) (fo : Nat → Option Nat) (ro8 : Nat) (kr8 : ClassId) (fr8 : Nat → Int32) (kf : ClassId) (ff : Nat → Int64) (av0 : Value) (aq1 : Nat) (av2 : Value) (av3 : Value) (av4 : Value) (av5 : Value) (av6 : Value) (av7 : Value) (afees : Int64) (av9 : Value) (av10 : Value) (av11 : Value) (av12 : Value) (ak1 : ClassId) (ag1 : Nat → Int32) (sz : Nat) (hf8 : fo 8 = some ro8) : Met l yX6_keep wsX6_keep ({ frames := 1, cells := 0, slots := 0, locals := 60 }) (va_Pc [.ref h0, .int 8] (fun U => U.heap.size = sz ∧ va_P (dC, dI) vwCl [(h0, .inr (5, [.ref jb, .ref qm, .int mc, .ref qh, .ref qk, .ref qf, .int bg, .ref jp])), (qk, .inl (kk, 9, .inr (.inr (.inr (.inr fo))))), (ro8, .inl (kr8, 8, .inl fr8)), (qf, .inl (kf, 9, .inr (.inl ff))), (jb, .inr (0, [av0, .ref aq1, av2, av3, av4, av5, av6, av7, .long afees, av9, av10, av11, av12])), (aq1, .inl (ak1, 8, .inl ag1))] U.heap ∧ va_K (dC, dI) vwCl [(kk, .array .int), (kr8, .int), (kf, .long), (ak1, .int)] U ∧ va_D (fun _ => True) [(h0, .inr (5, [.ref jb, .ref qm, .int mc, .ref qh, .ref qk, .ref qf, .int bg, .ref jp])), (qk, .inl (kk, 9, .inr (.inr (.inr (.inr fo))))), (ro8, .inl (kr8, 8, .inl fr8)), (qf, .inl (kf, 9, .inr (.inl ff))), (jb, .inr (0, [av0, .ref aq1, av2, av3, av4, av5, av6, av7, .long afees, av9, av10, av11, av12])), (aq1, .inl (ak1, 8, .inl ag1))])) (va_Qv (fun (_ : Unit) => True) (fun (_ : Unit) (t : State) => ∃ (fr8' : Nat → Int32), ∃ (ff' : Nat → Int64), va_P (dC, dI) vwCl [(h0, .inr (5, [.ref jb, .ref qm, .int mc, .ref qh, .ref qk, .ref qf, .int bg, .ref jp])), (qk, .inl (kk, 9, .inr (.inr (.inr (.inr fo))))), (ro8, .inl (kr8, 8, .inl (fr8'))), (qf, .inl (kf, 9, .inr (.inl (ff')))), (jb, .inr (0, [av0, .ref aq1, av2, av3, av4, av5, av6, av7, .long afees, av9, av10, av11, av12])), (aq1, .inl (ak1, 8, .inl ag1))] t.heap ∧ va_K (dC, dI) vwCl [(kk, .array .int), (kr8, .int), (kf, .long), (ak1, .int)] t ∧ va_D (va_A [(h0, .inr (5, [.ref jb, .ref qm, .int mc, .ref qh, .ref qk, .ref qf, .int bg, .ref jp])), (qk, .inl (kk, 9, .inr (.inr (.inr (.inr fo))))), (ro8, .inl (kr8, 8, .inl fr8)), (qf, .inl (kf, 9, .inr (.inl ff))), (jb, .inr (0, [av0, .ref aq1, av2, av3, av4, av5, av6, av7, .long afees, av9, av10, av11, av12])), (aq1, .inl (ak1, 8, .inl ag1))] sz) [(h0, .inr (5, [.ref jb, .ref qm, .int mc, .ref qh, .ref qk, .ref qf, .int bg, .ref jp])), (qk, .inl (kk, 9, .inr (.inr (.inr (.inr fo))))), (ro8, .inl (kr8, 8, .inl (fr8'))), (qf, .inl (kf, 9, .inr (.inl (ff')))), (jb, .inr (0, [av0, .ref aq1, av2, av3, av4, av5, av6, av7, .long afees, av9, av10, av11, av12])), (aq1, .inl (ak1, 8, .inl ag1))]) (va_A [(h0, .inr (5, [.ref jb, .ref qm, .int mc, .ref qh, .ref qk, .ref qf, .int bg, .ref jp])), (qk, .inl (kk, 9, .inr (.inr (.inr (.inr fo))))), (ro8, .inl (kr8, 8, .inl fr8)), (qf, .inl (kf, 9, .inr (.inl ff))), (jb, .inr (0, [av0, .ref aq1, av2, av3, av4, av5, av6, av7, .long afees, av9, av10, av11, av12])), (aq1, .inl (ak1, 8, .inl ag1))] sz)) 0 0 (va_A [(h0, .inr (5, [.ref jb, .ref qm, .int mc, .ref qh, .ref qk, .ref qf, .int bg, .ref jp])), (qk, .inl (kk, 9, .inr (.inr (.inr (.inr fo))))), (ro8, .inl (kr8, 8, .inl fr8)), (qf, .inl (kf, 9, .inr (.inl ff))), (jb, .inr (0, [av0, .ref aq1, av2, av3, av4, av5, av6, av7, .long afees, av9, av10, av11, av12])), (aq1, .inl (ak1, 8, .inl ag1))] sz) := by
  refine Met.ofW (cc := cX6_keep) (maxL := 2) (ret := none) (by decide) rfl ?_
  intro p e s m args below meth c s₁ B hml hv
  obtain ⟨rfl, hsz, hP, hK, hD0⟩ := hv
  have hx := B.exec
  have hb := B.bytes
  have hr := B.returns
  have hts := atoms_spec (ws := wsX6_keep) B.pre
  have hown : s.vm.findClass RX6 = some m.cls := findClass_of_methodNamed B.named
  have hlocks := B.notSynchronized
  subst hsz
  have hD := hD0.self (sz := s.heap.size)
  generalize hAe : va_A [(h0, .inr (5, [.ref jb, .ref qm, .int mc, .ref qh, .ref qk, .ref qf, .int bg, .ref jp])), (qk, .inl (kk, 9, .inr (.inr (.inr (.inr fo))))), (ro8, .inl (kr8, 8, .inl fr8)), (qf, .inl (kf, 9, .inr (.inl ff))), (jb, .inr (0, [av0, .ref aq1, av2, av3, av4, av5, av6, av7, .long afees, av9, av10, av11, av12])), (aq1, .inl (ak1, 8, .inl ag1))] s.heap.size = A at hD ⊢
  have hA : ∀ q : Nat, s.heap.size ≤ q → A q := fun q h => by rw [← hAe]; exact Or.inr h
  have hS : va_S A s.heap s.heap [] := va_S.rf
  have hP : va_P (dC, dI) vwCl [(h0, .inr (5, [.ref jb, .ref qm, .int mc, .ref qh, .ref qk, .ref qf, .int bg, .ref jp])), (qk, .inl (kk, 9, .inr (.inr (.inr (.inr fo))))), (ro8, .inl (kr8, 8, .inl fr8)), (qf, .inl (kf, 9, .inr (.inl ff))), (jb, .inr (0, [av0, .ref aq1, av2, av3, av4, av5, av6, av7, .long afees, av9, av10, av11, av12])), (aq1, .inl (ak1, 8, .inl ag1))] s.heap := hP
  have hl := lv_entry ([.ref h0, .int 8]) (n := 2) (Nat.le_of_ble_eq_true rfl)
  rw [lg_entry_eq]
  generalize (lg_sl ([.ref h0, .int 8]) ++ List.replicate (2 - (lg_sl ([.ref h0, .int 8])).length) Slot.unset).toArray = ls at hl ⊢
  have hl : lv_has ls 2 [(0, .ref h0), (1, .int 8)] := hl
  refine lv_iload_n hx hb dX6_keep_0 rfl (lv_at hl 1 rfl) ?_
  refine lv_bipush (v := 8) hx hb dX6_keep_1 (by decide) ?_
  refine lv_icmp_le (tgt := 7) hx hb dX6_keep_3 (by decide) (fun c1 => ?_) (fun c1 => absurd (by decide) c1)
  refine lv_aload_n hx hb dX6_keep_7 rfl (lv_at hl 0 rfl) ?_
  refine va_get (D := (dC, dI)) (ci := 5) (v := .ref jb) (C := RX6) (T := TX6) (N := 8) hx hb hts in_X6_keep_X6 hown hK hP 0 rfl rfl 0 (by decide) (hts (.fieldLink RX6 27 "ClearingGates$Runner" "books" "LClearingGates$Books;") (List.mem_of_getElem? (i := 1) (by decide +kernel))) (fun _ h9 => h9) rfl dX6_keep_8 ?_
  refine va_get (D := (dC, dI)) (ci := 0) (v := .ref aq1) (C := RX0) (T := TX0) (N := 13) hx hb hts in_X6_keep_X0 hown hK hP 4 rfl rfl 1 (by decide) (hts (.fieldLink RX6 134 "ClearingGates$Books" "balances" "[I") (List.mem_of_getElem? (i := 2) (by decide +kernel))) (fun _ h9 => h9) rfl dX6_keep_11 ?_
  refine lv_iconst (v := 0) hx hb dX6_keep_14 (by decide) ?_
  refine lv_aload_n hx hb dX6_keep_15 rfl (lv_at hl 0 rfl) ?_
  refine va_get (D := (dC, dI)) (ci := 5) (v := .ref qk) (C := RX6) (T := TX6) (N := 8) hx hb hts in_X6_keep_X6 hown hK hP 0 rfl rfl 4 (by decide) (hts (.fieldLink RX6 20 "ClearingGates$Runner" "keptBalances" "[[I") (List.mem_of_getElem? (i := 3) (by decide +kernel))) (fun _ h9 => h9) rfl dX6_keep_16 ?_
  refine lv_iload_n hx hb dX6_keep_19 rfl (lv_at hl 1 rfl) ?_
  refine va_aldm (D := (dC, dI)) hx hb hK hP 1 0 rfl rfl (vp_in_iff.mpr ⟨by decide, by decide⟩) dX6_keep_20 ?_
  rw [show va_rf (fo (8 : Int32).toNatClampNeg) = .ref ro8 from by rw [show (8 : Int32).toNatClampNeg = 8 from rfl, hf8]; rfl]
  refine lv_iconst (v := 0) hx hb dX6_keep_21 (by decide) ?_
  refine lv_bipush (v := 8) hx hb dX6_keep_22 (by decide) ?_
  refine va_copyi (D := (dC, dI)) hx hb (hml.trans hl.1.symm) hown (hts (.methodLink RX6 154 arraycopyName) (List.mem_of_getElem? (i := 4) (by decide +kernel))) (hts (.native arraycopyName) (List.mem_of_getElem? (i := 5) (by decide +kernel))) (hts (.static arraycopyName) (List.mem_of_getElem? (i := 6) (by decide +kernel))) (hts (.initialized "java/lang/System") (List.mem_of_getElem? (i := 7) (by decide +kernel))) hK hP hD hS 5 2 3 1 rfl rfl rfl rfl rfl (by decide) (by decide) (by decide) (by decide) (by decide) (fun _ _ => rfl) (Nat.le_of_ble_eq_true rfl) (by decide) dX6_keep_24 (fun H locs hP hD hS => ?_)
  generalize e_g2 : (va_cpy ag1 fr8 (0 : Int32).toNatClampNeg (0 : Int32).toNatClampNeg (8 : Int32).toNatClampNeg) = g2 at hP hD
  have hP : va_P (dC, dI) vwCl [(h0, .inr (5, [.ref jb, .ref qm, .int mc, .ref qh, .ref qk, .ref qf, .int bg, .ref jp])), (qk, .inl (kk, 9, .inr (.inr (.inr (.inr fo))))), (ro8, .inl (kr8, 8, .inl g2)), (qf, .inl (kf, 9, .inr (.inl ff))), (jb, .inr (0, [av0, .ref aq1, av2, av3, av4, av5, av6, av7, .long afees, av9, av10, av11, av12])), (aq1, .inl (ak1, 8, .inl ag1))] H := hP
  have hD : va_D A [(h0, .inr (5, [.ref jb, .ref qm, .int mc, .ref qh, .ref qk, .ref qf, .int bg, .ref jp])), (qk, .inl (kk, 9, .inr (.inr (.inr (.inr fo))))), (ro8, .inl (kr8, 8, .inl g2)), (qf, .inl (kf, 9, .inr (.inl ff))), (jb, .inr (0, [av0, .ref aq1, av2, av3, av4, av5, av6, av7, .long afees, av9, av10, av11, av12])), (aq1, .inl (ak1, 8, .inl ag1))] := hD
  refine lv_aload_n hx hb dX6_keep_27 rfl (lv_at hl 0 rfl) ?_
  refine va_get (D := (dC, dI)) (ci := 5) (v := .ref qf) (C := RX6) (T := TX6) (N := 8) hx hb hts in_X6_keep_X6 hown hK hP 0 rfl rfl 5 (by decide) (hts (.fieldLink RX6 23 "ClearingGates$Runner" "keptFees" "[J") (List.mem_of_getElem? (i := 8) (by decide +kernel))) (fun _ h9 => h9) rfl dX6_keep_28 ?_
  refine lv_iload_n hx hb dX6_keep_31 rfl (lv_at hl 1 rfl) ?_
  refine lv_aload_n hx hb dX6_keep_32 rfl (lv_at hl 0 rfl) ?_
  refine va_get (D := (dC, dI)) (ci := 5) (v := .ref jb) (C := RX6) (T := TX6) (N := 8) hx hb hts in_X6_keep_X6 hown hK hP 0 rfl rfl 0 (by decide) (hts (.fieldLink RX6 27 "ClearingGates$Runner" "books" "LClearingGates$Books;") (List.mem_of_getElem? (i := 1) (by decide +kernel))) (fun _ h9 => h9) rfl dX6_keep_33 ?_
  refine va_get (D := (dC, dI)) (ci := 0) (v := .long afees) (C := RX0) (T := TX0) (N := 13) hx hb hts in_X6_keep_X0 hown hK hP 4 rfl rfl 8 (by decide) (hts (.fieldLink RX6 141 "ClearingGates$Books" "fees" "J") (List.mem_of_getElem? (i := 9) (by decide +kernel))) (fun _ h9 => h9) rfl dX6_keep_36 ?_
  refine va_last (D := (dC, dI)) hx hb hK hP hD hS 3 2 rfl rfl (vp_in_iff.mpr ⟨by decide, by decide⟩) dX6_keep_39 (fun H locs hP hD hS => ?_)
  generalize e_g3 : (vp_updL ff ((8 : Int32)).toNatClampNeg afees) = g3 at hP hD
  have hP : va_P (dC, dI) vwCl [(h0, .inr (5, [.ref jb, .ref qm, .int mc, .ref qh, .ref qk, .ref qf, .int bg, .ref jp])), (qk, .inl (kk, 9, .inr (.inr (.inr (.inr fo))))), (ro8, .inl (kr8, 8, .inl g2)), (qf, .inl (kf, 9, .inr (.inl g3))), (jb, .inr (0, [av0, .ref aq1, av2, av3, av4, av5, av6, av7, .long afees, av9, av10, av11, av12])), (aq1, .inl (ak1, 8, .inl ag1))] H := hP
  have hD : va_D A [(h0, .inr (5, [.ref jb, .ref qm, .int mc, .ref qh, .ref qk, .ref qf, .int bg, .ref jp])), (qk, .inl (kk, 9, .inr (.inr (.inr (.inr fo))))), (ro8, .inl (kr8, 8, .inl g2)), (qf, .inl (kf, 9, .inr (.inl g3))), (jb, .inr (0, [av0, .ref aq1, av2, av3, av4, av5, av6, av7, .long afees, av9, av10, av11, av12])), (aq1, .inl (ak1, 8, .inl ag1))] := hD
  have hP9 := hP.sub (ws' := [(h0, .inr (5, [.ref jb, .ref qm, .int mc, .ref qh, .ref qk, .ref qf, .int bg, .ref jp])), (qk, .inl (kk, 9, .inr (.inr (.inr (.inr fo))))), (ro8, .inl (kr8, 8, .inl g2)), (qf, .inl (kf, 9, .inr (.inl g3))), (jb, .inr (0, [av0, .ref aq1, av2, av3, av4, av5, av6, av7, .long afees, av9, av10, av11, av12])), (aq1, .inl (ak1, 8, .inl ag1))]) [0, 1, 2, 3, 4, 5] rfl
  have hD9 := hD.sub (ws' := [(h0, .inr (5, [.ref jb, .ref qm, .int mc, .ref qh, .ref qk, .ref qf, .int bg, .ref jp])), (qk, .inl (kk, 9, .inr (.inr (.inr (.inr fo))))), (ro8, .inl (kr8, 8, .inl g2)), (qf, .inl (kf, 9, .inr (.inl g3))), (jb, .inr (0, [av0, .ref aq1, av2, av3, av4, av5, av6, av7, .long afees, av9, av10, av11, av12])), (aq1, .inl (ak1, 8, .inl ag1))]) [0, 1, 2, 3, 4, 5] (by decide) rfl
  have hK9 := hK.sub (tys' := [(kk, .array .int), (kr8, .int), (kf, .long), (ak1, .int)]) [0, 1, 2, 3] rfl
  exact W.vret hx hb hr (fun t ht hW => ⟨⟨(), rfl, (by first | rfl | trivial), g2, g3, by rw [ht]; exact hP9, va_K.moved hW.alike hK9, hD9⟩, hS.F ht⟩) hS.2.2 dX6_keep_40

set_option maxRecDepth 100000 in
set_option maxHeartbeats 4000000 in
/-- Runner.undo at 8 -/
theorem c_X6_undo_d8 (l : Launch) (dC : Nat → ClassId) (dI : Nat → Nat → Nat) (h0 : Nat) (jb : Nat) (qm : Nat) (mc : Int32) (qh : Nat) (qk : Nat) (qf : Nat) (bg : Int32) (jp : Nat) (kk : ClassId) (fo : Nat → Option Nat) (ro8 : Nat) (kr8 : ClassId) (fr8 : Nat → Int32) (kf : ClassId) (ff : Nat → Int64) (av0 : Value) (aq1 : Nat) (av2 : Value) (av3 : Value) (av4 : Value) (av5 : Value) (av6 : Value) (av7 : Value) (afees : Int64) (av9 : Value) (av10 : Value) (av11 : Value) (av12 : Value) (ak1 : ClassId) (ag1 : Nat → Int32) (sz : Nat) (hf8 : fo 8 = some ro8) : Met l yX6_undo wsX6_undo ({ frames := 1, cells := 0, slots := 0, locals := 60 }) (va_Pc [.ref h0, .int 8] (fun U => U.heap.size = sz ∧ va_P (dC, dI) vwCl [(h0, .inr (5, [.ref jb, .ref qm, .int mc, .ref qh, .ref qk, .ref qf, .int bg, .ref jp])), (qk, .inl (kk, 9, .inr (.inr (.inr (.inr fo))))), (ro8, .inl (kr8, 8, .inl fr8)), (qf, .inl (kf, 9, .inr (.inl ff))), (jb, .inr (0, [av0, .ref aq1, av2, av3, av4, av5, av6, av7, .long afees, av9, av10, av11, av12])), (aq1, .inl (ak1, 8, .inl ag1))] U.heap ∧ va_K (dC, dI) vwCl [(kk, .array .int), (kr8, .int), (kf, .long), (ak1, .int)] U ∧ va_D (fun _ => True) [(h0, .inr (5, [.ref jb, .ref qm, .int mc, .ref qh, .ref qk, .ref qf, .int bg, .ref jp])), (qk, .inl (kk, 9, .inr (.inr (.inr (.inr fo))))), (ro8, .inl (kr8, 8, .inl fr8)), (qf, .inl (kf, 9, .inr (.inl ff))), (jb, .inr (0, [av0, .ref aq1, av2, av3, av4, av5, av6, av7, .long afees, av9, av10, av11, av12])), (aq1, .inl (ak1, 8, .inl ag1))])) (va_Qv (fun (_ : Unit) => True) (fun (_ : Unit) (t : State) => ∃ (ag1' : Nat → Int32), ∃ (afees' : Int64), va_P (dC, dI) vwCl [(h0, .inr (5, [.ref jb, .ref qm, .int mc, .ref qh, .ref qk, .ref qf, .int bg, .ref jp])), (qk, .inl (kk, 9, .inr (.inr (.inr (.inr fo))))), (ro8, .inl (kr8, 8, .inl fr8)), (qf, .inl (kf, 9, .inr (.inl ff))), (jb, .inr (0, [av0, .ref aq1, av2, av3, av4, av5, av6, av7, .long afees', av9, av10, av11, av12])), (aq1, .inl (ak1, 8, .inl (ag1')))] t.heap ∧ va_K (dC, dI) vwCl [(kk, .array .int), (kr8, .int), (kf, .long), (ak1, .int)] t ∧ va_D (va_A [(h0, .inr (5, [.ref jb, .ref qm, .int mc, .ref qh, .ref qk, .ref qf, .int bg, .ref jp])), (qk, .inl (kk, 9, .inr (.inr (.inr (.inr fo))))), (ro8, .inl (kr8, 8, .inl fr8)), (qf, .inl (kf, 9, .inr (.inl ff))), (jb, .inr (0, [av0, .ref aq1, av2, av3, av4, av5, av6, av7, .long afees, av9, av10, av11, av12])), (aq1, .inl (ak1, 8, .inl ag1))] sz) [(h0, .inr (5, [.ref jb, .ref qm, .int mc, .ref qh, .ref qk, .ref qf, .int bg, .ref jp])), (qk, .inl (kk, 9, .inr (.inr (.inr (.inr fo))))), (ro8, .inl (kr8, 8, .inl fr8)), (qf, .inl (kf, 9, .inr (.inl ff))), (jb, .inr (0, [av0, .ref aq1, av2, av3, av4, av5, av6, av7, .long afees', av9, av10, av11, av12])), (aq1, .inl (ak1, 8, .inl (ag1')))]) (va_A [(h0, .inr (5, [.ref jb, .ref qm, .int mc, .ref qh, .ref qk, .ref qf, .int bg, .ref jp])), (qk, .inl (kk, 9, .inr (.inr (.inr (.inr fo))))), (ro8, .inl (kr8, 8, .inl fr8)), (qf, .inl (kf, 9, .inr (.inl ff))), (jb, .inr (0, [av0, .ref aq1, av2, av3, av4, av5, av6, av7, .long afees, av9, av10, av11, av12])), (aq1, .inl (ak1, 8, .inl ag1))] sz)) 0 0 (va_A [(h0, .inr (5, [.ref jb, .ref qm, .int mc, .ref qh, .ref qk, .ref qf, .int bg, .ref jp])), (qk, .inl (kk, 9, .inr (.inr (.inr (.inr fo))))), (ro8, .inl (kr8, 8, .inl fr8)), (qf, .inl (kf, 9, .inr (.inl ff))), (jb, .inr (0, [av0, .ref aq1, av2, av3, av4, av5, av6, av7, .long afees, av9, av10, av11, av12])), (aq1, .inl (ak1, 8, .inl ag1))] sz) := by
  refine Met.ofW (cc := cX6_undo) (maxL := 2) (ret := none) (by decide) rfl ?_
  intro p e s m args below meth c s₁ B hml hv
  obtain ⟨rfl, hsz, hP, hK, hD0⟩ := hv
  have hx := B.exec
  have hb := B.bytes
  have hr := B.returns
  have hts := atoms_spec (ws := wsX6_undo) B.pre
  have hown : s.vm.findClass RX6 = some m.cls := findClass_of_methodNamed B.named
  have hlocks := B.notSynchronized
  subst hsz
  have hD := hD0.self (sz := s.heap.size)
  generalize hAe : va_A [(h0, .inr (5, [.ref jb, .ref qm, .int mc, .ref qh, .ref qk, .ref qf, .int bg, .ref jp])), (qk, .inl (kk, 9, .inr (.inr (.inr (.inr fo))))), (ro8, .inl (kr8, 8, .inl fr8)), (qf, .inl (kf, 9, .inr (.inl ff))), (jb, .inr (0, [av0, .ref aq1, av2, av3, av4, av5, av6, av7, .long afees, av9, av10, av11, av12])), (aq1, .inl (ak1, 8, .inl ag1))] s.heap.size = A at hD ⊢
  have hA : ∀ q : Nat, s.heap.size ≤ q → A q := fun q h => by rw [← hAe]; exact Or.inr h
  have hS : va_S A s.heap s.heap [] := va_S.rf
  have hP : va_P (dC, dI) vwCl [(h0, .inr (5, [.ref jb, .ref qm, .int mc, .ref qh, .ref qk, .ref qf, .int bg, .ref jp])), (qk, .inl (kk, 9, .inr (.inr (.inr (.inr fo))))), (ro8, .inl (kr8, 8, .inl fr8)), (qf, .inl (kf, 9, .inr (.inl ff))), (jb, .inr (0, [av0, .ref aq1, av2, av3, av4, av5, av6, av7, .long afees, av9, av10, av11, av12])), (aq1, .inl (ak1, 8, .inl ag1))] s.heap := hP
  have hl := lv_entry ([.ref h0, .int 8]) (n := 2) (Nat.le_of_ble_eq_true rfl)
  rw [lg_entry_eq]
  generalize (lg_sl ([.ref h0, .int 8]) ++ List.replicate (2 - (lg_sl ([.ref h0, .int 8])).length) Slot.unset).toArray = ls at hl ⊢
  have hl : lv_has ls 2 [(0, .ref h0), (1, .int 8)] := hl
  refine lv_iload_n hx hb dX6_undo_0 rfl (lv_at hl 1 rfl) ?_
  refine lv_bipush (v := 8) hx hb dX6_undo_1 (by decide) ?_
  refine lv_icmp_le (tgt := 7) hx hb dX6_undo_3 (by decide) (fun c1 => ?_) (fun c1 => absurd (by decide) c1)
  refine lv_aload_n hx hb dX6_undo_7 rfl (lv_at hl 0 rfl) ?_
  refine va_get (D := (dC, dI)) (ci := 5) (v := .ref qk) (C := RX6) (T := TX6) (N := 8) hx hb hts in_X6_undo_X6 hown hK hP 0 rfl rfl 4 (by decide) (hts (.fieldLink RX6 20 "ClearingGates$Runner" "keptBalances" "[[I") (List.mem_of_getElem? (i := 1) (by decide +kernel))) (fun _ h9 => h9) rfl dX6_undo_8 ?_
  refine lv_iload_n hx hb dX6_undo_11 rfl (lv_at hl 1 rfl) ?_
  refine va_aldm (D := (dC, dI)) hx hb hK hP 1 0 rfl rfl (vp_in_iff.mpr ⟨by decide, by decide⟩) dX6_undo_12 ?_
  rw [show va_rf (fo (8 : Int32).toNatClampNeg) = .ref ro8 from by rw [show (8 : Int32).toNatClampNeg = 8 from rfl, hf8]; rfl]
  refine lv_iconst (v := 0) hx hb dX6_undo_13 (by decide) ?_
  refine lv_aload_n hx hb dX6_undo_14 rfl (lv_at hl 0 rfl) ?_
  refine va_get (D := (dC, dI)) (ci := 5) (v := .ref jb) (C := RX6) (T := TX6) (N := 8) hx hb hts in_X6_undo_X6 hown hK hP 0 rfl rfl 0 (by decide) (hts (.fieldLink RX6 27 "ClearingGates$Runner" "books" "LClearingGates$Books;") (List.mem_of_getElem? (i := 2) (by decide +kernel))) (fun _ h9 => h9) rfl dX6_undo_15 ?_
  refine va_get (D := (dC, dI)) (ci := 0) (v := .ref aq1) (C := RX0) (T := TX0) (N := 13) hx hb hts in_X6_undo_X0 hown hK hP 4 rfl rfl 1 (by decide) (hts (.fieldLink RX6 134 "ClearingGates$Books" "balances" "[I") (List.mem_of_getElem? (i := 3) (by decide +kernel))) (fun _ h9 => h9) rfl dX6_undo_18 ?_
  refine lv_iconst (v := 0) hx hb dX6_undo_21 (by decide) ?_
  refine lv_bipush (v := 8) hx hb dX6_undo_22 (by decide) ?_
  refine va_copyi (D := (dC, dI)) hx hb (hml.trans hl.1.symm) hown (hts (.methodLink RX6 154 arraycopyName) (List.mem_of_getElem? (i := 4) (by decide +kernel))) (hts (.native arraycopyName) (List.mem_of_getElem? (i := 5) (by decide +kernel))) (hts (.static arraycopyName) (List.mem_of_getElem? (i := 6) (by decide +kernel))) (hts (.initialized "java/lang/System") (List.mem_of_getElem? (i := 7) (by decide +kernel))) hK hP hD hS 2 5 1 3 rfl rfl rfl rfl rfl (by decide) (by decide) (by decide) (by decide) (by decide) (fun _ _ => rfl) (Nat.le_of_ble_eq_true rfl) (by decide) dX6_undo_24 (fun H locs hP hD hS => ?_)
  generalize e_g2 : (va_cpy fr8 ag1 (0 : Int32).toNatClampNeg (0 : Int32).toNatClampNeg (8 : Int32).toNatClampNeg) = g2 at hP hD
  have hP : va_P (dC, dI) vwCl [(h0, .inr (5, [.ref jb, .ref qm, .int mc, .ref qh, .ref qk, .ref qf, .int bg, .ref jp])), (qk, .inl (kk, 9, .inr (.inr (.inr (.inr fo))))), (ro8, .inl (kr8, 8, .inl fr8)), (qf, .inl (kf, 9, .inr (.inl ff))), (jb, .inr (0, [av0, .ref aq1, av2, av3, av4, av5, av6, av7, .long afees, av9, av10, av11, av12])), (aq1, .inl (ak1, 8, .inl g2))] H := hP
  have hD : va_D A [(h0, .inr (5, [.ref jb, .ref qm, .int mc, .ref qh, .ref qk, .ref qf, .int bg, .ref jp])), (qk, .inl (kk, 9, .inr (.inr (.inr (.inr fo))))), (ro8, .inl (kr8, 8, .inl fr8)), (qf, .inl (kf, 9, .inr (.inl ff))), (jb, .inr (0, [av0, .ref aq1, av2, av3, av4, av5, av6, av7, .long afees, av9, av10, av11, av12])), (aq1, .inl (ak1, 8, .inl g2))] := hD
  refine lv_aload_n hx hb dX6_undo_27 rfl (lv_at hl 0 rfl) ?_
  refine va_get (D := (dC, dI)) (ci := 5) (v := .ref jb) (C := RX6) (T := TX6) (N := 8) hx hb hts in_X6_undo_X6 hown hK hP 0 rfl rfl 0 (by decide) (hts (.fieldLink RX6 27 "ClearingGates$Runner" "books" "LClearingGates$Books;") (List.mem_of_getElem? (i := 2) (by decide +kernel))) (fun _ h9 => h9) rfl dX6_undo_28 ?_
  refine lv_aload_n hx hb dX6_undo_31 rfl (lv_at hl 0 rfl) ?_
  refine va_get (D := (dC, dI)) (ci := 5) (v := .ref qf) (C := RX6) (T := TX6) (N := 8) hx hb hts in_X6_undo_X6 hown hK hP 0 rfl rfl 5 (by decide) (hts (.fieldLink RX6 23 "ClearingGates$Runner" "keptFees" "[J") (List.mem_of_getElem? (i := 8) (by decide +kernel))) (fun _ h9 => h9) rfl dX6_undo_32 ?_
  refine lv_iload_n hx hb dX6_undo_35 rfl (lv_at hl 1 rfl) ?_
  refine va_lald (D := (dC, dI)) hx hb hK hP 3 2 rfl rfl (vp_in_iff.mpr ⟨by decide, by decide⟩) dX6_undo_36 ?_
  refine lv_topl (fun z3 e_z3 => ?_)
  refine va_put (D := (dC, dI)) (ci := 0) (v := .long z3) (ty := .long) (C := RX0) (T := TX0) (N := 13) hx hb hts in_X6_undo_X0 tyX0 tyX0_ok nmX0 hown hK hP hD hS 4 rfl rfl 8 (by decide) (hts (.fieldLink RX6 141 "ClearingGates$Books" "fees" "J") (List.mem_of_getElem? (i := 9) (by decide +kernel))) (fun _ h9 => h9) rfl (by decide +kernel) rfl rfl (Nat.le_of_ble_eq_true rfl) dX6_undo_37 (fun H locs hP hD hS => ?_)
  have hP : va_P (dC, dI) vwCl [(h0, .inr (5, [.ref jb, .ref qm, .int mc, .ref qh, .ref qk, .ref qf, .int bg, .ref jp])), (qk, .inl (kk, 9, .inr (.inr (.inr (.inr fo))))), (ro8, .inl (kr8, 8, .inl fr8)), (qf, .inl (kf, 9, .inr (.inl ff))), (jb, .inr (0, [av0, .ref aq1, av2, av3, av4, av5, av6, av7, .long z3, av9, av10, av11, av12])), (aq1, .inl (ak1, 8, .inl g2))] H := hP
  have hD : va_D A [(h0, .inr (5, [.ref jb, .ref qm, .int mc, .ref qh, .ref qk, .ref qf, .int bg, .ref jp])), (qk, .inl (kk, 9, .inr (.inr (.inr (.inr fo))))), (ro8, .inl (kr8, 8, .inl fr8)), (qf, .inl (kf, 9, .inr (.inl ff))), (jb, .inr (0, [av0, .ref aq1, av2, av3, av4, av5, av6, av7, .long z3, av9, av10, av11, av12])), (aq1, .inl (ak1, 8, .inl g2))] := hD
  have hP9 := hP.sub (ws' := [(h0, .inr (5, [.ref jb, .ref qm, .int mc, .ref qh, .ref qk, .ref qf, .int bg, .ref jp])), (qk, .inl (kk, 9, .inr (.inr (.inr (.inr fo))))), (ro8, .inl (kr8, 8, .inl fr8)), (qf, .inl (kf, 9, .inr (.inl ff))), (jb, .inr (0, [av0, .ref aq1, av2, av3, av4, av5, av6, av7, .long z3, av9, av10, av11, av12])), (aq1, .inl (ak1, 8, .inl g2))]) [0, 1, 2, 3, 4, 5] rfl
  have hD9 := hD.sub (ws' := [(h0, .inr (5, [.ref jb, .ref qm, .int mc, .ref qh, .ref qk, .ref qf, .int bg, .ref jp])), (qk, .inl (kk, 9, .inr (.inr (.inr (.inr fo))))), (ro8, .inl (kr8, 8, .inl fr8)), (qf, .inl (kf, 9, .inr (.inl ff))), (jb, .inr (0, [av0, .ref aq1, av2, av3, av4, av5, av6, av7, .long z3, av9, av10, av11, av12])), (aq1, .inl (ak1, 8, .inl g2))]) [0, 1, 2, 3, 4, 5] (by decide) rfl
  have hK9 := hK.sub (tys' := [(kk, .array .int), (kr8, .int), (kf, .long), (ak1, .int)]) [0, 1, 2, 3] rfl
  exact W.vret hx hb hr (fun t ht hW => ⟨⟨(), rfl, (by first | rfl | trivial), g2, z3, by rw [ht]; exact hP9, va_K.moved hW.alike hK9, hD9⟩, hS.F ht⟩) hS.2.2 dX6_undo_40

set_option maxRecDepth 100000 in
set_option maxHeartbeats 4000000 in
/-- Runner.keep at 9 -/
theorem c_X6_keep_d9 (l : Launch) (dC : Nat → ClassId) (dI : Nat → Nat → Nat) (h0 : Nat) (jb : Nat) (qm : Nat) (mc : Int32) (qh : Nat) (qk : Nat) (qf : Nat) (bg : Int32) (jp : Nat) (sz : Nat) : Met l yX6_keep wsX6_keep ({ frames := 0, cells := 0, slots := 0, locals := 0 }) (va_Pc [.ref h0, .int 9] (fun U => U.heap.size = sz ∧ va_P (dC, dI) vwCl [(h0, .inr (5, [.ref jb, .ref qm, .int mc, .ref qh, .ref qk, .ref qf, .int bg, .ref jp]))] U.heap ∧ va_K (dC, dI) vwCl [] U ∧ va_D (fun _ => True) [(h0, .inr (5, [.ref jb, .ref qm, .int mc, .ref qh, .ref qk, .ref qf, .int bg, .ref jp]))])) (va_Qv (fun (_ : Unit) => True) (fun (_ : Unit) (t : State) => va_P (dC, dI) vwCl [(h0, .inr (5, [.ref jb, .ref qm, .int mc, .ref qh, .ref qk, .ref qf, .int bg, .ref jp]))] t.heap ∧ va_K (dC, dI) vwCl [] t ∧ va_D (va_A [(h0, .inr (5, [.ref jb, .ref qm, .int mc, .ref qh, .ref qk, .ref qf, .int bg, .ref jp]))] sz) [(h0, .inr (5, [.ref jb, .ref qm, .int mc, .ref qh, .ref qk, .ref qf, .int bg, .ref jp]))]) (va_A [(h0, .inr (5, [.ref jb, .ref qm, .int mc, .ref qh, .ref qk, .ref qf, .int bg, .ref jp]))] sz)) 0 0 (va_A [(h0, .inr (5, [.ref jb, .ref qm, .int mc, .ref qh, .ref qk, .ref qf, .int bg, .ref jp]))] sz) := by
  refine Met.ofW (cc := cX6_keep) (maxL := 2) (ret := none) (by decide) rfl ?_
  intro p e s m args below meth c s₁ B hml hv
  obtain ⟨rfl, hsz, hP, hK, hD0⟩ := hv
  have hx := B.exec
  have hb := B.bytes
  have hr := B.returns
  have hts := atoms_spec (ws := wsX6_keep) B.pre
  have hown : s.vm.findClass RX6 = some m.cls := findClass_of_methodNamed B.named
  have hlocks := B.notSynchronized
  subst hsz
  have hD := hD0.self (sz := s.heap.size)
  generalize hAe : va_A [(h0, .inr (5, [.ref jb, .ref qm, .int mc, .ref qh, .ref qk, .ref qf, .int bg, .ref jp]))] s.heap.size = A at hD ⊢
  have hA : ∀ q : Nat, s.heap.size ≤ q → A q := fun q h => by rw [← hAe]; exact Or.inr h
  have hS : va_S A s.heap s.heap [] := va_S.rf
  have hP : va_P (dC, dI) vwCl [(h0, .inr (5, [.ref jb, .ref qm, .int mc, .ref qh, .ref qk, .ref qf, .int bg, .ref jp]))] s.heap := hP
  have hl := lv_entry ([.ref h0, .int 9]) (n := 2) (Nat.le_of_ble_eq_true rfl)
  rw [lg_entry_eq]
  generalize (lg_sl ([.ref h0, .int 9]) ++ List.replicate (2 - (lg_sl ([.ref h0, .int 9])).length) Slot.unset).toArray = ls at hl ⊢
  have hl : lv_has ls 2 [(0, .ref h0), (1, .int 9)] := hl
  refine lv_iload_n hx hb dX6_keep_0 rfl (lv_at hl 1 rfl) ?_
  refine lv_bipush (v := 8) hx hb dX6_keep_1 (by decide) ?_
  refine lv_icmp_le (tgt := 7) hx hb dX6_keep_3 (by decide) (fun c1 => absurd c1 (by decide)) (fun c1 => ?_)
  have hP9 := hP.sub (ws' := [(h0, .inr (5, [.ref jb, .ref qm, .int mc, .ref qh, .ref qk, .ref qf, .int bg, .ref jp]))]) [0] rfl
  have hD9 := hD.sub (ws' := [(h0, .inr (5, [.ref jb, .ref qm, .int mc, .ref qh, .ref qk, .ref qf, .int bg, .ref jp]))]) [0] (by decide) rfl
  have hK9 := hK.sub (tys' := []) [] rfl
  exact W.vret hx hb hr (fun t ht hW => ⟨⟨(), rfl, (by first | rfl | trivial), by rw [ht]; exact hP9, va_K.moved hW.alike hK9, hD9⟩, hS.F ht⟩) hS.2.2 dX6_keep_6

set_option maxRecDepth 100000 in
set_option maxHeartbeats 4000000 in
/-- Runner.undo at 9 -/
theorem c_X6_undo_d9 (l : Launch) (dC : Nat → ClassId) (dI : Nat → Nat → Nat) (h0 : Nat) (jb : Nat) (qm : Nat) (mc : Int32) (qh : Nat) (qk : Nat) (qf : Nat) (bg : Int32) (jp : Nat) (sz : Nat) : Met l yX6_undo wsX6_undo ({ frames := 0, cells := 0, slots := 0, locals := 0 }) (va_Pc [.ref h0, .int 9] (fun U => U.heap.size = sz ∧ va_P (dC, dI) vwCl [(h0, .inr (5, [.ref jb, .ref qm, .int mc, .ref qh, .ref qk, .ref qf, .int bg, .ref jp]))] U.heap ∧ va_K (dC, dI) vwCl [] U ∧ va_D (fun _ => True) [(h0, .inr (5, [.ref jb, .ref qm, .int mc, .ref qh, .ref qk, .ref qf, .int bg, .ref jp]))])) (va_Qv (fun (_ : Unit) => True) (fun (_ : Unit) (t : State) => va_P (dC, dI) vwCl [(h0, .inr (5, [.ref jb, .ref qm, .int mc, .ref qh, .ref qk, .ref qf, .int bg, .ref jp]))] t.heap ∧ va_K (dC, dI) vwCl [] t ∧ va_D (va_A [(h0, .inr (5, [.ref jb, .ref qm, .int mc, .ref qh, .ref qk, .ref qf, .int bg, .ref jp]))] sz) [(h0, .inr (5, [.ref jb, .ref qm, .int mc, .ref qh, .ref qk, .ref qf, .int bg, .ref jp]))]) (va_A [(h0, .inr (5, [.ref jb, .ref qm, .int mc, .ref qh, .ref qk, .ref qf, .int bg, .ref jp]))] sz)) 0 0 (va_A [(h0, .inr (5, [.ref jb, .ref qm, .int mc, .ref qh, .ref qk, .ref qf, .int bg, .ref jp]))] sz) := by
  refine Met.ofW (cc := cX6_undo) (maxL := 2) (ret := none) (by decide) rfl ?_
  intro p e s m args below meth c s₁ B hml hv
  obtain ⟨rfl, hsz, hP, hK, hD0⟩ := hv
  have hx := B.exec
  have hb := B.bytes
  have hr := B.returns
  have hts := atoms_spec (ws := wsX6_undo) B.pre
  have hown : s.vm.findClass RX6 = some m.cls := findClass_of_methodNamed B.named
  have hlocks := B.notSynchronized
  subst hsz
  have hD := hD0.self (sz := s.heap.size)
  generalize hAe : va_A [(h0, .inr (5, [.ref jb, .ref qm, .int mc, .ref qh, .ref qk, .ref qf, .int bg, .ref jp]))] s.heap.size = A at hD ⊢
  have hA : ∀ q : Nat, s.heap.size ≤ q → A q := fun q h => by rw [← hAe]; exact Or.inr h
  have hS : va_S A s.heap s.heap [] := va_S.rf
  have hP : va_P (dC, dI) vwCl [(h0, .inr (5, [.ref jb, .ref qm, .int mc, .ref qh, .ref qk, .ref qf, .int bg, .ref jp]))] s.heap := hP
  have hl := lv_entry ([.ref h0, .int 9]) (n := 2) (Nat.le_of_ble_eq_true rfl)
  rw [lg_entry_eq]
  generalize (lg_sl ([.ref h0, .int 9]) ++ List.replicate (2 - (lg_sl ([.ref h0, .int 9])).length) Slot.unset).toArray = ls at hl ⊢
  have hl : lv_has ls 2 [(0, .ref h0), (1, .int 9)] := hl
  refine lv_iload_n hx hb dX6_undo_0 rfl (lv_at hl 1 rfl) ?_
  refine lv_bipush (v := 8) hx hb dX6_undo_1 (by decide) ?_
  refine lv_icmp_le (tgt := 7) hx hb dX6_undo_3 (by decide) (fun c1 => absurd c1 (by decide)) (fun c1 => ?_)
  have hP9 := hP.sub (ws' := [(h0, .inr (5, [.ref jb, .ref qm, .int mc, .ref qh, .ref qk, .ref qf, .int bg, .ref jp]))]) [0] rfl
  have hD9 := hD.sub (ws' := [(h0, .inr (5, [.ref jb, .ref qm, .int mc, .ref qh, .ref qk, .ref qf, .int bg, .ref jp]))]) [0] (by decide) rfl
  have hK9 := hK.sub (tys' := []) [] rfl
  exact W.vret hx hb hr (fun t ht hW => ⟨⟨(), rfl, (by first | rfl | trivial), by rw [ht]; exact hP9, va_K.moved hW.alike hK9, hD9⟩, hS.F ht⟩) hS.2.2 dX6_undo_6

theorem in_X6_bell_X6 : ∀ w ∈ wsX60, w ∈ wsX6_bell := fun _ h => List.mem_cons_of_mem _ (List.mem_append_left _ (List.mem_append_right _ h))
theorem in_X6_bell_X0 : ∀ w ∈ wsX00, w ∈ wsX6_bell := fun _ h => List.mem_cons_of_mem _ (List.mem_append_right _ h)
set_option maxRecDepth 100000 in
set_option maxHeartbeats 4000000 in
/-- Runner.bell -/
theorem c_X6_bell (l : Launch) (dC : Nat → ClassId) (dI : Nat → Nat → Nat) (h0 : Nat) (p0 : Int32) (p1 : Int32) (jb : Nat) (qm : Nat) (mc : Int32) (qh : Nat) (qk : Nat) (qf : Nat) (bg : Int32) (jp : Nat) (km : ClassId) (fm : Nat → Int32) (kh : ClassId) (fh : Nat → Int32) (aq0 : Nat) (aq1 : Nat) (aq2 : Nat) (aq3 : Nat) (aq4 : Nat) (aq5 : Nat) (aq6 : Nat) (aacc : Int32) (afees : Int64) (amis : Int32) (abel : Int32) (aref : Int32) (acau : Int32) (ak3 : ClassId) (ag3 : Nat → Int32) (sz : Nat) (ra1 : 0 ≤ aacc.toInt) (ra2 : aacc.toInt ≤ 8) (rb3 : 0 ≤ mc.toInt) (rb4 : mc.toInt ≤ 1500) : Met l yX6_bell wsX6_bell ({ frames := 2, cells := 0, slots := 0, locals := 42 }) (va_Pc [.ref h0, .int p0, .int p1] (fun U => U.heap.size = sz ∧ va_P (dC, dI) vwCl [(h0, .inr (5, [.ref jb, .ref qm, .int mc, .ref qh, .ref qk, .ref qf, .int bg, .ref jp])), (qm, .inl (km, 60, .inl fm)), (qh, .inl (kh, 8, .inl fh)), (jb, .inr (0, [.ref aq0, .ref aq1, .ref aq2, .ref aq3, .ref aq4, .ref aq5, .ref aq6, .int aacc, .long afees, .int amis, .int abel, .int aref, .int acau])), (aq3, .inl (ak3, 8, .inl ag3))] U.heap ∧ va_K (dC, dI) vwCl [(km, .int), (kh, .int), (ak3, .boolean)] U ∧ va_D (fun _ => True) [(h0, .inr (5, [.ref jb, .ref qm, .int mc, .ref qh, .ref qk, .ref qf, .int bg, .ref jp])), (qm, .inl (km, 60, .inl fm)), (qh, .inl (kh, 8, .inl fh)), (jb, .inr (0, [.ref aq0, .ref aq1, .ref aq2, .ref aq3, .ref aq4, .ref aq5, .ref aq6, .int aacc, .long afees, .int amis, .int abel, .int aref, .int acau])), (aq3, .inl (ak3, 8, .inl ag3))])) (va_Qi (fun (r : Int32) (_ : Unit) => r = 0) (fun (_ : Unit) (t : State) => ∃ (fm' : Nat → Int32), ∃ (mc' : Int32), ∃ (amis' : Int32), ∃ (abel' : Int32), ∃ (aref' : Int32), (0 ≤ mc'.toInt) ∧ (mc'.toInt ≤ mc.toInt + 1) ∧ va_P (dC, dI) vwCl [(h0, .inr (5, [.ref jb, .ref qm, .int mc', .ref qh, .ref qk, .ref qf, .int bg, .ref jp])), (qm, .inl (km, 60, .inl (fm'))), (qh, .inl (kh, 8, .inl fh)), (jb, .inr (0, [.ref aq0, .ref aq1, .ref aq2, .ref aq3, .ref aq4, .ref aq5, .ref aq6, .int aacc, .long afees, .int amis', .int abel', .int aref', .int acau])), (aq3, .inl (ak3, 8, .inl ag3))] t.heap ∧ va_K (dC, dI) vwCl [(km, .int), (kh, .int), (ak3, .boolean)] t ∧ va_D (va_A [(h0, .inr (5, [.ref jb, .ref qm, .int mc, .ref qh, .ref qk, .ref qf, .int bg, .ref jp])), (qm, .inl (km, 60, .inl fm)), (qh, .inl (kh, 8, .inl fh)), (jb, .inr (0, [.ref aq0, .ref aq1, .ref aq2, .ref aq3, .ref aq4, .ref aq5, .ref aq6, .int aacc, .long afees, .int amis, .int abel, .int aref, .int acau])), (aq3, .inl (ak3, 8, .inl ag3))] sz) [(h0, .inr (5, [.ref jb, .ref qm, .int mc', .ref qh, .ref qk, .ref qf, .int bg, .ref jp])), (qm, .inl (km, 60, .inl (fm'))), (qh, .inl (kh, 8, .inl fh)), (jb, .inr (0, [.ref aq0, .ref aq1, .ref aq2, .ref aq3, .ref aq4, .ref aq5, .ref aq6, .int aacc, .long afees, .int amis', .int abel', .int aref', .int acau])), (aq3, .inl (ak3, 8, .inl ag3))]) (va_A [(h0, .inr (5, [.ref jb, .ref qm, .int mc, .ref qh, .ref qk, .ref qf, .int bg, .ref jp])), (qm, .inl (km, 60, .inl fm)), (qh, .inl (kh, 8, .inl fh)), (jb, .inr (0, [.ref aq0, .ref aq1, .ref aq2, .ref aq3, .ref aq4, .ref aq5, .ref aq6, .int aacc, .long afees, .int amis, .int abel, .int aref, .int acau])), (aq3, .inl (ak3, 8, .inl ag3))] sz)) 0 0 (va_A [(h0, .inr (5, [.ref jb, .ref qm, .int mc, .ref qh, .ref qk, .ref qf, .int bg, .ref jp])), (qm, .inl (km, 60, .inl fm)), (qh, .inl (kh, 8, .inl fh)), (jb, .inr (0, [.ref aq0, .ref aq1, .ref aq2, .ref aq3, .ref aq4, .ref aq5, .ref aq6, .int aacc, .long afees, .int amis, .int abel, .int aref, .int acau])), (aq3, .inl (ak3, 8, .inl ag3))] sz) := by
  refine Met.ofW (cc := cX6_bell) (maxL := 3) (ret := (some .int)) (by decide) rfl ?_
  intro p e s m args below meth c s₁ B hml hv
  obtain ⟨rfl, hsz, hP, hK, hD0⟩ := hv
  have hx := B.exec
  have hb := B.bytes
  have hr := B.returns
  have hts := atoms_spec (ws := wsX6_bell) B.pre
  have hown : s.vm.findClass RX6 = some m.cls := findClass_of_methodNamed B.named
  have hlocks := B.notSynchronized
  subst hsz
  have hD := hD0.self (sz := s.heap.size)
  generalize hAe : va_A [(h0, .inr (5, [.ref jb, .ref qm, .int mc, .ref qh, .ref qk, .ref qf, .int bg, .ref jp])), (qm, .inl (km, 60, .inl fm)), (qh, .inl (kh, 8, .inl fh)), (jb, .inr (0, [.ref aq0, .ref aq1, .ref aq2, .ref aq3, .ref aq4, .ref aq5, .ref aq6, .int aacc, .long afees, .int amis, .int abel, .int aref, .int acau])), (aq3, .inl (ak3, 8, .inl ag3))] s.heap.size = A at hD ⊢
  have hA : ∀ q : Nat, s.heap.size ≤ q → A q := fun q h => by rw [← hAe]; exact Or.inr h
  have hS : va_S A s.heap s.heap [] := va_S.rf
  have hP : va_P (dC, dI) vwCl [(h0, .inr (5, [.ref jb, .ref qm, .int mc, .ref qh, .ref qk, .ref qf, .int bg, .ref jp])), (qm, .inl (km, 60, .inl fm)), (qh, .inl (kh, 8, .inl fh)), (jb, .inr (0, [.ref aq0, .ref aq1, .ref aq2, .ref aq3, .ref aq4, .ref aq5, .ref aq6, .int aacc, .long afees, .int amis, .int abel, .int aref, .int acau])), (aq3, .inl (ak3, 8, .inl ag3))] s.heap := hP
  have hl := lv_entry ([.ref h0, .int p0, .int p1]) (n := 3) (Nat.le_of_ble_eq_true rfl)
  rw [lg_entry_eq]
  generalize (lg_sl ([.ref h0, .int p0, .int p1]) ++ List.replicate (3 - (lg_sl ([.ref h0, .int p0, .int p1])).length) Slot.unset).toArray = ls at hl ⊢
  have hl : lv_has ls 3 [(0, .ref h0), (1, .int p0), (2, .int p1)] := hl
  have k_0 : (0 : Int32).toInt = 0 := by decide
  have k_1 : (1 : Int32).toInt = 1 := by decide
  have k_30 : (30 : Int32).toInt = 30 := by decide
  have k_40 : (40 : Int32).toInt = 40 := by decide
  refine lv_aload_n hx hb dX6_bell_0 rfl (lv_at hl 0 rfl) ?_
  refine va_get (D := (dC, dI)) (ci := 5) (v := .ref jb) (C := RX6) (T := TX6) (N := 8) hx hb hts in_X6_bell_X6 hown hK hP 0 rfl rfl 0 (by decide) (hts (.fieldLink RX6 27 "ClearingGates$Runner" "books" "LClearingGates$Books;") (List.mem_of_getElem? (i := 1) (by decide +kernel))) (fun _ h9 => h9) rfl dX6_bell_1 ?_
  refine lv_iload_n hx hb dX6_bell_4 rfl (lv_at hl 1 rfl) ?_
  have hPc := hP.sub (ws' := [(jb, .inr (0, [.ref aq0, .ref aq1, .ref aq2, .ref aq3, .ref aq4, .ref aq5, .ref aq6, .int aacc, .long afees, .int amis, .int abel, .int aref, .int acau])), (aq3, .inl (ak3, 8, .inl ag3))]) [3, 4] rfl
  have hDc := hD.sub (ws' := [(jb, .inr (0, [.ref aq0, .ref aq1, .ref aq2, .ref aq3, .ref aq4, .ref aq5, .ref aq6, .int aacc, .long afees, .int amis, .int abel, .int aref, .int acau])), (aq3, .inl (ak3, 8, .inl ag3))]) [3, 4] (by decide) rfl
  have hKc := hK.sub (tys' := [(ak3, .boolean)]) [2] rfl
  have hFc := va_free (wc := [(jb, .inr (0, [.ref aq0, .ref aq1, .ref aq2, .ref aq3, .ref aq4, .ref aq5, .ref aq6, .int aacc, .long afees, .int amis, .int abel, .int aref, .int acau])), (aq3, .inl (ak3, 8, .inl ag3))]) hD hS hA [3, 4] rfl
  refine va_calli (va_runV (As := [.int p0]) (rest := []) ⟨hx, hb, hml, hown, hts⟩ (c_X0_hasGate l dC dI jb p0 (.ref aq0) (.ref aq1) (.ref aq2) aq3 (.ref aq4) (.ref aq5) (.ref aq6) aacc (.long afees) (.int amis) (.int abel) (.int aref) (.int acau) ak3 ag3 s.heap.size (by first | assumption | omega)) (cwV 1 hts gX6_bell_X0_hasGate rfl rfl rfl (by decide +kernel) ⟨Nat.le_of_ble_eq_true rfl, Nat.le_of_ble_eq_true rfl⟩) ⟨fun a U g mk q => by obtain ⟨q0, q1, qP, qK, qD⟩ := q; exact ⟨q0, q1, qP, va_K.moved (u := U) (U := U.calling g mk a) (Vm.Alike.refl U.vm) qK, qD⟩, va_recv hKc hPc (ci := 0) (q0 := 0) rfl rfl, fun U hU hW => ⟨rfl, by rw [hU], by rw [hU]; exact hPc, va_K.moved hW.alike hKc, hDc.weaken (fun _ _ _ _ => trivial)⟩⟩ rfl rfl hl.1 rfl (lv_room (Nat.le_of_ble_eq_true rfl)) dX6_bell_5 ⟨Nat.le_of_ble_eq_true rfl, Nat.le_of_ble_eq_true rfl⟩) hS (fun q _ h => hFc q h) hFc (fun r1 u t H1 locs ht hvm hw hB hz1 hk1 hS => ?_)
  obtain ⟨hP1, hK1, hD1⟩ := hB
  rw [ht] at hP1
  have hK1 := va_K.moved hvm.symm hK1
  try dsimp only at hw
  obtain ⟨hP, hD⟩ := va_join (wr := [(h0, .inr (5, [.ref jb, .ref qm, .int mc, .ref qh, .ref qk, .ref qf, .int bg, .ref jp])), (qm, .inl (km, 60, .inl fm)), (qh, .inl (kh, 8, .inl fh))]) (w1 := [(jb, .inr (0, [.ref aq0, .ref aq1, .ref aq2, .ref aq3, .ref aq4, .ref aq5, .ref aq6, .int aacc, .long afees, .int amis, .int abel, .int aref, .int acau])), (aq3, .inl (ak3, 8, .inl ag3))]) hP hD [3, 4] [0, 1, 2] rfl rfl (by decide) (by decide) hk1 hFc hP1 hD1
  have hK := (hK.sub (tys' := [(km, .int), (kh, .int)]) [0, 1] rfl).app hK1
  generalize H1 = H at hP hS ⊢
  have hP : va_P (dC, dI) vwCl [(h0, .inr (5, [.ref jb, .ref qm, .int mc, .ref qh, .ref qk, .ref qf, .int bg, .ref jp])), (qm, .inl (km, 60, .inl fm)), (qh, .inl (kh, 8, .inl fh)), (jb, .inr (0, [.ref aq0, .ref aq1, .ref aq2, .ref aq3, .ref aq4, .ref aq5, .ref aq6, .int aacc, .long afees, .int amis, .int abel, .int aref, .int acau])), (aq3, .inl (ak3, 8, .inl ag3))] H := hP
  have hD : va_D A [(h0, .inr (5, [.ref jb, .ref qm, .int mc, .ref qh, .ref qk, .ref qf, .int bg, .ref jp])), (qm, .inl (km, 60, .inl fm)), (qh, .inl (kh, 8, .inl fh)), (jb, .inr (0, [.ref aq0, .ref aq1, .ref aq2, .ref aq3, .ref aq4, .ref aq5, .ref aq6, .int aacc, .long afees, .int amis, .int abel, .int aref, .int acau])), (aq3, .inl (ak3, 8, .inl ag3))] := hD
  have hK : va_K (dC, dI) vwCl [(km, .int), (kh, .int), (ak3, .boolean)] s := hK
  rcases hw with ⟨e_r1, f_r1⟩ | ⟨e_r1, f_r1⟩
  · subst e_r1
    refine lv_if_ne (tgt := 27) hx hb dX6_bell_8 (by decide) (fun c2 => ?_) (fun c2 => absurd c2 (by decide))
    refine lv_aload_n hx hb dX6_bell_27 rfl (lv_at hl 0 rfl) ?_
    refine lv_iload_n hx hb dX6_bell_28 rfl (lv_at hl 1 rfl) ?_
    have hPc := hP.sub (ws' := [(h0, .inr (5, [.ref jb, .ref qm, .int mc, .ref qh, .ref qk, .ref qf, .int bg, .ref jp])), (qh, .inl (kh, 8, .inl fh)), (jb, .inr (0, [.ref aq0, .ref aq1, .ref aq2, .ref aq3, .ref aq4, .ref aq5, .ref aq6, .int aacc, .long afees, .int amis, .int abel, .int aref, .int acau]))]) [0, 2, 3] rfl
    have hDc := hD.sub (ws' := [(h0, .inr (5, [.ref jb, .ref qm, .int mc, .ref qh, .ref qk, .ref qf, .int bg, .ref jp])), (qh, .inl (kh, 8, .inl fh)), (jb, .inr (0, [.ref aq0, .ref aq1, .ref aq2, .ref aq3, .ref aq4, .ref aq5, .ref aq6, .int aacc, .long afees, .int amis, .int abel, .int aref, .int acau]))]) [0, 2, 3] (by decide) rfl
    have hKc := hK.sub (tys' := [(kh, .int)]) [1] rfl
    have hFc := va_free (wc := [(h0, .inr (5, [.ref jb, .ref qm, .int mc, .ref qh, .ref qk, .ref qf, .int bg, .ref jp])), (qh, .inl (kh, 8, .inl fh)), (jb, .inr (0, [.ref aq0, .ref aq1, .ref aq2, .ref aq3, .ref aq4, .ref aq5, .ref aq6, .int aacc, .long afees, .int amis, .int abel, .int aref, .int acau]))]) hD hS hA [0, 2, 3] rfl
    refine va_calli (va_runV (As := [.int p0]) (rest := []) ⟨hx, hb, hml, hown, hts⟩ (c_X6_isHeld l dC dI h0 p0 jb qm mc qh qk qf bg jp kh fh (.ref aq0) (.ref aq1) (.ref aq2) (.ref aq3) (.ref aq4) (.ref aq5) (.ref aq6) aacc (.long afees) (.int amis) (.int abel) (.int aref) (.int acau) H.size (by first | assumption | omega)) (cwV 1 hts gX6_bell_X6_isHeld rfl rfl rfl (by decide +kernel) ⟨Nat.le_of_ble_eq_true rfl, Nat.le_of_ble_eq_true rfl⟩) ⟨fun a U g mk q => by obtain ⟨q0, q1, qP, qK, qD⟩ := q; exact ⟨q0, q1, qP, va_K.moved (u := U) (U := U.calling g mk a) (Vm.Alike.refl U.vm) qK, qD⟩, va_recv hKc hPc (ci := 5) (q0 := 0) rfl rfl, fun U hU hW => ⟨rfl, by rw [hU], by rw [hU]; exact hPc, va_K.moved hW.alike hKc, hDc.weaken (fun _ _ _ _ => trivial)⟩⟩ rfl rfl hl.1 rfl (lv_room (Nat.le_of_ble_eq_true rfl)) dX6_bell_29 ⟨Nat.le_of_ble_eq_true rfl, Nat.le_of_ble_eq_true rfl⟩) hS (fun q _ h => hFc q h) hFc (fun r3 u t H1 locs ht hvm hw hB hz1 hk1 hS => ?_)
    obtain ⟨hP1, hK1, hD1⟩ := hB
    rw [ht] at hP1
    have hK1 := va_K.moved hvm.symm hK1
    try dsimp only at hw
    obtain ⟨hP, hD⟩ := va_join (wr := [(qm, .inl (km, 60, .inl fm)), (aq3, .inl (ak3, 8, .inl ag3))]) (w1 := [(h0, .inr (5, [.ref jb, .ref qm, .int mc, .ref qh, .ref qk, .ref qf, .int bg, .ref jp])), (qh, .inl (kh, 8, .inl fh)), (jb, .inr (0, [.ref aq0, .ref aq1, .ref aq2, .ref aq3, .ref aq4, .ref aq5, .ref aq6, .int aacc, .long afees, .int amis, .int abel, .int aref, .int acau]))]) hP hD [0, 2, 3] [1, 4] rfl rfl (by decide) (by decide) hk1 hFc hP1 hD1
    have hK := (hK.sub (tys' := [(km, .int), (ak3, .boolean)]) [0, 2] rfl).app hK1
    generalize H1 = H at hP hS ⊢
    have hP : va_P (dC, dI) vwCl [(qm, .inl (km, 60, .inl fm)), (aq3, .inl (ak3, 8, .inl ag3)), (h0, .inr (5, [.ref jb, .ref qm, .int mc, .ref qh, .ref qk, .ref qf, .int bg, .ref jp])), (qh, .inl (kh, 8, .inl fh)), (jb, .inr (0, [.ref aq0, .ref aq1, .ref aq2, .ref aq3, .ref aq4, .ref aq5, .ref aq6, .int aacc, .long afees, .int amis, .int abel, .int aref, .int acau]))] H := hP
    have hD : va_D A [(qm, .inl (km, 60, .inl fm)), (aq3, .inl (ak3, 8, .inl ag3)), (h0, .inr (5, [.ref jb, .ref qm, .int mc, .ref qh, .ref qk, .ref qf, .int bg, .ref jp])), (qh, .inl (kh, 8, .inl fh)), (jb, .inr (0, [.ref aq0, .ref aq1, .ref aq2, .ref aq3, .ref aq4, .ref aq5, .ref aq6, .int aacc, .long afees, .int amis, .int abel, .int aref, .int acau]))] := hD
    have hK : va_K (dC, dI) vwCl [(km, .int), (ak3, .boolean), (kh, .int)] s := hK
    rcases hw with ⟨e_r3, f_r3⟩ | ⟨e_r3, f_r3⟩
    · subst e_r3
      refine lv_if_eq (tgt := 59) hx hb dX6_bell_32 (by decide) (fun c4 => absurd c4 (by decide)) (fun c4 => ?_)
      refine lv_aload_n hx hb dX6_bell_35 rfl (lv_at hl 0 rfl) ?_
      refine va_get (D := (dC, dI)) (ci := 5) (v := .ref jb) (C := RX6) (T := TX6) (N := 8) hx hb hts in_X6_bell_X6 hown hK hP 2 rfl rfl 0 (by decide) (hts (.fieldLink RX6 27 "ClearingGates$Runner" "books" "LClearingGates$Books;") (List.mem_of_getElem? (i := 1) (by decide +kernel))) (fun _ h9 => h9) rfl dX6_bell_36 ?_
      refine lv_dup hx hb dX6_bell_39 rfl ?_
      refine va_get (D := (dC, dI)) (ci := 0) (v := .int abel) (C := RX0) (T := TX0) (N := 13) hx hb hts in_X6_bell_X0 hown hK hP 4 rfl rfl 10 (by decide) (hts (.fieldLink RX6 145 "ClearingGates$Books" "bells" "I") (List.mem_of_getElem? (i := 3) (by decide +kernel))) (fun _ h9 => h9) rfl dX6_bell_40 ?_
      refine lv_iload_n hx hb dX6_bell_43 rfl (lv_at hl 2 rfl) ?_
      refine lv_iadd hx hb dX6_bell_44 ?_
      refine lv_topi (fun z5 e_z5 => ?_)
      refine va_put (D := (dC, dI)) (ci := 0) (v := .int z5) (ty := .int) (C := RX0) (T := TX0) (N := 13) hx hb hts in_X6_bell_X0 tyX0 tyX0_ok nmX0 hown hK hP hD hS 4 rfl rfl 10 (by decide) (hts (.fieldLink RX6 145 "ClearingGates$Books" "bells" "I") (List.mem_of_getElem? (i := 3) (by decide +kernel))) (fun _ h9 => h9) rfl (by decide +kernel) rfl rfl (Nat.le_of_ble_eq_true rfl) dX6_bell_45 (fun H locs hP hD hS => ?_)
      have hP : va_P (dC, dI) vwCl [(qm, .inl (km, 60, .inl fm)), (aq3, .inl (ak3, 8, .inl ag3)), (h0, .inr (5, [.ref jb, .ref qm, .int mc, .ref qh, .ref qk, .ref qf, .int bg, .ref jp])), (qh, .inl (kh, 8, .inl fh)), (jb, .inr (0, [.ref aq0, .ref aq1, .ref aq2, .ref aq3, .ref aq4, .ref aq5, .ref aq6, .int aacc, .long afees, .int amis, .int z5, .int aref, .int acau]))] H := hP
      have hD : va_D A [(qm, .inl (km, 60, .inl fm)), (aq3, .inl (ak3, 8, .inl ag3)), (h0, .inr (5, [.ref jb, .ref qm, .int mc, .ref qh, .ref qk, .ref qf, .int bg, .ref jp])), (qh, .inl (kh, 8, .inl fh)), (jb, .inr (0, [.ref aq0, .ref aq1, .ref aq2, .ref aq3, .ref aq4, .ref aq5, .ref aq6, .int aacc, .long afees, .int amis, .int z5, .int aref, .int acau]))] := hD
      refine lv_aload_n hx hb dX6_bell_48 rfl (lv_at hl 0 rfl) ?_
      refine lv_bipush (v := 30) hx hb dX6_bell_49 (by decide) ?_
      refine lv_iload_n hx hb dX6_bell_51 rfl (lv_at hl 1 rfl) ?_
      refine lv_iadd hx hb dX6_bell_52 ?_
      refine lv_topi (fun z6 e_z6 => ?_)
      have hPc := hP.sub (ws' := [(h0, .inr (5, [.ref jb, .ref qm, .int mc, .ref qh, .ref qk, .ref qf, .int bg, .ref jp])), (qm, .inl (km, 60, .inl fm))]) [2, 0] rfl
      have hDc := hD.sub (ws' := [(h0, .inr (5, [.ref jb, .ref qm, .int mc, .ref qh, .ref qk, .ref qf, .int bg, .ref jp])), (qm, .inl (km, 60, .inl fm))]) [2, 0] (by decide) rfl
      have hKc := hK.sub (tys' := [(km, .int)]) [0] rfl
      have hFc := va_free (wc := [(h0, .inr (5, [.ref jb, .ref qm, .int mc, .ref qh, .ref qk, .ref qf, .int bg, .ref jp])), (qm, .inl (km, 60, .inl fm))]) hD hS hA [2, 0] rfl
      refine va_callv (va_runV (As := [.int z6]) (rest := []) ⟨hx, hb, hml, hown, hts⟩ (c_X6_mark l dC dI h0 z6 jb qm mc qh qk qf bg jp km fm H.size (by first | assumption | omega) (by first | assumption | omega)) (cwV 1 hts gX6_bell_X6_mark rfl rfl rfl (by decide +kernel) ⟨Nat.le_of_ble_eq_true rfl, Nat.le_of_ble_eq_true rfl⟩) ⟨fun a U g mk q => by obtain ⟨q0, q1, qP, qK, qD⟩ := q; exact ⟨q0, q1, qP, va_K.moved (u := U) (U := U.calling g mk a) (Vm.Alike.refl U.vm) qK, qD⟩, va_recv hKc hPc (ci := 5) (q0 := 0) rfl rfl, fun U hU hW => ⟨rfl, by rw [hU], by rw [hU]; exact hPc, va_K.moved hW.alike hKc, hDc.weaken (fun _ _ _ _ => trivial)⟩⟩ rfl rfl hl.1 rfl (lv_room (Nat.le_of_ble_eq_true rfl)) dX6_bell_53 ⟨Nat.le_of_ble_eq_true rfl, Nat.le_of_ble_eq_true rfl⟩) hS (fun q _ h => hFc q h) hFc (fun u t H1 locs ht hvm hw hB hz1 hk1 hS => ?_)
      obtain ⟨q8, q9, x1_r7, hP1, hK1, hD1⟩ := hB
      rw [ht] at hP1
      have hK1 := va_K.moved hvm.symm hK1
      try dsimp only at hw
      obtain ⟨hP, hD⟩ := va_join (wr := [(aq3, .inl (ak3, 8, .inl ag3)), (qh, .inl (kh, 8, .inl fh)), (jb, .inr (0, [.ref aq0, .ref aq1, .ref aq2, .ref aq3, .ref aq4, .ref aq5, .ref aq6, .int aacc, .long afees, .int amis, .int z5, .int aref, .int acau]))]) (w1 := [(h0, .inr (5, [.ref jb, .ref qm, .int q9, .ref qh, .ref qk, .ref qf, .int bg, .ref jp])), (qm, .inl (km, 60, .inl q8))]) hP hD [2, 0] [1, 3, 4] rfl rfl (by decide) (by decide) hk1 hFc hP1 hD1
      have hK := (hK.sub (tys' := [(ak3, .boolean), (kh, .int)]) [1, 2] rfl).app hK1
      generalize H1 = H at hP hS ⊢
      have hP : va_P (dC, dI) vwCl [(aq3, .inl (ak3, 8, .inl ag3)), (qh, .inl (kh, 8, .inl fh)), (jb, .inr (0, [.ref aq0, .ref aq1, .ref aq2, .ref aq3, .ref aq4, .ref aq5, .ref aq6, .int aacc, .long afees, .int amis, .int z5, .int aref, .int acau])), (h0, .inr (5, [.ref jb, .ref qm, .int q9, .ref qh, .ref qk, .ref qf, .int bg, .ref jp])), (qm, .inl (km, 60, .inl q8))] H := hP
      have hD : va_D A [(aq3, .inl (ak3, 8, .inl ag3)), (qh, .inl (kh, 8, .inl fh)), (jb, .inr (0, [.ref aq0, .ref aq1, .ref aq2, .ref aq3, .ref aq4, .ref aq5, .ref aq6, .int aacc, .long afees, .int amis, .int z5, .int aref, .int acau])), (h0, .inr (5, [.ref jb, .ref qm, .int q9, .ref qh, .ref qk, .ref qf, .int bg, .ref jp])), (qm, .inl (km, 60, .inl q8))] := hD
      have hK : va_K (dC, dI) vwCl [(ak3, .boolean), (kh, .int), (km, .int)] s := hK
      refine lv_goto (tgt := 80) hx hb dX6_bell_56 (by decide) ?_
      refine lv_iconst (v := 0) hx hb dX6_bell_80 (by decide) ?_
      have hP9 := hP.sub (ws' := [(h0, .inr (5, [.ref jb, .ref qm, .int q9, .ref qh, .ref qk, .ref qf, .int bg, .ref jp])), (qm, .inl (km, 60, .inl q8)), (qh, .inl (kh, 8, .inl fh)), (jb, .inr (0, [.ref aq0, .ref aq1, .ref aq2, .ref aq3, .ref aq4, .ref aq5, .ref aq6, .int aacc, .long afees, .int amis, .int z5, .int aref, .int acau])), (aq3, .inl (ak3, 8, .inl ag3))]) [3, 4, 1, 2, 0] rfl
      have hD9 := hD.sub (ws' := [(h0, .inr (5, [.ref jb, .ref qm, .int q9, .ref qh, .ref qk, .ref qf, .int bg, .ref jp])), (qm, .inl (km, 60, .inl q8)), (qh, .inl (kh, 8, .inl fh)), (jb, .inr (0, [.ref aq0, .ref aq1, .ref aq2, .ref aq3, .ref aq4, .ref aq5, .ref aq6, .int aacc, .long afees, .int amis, .int z5, .int aref, .int acau])), (aq3, .inl (ak3, 8, .inl ag3))]) [3, 4, 1, 2, 0] (by decide) rfl
      have hK9 := hK.sub (tys' := [(km, .int), (kh, .int), (ak3, .boolean)]) [2, 1, 0] rfl
      exact W.iret (v := 0) hx hb hr (fun t ht hW => ⟨⟨0, (), rfl, (by first | rfl | (simp only [if_pos, if_neg, *]; done)), q8, q9, amis, z5, aref, (by first | assumption | omega), (by first | assumption | omega), by rw [ht]; exact hP9, va_K.moved hW.alike hK9, hD9⟩, hS.F ht⟩) hS.2.2 dX6_bell_81
    · subst e_r3
      refine lv_if_eq (tgt := 59) hx hb dX6_bell_32 (by decide) (fun c10 => ?_) (fun c10 => absurd (by decide) c10)
      refine lv_aload_n hx hb dX6_bell_59 rfl (lv_at hl 0 rfl) ?_
      refine va_get (D := (dC, dI)) (ci := 5) (v := .ref jb) (C := RX6) (T := TX6) (N := 8) hx hb hts in_X6_bell_X6 hown hK hP 2 rfl rfl 0 (by decide) (hts (.fieldLink RX6 27 "ClearingGates$Runner" "books" "LClearingGates$Books;") (List.mem_of_getElem? (i := 1) (by decide +kernel))) (fun _ h9 => h9) rfl dX6_bell_60 ?_
      refine lv_dup hx hb dX6_bell_63 rfl ?_
      refine va_get (D := (dC, dI)) (ci := 0) (v := .int aref) (C := RX0) (T := TX0) (N := 13) hx hb hts in_X6_bell_X0 hown hK hP 4 rfl rfl 11 (by decide) (hts (.fieldLink RX6 148 "ClearingGates$Books" "refused" "I") (List.mem_of_getElem? (i := 4) (by decide +kernel))) (fun _ h9 => h9) rfl dX6_bell_64 ?_
      refine lv_iconst (v := 1) hx hb dX6_bell_67 (by decide) ?_
      refine lv_iadd hx hb dX6_bell_68 ?_
      refine lv_topi (fun z11 e_z11 => ?_)
      refine va_put (D := (dC, dI)) (ci := 0) (v := .int z11) (ty := .int) (C := RX0) (T := TX0) (N := 13) hx hb hts in_X6_bell_X0 tyX0 tyX0_ok nmX0 hown hK hP hD hS 4 rfl rfl 11 (by decide) (hts (.fieldLink RX6 148 "ClearingGates$Books" "refused" "I") (List.mem_of_getElem? (i := 4) (by decide +kernel))) (fun _ h9 => h9) rfl (by decide +kernel) rfl rfl (Nat.le_of_ble_eq_true rfl) dX6_bell_69 (fun H locs hP hD hS => ?_)
      have hP : va_P (dC, dI) vwCl [(qm, .inl (km, 60, .inl fm)), (aq3, .inl (ak3, 8, .inl ag3)), (h0, .inr (5, [.ref jb, .ref qm, .int mc, .ref qh, .ref qk, .ref qf, .int bg, .ref jp])), (qh, .inl (kh, 8, .inl fh)), (jb, .inr (0, [.ref aq0, .ref aq1, .ref aq2, .ref aq3, .ref aq4, .ref aq5, .ref aq6, .int aacc, .long afees, .int amis, .int abel, .int z11, .int acau]))] H := hP
      have hD : va_D A [(qm, .inl (km, 60, .inl fm)), (aq3, .inl (ak3, 8, .inl ag3)), (h0, .inr (5, [.ref jb, .ref qm, .int mc, .ref qh, .ref qk, .ref qf, .int bg, .ref jp])), (qh, .inl (kh, 8, .inl fh)), (jb, .inr (0, [.ref aq0, .ref aq1, .ref aq2, .ref aq3, .ref aq4, .ref aq5, .ref aq6, .int aacc, .long afees, .int amis, .int abel, .int z11, .int acau]))] := hD
      refine lv_aload_n hx hb dX6_bell_72 rfl (lv_at hl 0 rfl) ?_
      refine lv_bipush (v := 40) hx hb dX6_bell_73 (by decide) ?_
      refine lv_iload_n hx hb dX6_bell_75 rfl (lv_at hl 1 rfl) ?_
      refine lv_iadd hx hb dX6_bell_76 ?_
      refine lv_topi (fun z12 e_z12 => ?_)
      have hPc := hP.sub (ws' := [(h0, .inr (5, [.ref jb, .ref qm, .int mc, .ref qh, .ref qk, .ref qf, .int bg, .ref jp])), (qm, .inl (km, 60, .inl fm))]) [2, 0] rfl
      have hDc := hD.sub (ws' := [(h0, .inr (5, [.ref jb, .ref qm, .int mc, .ref qh, .ref qk, .ref qf, .int bg, .ref jp])), (qm, .inl (km, 60, .inl fm))]) [2, 0] (by decide) rfl
      have hKc := hK.sub (tys' := [(km, .int)]) [0] rfl
      have hFc := va_free (wc := [(h0, .inr (5, [.ref jb, .ref qm, .int mc, .ref qh, .ref qk, .ref qf, .int bg, .ref jp])), (qm, .inl (km, 60, .inl fm))]) hD hS hA [2, 0] rfl
      refine va_callv (va_runV (As := [.int z12]) (rest := []) ⟨hx, hb, hml, hown, hts⟩ (c_X6_mark l dC dI h0 z12 jb qm mc qh qk qf bg jp km fm H.size (by first | assumption | omega) (by first | assumption | omega)) (cwV 1 hts gX6_bell_X6_mark rfl rfl rfl (by decide +kernel) ⟨Nat.le_of_ble_eq_true rfl, Nat.le_of_ble_eq_true rfl⟩) ⟨fun a U g mk q => by obtain ⟨q0, q1, qP, qK, qD⟩ := q; exact ⟨q0, q1, qP, va_K.moved (u := U) (U := U.calling g mk a) (Vm.Alike.refl U.vm) qK, qD⟩, va_recv hKc hPc (ci := 5) (q0 := 0) rfl rfl, fun U hU hW => ⟨rfl, by rw [hU], by rw [hU]; exact hPc, va_K.moved hW.alike hKc, hDc.weaken (fun _ _ _ _ => trivial)⟩⟩ rfl rfl hl.1 rfl (lv_room (Nat.le_of_ble_eq_true rfl)) dX6_bell_77 ⟨Nat.le_of_ble_eq_true rfl, Nat.le_of_ble_eq_true rfl⟩) hS (fun q _ h => hFc q h) hFc (fun u t H1 locs ht hvm hw hB hz1 hk1 hS => ?_)
      obtain ⟨q14, q15, x1_r13, hP1, hK1, hD1⟩ := hB
      rw [ht] at hP1
      have hK1 := va_K.moved hvm.symm hK1
      try dsimp only at hw
      obtain ⟨hP, hD⟩ := va_join (wr := [(aq3, .inl (ak3, 8, .inl ag3)), (qh, .inl (kh, 8, .inl fh)), (jb, .inr (0, [.ref aq0, .ref aq1, .ref aq2, .ref aq3, .ref aq4, .ref aq5, .ref aq6, .int aacc, .long afees, .int amis, .int abel, .int z11, .int acau]))]) (w1 := [(h0, .inr (5, [.ref jb, .ref qm, .int q15, .ref qh, .ref qk, .ref qf, .int bg, .ref jp])), (qm, .inl (km, 60, .inl q14))]) hP hD [2, 0] [1, 3, 4] rfl rfl (by decide) (by decide) hk1 hFc hP1 hD1
      have hK := (hK.sub (tys' := [(ak3, .boolean), (kh, .int)]) [1, 2] rfl).app hK1
      generalize H1 = H at hP hS ⊢
      have hP : va_P (dC, dI) vwCl [(aq3, .inl (ak3, 8, .inl ag3)), (qh, .inl (kh, 8, .inl fh)), (jb, .inr (0, [.ref aq0, .ref aq1, .ref aq2, .ref aq3, .ref aq4, .ref aq5, .ref aq6, .int aacc, .long afees, .int amis, .int abel, .int z11, .int acau])), (h0, .inr (5, [.ref jb, .ref qm, .int q15, .ref qh, .ref qk, .ref qf, .int bg, .ref jp])), (qm, .inl (km, 60, .inl q14))] H := hP
      have hD : va_D A [(aq3, .inl (ak3, 8, .inl ag3)), (qh, .inl (kh, 8, .inl fh)), (jb, .inr (0, [.ref aq0, .ref aq1, .ref aq2, .ref aq3, .ref aq4, .ref aq5, .ref aq6, .int aacc, .long afees, .int amis, .int abel, .int z11, .int acau])), (h0, .inr (5, [.ref jb, .ref qm, .int q15, .ref qh, .ref qk, .ref qf, .int bg, .ref jp])), (qm, .inl (km, 60, .inl q14))] := hD
      have hK : va_K (dC, dI) vwCl [(ak3, .boolean), (kh, .int), (km, .int)] s := hK
      refine lv_iconst (v := 0) hx hb dX6_bell_80 (by decide) ?_
      have hP9 := hP.sub (ws' := [(h0, .inr (5, [.ref jb, .ref qm, .int q15, .ref qh, .ref qk, .ref qf, .int bg, .ref jp])), (qm, .inl (km, 60, .inl q14)), (qh, .inl (kh, 8, .inl fh)), (jb, .inr (0, [.ref aq0, .ref aq1, .ref aq2, .ref aq3, .ref aq4, .ref aq5, .ref aq6, .int aacc, .long afees, .int amis, .int abel, .int z11, .int acau])), (aq3, .inl (ak3, 8, .inl ag3))]) [3, 4, 1, 2, 0] rfl
      have hD9 := hD.sub (ws' := [(h0, .inr (5, [.ref jb, .ref qm, .int q15, .ref qh, .ref qk, .ref qf, .int bg, .ref jp])), (qm, .inl (km, 60, .inl q14)), (qh, .inl (kh, 8, .inl fh)), (jb, .inr (0, [.ref aq0, .ref aq1, .ref aq2, .ref aq3, .ref aq4, .ref aq5, .ref aq6, .int aacc, .long afees, .int amis, .int abel, .int z11, .int acau])), (aq3, .inl (ak3, 8, .inl ag3))]) [3, 4, 1, 2, 0] (by decide) rfl
      have hK9 := hK.sub (tys' := [(km, .int), (kh, .int), (ak3, .boolean)]) [2, 1, 0] rfl
      exact W.iret (v := 0) hx hb hr (fun t ht hW => ⟨⟨0, (), rfl, (by first | rfl | (simp only [if_pos, if_neg, *]; done)), q14, q15, amis, abel, z11, (by first | assumption | omega), (by first | assumption | omega), by rw [ht]; exact hP9, va_K.moved hW.alike hK9, hD9⟩, hS.F ht⟩) hS.2.2 dX6_bell_81
  · subst e_r1
    refine lv_if_ne (tgt := 27) hx hb dX6_bell_8 (by decide) (fun c16 => absurd (by decide) c16) (fun c16 => ?_)
    refine lv_aload_n hx hb dX6_bell_11 rfl (lv_at hl 0 rfl) ?_
    refine va_get (D := (dC, dI)) (ci := 5) (v := .ref jb) (C := RX6) (T := TX6) (N := 8) hx hb hts in_X6_bell_X6 hown hK hP 0 rfl rfl 0 (by decide) (hts (.fieldLink RX6 27 "ClearingGates$Runner" "books" "LClearingGates$Books;") (List.mem_of_getElem? (i := 1) (by decide +kernel))) (fun _ h9 => h9) rfl dX6_bell_12 ?_
    refine lv_dup hx hb dX6_bell_15 rfl ?_
    refine va_get (D := (dC, dI)) (ci := 0) (v := .int amis) (C := RX0) (T := TX0) (N := 13) hx hb hts in_X6_bell_X0 hown hK hP 3 rfl rfl 9 (by decide) (hts (.fieldLink RX6 101 "ClearingGates$Books" "missed" "I") (List.mem_of_getElem? (i := 2) (by decide +kernel))) (fun _ h9 => h9) rfl dX6_bell_16 ?_
    refine lv_iconst (v := 1) hx hb dX6_bell_19 (by decide) ?_
    refine lv_iadd hx hb dX6_bell_20 ?_
    refine lv_topi (fun z17 e_z17 => ?_)
    refine va_put (D := (dC, dI)) (ci := 0) (v := .int z17) (ty := .int) (C := RX0) (T := TX0) (N := 13) hx hb hts in_X6_bell_X0 tyX0 tyX0_ok nmX0 hown hK hP hD hS 3 rfl rfl 9 (by decide) (hts (.fieldLink RX6 101 "ClearingGates$Books" "missed" "I") (List.mem_of_getElem? (i := 2) (by decide +kernel))) (fun _ h9 => h9) rfl (by decide +kernel) rfl rfl (Nat.le_of_ble_eq_true rfl) dX6_bell_21 (fun H locs hP hD hS => ?_)
    have hP : va_P (dC, dI) vwCl [(h0, .inr (5, [.ref jb, .ref qm, .int mc, .ref qh, .ref qk, .ref qf, .int bg, .ref jp])), (qm, .inl (km, 60, .inl fm)), (qh, .inl (kh, 8, .inl fh)), (jb, .inr (0, [.ref aq0, .ref aq1, .ref aq2, .ref aq3, .ref aq4, .ref aq5, .ref aq6, .int aacc, .long afees, .int z17, .int abel, .int aref, .int acau])), (aq3, .inl (ak3, 8, .inl ag3))] H := hP
    have hD : va_D A [(h0, .inr (5, [.ref jb, .ref qm, .int mc, .ref qh, .ref qk, .ref qf, .int bg, .ref jp])), (qm, .inl (km, 60, .inl fm)), (qh, .inl (kh, 8, .inl fh)), (jb, .inr (0, [.ref aq0, .ref aq1, .ref aq2, .ref aq3, .ref aq4, .ref aq5, .ref aq6, .int aacc, .long afees, .int z17, .int abel, .int aref, .int acau])), (aq3, .inl (ak3, 8, .inl ag3))] := hD
    refine lv_goto (tgt := 80) hx hb dX6_bell_24 (by decide) ?_
    refine lv_iconst (v := 0) hx hb dX6_bell_80 (by decide) ?_
    have hP9 := hP.sub (ws' := [(h0, .inr (5, [.ref jb, .ref qm, .int mc, .ref qh, .ref qk, .ref qf, .int bg, .ref jp])), (qm, .inl (km, 60, .inl fm)), (qh, .inl (kh, 8, .inl fh)), (jb, .inr (0, [.ref aq0, .ref aq1, .ref aq2, .ref aq3, .ref aq4, .ref aq5, .ref aq6, .int aacc, .long afees, .int z17, .int abel, .int aref, .int acau])), (aq3, .inl (ak3, 8, .inl ag3))]) [0, 1, 2, 3, 4] rfl
    have hD9 := hD.sub (ws' := [(h0, .inr (5, [.ref jb, .ref qm, .int mc, .ref qh, .ref qk, .ref qf, .int bg, .ref jp])), (qm, .inl (km, 60, .inl fm)), (qh, .inl (kh, 8, .inl fh)), (jb, .inr (0, [.ref aq0, .ref aq1, .ref aq2, .ref aq3, .ref aq4, .ref aq5, .ref aq6, .int aacc, .long afees, .int z17, .int abel, .int aref, .int acau])), (aq3, .inl (ak3, 8, .inl ag3))]) [0, 1, 2, 3, 4] (by decide) rfl
    have hK9 := hK.sub (tys' := [(km, .int), (kh, .int), (ak3, .boolean)]) [0, 1, 2] rfl
    exact W.iret (v := 0) hx hb hr (fun t ht hW => ⟨⟨0, (), rfl, (by first | rfl | (simp only [if_pos, if_neg, *]; done)), fm, mc, z17, abel, aref, (by first | assumption | omega), (by first | assumption | omega), by rw [ht]; exact hP9, va_K.moved hW.alike hK9, hD9⟩, hS.F ht⟩) hS.2.2 dX6_bell_81

theorem in_X6_payment_X6 : ∀ w ∈ wsX60, w ∈ wsX6_payment := fun _ h => List.mem_cons_of_mem _ (List.mem_append_left _ (List.mem_append_left _ (List.mem_append_right _ h)))
theorem in_X6_payment_X0 : ∀ w ∈ wsX00, w ∈ wsX6_payment := fun _ h => List.mem_cons_of_mem _ (List.mem_append_left _ (List.mem_append_right _ h))
set_option maxRecDepth 100000 in
set_option maxHeartbeats 4000000 in
/-- Runner.payment -/
theorem c_X6_payment (l : Launch) (dC : Nat → ClassId) (dI : Nat → Nat → Nat) (h0 : Nat) (p0 : Int32) (jb : Nat) (qm : Nat) (mc : Int32) (qh : Nat) (qk : Nat) (qf : Nat) (bg : Int32) (jp : Nat) (km : ClassId) (fm : Nat → Int32) (kh : ClassId) (fh : Nat → Int32) (aq0 : Nat) (aq1 : Nat) (aq2 : Nat) (aq3 : Nat) (aq4 : Nat) (aq5 : Nat) (aq6 : Nat) (aacc : Int32) (afees : Int64) (amis : Int32) (abel : Int32) (aref : Int32) (acau : Int32) (ak0 : ClassId) (ag0 : Nat → Int32) (ak1 : ClassId) (ag1 : Nat → Int32) (ak2 : ClassId) (ag2 : Nat → Int32) (pb : Nat) (pn : Nat) (ps : Int32) (kpb : ClassId) (fpb : Nat → Int32) (kpn : ClassId) (fpn : Nat → Int32) (sz : Nat) (ra1 : 0 ≤ aacc.toInt) (ra2 : aacc.toInt ≤ 8) (rb3 : 0 ≤ mc.toInt) (rb4 : mc.toInt ≤ 1500) (hp1 : 0 ≤ ps.toInt) (hp2 : ps.toInt ≤ 80) (hb0 : ∀ k : Nat, 0 ≤ (fpn k).toInt ∧ (fpn k).toInt ≤ 80) (pl1 : 0 ≤ p0.toInt) (pl2 : p0.toInt ≤ 90) : Met l yX6_payment wsX6_payment ({ frames := 2, cells := 0, slots := 0, locals := 45 }) (va_Pc [.ref h0, .int p0] (fun U => U.heap.size = sz ∧ va_P (dC, dI) vwCl [(h0, .inr (5, [.ref jb, .ref qm, .int mc, .ref qh, .ref qk, .ref qf, .int bg, .ref jp])), (qm, .inl (km, 60, .inl fm)), (qh, .inl (kh, 8, .inl fh)), (jb, .inr (0, [.ref aq0, .ref aq1, .ref aq2, .ref aq3, .ref aq4, .ref aq5, .ref aq6, .int aacc, .long afees, .int amis, .int abel, .int aref, .int acau])), (aq0, .inl (ak0, 8, .inl ag0)), (aq1, .inl (ak1, 8, .inl ag1)), (aq2, .inl (ak2, 8, .inl ag2)), (jp, .inr (2, [.ref pb, .ref pn, .int ps])), (pb, .inl (kpb, 80, .inl fpb)), (pn, .inl (kpn, 80, .inl fpn))] U.heap ∧ va_K (dC, dI) vwCl [(km, .int), (kh, .int), (ak0, .int), (ak1, .int), (ak2, .int), (kpb, .int), (kpn, .int)] U ∧ va_D (fun _ => True) [(h0, .inr (5, [.ref jb, .ref qm, .int mc, .ref qh, .ref qk, .ref qf, .int bg, .ref jp])), (qm, .inl (km, 60, .inl fm)), (qh, .inl (kh, 8, .inl fh)), (jb, .inr (0, [.ref aq0, .ref aq1, .ref aq2, .ref aq3, .ref aq4, .ref aq5, .ref aq6, .int aacc, .long afees, .int amis, .int abel, .int aref, .int acau])), (aq0, .inl (ak0, 8, .inl ag0)), (aq1, .inl (ak1, 8, .inl ag1)), (aq2, .inl (ak2, 8, .inl ag2)), (jp, .inr (2, [.ref pb, .ref pn, .int ps])), (pb, .inl (kpb, 80, .inl fpb)), (pn, .inl (kpn, 80, .inl fpn))])) (va_Qi (fun (r : Int32) (_ : Unit) => True) (fun (_ : Unit) (t : State) => ∃ (fm' : Nat → Int32), ∃ (mc' : Int32), ∃ (ag1' : Nat → Int32), ∃ (afees' : Int64), (0 ≤ mc'.toInt) ∧ (mc'.toInt ≤ mc.toInt + 1) ∧ va_P (dC, dI) vwCl [(h0, .inr (5, [.ref jb, .ref qm, .int mc', .ref qh, .ref qk, .ref qf, .int bg, .ref jp])), (qm, .inl (km, 60, .inl (fm'))), (qh, .inl (kh, 8, .inl fh)), (jb, .inr (0, [.ref aq0, .ref aq1, .ref aq2, .ref aq3, .ref aq4, .ref aq5, .ref aq6, .int aacc, .long afees', .int amis, .int abel, .int aref, .int acau])), (aq0, .inl (ak0, 8, .inl ag0)), (aq1, .inl (ak1, 8, .inl (ag1'))), (aq2, .inl (ak2, 8, .inl ag2)), (jp, .inr (2, [.ref pb, .ref pn, .int ps])), (pb, .inl (kpb, 80, .inl fpb)), (pn, .inl (kpn, 80, .inl fpn))] t.heap ∧ va_K (dC, dI) vwCl [(km, .int), (kh, .int), (ak0, .int), (ak1, .int), (ak2, .int), (kpb, .int), (kpn, .int)] t ∧ va_D (va_A [(h0, .inr (5, [.ref jb, .ref qm, .int mc, .ref qh, .ref qk, .ref qf, .int bg, .ref jp])), (qm, .inl (km, 60, .inl fm)), (qh, .inl (kh, 8, .inl fh)), (jb, .inr (0, [.ref aq0, .ref aq1, .ref aq2, .ref aq3, .ref aq4, .ref aq5, .ref aq6, .int aacc, .long afees, .int amis, .int abel, .int aref, .int acau])), (aq0, .inl (ak0, 8, .inl ag0)), (aq1, .inl (ak1, 8, .inl ag1)), (aq2, .inl (ak2, 8, .inl ag2)), (jp, .inr (2, [.ref pb, .ref pn, .int ps])), (pb, .inl (kpb, 80, .inl fpb)), (pn, .inl (kpn, 80, .inl fpn))] sz) [(h0, .inr (5, [.ref jb, .ref qm, .int mc', .ref qh, .ref qk, .ref qf, .int bg, .ref jp])), (qm, .inl (km, 60, .inl (fm'))), (qh, .inl (kh, 8, .inl fh)), (jb, .inr (0, [.ref aq0, .ref aq1, .ref aq2, .ref aq3, .ref aq4, .ref aq5, .ref aq6, .int aacc, .long afees', .int amis, .int abel, .int aref, .int acau])), (aq0, .inl (ak0, 8, .inl ag0)), (aq1, .inl (ak1, 8, .inl (ag1'))), (aq2, .inl (ak2, 8, .inl ag2)), (jp, .inr (2, [.ref pb, .ref pn, .int ps])), (pb, .inl (kpb, 80, .inl fpb)), (pn, .inl (kpn, 80, .inl fpn))]) (va_A [(h0, .inr (5, [.ref jb, .ref qm, .int mc, .ref qh, .ref qk, .ref qf, .int bg, .ref jp])), (qm, .inl (km, 60, .inl fm)), (qh, .inl (kh, 8, .inl fh)), (jb, .inr (0, [.ref aq0, .ref aq1, .ref aq2, .ref aq3, .ref aq4, .ref aq5, .ref aq6, .int aacc, .long afees, .int amis, .int abel, .int aref, .int acau])), (aq0, .inl (ak0, 8, .inl ag0)), (aq1, .inl (ak1, 8, .inl ag1)), (aq2, .inl (ak2, 8, .inl ag2)), (jp, .inr (2, [.ref pb, .ref pn, .int ps])), (pb, .inl (kpb, 80, .inl fpb)), (pn, .inl (kpn, 80, .inl fpn))] sz)) 0 0 (va_A [(h0, .inr (5, [.ref jb, .ref qm, .int mc, .ref qh, .ref qk, .ref qf, .int bg, .ref jp])), (qm, .inl (km, 60, .inl fm)), (qh, .inl (kh, 8, .inl fh)), (jb, .inr (0, [.ref aq0, .ref aq1, .ref aq2, .ref aq3, .ref aq4, .ref aq5, .ref aq6, .int aacc, .long afees, .int amis, .int abel, .int aref, .int acau])), (aq0, .inl (ak0, 8, .inl ag0)), (aq1, .inl (ak1, 8, .inl ag1)), (aq2, .inl (ak2, 8, .inl ag2)), (jp, .inr (2, [.ref pb, .ref pn, .int ps])), (pb, .inl (kpb, 80, .inl fpb)), (pn, .inl (kpn, 80, .inl fpn))] sz) := by
  refine Met.ofW (cc := cX6_payment) (maxL := 7) (ret := (some .int)) (by decide) rfl ?_
  intro p e s m args below meth c s₁ B hml hv
  obtain ⟨rfl, hsz, hP, hK, hD0⟩ := hv
  have hx := B.exec
  have hb := B.bytes
  have hr := B.returns
  have hts := atoms_spec (ws := wsX6_payment) B.pre
  have hown : s.vm.findClass RX6 = some m.cls := findClass_of_methodNamed B.named
  have hlocks := B.notSynchronized
  subst hsz
  have hD := hD0.self (sz := s.heap.size)
  generalize hAe : va_A [(h0, .inr (5, [.ref jb, .ref qm, .int mc, .ref qh, .ref qk, .ref qf, .int bg, .ref jp])), (qm, .inl (km, 60, .inl fm)), (qh, .inl (kh, 8, .inl fh)), (jb, .inr (0, [.ref aq0, .ref aq1, .ref aq2, .ref aq3, .ref aq4, .ref aq5, .ref aq6, .int aacc, .long afees, .int amis, .int abel, .int aref, .int acau])), (aq0, .inl (ak0, 8, .inl ag0)), (aq1, .inl (ak1, 8, .inl ag1)), (aq2, .inl (ak2, 8, .inl ag2)), (jp, .inr (2, [.ref pb, .ref pn, .int ps])), (pb, .inl (kpb, 80, .inl fpb)), (pn, .inl (kpn, 80, .inl fpn))] s.heap.size = A at hD ⊢
  have hA : ∀ q : Nat, s.heap.size ≤ q → A q := fun q h => by rw [← hAe]; exact Or.inr h
  have hS : va_S A s.heap s.heap [] := va_S.rf
  have hP : va_P (dC, dI) vwCl [(h0, .inr (5, [.ref jb, .ref qm, .int mc, .ref qh, .ref qk, .ref qf, .int bg, .ref jp])), (qm, .inl (km, 60, .inl fm)), (qh, .inl (kh, 8, .inl fh)), (jb, .inr (0, [.ref aq0, .ref aq1, .ref aq2, .ref aq3, .ref aq4, .ref aq5, .ref aq6, .int aacc, .long afees, .int amis, .int abel, .int aref, .int acau])), (aq0, .inl (ak0, 8, .inl ag0)), (aq1, .inl (ak1, 8, .inl ag1)), (aq2, .inl (ak2, 8, .inl ag2)), (jp, .inr (2, [.ref pb, .ref pn, .int ps])), (pb, .inl (kpb, 80, .inl fpb)), (pn, .inl (kpn, 80, .inl fpn))] s.heap := hP
  have hl := lv_entry ([.ref h0, .int p0]) (n := 7) (Nat.le_of_ble_eq_true rfl)
  rw [lg_entry_eq]
  generalize (lg_sl ([.ref h0, .int p0]) ++ List.replicate (7 - (lg_sl ([.ref h0, .int p0])).length) Slot.unset).toArray = ls at hl ⊢
  have hl : lv_has ls 7 [(0, .ref h0), (1, .int p0)] := hl
  have k_0 : (0 : Int32).toInt = 0 := by decide
  have k_1 : (1 : Int32).toInt = 1 := by decide
  have k_2 : (2 : Int32).toInt = 2 := by decide
  have k_3 : (3 : Int32).toInt = 3 := by decide
  have k_10 : (10 : Int32).toInt = 10 := by decide
  have k_100 : (100 : Int32).toInt = 100 := by decide
  have k_1000000000 : (1000000000 : Int32).toInt = 1000000000 := by decide
  refine lv_aload_n hx hb dX6_payment_0 rfl (lv_at hl 0 rfl) ?_
  refine va_get (D := (dC, dI)) (ci := 5) (v := .ref jp) (C := RX6) (T := TX6) (N := 8) hx hb hts in_X6_payment_X6 hown hK hP 0 rfl rfl 7 (by decide) (hts (.fieldLink RX6 41 "ClearingGates$Runner" "program" "LClearingGates$Program;") (List.mem_of_getElem? (i := 1) (by decide +kernel))) (fun _ h9 => h9) rfl dX6_payment_1 ?_
  refine lv_iload_n hx hb dX6_payment_4 rfl (lv_at hl 1 rfl) ?_
  refine lv_iconst (v := 1) hx hb dX6_payment_5 (by decide) ?_
  refine lv_iadd hx hb dX6_payment_6 ?_
  refine lv_topi (fun z1 e_z1 => ?_)
  have t_z1 := i_add e_z1 (by omega) (by omega)
  have hPc := hP.sub (ws' := [(jp, .inr (2, [.ref pb, .ref pn, .int ps])), (pb, .inl (kpb, 80, .inl fpb))]) [7, 8] rfl
  have hDc := hD.sub (ws' := [(jp, .inr (2, [.ref pb, .ref pn, .int ps])), (pb, .inl (kpb, 80, .inl fpb))]) [7, 8] (by decide) rfl
  have hKc := hK.sub (tys' := [(kpb, .int)]) [5] rfl
  have hFc := va_free (wc := [(jp, .inr (2, [.ref pb, .ref pn, .int ps])), (pb, .inl (kpb, 80, .inl fpb))]) hD hS hA [7, 8] rfl
  refine va_calli (va_runV (As := [.int z1]) (rest := []) ⟨hx, hb, hml, hown, hts⟩ (c_X3_figureAt l dC dI jp z1 pb pn ps kpb fpb s.heap.size (by first | assumption | omega) (by first | assumption | omega)) (cwV 1 hts gX6_payment_X3_figureAt rfl rfl rfl (by decide +kernel) ⟨Nat.le_of_ble_eq_true rfl, Nat.le_of_ble_eq_true rfl⟩) ⟨fun a U g mk q => by obtain ⟨q0, q1, qP, qK, qD⟩ := q; exact ⟨q0, q1, qP, va_K.moved (u := U) (U := U.calling g mk a) (Vm.Alike.refl U.vm) qK, qD⟩, va_recv hKc hPc (ci := 2) (q0 := 0) rfl rfl, fun U hU hW => ⟨rfl, by rw [hU], by rw [hU]; exact hPc, va_K.moved hW.alike hKc, hDc.weaken (fun _ _ _ _ => trivial)⟩⟩ rfl rfl hl.1 rfl (lv_room (Nat.le_of_ble_eq_true rfl)) dX6_payment_7 ⟨Nat.le_of_ble_eq_true rfl, Nat.le_of_ble_eq_true rfl⟩) hS (fun q _ h => hFc q h) hFc (fun r2 u t H1 locs ht hvm hw hB hz1 hk1 hS => ?_)
  obtain ⟨hP1, hK1, hD1⟩ := hB
  rw [ht] at hP1
  have hK1 := va_K.moved hvm.symm hK1
  try dsimp only at hw
  obtain ⟨hP, hD⟩ := va_join (wr := [(h0, .inr (5, [.ref jb, .ref qm, .int mc, .ref qh, .ref qk, .ref qf, .int bg, .ref jp])), (qm, .inl (km, 60, .inl fm)), (qh, .inl (kh, 8, .inl fh)), (jb, .inr (0, [.ref aq0, .ref aq1, .ref aq2, .ref aq3, .ref aq4, .ref aq5, .ref aq6, .int aacc, .long afees, .int amis, .int abel, .int aref, .int acau])), (aq0, .inl (ak0, 8, .inl ag0)), (aq1, .inl (ak1, 8, .inl ag1)), (aq2, .inl (ak2, 8, .inl ag2)), (pn, .inl (kpn, 80, .inl fpn))]) (w1 := [(jp, .inr (2, [.ref pb, .ref pn, .int ps])), (pb, .inl (kpb, 80, .inl fpb))]) hP hD [7, 8] [0, 1, 2, 3, 4, 5, 6, 9] rfl rfl (by decide) (by decide) hk1 hFc hP1 hD1
  have hK := (hK.sub (tys' := [(km, .int), (kh, .int), (ak0, .int), (ak1, .int), (ak2, .int), (kpn, .int)]) [0, 1, 2, 3, 4, 6] rfl).app hK1
  generalize H1 = H at hP hS ⊢
  have hP : va_P (dC, dI) vwCl [(h0, .inr (5, [.ref jb, .ref qm, .int mc, .ref qh, .ref qk, .ref qf, .int bg, .ref jp])), (qm, .inl (km, 60, .inl fm)), (qh, .inl (kh, 8, .inl fh)), (jb, .inr (0, [.ref aq0, .ref aq1, .ref aq2, .ref aq3, .ref aq4, .ref aq5, .ref aq6, .int aacc, .long afees, .int amis, .int abel, .int aref, .int acau])), (aq0, .inl (ak0, 8, .inl ag0)), (aq1, .inl (ak1, 8, .inl ag1)), (aq2, .inl (ak2, 8, .inl ag2)), (pn, .inl (kpn, 80, .inl fpn)), (jp, .inr (2, [.ref pb, .ref pn, .int ps])), (pb, .inl (kpb, 80, .inl fpb))] H := hP
  have hD : va_D A [(h0, .inr (5, [.ref jb, .ref qm, .int mc, .ref qh, .ref qk, .ref qf, .int bg, .ref jp])), (qm, .inl (km, 60, .inl fm)), (qh, .inl (kh, 8, .inl fh)), (jb, .inr (0, [.ref aq0, .ref aq1, .ref aq2, .ref aq3, .ref aq4, .ref aq5, .ref aq6, .int aacc, .long afees, .int amis, .int abel, .int aref, .int acau])), (aq0, .inl (ak0, 8, .inl ag0)), (aq1, .inl (ak1, 8, .inl ag1)), (aq2, .inl (ak2, 8, .inl ag2)), (pn, .inl (kpn, 80, .inl fpn)), (jp, .inr (2, [.ref pb, .ref pn, .int ps])), (pb, .inl (kpb, 80, .inl fpb))] := hD
  have hK : va_K (dC, dI) vwCl [(km, .int), (kh, .int), (ak0, .int), (ak1, .int), (ak2, .int), (kpn, .int), (kpb, .int)] s := hK
  refine lv_istore_n (lv' := [(2, .int r2), (0, .ref h0), (1, .int p0)]) hx hb dX6_payment_10 rfl hl (by decide) rfl (fun ls hl => ?_)
  refine lv_aload_n hx hb dX6_payment_11 rfl (lv_at hl 1 rfl) ?_
  refine va_get (D := (dC, dI)) (ci := 5) (v := .ref jp) (C := RX6) (T := TX6) (N := 8) hx hb hts in_X6_payment_X6 hown hK hP 0 rfl rfl 7 (by decide) (hts (.fieldLink RX6 41 "ClearingGates$Runner" "program" "LClearingGates$Program;") (List.mem_of_getElem? (i := 1) (by decide +kernel))) (fun _ h9 => h9) rfl dX6_payment_12 ?_
  refine lv_iload_n hx hb dX6_payment_15 rfl (lv_at hl 2 rfl) ?_
  refine lv_iconst (v := 2) hx hb dX6_payment_16 (by decide) ?_
  refine lv_iadd hx hb dX6_payment_17 ?_
  refine lv_topi (fun z3 e_z3 => ?_)
  have t_z3 := i_add e_z3 (by omega) (by omega)
  have hPc := hP.sub (ws' := [(jp, .inr (2, [.ref pb, .ref pn, .int ps])), (pb, .inl (kpb, 80, .inl fpb))]) [8, 9] rfl
  have hDc := hD.sub (ws' := [(jp, .inr (2, [.ref pb, .ref pn, .int ps])), (pb, .inl (kpb, 80, .inl fpb))]) [8, 9] (by decide) rfl
  have hKc := hK.sub (tys' := [(kpb, .int)]) [6] rfl
  have hFc := va_free (wc := [(jp, .inr (2, [.ref pb, .ref pn, .int ps])), (pb, .inl (kpb, 80, .inl fpb))]) hD hS hA [8, 9] rfl
  refine va_calli (va_runV (As := [.int z3]) (rest := []) ⟨hx, hb, hml, hown, hts⟩ (c_X3_figureAt l dC dI jp z3 pb pn ps kpb fpb H.size (by first | assumption | omega) (by first | assumption | omega)) (cwV 1 hts gX6_payment_X3_figureAt rfl rfl rfl (by decide +kernel) ⟨Nat.le_of_ble_eq_true rfl, Nat.le_of_ble_eq_true rfl⟩) ⟨fun a U g mk q => by obtain ⟨q0, q1, qP, qK, qD⟩ := q; exact ⟨q0, q1, qP, va_K.moved (u := U) (U := U.calling g mk a) (Vm.Alike.refl U.vm) qK, qD⟩, va_recv hKc hPc (ci := 2) (q0 := 0) rfl rfl, fun U hU hW => ⟨rfl, by rw [hU], by rw [hU]; exact hPc, va_K.moved hW.alike hKc, hDc.weaken (fun _ _ _ _ => trivial)⟩⟩ rfl rfl hl.1 rfl (lv_room (Nat.le_of_ble_eq_true rfl)) dX6_payment_18 ⟨Nat.le_of_ble_eq_true rfl, Nat.le_of_ble_eq_true rfl⟩) hS (fun q _ h => hFc q h) hFc (fun r4 u t H1 locs ht hvm hw hB hz1 hk1 hS => ?_)
  obtain ⟨hP1, hK1, hD1⟩ := hB
  rw [ht] at hP1
  have hK1 := va_K.moved hvm.symm hK1
  try dsimp only at hw
  obtain ⟨hP, hD⟩ := va_join (wr := [(h0, .inr (5, [.ref jb, .ref qm, .int mc, .ref qh, .ref qk, .ref qf, .int bg, .ref jp])), (qm, .inl (km, 60, .inl fm)), (qh, .inl (kh, 8, .inl fh)), (jb, .inr (0, [.ref aq0, .ref aq1, .ref aq2, .ref aq3, .ref aq4, .ref aq5, .ref aq6, .int aacc, .long afees, .int amis, .int abel, .int aref, .int acau])), (aq0, .inl (ak0, 8, .inl ag0)), (aq1, .inl (ak1, 8, .inl ag1)), (aq2, .inl (ak2, 8, .inl ag2)), (pn, .inl (kpn, 80, .inl fpn))]) (w1 := [(jp, .inr (2, [.ref pb, .ref pn, .int ps])), (pb, .inl (kpb, 80, .inl fpb))]) hP hD [8, 9] [0, 1, 2, 3, 4, 5, 6, 7] rfl rfl (by decide) (by decide) hk1 hFc hP1 hD1
  have hK := (hK.sub (tys' := [(km, .int), (kh, .int), (ak0, .int), (ak1, .int), (ak2, .int), (kpn, .int)]) [0, 1, 2, 3, 4, 5] rfl).app hK1
  generalize H1 = H at hP hS ⊢
  have hP : va_P (dC, dI) vwCl [(h0, .inr (5, [.ref jb, .ref qm, .int mc, .ref qh, .ref qk, .ref qf, .int bg, .ref jp])), (qm, .inl (km, 60, .inl fm)), (qh, .inl (kh, 8, .inl fh)), (jb, .inr (0, [.ref aq0, .ref aq1, .ref aq2, .ref aq3, .ref aq4, .ref aq5, .ref aq6, .int aacc, .long afees, .int amis, .int abel, .int aref, .int acau])), (aq0, .inl (ak0, 8, .inl ag0)), (aq1, .inl (ak1, 8, .inl ag1)), (aq2, .inl (ak2, 8, .inl ag2)), (pn, .inl (kpn, 80, .inl fpn)), (jp, .inr (2, [.ref pb, .ref pn, .int ps])), (pb, .inl (kpb, 80, .inl fpb))] H := hP
  have hD : va_D A [(h0, .inr (5, [.ref jb, .ref qm, .int mc, .ref qh, .ref qk, .ref qf, .int bg, .ref jp])), (qm, .inl (km, 60, .inl fm)), (qh, .inl (kh, 8, .inl fh)), (jb, .inr (0, [.ref aq0, .ref aq1, .ref aq2, .ref aq3, .ref aq4, .ref aq5, .ref aq6, .int aacc, .long afees, .int amis, .int abel, .int aref, .int acau])), (aq0, .inl (ak0, 8, .inl ag0)), (aq1, .inl (ak1, 8, .inl ag1)), (aq2, .inl (ak2, 8, .inl ag2)), (pn, .inl (kpn, 80, .inl fpn)), (jp, .inr (2, [.ref pb, .ref pn, .int ps])), (pb, .inl (kpb, 80, .inl fpb))] := hD
  have hK : va_K (dC, dI) vwCl [(km, .int), (kh, .int), (ak0, .int), (ak1, .int), (ak2, .int), (kpn, .int), (kpb, .int)] s := hK
  refine lv_istore_n (lv' := [(3, .int r4), (2, .int r2), (0, .ref h0), (1, .int p0)]) hx hb dX6_payment_21 rfl hl (by decide) rfl (fun ls hl => ?_)
  refine lv_iload_n hx hb dX6_payment_22 rfl (lv_at hl 1 rfl) ?_
  refine lv_iload_n hx hb dX6_payment_23 rfl (lv_at hl 0 rfl) ?_
  refine lv_icmp_eq (tgt := 43) hx hb dX6_payment_24 (by decide) (fun c5 => ?_) (fun c5 => ?_)
  · skip
    have f_c5 := i_eq c5
    refine lv_iconst (v := 2) hx hb dX6_payment_43 (by decide) ?_
    have hP9 := hP.sub (ws' := [(h0, .inr (5, [.ref jb, .ref qm, .int mc, .ref qh, .ref qk, .ref qf, .int bg, .ref jp])), (qm, .inl (km, 60, .inl fm)), (qh, .inl (kh, 8, .inl fh)), (jb, .inr (0, [.ref aq0, .ref aq1, .ref aq2, .ref aq3, .ref aq4, .ref aq5, .ref aq6, .int aacc, .long afees, .int amis, .int abel, .int aref, .int acau])), (aq0, .inl (ak0, 8, .inl ag0)), (aq1, .inl (ak1, 8, .inl ag1)), (aq2, .inl (ak2, 8, .inl ag2)), (jp, .inr (2, [.ref pb, .ref pn, .int ps])), (pb, .inl (kpb, 80, .inl fpb)), (pn, .inl (kpn, 80, .inl fpn))]) [0, 1, 2, 3, 4, 5, 6, 8, 9, 7] rfl
    have hD9 := hD.sub (ws' := [(h0, .inr (5, [.ref jb, .ref qm, .int mc, .ref qh, .ref qk, .ref qf, .int bg, .ref jp])), (qm, .inl (km, 60, .inl fm)), (qh, .inl (kh, 8, .inl fh)), (jb, .inr (0, [.ref aq0, .ref aq1, .ref aq2, .ref aq3, .ref aq4, .ref aq5, .ref aq6, .int aacc, .long afees, .int amis, .int abel, .int aref, .int acau])), (aq0, .inl (ak0, 8, .inl ag0)), (aq1, .inl (ak1, 8, .inl ag1)), (aq2, .inl (ak2, 8, .inl ag2)), (jp, .inr (2, [.ref pb, .ref pn, .int ps])), (pb, .inl (kpb, 80, .inl fpb)), (pn, .inl (kpn, 80, .inl fpn))]) [0, 1, 2, 3, 4, 5, 6, 8, 9, 7] (by decide) rfl
    have hK9 := hK.sub (tys' := [(km, .int), (kh, .int), (ak0, .int), (ak1, .int), (ak2, .int), (kpb, .int), (kpn, .int)]) [0, 1, 2, 3, 4, 6, 5] rfl
    exact W.iret (v := 2) hx hb hr (fun t ht hW => ⟨⟨2, (), rfl, (by first | rfl | trivial), fm, mc, ag1, afees, (by first | assumption | omega), (by first | assumption | omega), by rw [ht]; exact hP9, va_K.moved hW.alike hK9, hD9⟩, hS.F ht⟩) hS.2.2 dX6_payment_44
  · skip
    have f_c5 := i_ne c5
    refine lv_aload_n hx hb dX6_payment_27 rfl (lv_at hl 2 rfl) ?_
    refine lv_iload_n hx hb dX6_payment_28 rfl (lv_at hl 1 rfl) ?_
    have hPc := hP.sub (ws' := [(h0, .inr (5, [.ref jb, .ref qm, .int mc, .ref qh, .ref qk, .ref qf, .int bg, .ref jp])), (qh, .inl (kh, 8, .inl fh)), (jb, .inr (0, [.ref aq0, .ref aq1, .ref aq2, .ref aq3, .ref aq4, .ref aq5, .ref aq6, .int aacc, .long afees, .int amis, .int abel, .int aref, .int acau]))]) [0, 2, 3] rfl
    have hDc := hD.sub (ws' := [(h0, .inr (5, [.ref jb, .ref qm, .int mc, .ref qh, .ref qk, .ref qf, .int bg, .ref jp])), (qh, .inl (kh, 8, .inl fh)), (jb, .inr (0, [.ref aq0, .ref aq1, .ref aq2, .ref aq3, .ref aq4, .ref aq5, .ref aq6, .int aacc, .long afees, .int amis, .int abel, .int aref, .int acau]))]) [0, 2, 3] (by decide) rfl
    have hKc := hK.sub (tys' := [(kh, .int)]) [1] rfl
    have hFc := va_free (wc := [(h0, .inr (5, [.ref jb, .ref qm, .int mc, .ref qh, .ref qk, .ref qf, .int bg, .ref jp])), (qh, .inl (kh, 8, .inl fh)), (jb, .inr (0, [.ref aq0, .ref aq1, .ref aq2, .ref aq3, .ref aq4, .ref aq5, .ref aq6, .int aacc, .long afees, .int amis, .int abel, .int aref, .int acau]))]) hD hS hA [0, 2, 3] rfl
    refine va_calli (va_runV (As := [.int r2]) (rest := []) ⟨hx, hb, hml, hown, hts⟩ (c_X6_isHeld l dC dI h0 r2 jb qm mc qh qk qf bg jp kh fh (.ref aq0) (.ref aq1) (.ref aq2) (.ref aq3) (.ref aq4) (.ref aq5) (.ref aq6) aacc (.long afees) (.int amis) (.int abel) (.int aref) (.int acau) H.size (by first | assumption | omega)) (cwV 1 hts gX6_payment_X6_isHeld rfl rfl rfl (by decide +kernel) ⟨Nat.le_of_ble_eq_true rfl, Nat.le_of_ble_eq_true rfl⟩) ⟨fun a U g mk q => by obtain ⟨q0, q1, qP, qK, qD⟩ := q; exact ⟨q0, q1, qP, va_K.moved (u := U) (U := U.calling g mk a) (Vm.Alike.refl U.vm) qK, qD⟩, va_recv hKc hPc (ci := 5) (q0 := 0) rfl rfl, fun U hU hW => ⟨rfl, by rw [hU], by rw [hU]; exact hPc, va_K.moved hW.alike hKc, hDc.weaken (fun _ _ _ _ => trivial)⟩⟩ rfl rfl hl.1 rfl (lv_room (Nat.le_of_ble_eq_true rfl)) dX6_payment_29 ⟨Nat.le_of_ble_eq_true rfl, Nat.le_of_ble_eq_true rfl⟩) hS (fun q _ h => hFc q h) hFc (fun r6 u t H1 locs ht hvm hw hB hz1 hk1 hS => ?_)
    obtain ⟨hP1, hK1, hD1⟩ := hB
    rw [ht] at hP1
    have hK1 := va_K.moved hvm.symm hK1
    try dsimp only at hw
    obtain ⟨hP, hD⟩ := va_join (wr := [(qm, .inl (km, 60, .inl fm)), (aq0, .inl (ak0, 8, .inl ag0)), (aq1, .inl (ak1, 8, .inl ag1)), (aq2, .inl (ak2, 8, .inl ag2)), (pn, .inl (kpn, 80, .inl fpn)), (jp, .inr (2, [.ref pb, .ref pn, .int ps])), (pb, .inl (kpb, 80, .inl fpb))]) (w1 := [(h0, .inr (5, [.ref jb, .ref qm, .int mc, .ref qh, .ref qk, .ref qf, .int bg, .ref jp])), (qh, .inl (kh, 8, .inl fh)), (jb, .inr (0, [.ref aq0, .ref aq1, .ref aq2, .ref aq3, .ref aq4, .ref aq5, .ref aq6, .int aacc, .long afees, .int amis, .int abel, .int aref, .int acau]))]) hP hD [0, 2, 3] [1, 4, 5, 6, 7, 8, 9] rfl rfl (by decide) (by decide) hk1 hFc hP1 hD1
    have hK := (hK.sub (tys' := [(km, .int), (ak0, .int), (ak1, .int), (ak2, .int), (kpn, .int), (kpb, .int)]) [0, 2, 3, 4, 5, 6] rfl).app hK1
    generalize H1 = H at hP hS ⊢
    have hP : va_P (dC, dI) vwCl [(qm, .inl (km, 60, .inl fm)), (aq0, .inl (ak0, 8, .inl ag0)), (aq1, .inl (ak1, 8, .inl ag1)), (aq2, .inl (ak2, 8, .inl ag2)), (pn, .inl (kpn, 80, .inl fpn)), (jp, .inr (2, [.ref pb, .ref pn, .int ps])), (pb, .inl (kpb, 80, .inl fpb)), (h0, .inr (5, [.ref jb, .ref qm, .int mc, .ref qh, .ref qk, .ref qf, .int bg, .ref jp])), (qh, .inl (kh, 8, .inl fh)), (jb, .inr (0, [.ref aq0, .ref aq1, .ref aq2, .ref aq3, .ref aq4, .ref aq5, .ref aq6, .int aacc, .long afees, .int amis, .int abel, .int aref, .int acau]))] H := hP
    have hD : va_D A [(qm, .inl (km, 60, .inl fm)), (aq0, .inl (ak0, 8, .inl ag0)), (aq1, .inl (ak1, 8, .inl ag1)), (aq2, .inl (ak2, 8, .inl ag2)), (pn, .inl (kpn, 80, .inl fpn)), (jp, .inr (2, [.ref pb, .ref pn, .int ps])), (pb, .inl (kpb, 80, .inl fpb)), (h0, .inr (5, [.ref jb, .ref qm, .int mc, .ref qh, .ref qk, .ref qf, .int bg, .ref jp])), (qh, .inl (kh, 8, .inl fh)), (jb, .inr (0, [.ref aq0, .ref aq1, .ref aq2, .ref aq3, .ref aq4, .ref aq5, .ref aq6, .int aacc, .long afees, .int amis, .int abel, .int aref, .int acau]))] := hD
    have hK : va_K (dC, dI) vwCl [(km, .int), (ak0, .int), (ak1, .int), (ak2, .int), (kpn, .int), (kpb, .int), (kh, .int)] s := hK
    rcases hw with ⟨e_r6, f_r6⟩ | ⟨e_r6, f_r6⟩
    · subst e_r6
      refine lv_if_eq (tgt := 43) hx hb dX6_payment_32 (by decide) (fun c7 => absurd c7 (by decide)) (fun c7 => ?_)
      refine lv_aload_n hx hb dX6_payment_35 rfl (lv_at hl 2 rfl) ?_
      refine lv_iload_n hx hb dX6_payment_36 rfl (lv_at hl 0 rfl) ?_
      have hPc := hP.sub (ws' := [(h0, .inr (5, [.ref jb, .ref qm, .int mc, .ref qh, .ref qk, .ref qf, .int bg, .ref jp])), (qh, .inl (kh, 8, .inl fh)), (jb, .inr (0, [.ref aq0, .ref aq1, .ref aq2, .ref aq3, .ref aq4, .ref aq5, .ref aq6, .int aacc, .long afees, .int amis, .int abel, .int aref, .int acau]))]) [7, 8, 9] rfl
      have hDc := hD.sub (ws' := [(h0, .inr (5, [.ref jb, .ref qm, .int mc, .ref qh, .ref qk, .ref qf, .int bg, .ref jp])), (qh, .inl (kh, 8, .inl fh)), (jb, .inr (0, [.ref aq0, .ref aq1, .ref aq2, .ref aq3, .ref aq4, .ref aq5, .ref aq6, .int aacc, .long afees, .int amis, .int abel, .int aref, .int acau]))]) [7, 8, 9] (by decide) rfl
      have hKc := hK.sub (tys' := [(kh, .int)]) [6] rfl
      have hFc := va_free (wc := [(h0, .inr (5, [.ref jb, .ref qm, .int mc, .ref qh, .ref qk, .ref qf, .int bg, .ref jp])), (qh, .inl (kh, 8, .inl fh)), (jb, .inr (0, [.ref aq0, .ref aq1, .ref aq2, .ref aq3, .ref aq4, .ref aq5, .ref aq6, .int aacc, .long afees, .int amis, .int abel, .int aref, .int acau]))]) hD hS hA [7, 8, 9] rfl
      refine va_calli (va_runV (As := [.int r4]) (rest := []) ⟨hx, hb, hml, hown, hts⟩ (c_X6_isHeld l dC dI h0 r4 jb qm mc qh qk qf bg jp kh fh (.ref aq0) (.ref aq1) (.ref aq2) (.ref aq3) (.ref aq4) (.ref aq5) (.ref aq6) aacc (.long afees) (.int amis) (.int abel) (.int aref) (.int acau) H.size (by first | assumption | omega)) (cwV 1 hts gX6_payment_X6_isHeld rfl rfl rfl (by decide +kernel) ⟨Nat.le_of_ble_eq_true rfl, Nat.le_of_ble_eq_true rfl⟩) ⟨fun a U g mk q => by obtain ⟨q0, q1, qP, qK, qD⟩ := q; exact ⟨q0, q1, qP, va_K.moved (u := U) (U := U.calling g mk a) (Vm.Alike.refl U.vm) qK, qD⟩, va_recv hKc hPc (ci := 5) (q0 := 0) rfl rfl, fun U hU hW => ⟨rfl, by rw [hU], by rw [hU]; exact hPc, va_K.moved hW.alike hKc, hDc.weaken (fun _ _ _ _ => trivial)⟩⟩ rfl rfl hl.1 rfl (lv_room (Nat.le_of_ble_eq_true rfl)) dX6_payment_37 ⟨Nat.le_of_ble_eq_true rfl, Nat.le_of_ble_eq_true rfl⟩) hS (fun q _ h => hFc q h) hFc (fun r8 u t H1 locs ht hvm hw hB hz1 hk1 hS => ?_)
      obtain ⟨hP1, hK1, hD1⟩ := hB
      rw [ht] at hP1
      have hK1 := va_K.moved hvm.symm hK1
      try dsimp only at hw
      obtain ⟨hP, hD⟩ := va_join (wr := [(qm, .inl (km, 60, .inl fm)), (aq0, .inl (ak0, 8, .inl ag0)), (aq1, .inl (ak1, 8, .inl ag1)), (aq2, .inl (ak2, 8, .inl ag2)), (pn, .inl (kpn, 80, .inl fpn)), (jp, .inr (2, [.ref pb, .ref pn, .int ps])), (pb, .inl (kpb, 80, .inl fpb))]) (w1 := [(h0, .inr (5, [.ref jb, .ref qm, .int mc, .ref qh, .ref qk, .ref qf, .int bg, .ref jp])), (qh, .inl (kh, 8, .inl fh)), (jb, .inr (0, [.ref aq0, .ref aq1, .ref aq2, .ref aq3, .ref aq4, .ref aq5, .ref aq6, .int aacc, .long afees, .int amis, .int abel, .int aref, .int acau]))]) hP hD [7, 8, 9] [0, 1, 2, 3, 4, 5, 6] rfl rfl (by decide) (by decide) hk1 hFc hP1 hD1
      have hK := (hK.sub (tys' := [(km, .int), (ak0, .int), (ak1, .int), (ak2, .int), (kpn, .int), (kpb, .int)]) [0, 1, 2, 3, 4, 5] rfl).app hK1
      generalize H1 = H at hP hS ⊢
      have hP : va_P (dC, dI) vwCl [(qm, .inl (km, 60, .inl fm)), (aq0, .inl (ak0, 8, .inl ag0)), (aq1, .inl (ak1, 8, .inl ag1)), (aq2, .inl (ak2, 8, .inl ag2)), (pn, .inl (kpn, 80, .inl fpn)), (jp, .inr (2, [.ref pb, .ref pn, .int ps])), (pb, .inl (kpb, 80, .inl fpb)), (h0, .inr (5, [.ref jb, .ref qm, .int mc, .ref qh, .ref qk, .ref qf, .int bg, .ref jp])), (qh, .inl (kh, 8, .inl fh)), (jb, .inr (0, [.ref aq0, .ref aq1, .ref aq2, .ref aq3, .ref aq4, .ref aq5, .ref aq6, .int aacc, .long afees, .int amis, .int abel, .int aref, .int acau]))] H := hP
      have hD : va_D A [(qm, .inl (km, 60, .inl fm)), (aq0, .inl (ak0, 8, .inl ag0)), (aq1, .inl (ak1, 8, .inl ag1)), (aq2, .inl (ak2, 8, .inl ag2)), (pn, .inl (kpn, 80, .inl fpn)), (jp, .inr (2, [.ref pb, .ref pn, .int ps])), (pb, .inl (kpb, 80, .inl fpb)), (h0, .inr (5, [.ref jb, .ref qm, .int mc, .ref qh, .ref qk, .ref qf, .int bg, .ref jp])), (qh, .inl (kh, 8, .inl fh)), (jb, .inr (0, [.ref aq0, .ref aq1, .ref aq2, .ref aq3, .ref aq4, .ref aq5, .ref aq6, .int aacc, .long afees, .int amis, .int abel, .int aref, .int acau]))] := hD
      have hK : va_K (dC, dI) vwCl [(km, .int), (ak0, .int), (ak1, .int), (ak2, .int), (kpn, .int), (kpb, .int), (kh, .int)] s := hK
      rcases hw with ⟨e_r8, f_r8⟩ | ⟨e_r8, f_r8⟩
      · subst e_r8
        refine lv_if_ne (tgt := 45) hx hb dX6_payment_40 (by decide) (fun c9 => ?_) (fun c9 => absurd c9 (by decide))
        refine lv_aload_n hx hb dX6_payment_45 rfl (lv_at hl 2 rfl) ?_
        refine va_get (D := (dC, dI)) (ci := 5) (v := .ref jp) (C := RX6) (T := TX6) (N := 8) hx hb hts in_X6_payment_X6 hown hK hP 7 rfl rfl 7 (by decide) (hts (.fieldLink RX6 41 "ClearingGates$Runner" "program" "LClearingGates$Program;") (List.mem_of_getElem? (i := 1) (by decide +kernel))) (fun _ h9 => h9) rfl dX6_payment_46 ?_
        refine lv_iload_n hx hb dX6_payment_49 rfl (lv_at hl 3 rfl) ?_
        refine lv_iconst (v := 3) hx hb dX6_payment_50 (by decide) ?_
        refine lv_iadd hx hb dX6_payment_51 ?_
        refine lv_topi (fun z10 e_z10 => ?_)
        have t_z10 := i_add e_z10 (by omega) (by omega)
        refine lv_aload_n hx hb dX6_payment_52 rfl (lv_at hl 2 rfl) ?_
        refine va_get (D := (dC, dI)) (ci := 5) (v := .ref jp) (C := RX6) (T := TX6) (N := 8) hx hb hts in_X6_payment_X6 hown hK hP 7 rfl rfl 7 (by decide) (hts (.fieldLink RX6 41 "ClearingGates$Runner" "program" "LClearingGates$Program;") (List.mem_of_getElem? (i := 1) (by decide +kernel))) (fun _ h9 => h9) rfl dX6_payment_53 ?_
        refine lv_iload_n hx hb dX6_payment_56 rfl (lv_at hl 3 rfl) ?_
        have hPc := hP.sub (ws' := [(jp, .inr (2, [.ref pb, .ref pn, .int ps])), (pn, .inl (kpn, 80, .inl fpn))]) [5, 4] rfl
        have hDc := hD.sub (ws' := [(jp, .inr (2, [.ref pb, .ref pn, .int ps])), (pn, .inl (kpn, 80, .inl fpn))]) [5, 4] (by decide) rfl
        have hKc := hK.sub (tys' := [(kpn, .int)]) [4] rfl
        have hFc := va_free (wc := [(jp, .inr (2, [.ref pb, .ref pn, .int ps])), (pn, .inl (kpn, 80, .inl fpn))]) hD hS hA [5, 4] rfl
        refine va_calli (va_runV (As := [.int p0]) (rest := [.int z10, .ref jp]) ⟨hx, hb, hml, hown, hts⟩ (c_X3_behindItem l dC dI jp p0 pb pn ps kpn fpn H.size (by first | assumption | omega) (by first | assumption | omega) (by first | assumption | omega)) (cwV 1 hts gX6_payment_X3_behindItem rfl rfl rfl (by decide +kernel) ⟨Nat.le_of_ble_eq_true rfl, Nat.le_of_ble_eq_true rfl⟩) ⟨fun a U g mk q => by obtain ⟨q0, q1, qP, qK, qD⟩ := q; exact ⟨q0, q1, qP, va_K.moved (u := U) (U := U.calling g mk a) (Vm.Alike.refl U.vm) qK, qD⟩, va_recv hKc hPc (ci := 2) (q0 := 0) rfl rfl, fun U hU hW => ⟨rfl, by rw [hU], by rw [hU]; exact hPc, va_K.moved hW.alike hKc, hDc.weaken (fun _ _ _ _ => trivial)⟩⟩ rfl rfl hl.1 rfl (lv_room (Nat.le_of_ble_eq_true rfl)) dX6_payment_57 ⟨Nat.le_of_ble_eq_true rfl, Nat.le_of_ble_eq_true rfl⟩) hS (fun q _ h => hFc q h) hFc (fun r11 u t H1 locs ht hvm hw hB hz1 hk1 hS => ?_)
        obtain ⟨hP1, hK1, hD1⟩ := hB
        rw [ht] at hP1
        have hK1 := va_K.moved hvm.symm hK1
        try dsimp only at hw
        obtain ⟨hP, hD⟩ := va_join (wr := [(qm, .inl (km, 60, .inl fm)), (aq0, .inl (ak0, 8, .inl ag0)), (aq1, .inl (ak1, 8, .inl ag1)), (aq2, .inl (ak2, 8, .inl ag2)), (pb, .inl (kpb, 80, .inl fpb)), (h0, .inr (5, [.ref jb, .ref qm, .int mc, .ref qh, .ref qk, .ref qf, .int bg, .ref jp])), (qh, .inl (kh, 8, .inl fh)), (jb, .inr (0, [.ref aq0, .ref aq1, .ref aq2, .ref aq3, .ref aq4, .ref aq5, .ref aq6, .int aacc, .long afees, .int amis, .int abel, .int aref, .int acau]))]) (w1 := [(jp, .inr (2, [.ref pb, .ref pn, .int ps])), (pn, .inl (kpn, 80, .inl fpn))]) hP hD [5, 4] [0, 1, 2, 3, 6, 7, 8, 9] rfl rfl (by decide) (by decide) hk1 hFc hP1 hD1
        have hK := (hK.sub (tys' := [(km, .int), (ak0, .int), (ak1, .int), (ak2, .int), (kpb, .int), (kh, .int)]) [0, 1, 2, 3, 5, 6] rfl).app hK1
        generalize H1 = H at hP hS ⊢
        have hP : va_P (dC, dI) vwCl [(qm, .inl (km, 60, .inl fm)), (aq0, .inl (ak0, 8, .inl ag0)), (aq1, .inl (ak1, 8, .inl ag1)), (aq2, .inl (ak2, 8, .inl ag2)), (pb, .inl (kpb, 80, .inl fpb)), (h0, .inr (5, [.ref jb, .ref qm, .int mc, .ref qh, .ref qk, .ref qf, .int bg, .ref jp])), (qh, .inl (kh, 8, .inl fh)), (jb, .inr (0, [.ref aq0, .ref aq1, .ref aq2, .ref aq3, .ref aq4, .ref aq5, .ref aq6, .int aacc, .long afees, .int amis, .int abel, .int aref, .int acau])), (jp, .inr (2, [.ref pb, .ref pn, .int ps])), (pn, .inl (kpn, 80, .inl fpn))] H := hP
        have hD : va_D A [(qm, .inl (km, 60, .inl fm)), (aq0, .inl (ak0, 8, .inl ag0)), (aq1, .inl (ak1, 8, .inl ag1)), (aq2, .inl (ak2, 8, .inl ag2)), (pb, .inl (kpb, 80, .inl fpb)), (h0, .inr (5, [.ref jb, .ref qm, .int mc, .ref qh, .ref qk, .ref qf, .int bg, .ref jp])), (qh, .inl (kh, 8, .inl fh)), (jb, .inr (0, [.ref aq0, .ref aq1, .ref aq2, .ref aq3, .ref aq4, .ref aq5, .ref aq6, .int aacc, .long afees, .int amis, .int abel, .int aref, .int acau])), (jp, .inr (2, [.ref pb, .ref pn, .int ps])), (pn, .inl (kpn, 80, .inl fpn))] := hD
        have hK : va_K (dC, dI) vwCl [(km, .int), (ak0, .int), (ak1, .int), (ak2, .int), (kpb, .int), (kh, .int), (kpn, .int)] s := hK
        have h_r11 := hw
        have hPc := hP.sub (ws' := [(jp, .inr (2, [.ref pb, .ref pn, .int ps])), (pb, .inl (kpb, 80, .inl fpb))]) [8, 4] rfl
        have hDc := hD.sub (ws' := [(jp, .inr (2, [.ref pb, .ref pn, .int ps])), (pb, .inl (kpb, 80, .inl fpb))]) [8, 4] (by decide) rfl
        have hKc := hK.sub (tys' := [(kpb, .int)]) [4] rfl
        have hFc := va_free (wc := [(jp, .inr (2, [.ref pb, .ref pn, .int ps])), (pb, .inl (kpb, 80, .inl fpb))]) hD hS hA [8, 4] rfl
        refine va_calli (va_runV (As := [.int z10, .int r11]) (rest := []) ⟨hx, hb, hml, hown, hts⟩ (c_X3_numberBetween l dC dI jp z10 r11 pb pn ps kpb fpb H.size (by first | assumption | omega) (by first | assumption | omega) (by first | assumption | omega) (by first | assumption | omega) (by first | assumption | omega)) (cwV 2 hts gX6_payment_X3_numberBetween rfl rfl rfl (by decide +kernel) ⟨Nat.le_of_ble_eq_true rfl, Nat.le_of_ble_eq_true rfl⟩) ⟨fun a U g mk q => by obtain ⟨q0, q1, qP, qK, qD⟩ := q; exact ⟨q0, q1, qP, va_K.moved (u := U) (U := U.calling g mk a) (Vm.Alike.refl U.vm) qK, qD⟩, va_recv hKc hPc (ci := 2) (q0 := 0) rfl rfl, fun U hU hW => ⟨rfl, by rw [hU], by rw [hU]; exact hPc, va_K.moved hW.alike hKc, hDc.weaken (fun _ _ _ _ => trivial)⟩⟩ rfl rfl hl.1 rfl (lv_room (Nat.le_of_ble_eq_true rfl)) dX6_payment_60 ⟨Nat.le_of_ble_eq_true rfl, Nat.le_of_ble_eq_true rfl⟩) hS (fun q _ h => hFc q h) hFc (fun r12 u t H1 locs ht hvm hw hB hz1 hk1 hS => ?_)
        obtain ⟨hP1, hK1, hD1⟩ := hB
        rw [ht] at hP1
        have hK1 := va_K.moved hvm.symm hK1
        try dsimp only at hw
        obtain ⟨hP, hD⟩ := va_join (wr := [(qm, .inl (km, 60, .inl fm)), (aq0, .inl (ak0, 8, .inl ag0)), (aq1, .inl (ak1, 8, .inl ag1)), (aq2, .inl (ak2, 8, .inl ag2)), (h0, .inr (5, [.ref jb, .ref qm, .int mc, .ref qh, .ref qk, .ref qf, .int bg, .ref jp])), (qh, .inl (kh, 8, .inl fh)), (jb, .inr (0, [.ref aq0, .ref aq1, .ref aq2, .ref aq3, .ref aq4, .ref aq5, .ref aq6, .int aacc, .long afees, .int amis, .int abel, .int aref, .int acau])), (pn, .inl (kpn, 80, .inl fpn))]) (w1 := [(jp, .inr (2, [.ref pb, .ref pn, .int ps])), (pb, .inl (kpb, 80, .inl fpb))]) hP hD [8, 4] [0, 1, 2, 3, 5, 6, 7, 9] rfl rfl (by decide) (by decide) hk1 hFc hP1 hD1
        have hK := (hK.sub (tys' := [(km, .int), (ak0, .int), (ak1, .int), (ak2, .int), (kh, .int), (kpn, .int)]) [0, 1, 2, 3, 5, 6] rfl).app hK1
        generalize H1 = H at hP hS ⊢
        have hP : va_P (dC, dI) vwCl [(qm, .inl (km, 60, .inl fm)), (aq0, .inl (ak0, 8, .inl ag0)), (aq1, .inl (ak1, 8, .inl ag1)), (aq2, .inl (ak2, 8, .inl ag2)), (h0, .inr (5, [.ref jb, .ref qm, .int mc, .ref qh, .ref qk, .ref qf, .int bg, .ref jp])), (qh, .inl (kh, 8, .inl fh)), (jb, .inr (0, [.ref aq0, .ref aq1, .ref aq2, .ref aq3, .ref aq4, .ref aq5, .ref aq6, .int aacc, .long afees, .int amis, .int abel, .int aref, .int acau])), (pn, .inl (kpn, 80, .inl fpn)), (jp, .inr (2, [.ref pb, .ref pn, .int ps])), (pb, .inl (kpb, 80, .inl fpb))] H := hP
        have hD : va_D A [(qm, .inl (km, 60, .inl fm)), (aq0, .inl (ak0, 8, .inl ag0)), (aq1, .inl (ak1, 8, .inl ag1)), (aq2, .inl (ak2, 8, .inl ag2)), (h0, .inr (5, [.ref jb, .ref qm, .int mc, .ref qh, .ref qk, .ref qf, .int bg, .ref jp])), (qh, .inl (kh, 8, .inl fh)), (jb, .inr (0, [.ref aq0, .ref aq1, .ref aq2, .ref aq3, .ref aq4, .ref aq5, .ref aq6, .int aacc, .long afees, .int amis, .int abel, .int aref, .int acau])), (pn, .inl (kpn, 80, .inl fpn)), (jp, .inr (2, [.ref pb, .ref pn, .int ps])), (pb, .inl (kpb, 80, .inl fpb))] := hD
        have hK : va_K (dC, dI) vwCl [(km, .int), (ak0, .int), (ak1, .int), (ak2, .int), (kh, .int), (kpn, .int), (kpb, .int)] s := hK
        refine lv_istore (lv' := [(4, .int r12), (3, .int r4), (2, .int r2), (0, .ref h0), (1, .int p0)]) hx hb dX6_payment_63 hl (by decide) rfl (fun ls hl => ?_)
        refine lv_aload_n hx hb dX6_payment_65 rfl (lv_at hl 3 rfl) ?_
        refine va_get (D := (dC, dI)) (ci := 5) (v := .ref jb) (C := RX6) (T := TX6) (N := 8) hx hb hts in_X6_payment_X6 hown hK hP 4 rfl rfl 0 (by decide) (hts (.fieldLink RX6 27 "ClearingGates$Runner" "books" "LClearingGates$Books;") (List.mem_of_getElem? (i := 2) (by decide +kernel))) (fun _ h9 => h9) rfl dX6_payment_66 ?_
        refine lv_iload_n hx hb dX6_payment_69 rfl (lv_at hl 2 rfl) ?_
        refine lv_iload hx hb dX6_payment_70 (lv_at hl 0 rfl) ?_
        have hPc := hP.sub (ws' := [(jb, .inr (0, [.ref aq0, .ref aq1, .ref aq2, .ref aq3, .ref aq4, .ref aq5, .ref aq6, .int aacc, .long afees, .int amis, .int abel, .int aref, .int acau])), (aq0, .inl (ak0, 8, .inl ag0))]) [6, 1] rfl
        have hDc := hD.sub (ws' := [(jb, .inr (0, [.ref aq0, .ref aq1, .ref aq2, .ref aq3, .ref aq4, .ref aq5, .ref aq6, .int aacc, .long afees, .int amis, .int abel, .int aref, .int acau])), (aq0, .inl (ak0, 8, .inl ag0))]) [6, 1] (by decide) rfl
        have hKc := hK.sub (tys' := [(ak0, .int)]) [1] rfl
        have hFc := va_free (wc := [(jb, .inr (0, [.ref aq0, .ref aq1, .ref aq2, .ref aq3, .ref aq4, .ref aq5, .ref aq6, .int aacc, .long afees, .int amis, .int abel, .int aref, .int acau])), (aq0, .inl (ak0, 8, .inl ag0))]) hD hS hA [6, 1] rfl
        refine va_calli (va_runV (As := [.int r2, .int r12]) (rest := []) ⟨hx, hb, hml, hown, hts⟩ (c_X0_feeOf l dC dI jb r2 r12 aq0 (.ref aq1) (.ref aq2) (.ref aq3) (.ref aq4) (.ref aq5) (.ref aq6) (.int aacc) (.long afees) (.int amis) (.int abel) (.int aref) (.int acau) ak0 ag0 H.size (by first | assumption | omega) (by first | assumption | omega)) (cwV 2 hts gX6_payment_X0_feeOf rfl rfl rfl (by decide +kernel) ⟨Nat.le_of_ble_eq_true rfl, Nat.le_of_ble_eq_true rfl⟩) ⟨fun a U g mk q => by obtain ⟨q0, q1, qP, qK, qD⟩ := q; exact ⟨q0, q1, qP, va_K.moved (u := U) (U := U.calling g mk a) (Vm.Alike.refl U.vm) qK, qD⟩, va_recv hKc hPc (ci := 0) (q0 := 0) rfl rfl, fun U hU hW => ⟨rfl, by rw [hU], by rw [hU]; exact hPc, va_K.moved hW.alike hKc, hDc.weaken (fun _ _ _ _ => trivial)⟩⟩ rfl rfl hl.1 rfl (lv_room (Nat.le_of_ble_eq_true rfl)) dX6_payment_72 ⟨Nat.le_of_ble_eq_true rfl, Nat.le_of_ble_eq_true rfl⟩) hS (fun q _ h => hFc q h) hFc (fun r13 u t H1 locs ht hvm hw hB hz1 hk1 hS => ?_)
        obtain ⟨hP1, hK1, hD1⟩ := hB
        rw [ht] at hP1
        have hK1 := va_K.moved hvm.symm hK1
        try dsimp only at hw
        obtain ⟨hP, hD⟩ := va_join (wr := [(qm, .inl (km, 60, .inl fm)), (aq1, .inl (ak1, 8, .inl ag1)), (aq2, .inl (ak2, 8, .inl ag2)), (h0, .inr (5, [.ref jb, .ref qm, .int mc, .ref qh, .ref qk, .ref qf, .int bg, .ref jp])), (qh, .inl (kh, 8, .inl fh)), (pn, .inl (kpn, 80, .inl fpn)), (jp, .inr (2, [.ref pb, .ref pn, .int ps])), (pb, .inl (kpb, 80, .inl fpb))]) (w1 := [(jb, .inr (0, [.ref aq0, .ref aq1, .ref aq2, .ref aq3, .ref aq4, .ref aq5, .ref aq6, .int aacc, .long afees, .int amis, .int abel, .int aref, .int acau])), (aq0, .inl (ak0, 8, .inl ag0))]) hP hD [6, 1] [0, 2, 3, 4, 5, 7, 8, 9] rfl rfl (by decide) (by decide) hk1 hFc hP1 hD1
        have hK := (hK.sub (tys' := [(km, .int), (ak1, .int), (ak2, .int), (kh, .int), (kpn, .int), (kpb, .int)]) [0, 2, 3, 4, 5, 6] rfl).app hK1
        generalize H1 = H at hP hS ⊢
        have hP : va_P (dC, dI) vwCl [(qm, .inl (km, 60, .inl fm)), (aq1, .inl (ak1, 8, .inl ag1)), (aq2, .inl (ak2, 8, .inl ag2)), (h0, .inr (5, [.ref jb, .ref qm, .int mc, .ref qh, .ref qk, .ref qf, .int bg, .ref jp])), (qh, .inl (kh, 8, .inl fh)), (pn, .inl (kpn, 80, .inl fpn)), (jp, .inr (2, [.ref pb, .ref pn, .int ps])), (pb, .inl (kpb, 80, .inl fpb)), (jb, .inr (0, [.ref aq0, .ref aq1, .ref aq2, .ref aq3, .ref aq4, .ref aq5, .ref aq6, .int aacc, .long afees, .int amis, .int abel, .int aref, .int acau])), (aq0, .inl (ak0, 8, .inl ag0))] H := hP
        have hD : va_D A [(qm, .inl (km, 60, .inl fm)), (aq1, .inl (ak1, 8, .inl ag1)), (aq2, .inl (ak2, 8, .inl ag2)), (h0, .inr (5, [.ref jb, .ref qm, .int mc, .ref qh, .ref qk, .ref qf, .int bg, .ref jp])), (qh, .inl (kh, 8, .inl fh)), (pn, .inl (kpn, 80, .inl fpn)), (jp, .inr (2, [.ref pb, .ref pn, .int ps])), (pb, .inl (kpb, 80, .inl fpb)), (jb, .inr (0, [.ref aq0, .ref aq1, .ref aq2, .ref aq3, .ref aq4, .ref aq5, .ref aq6, .int aacc, .long afees, .int amis, .int abel, .int aref, .int acau])), (aq0, .inl (ak0, 8, .inl ag0))] := hD
        have hK : va_K (dC, dI) vwCl [(km, .int), (ak1, .int), (ak2, .int), (kh, .int), (kpn, .int), (kpb, .int), (ak0, .int)] s := hK
        refine lv_istore (lv' := [(5, .int r13), (4, .int r12), (3, .int r4), (2, .int r2), (0, .ref h0), (1, .int p0)]) hx hb dX6_payment_75 hl (by decide) rfl (fun ls hl => ?_)
        refine lv_aload_n hx hb dX6_payment_77 rfl (lv_at hl 4 rfl) ?_
        refine va_get (D := (dC, dI)) (ci := 5) (v := .ref jb) (C := RX6) (T := TX6) (N := 8) hx hb hts in_X6_payment_X6 hown hK hP 3 rfl rfl 0 (by decide) (hts (.fieldLink RX6 27 "ClearingGates$Runner" "books" "LClearingGates$Books;") (List.mem_of_getElem? (i := 2) (by decide +kernel))) (fun _ h9 => h9) rfl dX6_payment_78 ?_
        refine va_get (D := (dC, dI)) (ci := 0) (v := .ref aq1) (C := RX0) (T := TX0) (N := 13) hx hb hts in_X6_payment_X0 hown hK hP 8 rfl rfl 1 (by decide) (hts (.fieldLink RX6 134 "ClearingGates$Books" "balances" "[I") (List.mem_of_getElem? (i := 3) (by decide +kernel))) (fun _ h9 => h9) rfl dX6_payment_81 ?_
        refine lv_iload_n hx hb dX6_payment_84 rfl (lv_at hl 3 rfl) ?_
        refine va_iald (D := (dC, dI)) hx hb hK hP 1 1 rfl rfl (vp_in_iff.mpr ⟨by omega, by omega⟩) dX6_payment_85 ?_
        refine lv_topi (fun z14 e_z14 => ?_)
        refine lv_iload hx hb dX6_payment_86 (lv_at hl 1 rfl) ?_
        refine lv_isub hx hb dX6_payment_88 ?_
        refine lv_topi (fun z15 e_z15 => ?_)
        refine lv_iload hx hb dX6_payment_89 (lv_at hl 0 rfl) ?_
        refine lv_isub hx hb dX6_payment_91 ?_
        refine lv_topi (fun z16 e_z16 => ?_)
        refine lv_istore (lv' := [(6, .int z16), (5, .int r13), (4, .int r12), (3, .int r4), (2, .int r2), (0, .ref h0), (1, .int p0)]) hx hb dX6_payment_92 hl (by decide) rfl (fun ls hl => ?_)
        refine lv_iload hx hb dX6_payment_94 (lv_at hl 0 rfl) ?_
        refine lv_aload_n hx hb dX6_payment_96 rfl (lv_at hl 5 rfl) ?_
        refine va_get (D := (dC, dI)) (ci := 5) (v := .ref jb) (C := RX6) (T := TX6) (N := 8) hx hb hts in_X6_payment_X6 hown hK hP 3 rfl rfl 0 (by decide) (hts (.fieldLink RX6 27 "ClearingGates$Runner" "books" "LClearingGates$Books;") (List.mem_of_getElem? (i := 2) (by decide +kernel))) (fun _ h9 => h9) rfl dX6_payment_97 ?_
        refine lv_iload_n hx hb dX6_payment_100 rfl (lv_at hl 4 rfl) ?_
        have hPc := hP.sub (ws' := [(jb, .inr (0, [.ref aq0, .ref aq1, .ref aq2, .ref aq3, .ref aq4, .ref aq5, .ref aq6, .int aacc, .long afees, .int amis, .int abel, .int aref, .int acau])), (aq0, .inl (ak0, 8, .inl ag0)), (aq2, .inl (ak2, 8, .inl ag2))]) [8, 9, 2] rfl
        have hDc := hD.sub (ws' := [(jb, .inr (0, [.ref aq0, .ref aq1, .ref aq2, .ref aq3, .ref aq4, .ref aq5, .ref aq6, .int aacc, .long afees, .int amis, .int abel, .int aref, .int acau])), (aq0, .inl (ak0, 8, .inl ag0)), (aq2, .inl (ak2, 8, .inl ag2))]) [8, 9, 2] (by decide) rfl
        have hKc := hK.sub (tys' := [(ak0, .int), (ak2, .int)]) [6, 2] rfl
        have hFc := va_free (wc := [(jb, .inr (0, [.ref aq0, .ref aq1, .ref aq2, .ref aq3, .ref aq4, .ref aq5, .ref aq6, .int aacc, .long afees, .int amis, .int abel, .int aref, .int acau])), (aq0, .inl (ak0, 8, .inl ag0)), (aq2, .inl (ak2, 8, .inl ag2))]) hD hS hA [8, 9, 2] rfl
        refine va_calli (va_runV (As := [.int r2]) (rest := [.int z16]) ⟨hx, hb, hml, hown, hts⟩ (c_X0_floorOf l dC dI jb r2 aq0 (.ref aq1) aq2 (.ref aq3) (.ref aq4) (.ref aq5) (.ref aq6) (.int aacc) (.long afees) (.int amis) (.int abel) (.int aref) (.int acau) ak0 ag0 ak2 ag2 H.size (by first | assumption | omega) (by first | assumption | omega)) (cwV 1 hts gX6_payment_X0_floorOf rfl rfl rfl (by decide +kernel) ⟨Nat.le_of_ble_eq_true rfl, Nat.le_of_ble_eq_true rfl⟩) ⟨fun a U g mk q => by obtain ⟨q0, q1, qP, qK, qD⟩ := q; exact ⟨q0, q1, qP, va_K.moved (u := U) (U := U.calling g mk a) (Vm.Alike.refl U.vm) qK, qD⟩, va_recv hKc hPc (ci := 0) (q0 := 0) rfl rfl, fun U hU hW => ⟨rfl, by rw [hU], by rw [hU]; exact hPc, va_K.moved hW.alike hKc, hDc.weaken (fun _ _ _ _ => trivial)⟩⟩ rfl rfl hl.1 rfl (lv_room (Nat.le_of_ble_eq_true rfl)) dX6_payment_101 ⟨Nat.le_of_ble_eq_true rfl, Nat.le_of_ble_eq_true rfl⟩) hS (fun q _ h => hFc q h) hFc (fun r17 u t H1 locs ht hvm hw hB hz1 hk1 hS => ?_)
        obtain ⟨hP1, hK1, hD1⟩ := hB
        rw [ht] at hP1
        have hK1 := va_K.moved hvm.symm hK1
        try dsimp only at hw
        obtain ⟨hP, hD⟩ := va_join (wr := [(qm, .inl (km, 60, .inl fm)), (aq1, .inl (ak1, 8, .inl ag1)), (h0, .inr (5, [.ref jb, .ref qm, .int mc, .ref qh, .ref qk, .ref qf, .int bg, .ref jp])), (qh, .inl (kh, 8, .inl fh)), (pn, .inl (kpn, 80, .inl fpn)), (jp, .inr (2, [.ref pb, .ref pn, .int ps])), (pb, .inl (kpb, 80, .inl fpb))]) (w1 := [(jb, .inr (0, [.ref aq0, .ref aq1, .ref aq2, .ref aq3, .ref aq4, .ref aq5, .ref aq6, .int aacc, .long afees, .int amis, .int abel, .int aref, .int acau])), (aq0, .inl (ak0, 8, .inl ag0)), (aq2, .inl (ak2, 8, .inl ag2))]) hP hD [8, 9, 2] [0, 1, 3, 4, 5, 6, 7] rfl rfl (by decide) (by decide) hk1 hFc hP1 hD1
        have hK := (hK.sub (tys' := [(km, .int), (ak1, .int), (kh, .int), (kpn, .int), (kpb, .int)]) [0, 1, 3, 4, 5] rfl).app hK1
        generalize H1 = H at hP hS ⊢
        have hP : va_P (dC, dI) vwCl [(qm, .inl (km, 60, .inl fm)), (aq1, .inl (ak1, 8, .inl ag1)), (h0, .inr (5, [.ref jb, .ref qm, .int mc, .ref qh, .ref qk, .ref qf, .int bg, .ref jp])), (qh, .inl (kh, 8, .inl fh)), (pn, .inl (kpn, 80, .inl fpn)), (jp, .inr (2, [.ref pb, .ref pn, .int ps])), (pb, .inl (kpb, 80, .inl fpb)), (jb, .inr (0, [.ref aq0, .ref aq1, .ref aq2, .ref aq3, .ref aq4, .ref aq5, .ref aq6, .int aacc, .long afees, .int amis, .int abel, .int aref, .int acau])), (aq0, .inl (ak0, 8, .inl ag0)), (aq2, .inl (ak2, 8, .inl ag2))] H := hP
        have hD : va_D A [(qm, .inl (km, 60, .inl fm)), (aq1, .inl (ak1, 8, .inl ag1)), (h0, .inr (5, [.ref jb, .ref qm, .int mc, .ref qh, .ref qk, .ref qf, .int bg, .ref jp])), (qh, .inl (kh, 8, .inl fh)), (pn, .inl (kpn, 80, .inl fpn)), (jp, .inr (2, [.ref pb, .ref pn, .int ps])), (pb, .inl (kpb, 80, .inl fpb)), (jb, .inr (0, [.ref aq0, .ref aq1, .ref aq2, .ref aq3, .ref aq4, .ref aq5, .ref aq6, .int aacc, .long afees, .int amis, .int abel, .int aref, .int acau])), (aq0, .inl (ak0, 8, .inl ag0)), (aq2, .inl (ak2, 8, .inl ag2))] := hD
        have hK : va_K (dC, dI) vwCl [(km, .int), (ak1, .int), (kh, .int), (kpn, .int), (kpb, .int), (ak0, .int), (ak2, .int)] s := hK
        refine lv_icmp_lt (tgt := 124) hx hb dX6_payment_104 (by decide) (fun c18 => ?_) (fun c18 => ?_)
        · skip
          have f_c18 := i_lt c18
          refine lv_iconst (v := 1) hx hb dX6_payment_124 (by decide) ?_
          have hP9 := hP.sub (ws' := [(h0, .inr (5, [.ref jb, .ref qm, .int mc, .ref qh, .ref qk, .ref qf, .int bg, .ref jp])), (qm, .inl (km, 60, .inl fm)), (qh, .inl (kh, 8, .inl fh)), (jb, .inr (0, [.ref aq0, .ref aq1, .ref aq2, .ref aq3, .ref aq4, .ref aq5, .ref aq6, .int aacc, .long afees, .int amis, .int abel, .int aref, .int acau])), (aq0, .inl (ak0, 8, .inl ag0)), (aq1, .inl (ak1, 8, .inl ag1)), (aq2, .inl (ak2, 8, .inl ag2)), (jp, .inr (2, [.ref pb, .ref pn, .int ps])), (pb, .inl (kpb, 80, .inl fpb)), (pn, .inl (kpn, 80, .inl fpn))]) [2, 0, 3, 7, 8, 1, 9, 5, 6, 4] rfl
          have hD9 := hD.sub (ws' := [(h0, .inr (5, [.ref jb, .ref qm, .int mc, .ref qh, .ref qk, .ref qf, .int bg, .ref jp])), (qm, .inl (km, 60, .inl fm)), (qh, .inl (kh, 8, .inl fh)), (jb, .inr (0, [.ref aq0, .ref aq1, .ref aq2, .ref aq3, .ref aq4, .ref aq5, .ref aq6, .int aacc, .long afees, .int amis, .int abel, .int aref, .int acau])), (aq0, .inl (ak0, 8, .inl ag0)), (aq1, .inl (ak1, 8, .inl ag1)), (aq2, .inl (ak2, 8, .inl ag2)), (jp, .inr (2, [.ref pb, .ref pn, .int ps])), (pb, .inl (kpb, 80, .inl fpb)), (pn, .inl (kpn, 80, .inl fpn))]) [2, 0, 3, 7, 8, 1, 9, 5, 6, 4] (by decide) rfl
          have hK9 := hK.sub (tys' := [(km, .int), (kh, .int), (ak0, .int), (ak1, .int), (ak2, .int), (kpb, .int), (kpn, .int)]) [0, 2, 5, 1, 6, 4, 3] rfl
          exact W.iret (v := 1) hx hb hr (fun t ht hW => ⟨⟨1, (), rfl, (by first | rfl | trivial), fm, mc, ag1, afees, (by first | assumption | omega), (by first | assumption | omega), by rw [ht]; exact hP9, va_K.moved hW.alike hK9, hD9⟩, hS.F ht⟩) hS.2.2 dX6_payment_125
        · skip
          have f_c18 := i_nlt c18
          refine lv_aload_n hx hb dX6_payment_107 rfl (lv_at hl 5 rfl) ?_
          refine va_get (D := (dC, dI)) (ci := 5) (v := .ref jb) (C := RX6) (T := TX6) (N := 8) hx hb hts in_X6_payment_X6 hown hK hP 2 rfl rfl 0 (by decide) (hts (.fieldLink RX6 27 "ClearingGates$Runner" "books" "LClearingGates$Books;") (List.mem_of_getElem? (i := 2) (by decide +kernel))) (fun _ h9 => h9) rfl dX6_payment_108 ?_
          refine va_get (D := (dC, dI)) (ci := 0) (v := .ref aq1) (C := RX0) (T := TX0) (N := 13) hx hb hts in_X6_payment_X0 hown hK hP 7 rfl rfl 1 (by decide) (hts (.fieldLink RX6 134 "ClearingGates$Books" "balances" "[I") (List.mem_of_getElem? (i := 3) (by decide +kernel))) (fun _ h9 => h9) rfl dX6_payment_111 ?_
          refine lv_iload_n hx hb dX6_payment_114 rfl (lv_at hl 3 rfl) ?_
          refine va_iald (D := (dC, dI)) hx hb hK hP 1 1 rfl rfl (vp_in_iff.mpr ⟨by omega, by omega⟩) dX6_payment_115 ?_
          refine lv_topi (fun z19 e_z19 => ?_)
          refine lv_iload hx hb dX6_payment_116 (lv_at hl 2 rfl) ?_
          refine lv_iadd hx hb dX6_payment_118 ?_
          refine lv_topi (fun z20 e_z20 => ?_)
          refine lv_ldc hx hb hown (hts (.constant RX6 140 (1000000000)) (List.mem_of_getElem? (i := 4) (by decide +kernel))) dX6_payment_119 ?_
          refine lv_icmp_le (tgt := 126) hx hb dX6_payment_121 (by decide) (fun c21 => ?_) (fun c21 => ?_)
          · skip
            have f_c21 := i_le c21
            refine lv_aload_n hx hb dX6_payment_126 rfl (lv_at hl 5 rfl) ?_
            refine va_get (D := (dC, dI)) (ci := 5) (v := .ref jb) (C := RX6) (T := TX6) (N := 8) hx hb hts in_X6_payment_X6 hown hK hP 2 rfl rfl 0 (by decide) (hts (.fieldLink RX6 27 "ClearingGates$Runner" "books" "LClearingGates$Books;") (List.mem_of_getElem? (i := 2) (by decide +kernel))) (fun _ h9 => h9) rfl dX6_payment_127 ?_
            refine va_get (D := (dC, dI)) (ci := 0) (v := .ref aq1) (C := RX0) (T := TX0) (N := 13) hx hb hts in_X6_payment_X0 hown hK hP 7 rfl rfl 1 (by decide) (hts (.fieldLink RX6 134 "ClearingGates$Books" "balances" "[I") (List.mem_of_getElem? (i := 3) (by decide +kernel))) (fun _ h9 => h9) rfl dX6_payment_130 ?_
            refine lv_iload_n hx hb dX6_payment_133 rfl (lv_at hl 4 rfl) ?_
            refine lv_iload hx hb dX6_payment_134 (lv_at hl 0 rfl) ?_
            refine va_iast (D := (dC, dI)) hx hb hK hP hD hS 1 1 rfl rfl (vp_in_iff.mpr ⟨by omega, by omega⟩) dX6_payment_136 (fun H locs hP hD hS => ?_)
            generalize e_g22 : (upd ag1 (r2).toNatClampNeg z16) = g22 at hP hD
            have hP : va_P (dC, dI) vwCl [(qm, .inl (km, 60, .inl fm)), (aq1, .inl (ak1, 8, .inl g22)), (h0, .inr (5, [.ref jb, .ref qm, .int mc, .ref qh, .ref qk, .ref qf, .int bg, .ref jp])), (qh, .inl (kh, 8, .inl fh)), (pn, .inl (kpn, 80, .inl fpn)), (jp, .inr (2, [.ref pb, .ref pn, .int ps])), (pb, .inl (kpb, 80, .inl fpb)), (jb, .inr (0, [.ref aq0, .ref aq1, .ref aq2, .ref aq3, .ref aq4, .ref aq5, .ref aq6, .int aacc, .long afees, .int amis, .int abel, .int aref, .int acau])), (aq0, .inl (ak0, 8, .inl ag0)), (aq2, .inl (ak2, 8, .inl ag2))] H := hP
            have hD : va_D A [(qm, .inl (km, 60, .inl fm)), (aq1, .inl (ak1, 8, .inl g22)), (h0, .inr (5, [.ref jb, .ref qm, .int mc, .ref qh, .ref qk, .ref qf, .int bg, .ref jp])), (qh, .inl (kh, 8, .inl fh)), (pn, .inl (kpn, 80, .inl fpn)), (jp, .inr (2, [.ref pb, .ref pn, .int ps])), (pb, .inl (kpb, 80, .inl fpb)), (jb, .inr (0, [.ref aq0, .ref aq1, .ref aq2, .ref aq3, .ref aq4, .ref aq5, .ref aq6, .int aacc, .long afees, .int amis, .int abel, .int aref, .int acau])), (aq0, .inl (ak0, 8, .inl ag0)), (aq2, .inl (ak2, 8, .inl ag2))] := hD
            refine lv_aload_n hx hb dX6_payment_137 rfl (lv_at hl 5 rfl) ?_
            refine va_get (D := (dC, dI)) (ci := 5) (v := .ref jb) (C := RX6) (T := TX6) (N := 8) hx hb hts in_X6_payment_X6 hown hK hP 2 rfl rfl 0 (by decide) (hts (.fieldLink RX6 27 "ClearingGates$Runner" "books" "LClearingGates$Books;") (List.mem_of_getElem? (i := 2) (by decide +kernel))) (fun _ h9 => h9) rfl dX6_payment_138 ?_
            refine va_get (D := (dC, dI)) (ci := 0) (v := .ref aq1) (C := RX0) (T := TX0) (N := 13) hx hb hts in_X6_payment_X0 hown hK hP 7 rfl rfl 1 (by decide) (hts (.fieldLink RX6 134 "ClearingGates$Books" "balances" "[I") (List.mem_of_getElem? (i := 3) (by decide +kernel))) (fun _ h9 => h9) rfl dX6_payment_141 ?_
            refine lv_iload_n hx hb dX6_payment_144 rfl (lv_at hl 3 rfl) ?_
            refine lv_dup2_11 hx hb dX6_payment_145 rfl rfl ?_
            refine va_iald (D := (dC, dI)) hx hb hK hP 1 1 rfl rfl (vp_in_iff.mpr ⟨by omega, by omega⟩) dX6_payment_146 ?_
            refine lv_topi (fun z23 e_z23 => ?_)
            refine lv_iload hx hb dX6_payment_147 (lv_at hl 2 rfl) ?_
            refine lv_iadd hx hb dX6_payment_149 ?_
            refine lv_topi (fun z24 e_z24 => ?_)
            refine va_iast (D := (dC, dI)) hx hb hK hP hD hS 1 1 rfl rfl (vp_in_iff.mpr ⟨by omega, by omega⟩) dX6_payment_150 (fun H locs hP hD hS => ?_)
            generalize e_g25 : (upd g22 (r4).toNatClampNeg z24) = g25 at hP hD
            have hP : va_P (dC, dI) vwCl [(qm, .inl (km, 60, .inl fm)), (aq1, .inl (ak1, 8, .inl g25)), (h0, .inr (5, [.ref jb, .ref qm, .int mc, .ref qh, .ref qk, .ref qf, .int bg, .ref jp])), (qh, .inl (kh, 8, .inl fh)), (pn, .inl (kpn, 80, .inl fpn)), (jp, .inr (2, [.ref pb, .ref pn, .int ps])), (pb, .inl (kpb, 80, .inl fpb)), (jb, .inr (0, [.ref aq0, .ref aq1, .ref aq2, .ref aq3, .ref aq4, .ref aq5, .ref aq6, .int aacc, .long afees, .int amis, .int abel, .int aref, .int acau])), (aq0, .inl (ak0, 8, .inl ag0)), (aq2, .inl (ak2, 8, .inl ag2))] H := hP
            have hD : va_D A [(qm, .inl (km, 60, .inl fm)), (aq1, .inl (ak1, 8, .inl g25)), (h0, .inr (5, [.ref jb, .ref qm, .int mc, .ref qh, .ref qk, .ref qf, .int bg, .ref jp])), (qh, .inl (kh, 8, .inl fh)), (pn, .inl (kpn, 80, .inl fpn)), (jp, .inr (2, [.ref pb, .ref pn, .int ps])), (pb, .inl (kpb, 80, .inl fpb)), (jb, .inr (0, [.ref aq0, .ref aq1, .ref aq2, .ref aq3, .ref aq4, .ref aq5, .ref aq6, .int aacc, .long afees, .int amis, .int abel, .int aref, .int acau])), (aq0, .inl (ak0, 8, .inl ag0)), (aq2, .inl (ak2, 8, .inl ag2))] := hD
            refine lv_aload_n hx hb dX6_payment_151 rfl (lv_at hl 5 rfl) ?_
            refine va_get (D := (dC, dI)) (ci := 5) (v := .ref jb) (C := RX6) (T := TX6) (N := 8) hx hb hts in_X6_payment_X6 hown hK hP 2 rfl rfl 0 (by decide) (hts (.fieldLink RX6 27 "ClearingGates$Runner" "books" "LClearingGates$Books;") (List.mem_of_getElem? (i := 2) (by decide +kernel))) (fun _ h9 => h9) rfl dX6_payment_152 ?_
            refine lv_dup hx hb dX6_payment_155 rfl ?_
            refine va_get (D := (dC, dI)) (ci := 0) (v := .long afees) (C := RX0) (T := TX0) (N := 13) hx hb hts in_X6_payment_X0 hown hK hP 7 rfl rfl 8 (by decide) (hts (.fieldLink RX6 141 "ClearingGates$Books" "fees" "J") (List.mem_of_getElem? (i := 5) (by decide +kernel))) (fun _ h9 => h9) rfl dX6_payment_156 ?_
            refine lv_iload hx hb dX6_payment_159 (lv_at hl 1 rfl) ?_
            refine lv_i2l (v := r13.toInt64) hx hb dX6_payment_161 rfl ?_
            have t_t26 := Int32.toInt_toInt64 r13
            refine lv_ladd hx hb dX6_payment_162 ?_
            refine lv_topl (fun z27 e_z27 => ?_)
            refine va_put (D := (dC, dI)) (ci := 0) (v := .long z27) (ty := .long) (C := RX0) (T := TX0) (N := 13) hx hb hts in_X6_payment_X0 tyX0 tyX0_ok nmX0 hown hK hP hD hS 7 rfl rfl 8 (by decide) (hts (.fieldLink RX6 141 "ClearingGates$Books" "fees" "J") (List.mem_of_getElem? (i := 5) (by decide +kernel))) (fun _ h9 => h9) rfl (by decide +kernel) rfl rfl (Nat.le_of_ble_eq_true rfl) dX6_payment_163 (fun H locs hP hD hS => ?_)
            have hP : va_P (dC, dI) vwCl [(qm, .inl (km, 60, .inl fm)), (aq1, .inl (ak1, 8, .inl g25)), (h0, .inr (5, [.ref jb, .ref qm, .int mc, .ref qh, .ref qk, .ref qf, .int bg, .ref jp])), (qh, .inl (kh, 8, .inl fh)), (pn, .inl (kpn, 80, .inl fpn)), (jp, .inr (2, [.ref pb, .ref pn, .int ps])), (pb, .inl (kpb, 80, .inl fpb)), (jb, .inr (0, [.ref aq0, .ref aq1, .ref aq2, .ref aq3, .ref aq4, .ref aq5, .ref aq6, .int aacc, .long z27, .int amis, .int abel, .int aref, .int acau])), (aq0, .inl (ak0, 8, .inl ag0)), (aq2, .inl (ak2, 8, .inl ag2))] H := hP
            have hD : va_D A [(qm, .inl (km, 60, .inl fm)), (aq1, .inl (ak1, 8, .inl g25)), (h0, .inr (5, [.ref jb, .ref qm, .int mc, .ref qh, .ref qk, .ref qf, .int bg, .ref jp])), (qh, .inl (kh, 8, .inl fh)), (pn, .inl (kpn, 80, .inl fpn)), (jp, .inr (2, [.ref pb, .ref pn, .int ps])), (pb, .inl (kpb, 80, .inl fpb)), (jb, .inr (0, [.ref aq0, .ref aq1, .ref aq2, .ref aq3, .ref aq4, .ref aq5, .ref aq6, .int aacc, .long z27, .int amis, .int abel, .int aref, .int acau])), (aq0, .inl (ak0, 8, .inl ag0)), (aq2, .inl (ak2, 8, .inl ag2))] := hD
            refine lv_aload_n hx hb dX6_payment_166 rfl (lv_at hl 5 rfl) ?_
            refine lv_bipush (v := 100) hx hb dX6_payment_167 (by decide) ?_
            refine lv_bipush (v := 10) hx hb dX6_payment_169 (by decide) ?_
            refine lv_iload_n hx hb dX6_payment_171 rfl (lv_at hl 4 rfl) ?_
            refine lv_imul hx hb dX6_payment_172 ?_
            refine lv_topi (fun z28 e_z28 => ?_)
            refine lv_iadd hx hb dX6_payment_173 ?_
            refine lv_topi (fun z29 e_z29 => ?_)
            refine lv_iload_n hx hb dX6_payment_174 rfl (lv_at hl 3 rfl) ?_
            refine lv_iadd hx hb dX6_payment_175 ?_
            refine lv_topi (fun z30 e_z30 => ?_)
            have hPc := hP.sub (ws' := [(h0, .inr (5, [.ref jb, .ref qm, .int mc, .ref qh, .ref qk, .ref qf, .int bg, .ref jp])), (qm, .inl (km, 60, .inl fm))]) [2, 0] rfl
            have hDc := hD.sub (ws' := [(h0, .inr (5, [.ref jb, .ref qm, .int mc, .ref qh, .ref qk, .ref qf, .int bg, .ref jp])), (qm, .inl (km, 60, .inl fm))]) [2, 0] (by decide) rfl
            have hKc := hK.sub (tys' := [(km, .int)]) [0] rfl
            have hFc := va_free (wc := [(h0, .inr (5, [.ref jb, .ref qm, .int mc, .ref qh, .ref qk, .ref qf, .int bg, .ref jp])), (qm, .inl (km, 60, .inl fm))]) hD hS hA [2, 0] rfl
            refine va_callv (va_runV (As := [.int z30]) (rest := []) ⟨hx, hb, hml, hown, hts⟩ (c_X6_mark l dC dI h0 z30 jb qm mc qh qk qf bg jp km fm H.size (by first | assumption | omega) (by first | assumption | omega)) (cwV 1 hts gX6_payment_X6_mark rfl rfl rfl (by decide +kernel) ⟨Nat.le_of_ble_eq_true rfl, Nat.le_of_ble_eq_true rfl⟩) ⟨fun a U g mk q => by obtain ⟨q0, q1, qP, qK, qD⟩ := q; exact ⟨q0, q1, qP, va_K.moved (u := U) (U := U.calling g mk a) (Vm.Alike.refl U.vm) qK, qD⟩, va_recv hKc hPc (ci := 5) (q0 := 0) rfl rfl, fun U hU hW => ⟨rfl, by rw [hU], by rw [hU]; exact hPc, va_K.moved hW.alike hKc, hDc.weaken (fun _ _ _ _ => trivial)⟩⟩ rfl rfl hl.1 rfl (lv_room (Nat.le_of_ble_eq_true rfl)) dX6_payment_176 ⟨Nat.le_of_ble_eq_true rfl, Nat.le_of_ble_eq_true rfl⟩) hS (fun q _ h => hFc q h) hFc (fun u t H1 locs ht hvm hw hB hz1 hk1 hS => ?_)
            obtain ⟨q32, q33, x1_r31, hP1, hK1, hD1⟩ := hB
            rw [ht] at hP1
            have hK1 := va_K.moved hvm.symm hK1
            try dsimp only at hw
            obtain ⟨hP, hD⟩ := va_join (wr := [(aq1, .inl (ak1, 8, .inl g25)), (qh, .inl (kh, 8, .inl fh)), (pn, .inl (kpn, 80, .inl fpn)), (jp, .inr (2, [.ref pb, .ref pn, .int ps])), (pb, .inl (kpb, 80, .inl fpb)), (jb, .inr (0, [.ref aq0, .ref aq1, .ref aq2, .ref aq3, .ref aq4, .ref aq5, .ref aq6, .int aacc, .long z27, .int amis, .int abel, .int aref, .int acau])), (aq0, .inl (ak0, 8, .inl ag0)), (aq2, .inl (ak2, 8, .inl ag2))]) (w1 := [(h0, .inr (5, [.ref jb, .ref qm, .int q33, .ref qh, .ref qk, .ref qf, .int bg, .ref jp])), (qm, .inl (km, 60, .inl q32))]) hP hD [2, 0] [1, 3, 4, 5, 6, 7, 8, 9] rfl rfl (by decide) (by decide) hk1 hFc hP1 hD1
            have hK := (hK.sub (tys' := [(ak1, .int), (kh, .int), (kpn, .int), (kpb, .int), (ak0, .int), (ak2, .int)]) [1, 2, 3, 4, 5, 6] rfl).app hK1
            generalize H1 = H at hP hS ⊢
            have hP : va_P (dC, dI) vwCl [(aq1, .inl (ak1, 8, .inl g25)), (qh, .inl (kh, 8, .inl fh)), (pn, .inl (kpn, 80, .inl fpn)), (jp, .inr (2, [.ref pb, .ref pn, .int ps])), (pb, .inl (kpb, 80, .inl fpb)), (jb, .inr (0, [.ref aq0, .ref aq1, .ref aq2, .ref aq3, .ref aq4, .ref aq5, .ref aq6, .int aacc, .long z27, .int amis, .int abel, .int aref, .int acau])), (aq0, .inl (ak0, 8, .inl ag0)), (aq2, .inl (ak2, 8, .inl ag2)), (h0, .inr (5, [.ref jb, .ref qm, .int q33, .ref qh, .ref qk, .ref qf, .int bg, .ref jp])), (qm, .inl (km, 60, .inl q32))] H := hP
            have hD : va_D A [(aq1, .inl (ak1, 8, .inl g25)), (qh, .inl (kh, 8, .inl fh)), (pn, .inl (kpn, 80, .inl fpn)), (jp, .inr (2, [.ref pb, .ref pn, .int ps])), (pb, .inl (kpb, 80, .inl fpb)), (jb, .inr (0, [.ref aq0, .ref aq1, .ref aq2, .ref aq3, .ref aq4, .ref aq5, .ref aq6, .int aacc, .long z27, .int amis, .int abel, .int aref, .int acau])), (aq0, .inl (ak0, 8, .inl ag0)), (aq2, .inl (ak2, 8, .inl ag2)), (h0, .inr (5, [.ref jb, .ref qm, .int q33, .ref qh, .ref qk, .ref qf, .int bg, .ref jp])), (qm, .inl (km, 60, .inl q32))] := hD
            have hK : va_K (dC, dI) vwCl [(ak1, .int), (kh, .int), (kpn, .int), (kpb, .int), (ak0, .int), (ak2, .int), (km, .int)] s := hK
            refine lv_iconst (v := 0) hx hb dX6_payment_179 (by decide) ?_
            have hP9 := hP.sub (ws' := [(h0, .inr (5, [.ref jb, .ref qm, .int q33, .ref qh, .ref qk, .ref qf, .int bg, .ref jp])), (qm, .inl (km, 60, .inl q32)), (qh, .inl (kh, 8, .inl fh)), (jb, .inr (0, [.ref aq0, .ref aq1, .ref aq2, .ref aq3, .ref aq4, .ref aq5, .ref aq6, .int aacc, .long z27, .int amis, .int abel, .int aref, .int acau])), (aq0, .inl (ak0, 8, .inl ag0)), (aq1, .inl (ak1, 8, .inl g25)), (aq2, .inl (ak2, 8, .inl ag2)), (jp, .inr (2, [.ref pb, .ref pn, .int ps])), (pb, .inl (kpb, 80, .inl fpb)), (pn, .inl (kpn, 80, .inl fpn))]) [8, 9, 1, 5, 6, 0, 7, 3, 4, 2] rfl
            have hD9 := hD.sub (ws' := [(h0, .inr (5, [.ref jb, .ref qm, .int q33, .ref qh, .ref qk, .ref qf, .int bg, .ref jp])), (qm, .inl (km, 60, .inl q32)), (qh, .inl (kh, 8, .inl fh)), (jb, .inr (0, [.ref aq0, .ref aq1, .ref aq2, .ref aq3, .ref aq4, .ref aq5, .ref aq6, .int aacc, .long z27, .int amis, .int abel, .int aref, .int acau])), (aq0, .inl (ak0, 8, .inl ag0)), (aq1, .inl (ak1, 8, .inl g25)), (aq2, .inl (ak2, 8, .inl ag2)), (jp, .inr (2, [.ref pb, .ref pn, .int ps])), (pb, .inl (kpb, 80, .inl fpb)), (pn, .inl (kpn, 80, .inl fpn))]) [8, 9, 1, 5, 6, 0, 7, 3, 4, 2] (by decide) rfl
            have hK9 := hK.sub (tys' := [(km, .int), (kh, .int), (ak0, .int), (ak1, .int), (ak2, .int), (kpb, .int), (kpn, .int)]) [6, 1, 4, 0, 5, 3, 2] rfl
            exact W.iret (v := 0) hx hb hr (fun t ht hW => ⟨⟨0, (), rfl, (by first | rfl | trivial), q32, q33, g25, z27, (by first | assumption | omega), (by first | assumption | omega), by rw [ht]; exact hP9, va_K.moved hW.alike hK9, hD9⟩, hS.F ht⟩) hS.2.2 dX6_payment_180
          · skip
            have f_c21 := i_nle c21
            refine lv_iconst (v := 1) hx hb dX6_payment_124 (by decide) ?_
            have hP9 := hP.sub (ws' := [(h0, .inr (5, [.ref jb, .ref qm, .int mc, .ref qh, .ref qk, .ref qf, .int bg, .ref jp])), (qm, .inl (km, 60, .inl fm)), (qh, .inl (kh, 8, .inl fh)), (jb, .inr (0, [.ref aq0, .ref aq1, .ref aq2, .ref aq3, .ref aq4, .ref aq5, .ref aq6, .int aacc, .long afees, .int amis, .int abel, .int aref, .int acau])), (aq0, .inl (ak0, 8, .inl ag0)), (aq1, .inl (ak1, 8, .inl ag1)), (aq2, .inl (ak2, 8, .inl ag2)), (jp, .inr (2, [.ref pb, .ref pn, .int ps])), (pb, .inl (kpb, 80, .inl fpb)), (pn, .inl (kpn, 80, .inl fpn))]) [2, 0, 3, 7, 8, 1, 9, 5, 6, 4] rfl
            have hD9 := hD.sub (ws' := [(h0, .inr (5, [.ref jb, .ref qm, .int mc, .ref qh, .ref qk, .ref qf, .int bg, .ref jp])), (qm, .inl (km, 60, .inl fm)), (qh, .inl (kh, 8, .inl fh)), (jb, .inr (0, [.ref aq0, .ref aq1, .ref aq2, .ref aq3, .ref aq4, .ref aq5, .ref aq6, .int aacc, .long afees, .int amis, .int abel, .int aref, .int acau])), (aq0, .inl (ak0, 8, .inl ag0)), (aq1, .inl (ak1, 8, .inl ag1)), (aq2, .inl (ak2, 8, .inl ag2)), (jp, .inr (2, [.ref pb, .ref pn, .int ps])), (pb, .inl (kpb, 80, .inl fpb)), (pn, .inl (kpn, 80, .inl fpn))]) [2, 0, 3, 7, 8, 1, 9, 5, 6, 4] (by decide) rfl
            have hK9 := hK.sub (tys' := [(km, .int), (kh, .int), (ak0, .int), (ak1, .int), (ak2, .int), (kpb, .int), (kpn, .int)]) [0, 2, 5, 1, 6, 4, 3] rfl
            exact W.iret (v := 1) hx hb hr (fun t ht hW => ⟨⟨1, (), rfl, (by first | rfl | trivial), fm, mc, ag1, afees, (by first | assumption | omega), (by first | assumption | omega), by rw [ht]; exact hP9, va_K.moved hW.alike hK9, hD9⟩, hS.F ht⟩) hS.2.2 dX6_payment_125
      · subst e_r8
        refine lv_if_ne (tgt := 45) hx hb dX6_payment_40 (by decide) (fun c34 => absurd (by decide) c34) (fun c34 => ?_)
        refine lv_iconst (v := 2) hx hb dX6_payment_43 (by decide) ?_
        have hP9 := hP.sub (ws' := [(h0, .inr (5, [.ref jb, .ref qm, .int mc, .ref qh, .ref qk, .ref qf, .int bg, .ref jp])), (qm, .inl (km, 60, .inl fm)), (qh, .inl (kh, 8, .inl fh)), (jb, .inr (0, [.ref aq0, .ref aq1, .ref aq2, .ref aq3, .ref aq4, .ref aq5, .ref aq6, .int aacc, .long afees, .int amis, .int abel, .int aref, .int acau])), (aq0, .inl (ak0, 8, .inl ag0)), (aq1, .inl (ak1, 8, .inl ag1)), (aq2, .inl (ak2, 8, .inl ag2)), (jp, .inr (2, [.ref pb, .ref pn, .int ps])), (pb, .inl (kpb, 80, .inl fpb)), (pn, .inl (kpn, 80, .inl fpn))]) [7, 0, 8, 9, 1, 2, 3, 5, 6, 4] rfl
        have hD9 := hD.sub (ws' := [(h0, .inr (5, [.ref jb, .ref qm, .int mc, .ref qh, .ref qk, .ref qf, .int bg, .ref jp])), (qm, .inl (km, 60, .inl fm)), (qh, .inl (kh, 8, .inl fh)), (jb, .inr (0, [.ref aq0, .ref aq1, .ref aq2, .ref aq3, .ref aq4, .ref aq5, .ref aq6, .int aacc, .long afees, .int amis, .int abel, .int aref, .int acau])), (aq0, .inl (ak0, 8, .inl ag0)), (aq1, .inl (ak1, 8, .inl ag1)), (aq2, .inl (ak2, 8, .inl ag2)), (jp, .inr (2, [.ref pb, .ref pn, .int ps])), (pb, .inl (kpb, 80, .inl fpb)), (pn, .inl (kpn, 80, .inl fpn))]) [7, 0, 8, 9, 1, 2, 3, 5, 6, 4] (by decide) rfl
        have hK9 := hK.sub (tys' := [(km, .int), (kh, .int), (ak0, .int), (ak1, .int), (ak2, .int), (kpb, .int), (kpn, .int)]) [0, 6, 1, 2, 3, 5, 4] rfl
        exact W.iret (v := 2) hx hb hr (fun t ht hW => ⟨⟨2, (), rfl, (by first | rfl | trivial), fm, mc, ag1, afees, (by first | assumption | omega), (by first | assumption | omega), by rw [ht]; exact hP9, va_K.moved hW.alike hK9, hD9⟩, hS.F ht⟩) hS.2.2 dX6_payment_44
    · subst e_r6
      refine lv_if_eq (tgt := 43) hx hb dX6_payment_32 (by decide) (fun c35 => ?_) (fun c35 => absurd (by decide) c35)
      refine lv_iconst (v := 2) hx hb dX6_payment_43 (by decide) ?_
      have hP9 := hP.sub (ws' := [(h0, .inr (5, [.ref jb, .ref qm, .int mc, .ref qh, .ref qk, .ref qf, .int bg, .ref jp])), (qm, .inl (km, 60, .inl fm)), (qh, .inl (kh, 8, .inl fh)), (jb, .inr (0, [.ref aq0, .ref aq1, .ref aq2, .ref aq3, .ref aq4, .ref aq5, .ref aq6, .int aacc, .long afees, .int amis, .int abel, .int aref, .int acau])), (aq0, .inl (ak0, 8, .inl ag0)), (aq1, .inl (ak1, 8, .inl ag1)), (aq2, .inl (ak2, 8, .inl ag2)), (jp, .inr (2, [.ref pb, .ref pn, .int ps])), (pb, .inl (kpb, 80, .inl fpb)), (pn, .inl (kpn, 80, .inl fpn))]) [7, 0, 8, 9, 1, 2, 3, 5, 6, 4] rfl
      have hD9 := hD.sub (ws' := [(h0, .inr (5, [.ref jb, .ref qm, .int mc, .ref qh, .ref qk, .ref qf, .int bg, .ref jp])), (qm, .inl (km, 60, .inl fm)), (qh, .inl (kh, 8, .inl fh)), (jb, .inr (0, [.ref aq0, .ref aq1, .ref aq2, .ref aq3, .ref aq4, .ref aq5, .ref aq6, .int aacc, .long afees, .int amis, .int abel, .int aref, .int acau])), (aq0, .inl (ak0, 8, .inl ag0)), (aq1, .inl (ak1, 8, .inl ag1)), (aq2, .inl (ak2, 8, .inl ag2)), (jp, .inr (2, [.ref pb, .ref pn, .int ps])), (pb, .inl (kpb, 80, .inl fpb)), (pn, .inl (kpn, 80, .inl fpn))]) [7, 0, 8, 9, 1, 2, 3, 5, 6, 4] (by decide) rfl
      have hK9 := hK.sub (tys' := [(km, .int), (kh, .int), (ak0, .int), (ak1, .int), (ak2, .int), (kpb, .int), (kpn, .int)]) [0, 6, 1, 2, 3, 5, 4] rfl
      exact W.iret (v := 2) hx hb hr (fun t ht hW => ⟨⟨2, (), rfl, (by first | rfl | trivial), fm, mc, ag1, afees, (by first | assumption | omega), (by first | assumption | omega), by rw [ht]; exact hP9, va_K.moved hW.alike hK9, hD9⟩, hS.F ht⟩) hS.2.2 dX6_payment_44
