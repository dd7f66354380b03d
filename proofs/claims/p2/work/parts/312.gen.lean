set_option maxRecDepth 100000 in
set_option maxHeartbeats 4000000 in
/-- Runner.mark -/
theorem c_X6_mark (l : Launch) (dC : Nat → ClassId) (dI : Nat → Nat → Nat) (h0 : Nat) (p0 : Int32) (jb : Nat) (qm : Nat) (mc : Int32) (qh : Nat) (qk : Nat) (qf : Nat) (bg : Int32) (jp : Nat) (km : ClassId) (fm : Nat → Int32) (sz : Nat) (h1 : 0 ≤ mc.toInt) (h2 : mc.toInt ≤ 2000) : Met l yX6_mark wsX6_mark ({ frames := 0, cells := 0, slots := 0, locals := 0 }) (va_Pc [.ref h0, .int p0] (fun U => U.heap.size = sz ∧ va_P (dC, dI) vwCl [eO h0 5 [.ref jb, .ref qm, .int mc, .ref qh, .ref qk, .ref qf, .int bg, .ref jp], eI qm km 60 fm] U.heap ∧ va_K (dC, dI) vwCl [(km, .int)] U ∧ va_D (fun _ => True) [eO h0 5 [.ref jb, .ref qm, .int mc, .ref qh, .ref qk, .ref qf, .int bg, .ref jp], eI qm km 60 fm])) (va_Qv (fun (_ : Unit) => True) (fun (_ : Unit) (t : State) => ∃ (fm' : Nat → Int32), ∃ (mc' : Int32), (mc'.toInt = mc.toInt + 1) ∧ va_P (dC, dI) vwCl [eO h0 5 [.ref jb, .ref qm, .int mc', .ref qh, .ref qk, .ref qf, .int bg, .ref jp], eI qm km 60 (fm')] t.heap ∧ va_K (dC, dI) vwCl [(km, .int)] t ∧ va_D (va_A [eO h0 5 [.ref jb, .ref qm, .int mc, .ref qh, .ref qk, .ref qf, .int bg, .ref jp], eI qm km 60 fm] sz) [eO h0 5 [.ref jb, .ref qm, .int mc', .ref qh, .ref qk, .ref qf, .int bg, .ref jp], eI qm km 60 (fm')]) (va_A [eO h0 5 [.ref jb, .ref qm, .int mc, .ref qh, .ref qk, .ref qf, .int bg, .ref jp], eI qm km 60 fm] sz)) 0 0 (va_A [eO h0 5 [.ref jb, .ref qm, .int mc, .ref qh, .ref qk, .ref qf, .int bg, .ref jp], eI qm km 60 fm] sz) := by
  refine Met.ofW (cc := cX6_mark) (maxL := 2) (ret := none) (by decide) rfl ?_
  intro p e s m args below meth c s₁ B hml hv
  obtain ⟨rfl, hsz, hP, hK, hD0⟩ := hv
  have hx := B.exec
  have hb := B.bytes
  have hr := B.returns
  have hts := atoms_spec (ws := wsX6_mark) B.pre
  have hown : s.vm.findClass RX6 = some m.cls := findClass_of_methodNamed B.named
  have hlocks := B.notSynchronized
  subst hsz
  have hD := hD0.self (sz := s.heap.size)
  generalize hAe : va_A [eO h0 5 [.ref jb, .ref qm, .int mc, .ref qh, .ref qk, .ref qf, .int bg, .ref jp], eI qm km 60 fm] s.heap.size = A at hD ⊢
  have hA : ∀ q : Nat, s.heap.size ≤ q → A q := fun q h => by rw [← hAe]; exact Or.inr h
  have hS : va_S A s.heap s.heap [] := va_S.rf
  have hP : va_P (dC, dI) vwCl [eO h0 5 [.ref jb, .ref qm, .int mc, .ref qh, .ref qk, .ref qf, .int bg, .ref jp], eI qm km 60 fm] s.heap := hP
  have hl := lv_entry ([.ref h0, .int p0]) (n := 2) (Nat.le_of_ble_eq_true rfl)
  rw [lg_entry_eq]
  generalize (lg_sl ([.ref h0, .int p0]) ++ List.replicate (2 - (lg_sl ([.ref h0, .int p0])).length) Slot.unset).toArray = ls at hl ⊢
  have hl : lv_has ls 2 [(0, .ref h0), (1, .int p0)] := hl
  suffices key9 : ∀ Q9 : State → Prop, Q9 = (MQ below (va_Qv (fun (_ : Unit) => True) (fun (_ : Unit) (t : State) => ∃ (fm' : Nat → Int32), ∃ (mc' : Int32), (mc'.toInt = mc.toInt + 1) ∧ va_P (dC, dI) vwCl [eO h0 5 [.ref jb, .ref qm, .int mc', .ref qh, .ref qk, .ref qf, .int bg, .ref jp], eI qm km 60 (fm')] t.heap ∧ va_K (dC, dI) vwCl [(km, .int)] t ∧ va_D A [eO h0 5 [.ref jb, .ref qm, .int mc', .ref qh, .ref qk, .ref qf, .int bg, .ref jp], eI qm km 60 (fm')]) A) (([.ref h0, .int p0] : List Value).toArray) s 0 0 A) → W p l e ({ frames := 0, cells := 0, slots := 0, locals := 0 }) s m (([.ref h0, .int p0] : List Value).toArray) below meth c s.heap [] 0 0 Q9 (F0 m 0 ls []) from key9 _ rfl
  intro Q9 hQ9
  have k_1 : (1 : Int32).toInt = 1 := by decide
  have k_60 : (60 : Int32).toInt = 60 := by decide
  refine lv_aload_n hx hb dX6_mark_0 rfl (lv_at hl 0 rfl) ?_
  refine va_get (D := (dC, dI)) (ci := 5) (v := .int mc) (C := RX6) (T := TX6) (N := 8) hx hb hts (fun w h => List.mem_cons_of_mem _ (inlX6 w h)) hown hK hP 0 rfl rfl 2 (by decide) (hts (.fieldLink RX6 31 "ClearingGates$Runner" "markCount" "I") (List.mem_cons_of_mem _ mw_189)) (fun _ h9 => h9) rfl dX6_mark_1 ?_
  refine lv_bipush (v := 60) hx hb dX6_mark_4 (by decide) ?_
  refine lv_icmp_ge (tgt := 19) hx hb dX6_mark_6 (by decide) (fun c1 => ?_) (fun c1 => ?_)
  · skip
    have f_c1 := i_le c1
    refine lv_aload_n hx hb dX6_mark_19 rfl (lv_at hl 0 rfl) ?_
    refine lv_dup hx hb dX6_mark_20 rfl ?_
    refine va_get (D := (dC, dI)) (ci := 5) (v := .int mc) (C := RX6) (T := TX6) (N := 8) hx hb hts (fun w h => List.mem_cons_of_mem _ (inlX6 w h)) hown hK hP 0 rfl rfl 2 (by decide) (hts (.fieldLink RX6 31 "ClearingGates$Runner" "markCount" "I") (List.mem_cons_of_mem _ mw_189)) (fun _ h9 => h9) rfl dX6_mark_21 ?_
    refine lv_iconst (v := 1) hx hb dX6_mark_24 (by decide) ?_
    refine lv_iadd hx hb dX6_mark_25 ?_
    refine lv_topi (fun z2 e_z2 => ?_)
    have t_z2 := i_add e_z2 (by omega) (by omega)
    refine va_put (D := (dC, dI)) (ci := 5) (v := .int z2) (ty := .int) (C := RX6) (T := TX6) (N := 8) hx hb hts (fun w h => List.mem_cons_of_mem _ (inlX6 w h)) tyX6 tyX6_ok nmX6 hown hK hP hD hS 0 rfl rfl 2 (by decide) (hts (.fieldLink RX6 31 "ClearingGates$Runner" "markCount" "I") (List.mem_cons_of_mem _ mw_189)) (fun _ h9 => h9) rfl (by decide +kernel) rfl rfl (Nat.le_of_ble_eq_true rfl) dX6_mark_26 (fun H locs hP hD hS => ?_)
    obtain ⟨hP, hD⟩ := X_s (ws' := [eO h0 5 [.ref jb, .ref qm, .int z2, .ref qh, .ref qk, .ref qf, .int bg, .ref jp], eI qm km 60 fm]) hP hD rfl
    rw [hQ9]
    exact W.vret hx hb hr (fun t ht hW => ⟨⟨(), rfl, (by first | rfl | trivial), fm, z2, (by first | assumption | omega), by rw [ht]; exact hP, va_K.moved hW.alike hK, hD⟩, hS.F ht⟩) hS.2.2 dX6_mark_29
  · skip
    have f_c1 := i_nle c1
    refine lv_aload_n hx hb dX6_mark_9 rfl (lv_at hl 0 rfl) ?_
    refine va_get (D := (dC, dI)) (ci := 5) (v := .ref qm) (C := RX6) (T := TX6) (N := 8) hx hb hts (fun w h => List.mem_cons_of_mem _ (inlX6 w h)) hown hK hP 0 rfl rfl 1 (by decide) (hts (.fieldLink RX6 9 "ClearingGates$Runner" "marks" "[I") (List.mem_cons_of_mem _ mw_187)) (fun _ h9 => h9) rfl dX6_mark_10 ?_
    refine lv_aload_n hx hb dX6_mark_13 rfl (lv_at hl 0 rfl) ?_
    refine va_get (D := (dC, dI)) (ci := 5) (v := .int mc) (C := RX6) (T := TX6) (N := 8) hx hb hts (fun w h => List.mem_cons_of_mem _ (inlX6 w h)) hown hK hP 0 rfl rfl 2 (by decide) (hts (.fieldLink RX6 31 "ClearingGates$Runner" "markCount" "I") (List.mem_cons_of_mem _ mw_189)) (fun _ h9 => h9) rfl dX6_mark_14 ?_
    refine lv_iload_n hx hb dX6_mark_17 rfl (lv_at hl 1 rfl) ?_
    refine va_iast (D := (dC, dI)) hx hb hK hP hD hS 1 0 rfl rfl (vp_in_iff.mpr ⟨by omega, by omega⟩) dX6_mark_18 (fun H locs hP hD hS => ?_)
    generalize e_g3 : (upd fm (mc).toNatClampNeg p0) = g3 at hP hD
    obtain ⟨hP, hD⟩ := X_s (ws' := [eO h0 5 [.ref jb, .ref qm, .int mc, .ref qh, .ref qk, .ref qf, .int bg, .ref jp], eI qm km 60 g3]) hP hD rfl
    refine lv_aload_n hx hb dX6_mark_19 rfl (lv_at hl 0 rfl) ?_
    refine lv_dup hx hb dX6_mark_20 rfl ?_
    refine va_get (D := (dC, dI)) (ci := 5) (v := .int mc) (C := RX6) (T := TX6) (N := 8) hx hb hts (fun w h => List.mem_cons_of_mem _ (inlX6 w h)) hown hK hP 0 rfl rfl 2 (by decide) (hts (.fieldLink RX6 31 "ClearingGates$Runner" "markCount" "I") (List.mem_cons_of_mem _ mw_189)) (fun _ h9 => h9) rfl dX6_mark_21 ?_
    refine lv_iconst (v := 1) hx hb dX6_mark_24 (by decide) ?_
    refine lv_iadd hx hb dX6_mark_25 ?_
    refine lv_topi (fun z4 e_z4 => ?_)
    have t_z4 := i_add e_z4 (by omega) (by omega)
    refine va_put (D := (dC, dI)) (ci := 5) (v := .int z4) (ty := .int) (C := RX6) (T := TX6) (N := 8) hx hb hts (fun w h => List.mem_cons_of_mem _ (inlX6 w h)) tyX6 tyX6_ok nmX6 hown hK hP hD hS 0 rfl rfl 2 (by decide) (hts (.fieldLink RX6 31 "ClearingGates$Runner" "markCount" "I") (List.mem_cons_of_mem _ mw_189)) (fun _ h9 => h9) rfl (by decide +kernel) rfl rfl (Nat.le_of_ble_eq_true rfl) dX6_mark_26 (fun H locs hP hD hS => ?_)
    obtain ⟨hP, hD⟩ := X_s (ws' := [eO h0 5 [.ref jb, .ref qm, .int z4, .ref qh, .ref qk, .ref qf, .int bg, .ref jp], eI qm km 60 g3]) hP hD rfl
    rw [hQ9]
    exact W.vret hx hb hr (fun t ht hW => ⟨⟨(), rfl, (by first | rfl | trivial), g3, z4, (by first | assumption | omega), by rw [ht]; exact hP, va_K.moved hW.alike hK, hD⟩, hS.F ht⟩) hS.2.2 dX6_mark_29

set_option maxRecDepth 100000 in
set_option maxHeartbeats 4000000 in
/-- Runner.keptMarks -/
theorem c_X6_keptMarks (l : Launch) (dC : Nat → ClassId) (dI : Nat → Nat → Nat) (h0 : Nat) (v0 : Value) (v1 : Value) (mc : Int32) (v3 : Value) (v4 : Value) (v5 : Value) (v6 : Value) (v7 : Value) (sz : Nat) (h1 : 0 ≤ mc.toInt) : Met l yX6_keptMarks wsX6_keptMarks ({ frames := 1, cells := 0, slots := 0, locals := 13 }) (va_Pc [.ref h0] (fun U => U.heap.size = sz ∧ va_P (dC, dI) vwCl [eO h0 5 [v0, v1, .int mc, v3, v4, v5, v6, v7]] U.heap ∧ va_K (dC, dI) vwCl [] U ∧ va_D (fun _ => True) [eO h0 5 [v0, v1, .int mc, v3, v4, v5, v6, v7]])) (va_Qi (fun (r : Int32) (_ : Unit) => 0 ≤ r.toInt ∧ r.toInt ≤ 60) (fun (_ : Unit) (t : State) => va_P (dC, dI) vwCl [eO h0 5 [v0, v1, .int mc, v3, v4, v5, v6, v7]] t.heap ∧ va_K (dC, dI) vwCl [] t ∧ va_D (va_A [eO h0 5 [v0, v1, .int mc, v3, v4, v5, v6, v7]] sz) [eO h0 5 [v0, v1, .int mc, v3, v4, v5, v6, v7]]) (va_A [eO h0 5 [v0, v1, .int mc, v3, v4, v5, v6, v7]] sz)) 0 0 (va_A [eO h0 5 [v0, v1, .int mc, v3, v4, v5, v6, v7]] sz) := by
  refine Met.ofW (cc := cX6_keptMarks) (maxL := 1) (ret := (some .int)) (by decide) rfl ?_
  intro p e s m args below meth c s₁ B hml hv
  obtain ⟨rfl, hsz, hP, hK, hD0⟩ := hv
  have hx := B.exec
  have hb := B.bytes
  have hr := B.returns
  have hts := atoms_spec (ws := wsX6_keptMarks) B.pre
  have hown : s.vm.findClass RX6 = some m.cls := findClass_of_methodNamed B.named
  have hlocks := B.notSynchronized
  subst hsz
  have hD := hD0.self (sz := s.heap.size)
  generalize hAe : va_A [eO h0 5 [v0, v1, .int mc, v3, v4, v5, v6, v7]] s.heap.size = A at hD ⊢
  have hA : ∀ q : Nat, s.heap.size ≤ q → A q := fun q h => by rw [← hAe]; exact Or.inr h
  have hS : va_S A s.heap s.heap [] := va_S.rf
  have hP : va_P (dC, dI) vwCl [eO h0 5 [v0, v1, .int mc, v3, v4, v5, v6, v7]] s.heap := hP
  have hl := lv_entry ([.ref h0]) (n := 1) (Nat.le_of_ble_eq_true rfl)
  rw [lg_entry_eq]
  generalize (lg_sl ([.ref h0]) ++ List.replicate (1 - (lg_sl ([.ref h0])).length) Slot.unset).toArray = ls at hl ⊢
  have hl : lv_has ls 1 [(0, .ref h0)] := hl
  suffices key9 : ∀ Q9 : State → Prop, Q9 = (MQ below (va_Qi (fun (r : Int32) (_ : Unit) => 0 ≤ r.toInt ∧ r.toInt ≤ 60) (fun (_ : Unit) (t : State) => va_P (dC, dI) vwCl [eO h0 5 [v0, v1, .int mc, v3, v4, v5, v6, v7]] t.heap ∧ va_K (dC, dI) vwCl [] t ∧ va_D A [eO h0 5 [v0, v1, .int mc, v3, v4, v5, v6, v7]]) A) (([.ref h0] : List Value).toArray) s 0 0 A) → W p l e ({ frames := 1, cells := 0, slots := 0, locals := 13 }) s m (([.ref h0] : List Value).toArray) below meth c s.heap [] 0 0 Q9 (F0 m 0 ls []) from key9 _ rfl
  intro Q9 hQ9
  have k_60 : (60 : Int32).toInt = 60 := by decide
  refine lv_aload_n hx hb dX6_keptMarks_0 rfl (lv_at hl 0 rfl) ?_
  refine va_get (D := (dC, dI)) (ci := 5) (v := .int mc) (C := RX6) (T := TX6) (N := 8) hx hb hts (fun w h => List.mem_cons_of_mem _ (inlX6 w h)) hown hK hP 0 rfl rfl 2 (by decide) (hts (.fieldLink RX6 31 "ClearingGates$Runner" "markCount" "I") (List.mem_cons_of_mem _ mw_189)) (fun _ h9 => h9) rfl dX6_keptMarks_1 ?_
  refine lv_bipush (v := 60) hx hb dX6_keptMarks_4 (by decide) ?_
  refine va_mmin hx hb (hml.trans hl.1.symm) hown (hts (.methodLink RX6 35 Lib.Math.min.name) (List.mem_cons_of_mem _ mw_287)) (hts (.static Lib.Math.min.name) (List.mem_cons_of_mem _ mw_288)) (hts (.initialized "java/lang/Math") (List.mem_cons_of_mem _ mw_79)) (hts (.code Lib.Math.min.name Lib.Math.min.code 2 (some .int)) (List.mem_cons_of_mem _ mw_289)) (Nat.le_of_ble_eq_true rfl) (Nat.le_of_ble_eq_true rfl) (Nat.le_of_ble_eq_true rfl) (Nat.le_of_ble_eq_true rfl) dX6_keptMarks_6 ?_
  refine lv_topi (fun z1 e_z1 => ?_)
  have t_z1 := i_min e_z1
  rw [hQ9]
  exact W.iret (v := z1) hx hb hr (fun t ht hW => ⟨⟨z1, (), rfl, ⟨by omega, by omega⟩, by rw [ht]; exact hP, va_K.moved hW.alike hK, hD⟩, hS.F ht⟩) hS.2.2 dX6_keptMarks_9

set_option maxRecDepth 100000 in
set_option maxHeartbeats 4000000 in
/-- Runner.isHeld -/
theorem c_X6_isHeld (l : Launch) (dC : Nat → ClassId) (dI : Nat → Nat → Nat) (h0 : Nat) (p0 : Int32) (jb : Nat) (qm : Nat) (mc : Int32) (qh : Nat) (qk : Nat) (qf : Nat) (bg : Int32) (jp : Nat) (kh : ClassId) (fh : Nat → Int32) (av0 : Value) (av1 : Value) (av2 : Value) (av3 : Value) (av4 : Value) (av5 : Value) (av6 : Value) (aacc : Int32) (av8 : Value) (av9 : Value) (av10 : Value) (av11 : Value) (av12 : Value) (sz : Nat) (ra2 : aacc.toInt ≤ 8) : Met l yX6_isHeld wsX6_isHeld ({ frames := 1, cells := 0, slots := 0, locals := 21 }) (va_Pc [.ref h0, .int p0] (fun U => U.heap.size = sz ∧ va_P (dC, dI) vwCl [eO h0 5 [.ref jb, .ref qm, .int mc, .ref qh, .ref qk, .ref qf, .int bg, .ref jp], eI qh kh 8 fh, eO jb 0 [av0, av1, av2, av3, av4, av5, av6, .int aacc, av8, av9, av10, av11, av12]] U.heap ∧ va_K (dC, dI) vwCl [(kh, .int)] U ∧ va_D (fun _ => True) [eO h0 5 [.ref jb, .ref qm, .int mc, .ref qh, .ref qk, .ref qf, .int bg, .ref jp], eI qh kh 8 fh, eO jb 0 [av0, av1, av2, av3, av4, av5, av6, .int aacc, av8, av9, av10, av11, av12]])) (va_Qi (fun (r : Int32) (_ : Unit) => (r = 1 ∧ 0 ≤ p0.toInt ∧ p0.toInt < aacc.toInt) ∨ (r = 0 ∧ (0 : Int) ≤ 0)) (fun (_ : Unit) (t : State) => va_P (dC, dI) vwCl [eO h0 5 [.ref jb, .ref qm, .int mc, .ref qh, .ref qk, .ref qf, .int bg, .ref jp], eI qh kh 8 fh, eO jb 0 [av0, av1, av2, av3, av4, av5, av6, .int aacc, av8, av9, av10, av11, av12]] t.heap ∧ va_K (dC, dI) vwCl [(kh, .int)] t ∧ va_D (va_A [eO h0 5 [.ref jb, .ref qm, .int mc, .ref qh, .ref qk, .ref qf, .int bg, .ref jp], eI qh kh 8 fh, eO jb 0 [av0, av1, av2, av3, av4, av5, av6, .int aacc, av8, av9, av10, av11, av12]] sz) [eO h0 5 [.ref jb, .ref qm, .int mc, .ref qh, .ref qk, .ref qf, .int bg, .ref jp], eI qh kh 8 fh, eO jb 0 [av0, av1, av2, av3, av4, av5, av6, .int aacc, av8, av9, av10, av11, av12]]) (va_A [eO h0 5 [.ref jb, .ref qm, .int mc, .ref qh, .ref qk, .ref qf, .int bg, .ref jp], eI qh kh 8 fh, eO jb 0 [av0, av1, av2, av3, av4, av5, av6, .int aacc, av8, av9, av10, av11, av12]] sz)) 0 0 (va_A [eO h0 5 [.ref jb, .ref qm, .int mc, .ref qh, .ref qk, .ref qf, .int bg, .ref jp], eI qh kh 8 fh, eO jb 0 [av0, av1, av2, av3, av4, av5, av6, .int aacc, av8, av9, av10, av11, av12]] sz) := by
  refine Met.ofW (cc := cX6_isHeld) (maxL := 2) (ret := (some .boolean)) (by decide) rfl ?_
  intro p e s m args below meth c s₁ B hml hv
  obtain ⟨rfl, hsz, hP, hK, hD0⟩ := hv
  have hx := B.exec
  have hb := B.bytes
  have hr := B.returns
  have hts := atoms_spec (ws := wsX6_isHeld) B.pre
  have hown : s.vm.findClass RX6 = some m.cls := findClass_of_methodNamed B.named
  have hlocks := B.notSynchronized
  subst hsz
  have hD := hD0.self (sz := s.heap.size)
  generalize hAe : va_A [eO h0 5 [.ref jb, .ref qm, .int mc, .ref qh, .ref qk, .ref qf, .int bg, .ref jp], eI qh kh 8 fh, eO jb 0 [av0, av1, av2, av3, av4, av5, av6, .int aacc, av8, av9, av10, av11, av12]] s.heap.size = A at hD ⊢
  have hA : ∀ q : Nat, s.heap.size ≤ q → A q := fun q h => by rw [← hAe]; exact Or.inr h
  have hS : va_S A s.heap s.heap [] := va_S.rf
  have hP : va_P (dC, dI) vwCl [eO h0 5 [.ref jb, .ref qm, .int mc, .ref qh, .ref qk, .ref qf, .int bg, .ref jp], eI qh kh 8 fh, eO jb 0 [av0, av1, av2, av3, av4, av5, av6, .int aacc, av8, av9, av10, av11, av12]] s.heap := hP
  have hl := lv_entry ([.ref h0, .int p0]) (n := 2) (Nat.le_of_ble_eq_true rfl)
  rw [lg_entry_eq]
  generalize (lg_sl ([.ref h0, .int p0]) ++ List.replicate (2 - (lg_sl ([.ref h0, .int p0])).length) Slot.unset).toArray = ls at hl ⊢
  have hl : lv_has ls 2 [(0, .ref h0), (1, .int p0)] := hl
  suffices key9 : ∀ Q9 : State → Prop, Q9 = (MQ below (va_Qi (fun (r : Int32) (_ : Unit) => (r = 1 ∧ 0 ≤ p0.toInt ∧ p0.toInt < aacc.toInt) ∨ (r = 0 ∧ (0 : Int) ≤ 0)) (fun (_ : Unit) (t : State) => va_P (dC, dI) vwCl [eO h0 5 [.ref jb, .ref qm, .int mc, .ref qh, .ref qk, .ref qf, .int bg, .ref jp], eI qh kh 8 fh, eO jb 0 [av0, av1, av2, av3, av4, av5, av6, .int aacc, av8, av9, av10, av11, av12]] t.heap ∧ va_K (dC, dI) vwCl [(kh, .int)] t ∧ va_D A [eO h0 5 [.ref jb, .ref qm, .int mc, .ref qh, .ref qk, .ref qf, .int bg, .ref jp], eI qh kh 8 fh, eO jb 0 [av0, av1, av2, av3, av4, av5, av6, .int aacc, av8, av9, av10, av11, av12]]) A) (([.ref h0, .int p0] : List Value).toArray) s 0 0 A) → W p l e ({ frames := 1, cells := 0, slots := 0, locals := 21 }) s m (([.ref h0, .int p0] : List Value).toArray) below meth c s.heap [] 0 0 Q9 (F0 m 0 ls []) from key9 _ rfl
  intro Q9 hQ9
  have k_0 : (0 : Int32).toInt = 0 := by decide
  have k_1 : (1 : Int32).toInt = 1 := by decide
  refine lv_aload_n hx hb dX6_isHeld_0 rfl (lv_at hl 0 rfl) ?_
  refine va_get (D := (dC, dI)) (ci := 5) (v := .ref jb) (C := RX6) (T := TX6) (N := 8) hx hb hts (fun w h => List.mem_cons_of_mem _ (inlX6 w h)) hown hK hP 0 rfl rfl 0 (by decide) (hts (.fieldLink RX6 27 "ClearingGates$Runner" "books" "LClearingGates$Books;") (List.mem_cons_of_mem _ mw_185)) (fun _ h9 => h9) rfl dX6_isHeld_1 ?_
  refine lv_iload_n hx hb dX6_isHeld_4 rfl (lv_at hl 1 rfl) ?_
  obtain ⟨hPc, hDc, hFc, hCm, hNw⟩ := C_s (wc := [eO jb 0 [av0, av1, av2, av3, av4, av5, av6, .int aacc, av8, av9, av10, av11, av12]]) hP hD hS hA [(2, 1)] 3 rfl (by decide +kernel) rfl
  have hKc := K_s (tys' := []) hK [] rfl
  refine va_calli (va_runV (As := [.int p0]) (rest := []) ⟨hx, hb, hml, hown, hts⟩ (c_X0_has l dC dI jb p0 (av0) (av1) (av2) (av3) (av4) (av5) (av6) aacc (av8) (av9) (av10) (av11) (av12) s.heap.size) (cwV 1 hts gX6_isHeld_X0_has rfl rfl rfl (by decide +kernel) ⟨Nat.le_of_ble_eq_true rfl, Nat.le_of_ble_eq_true rfl⟩) ⟨fun a U g mk q => by obtain ⟨q0, q1, qP, qK, qD⟩ := q; exact ⟨q0, q1, qP, va_K.moved (u := U) (U := U.calling g mk a) (Vm.Alike.refl U.vm) qK, qD⟩, va_recv (s := s) (q := (RX0, TX0, 13)) hKc hPc (ci := 0) (q0 := 0) rfl rfl, fun U hU hW => ⟨rfl, by rw [hU], by rw [hU]; exact hPc, va_K.moved hW.alike hKc, hDc.weaken (fun _ _ _ _ => trivial)⟩⟩ rfl rfl hl.1 rfl (lv_room (Nat.le_of_ble_eq_true rfl)) dX6_isHeld_5 ⟨Nat.le_of_ble_eq_true rfl, Nat.le_of_ble_eq_true rfl⟩) hS (fun q _ h => hFc q h) hFc (fun r1 u t H1 locs ht hvm hw hB hz1 hk1 hS => ?_)
  obtain ⟨hP1, hK1, hD1⟩ := hB
  rw [ht] at hP1
  have hK1 := va_K.moved hvm.symm hK1
  try dsimp only at hw
  obtain ⟨hP, hD⟩ := J_s (wL := [eO h0 5 [.ref jb, .ref qm, .int mc, .ref qh, .ref qk, .ref qf, .int bg, .ref jp], eI qh kh 8 fh, eO jb 0 [av0, av1, av2, av3, av4, av5, av6, .int aacc, av8, av9, av10, av11, av12]]) hP hD [(2, 1)] [(0, 2)] hCm hNw (by decide +kernel) hk1 hFc hP1 hD1 rfl
  have hK := KJ_s (tys' := [(kh, .int)]) hK hK1 [(0, 1)] rfl
  generalize H1 = H at hP hS ⊢
  rcases hw with ⟨e_r1, f_r1⟩ | ⟨e_r1, f_r1⟩
  · subst e_r1
    refine lv_if_eq (tgt := 24) hx hb dX6_isHeld_8 (by decide) (fun c2 => absurd c2 (by decide)) (fun c2 => ?_)
    refine lv_aload_n hx hb dX6_isHeld_11 rfl (lv_at hl 0 rfl) ?_
    refine va_get (D := (dC, dI)) (ci := 5) (v := .ref qh) (C := RX6) (T := TX6) (N := 8) hx hb hts (fun w h => List.mem_cons_of_mem _ (inlX6 w h)) hown hK hP 0 rfl rfl 3 (by decide) (hts (.fieldLink RX6 15 "ClearingGates$Runner" "held" "[I") (List.mem_cons_of_mem _ mw_191)) (fun _ h9 => h9) rfl dX6_isHeld_12 ?_
    refine lv_iload_n hx hb dX6_isHeld_15 rfl (lv_at hl 1 rfl) ?_
    refine va_iald (D := (dC, dI)) hx hb hK hP 1 0 rfl rfl (vp_in_iff.mpr ⟨by omega, by omega⟩) dX6_isHeld_16 ?_
    refine lv_topi (fun z3 e_z3 => ?_)
    refine lv_if_le (tgt := 24) hx hb dX6_isHeld_17 (by decide) (fun c4 => ?_) (fun c4 => ?_)
    · skip
      have f_c4 := i_le c4
      refine lv_iconst (v := 0) hx hb dX6_isHeld_24 (by decide) ?_
      rw [hQ9]
      exact W.zret (v := 0) hx hb hr (by decide) (fun t ht hW => ⟨⟨0, (), rfl, Or.inr (⟨rfl, by first | trivial | omega⟩), by rw [ht]; exact hP, va_K.moved hW.alike hK, hD⟩, hS.F ht⟩) hS.2.2 dX6_isHeld_25
    · skip
      have f_c4 := i_nle c4
      refine lv_iconst (v := 1) hx hb dX6_isHeld_20 (by decide) ?_
      refine lv_goto (tgt := 25) hx hb dX6_isHeld_21 (by decide) ?_
      rw [hQ9]
      exact W.zret (v := 1) hx hb hr (by decide) (fun t ht hW => ⟨⟨1, (), rfl, Or.inl ⟨rfl, by first | trivial | omega⟩, by rw [ht]; exact hP, va_K.moved hW.alike hK, hD⟩, hS.F ht⟩) hS.2.2 dX6_isHeld_25
  · subst e_r1
    refine lv_if_eq (tgt := 24) hx hb dX6_isHeld_8 (by decide) (fun c5 => ?_) (fun c5 => absurd (by decide) c5)
    refine lv_iconst (v := 0) hx hb dX6_isHeld_24 (by decide) ?_
    rw [hQ9]
    exact W.zret (v := 0) hx hb hr (by decide) (fun t ht hW => ⟨⟨0, (), rfl, Or.inr (⟨rfl, by first | trivial | omega⟩), by rw [ht]; exact hP, va_K.moved hW.alike hK, hD⟩, hS.F ht⟩) hS.2.2 dX6_isHeld_25

set_option maxRecDepth 100000 in
set_option maxHeartbeats 4000000 in
/-- Runner.isGreaterHeld -/
theorem c_X6_isGreaterHeld (l : Launch) (dC : Nat → ClassId) (dI : Nat → Nat → Nat) (h0 : Nat) (p0 : Int32) (jb : Nat) (qm : Nat) (mc : Int32) (qh : Nat) (qk : Nat) (qf : Nat) (bg : Int32) (jp : Nat) (kh : ClassId) (fh : Nat → Int32) (sz : Nat) (h1 : 0 ≤ p0.toInt) (h2 : p0.toInt < 8) : Met l yX6_isGreaterHeld wsX6_isGreaterHeld ({ frames := 0, cells := 0, slots := 0, locals := 0 }) (va_Pc [.ref h0, .int p0] (fun U => U.heap.size = sz ∧ va_P (dC, dI) vwCl [eO h0 5 [.ref jb, .ref qm, .int mc, .ref qh, .ref qk, .ref qf, .int bg, .ref jp], eI qh kh 8 fh] U.heap ∧ va_K (dC, dI) vwCl [(kh, .int)] U ∧ va_D (fun _ => True) [eO h0 5 [.ref jb, .ref qm, .int mc, .ref qh, .ref qk, .ref qf, .int bg, .ref jp], eI qh kh 8 fh])) (va_Qi (fun (r : Int32) (_ : Unit) => (r = 1 ∧ (0 : Int) ≤ 0) ∨ (r = 0 ∧ (0 : Int) ≤ 0)) (fun (_ : Unit) (t : State) => va_P (dC, dI) vwCl [eO h0 5 [.ref jb, .ref qm, .int mc, .ref qh, .ref qk, .ref qf, .int bg, .ref jp], eI qh kh 8 fh] t.heap ∧ va_K (dC, dI) vwCl [(kh, .int)] t ∧ va_D (va_A [eO h0 5 [.ref jb, .ref qm, .int mc, .ref qh, .ref qk, .ref qf, .int bg, .ref jp], eI qh kh 8 fh] sz) [eO h0 5 [.ref jb, .ref qm, .int mc, .ref qh, .ref qk, .ref qf, .int bg, .ref jp], eI qh kh 8 fh]) (va_A [eO h0 5 [.ref jb, .ref qm, .int mc, .ref qh, .ref qk, .ref qf, .int bg, .ref jp], eI qh kh 8 fh] sz)) 0 0 (va_A [eO h0 5 [.ref jb, .ref qm, .int mc, .ref qh, .ref qk, .ref qf, .int bg, .ref jp], eI qh kh 8 fh] sz) := by
  refine Met.ofW (cc := cX6_isGreaterHeld) (maxL := 3) (ret := (some .boolean)) (by decide) rfl ?_
  intro p e s m args below meth c s₁ B hml hv
  obtain ⟨rfl, hsz, hP, hK, hD0⟩ := hv
  have hx := B.exec
  have hb := B.bytes
  have hr := B.returns
  have hts := atoms_spec (ws := wsX6_isGreaterHeld) B.pre
  have hown : s.vm.findClass RX6 = some m.cls := findClass_of_methodNamed B.named
  have hlocks := B.notSynchronized
  subst hsz
  have hD := hD0.self (sz := s.heap.size)
  generalize hAe : va_A [eO h0 5 [.ref jb, .ref qm, .int mc, .ref qh, .ref qk, .ref qf, .int bg, .ref jp], eI qh kh 8 fh] s.heap.size = A at hD ⊢
  have hA : ∀ q : Nat, s.heap.size ≤ q → A q := fun q h => by rw [← hAe]; exact Or.inr h
  have hS : va_S A s.heap s.heap [] := va_S.rf
  have hP : va_P (dC, dI) vwCl [eO h0 5 [.ref jb, .ref qm, .int mc, .ref qh, .ref qk, .ref qf, .int bg, .ref jp], eI qh kh 8 fh] s.heap := hP
  have hl := lv_entry ([.ref h0, .int p0]) (n := 3) (Nat.le_of_ble_eq_true rfl)
  rw [lg_entry_eq]
  generalize (lg_sl ([.ref h0, .int p0]) ++ List.replicate (3 - (lg_sl ([.ref h0, .int p0])).length) Slot.unset).toArray = ls at hl ⊢
  have hl : lv_has ls 3 [(0, .ref h0), (1, .int p0)] := hl
  suffices key9 : ∀ Q9 : State → Prop, Q9 = (MQ below (va_Qi (fun (r : Int32) (_ : Unit) => (r = 1 ∧ (0 : Int) ≤ 0) ∨ (r = 0 ∧ (0 : Int) ≤ 0)) (fun (_ : Unit) (t : State) => va_P (dC, dI) vwCl [eO h0 5 [.ref jb, .ref qm, .int mc, .ref qh, .ref qk, .ref qf, .int bg, .ref jp], eI qh kh 8 fh] t.heap ∧ va_K (dC, dI) vwCl [(kh, .int)] t ∧ va_D A [eO h0 5 [.ref jb, .ref qm, .int mc, .ref qh, .ref qk, .ref qf, .int bg, .ref jp], eI qh kh 8 fh]) A) (([.ref h0, .int p0] : List Value).toArray) s 0 0 A) → W p l e ({ frames := 0, cells := 0, slots := 0, locals := 0 }) s m (([.ref h0, .int p0] : List Value).toArray) below meth c s.heap [] 0 0 Q9 (F0 m 0 ls []) from key9 _ rfl
  intro Q9 hQ9
  have k_0 : (0 : Int32).toInt = 0 := by decide
  have k_1 : (1 : Int32).toInt = 1 := by decide
  have k_8 : (8 : Int32).toInt = 8 := by decide
  refine lv_iload_n hx hb dX6_isGreaterHeld_0 rfl (lv_at hl 1 rfl) ?_
  refine lv_iconst (v := 1) hx hb dX6_isGreaterHeld_1 (by decide) ?_
  refine lv_iadd hx hb dX6_isGreaterHeld_2 ?_
  refine lv_topi (fun z1 e_z1 => ?_)
  have t_z1 := i_add e_z1 (by omega) (by omega)
  refine lv_istore_n (lv' := [(2, .int z1), (0, .ref h0), (1, .int p0)]) hx hb dX6_isGreaterHeld_3 rfl hl (by decide) rfl (fun ls hl => ?_)
  have loop_4 : ∀ (n : Nat) (x : Int32), (0 ≤ x.toInt) → (x.toInt ≤ 8) → (8 - x.toInt) < (n : Int) → ∀ (H : Heap) (locs : List Loc), va_K (dC, dI) vwCl [(kh, .int)] s → va_P (dC, dI) vwCl [eO h0 5 [.ref jb, .ref qm, .int mc, .ref qh, .ref qk, .ref qf, .int bg, .ref jp], eI qh kh 8 fh] H → va_D A [eO h0 5 [.ref jb, .ref qm, .int mc, .ref qh, .ref qk, .ref qf, .int bg, .ref jp], eI qh kh 8 fh] → va_S A s.heap H locs → ∀ (ls : Array Slot), lv_has ls 3 [(2, .int x), (0, .ref h0), (1, .int p0)] → W p l e ({ frames := 0, cells := 0, slots := 0, locals := 0 }) s m (([.ref h0, .int p0] : List Value).toArray) below meth c H locs 0 0 Q9 (F0 m 4 ls []) := by
    intro n
    induction n with
    | zero => intro x i1 i2 hM_4; exfalso; omega
    | succ n ih_4 =>
      intro x i1 i2 hM_4 H locs hK hP hD hS ls hl
      refine lv_iload_n hx hb dX6_isGreaterHeld_4 rfl (lv_at hl 0 rfl) ?_
      refine lv_bipush (v := 8) hx hb dX6_isGreaterHeld_5 (by decide) ?_
      refine lv_icmp_ge (tgt := 27) hx hb dX6_isGreaterHeld_7 (by decide) (fun c2 => ?_) (fun c2 => ?_)
      · skip
        have f_c2 := i_le c2
        refine lv_iconst (v := 0) hx hb dX6_isGreaterHeld_27 (by decide) ?_
        rw [hQ9]
        exact W.zret (v := 0) hx hb hr (by decide) (fun t ht hW => ⟨⟨0, (), rfl, Or.inr (⟨rfl, by first | trivial | omega⟩), by rw [ht]; exact hP, va_K.moved hW.alike hK, hD⟩, hS.F ht⟩) hS.2.2 dX6_isGreaterHeld_28
      · skip
        have f_c2 := i_nle c2
        refine lv_aload_n hx hb dX6_isGreaterHeld_10 rfl (lv_at hl 1 rfl) ?_
        refine va_get (D := (dC, dI)) (ci := 5) (v := .ref qh) (C := RX6) (T := TX6) (N := 8) hx hb hts (fun w h => List.mem_cons_of_mem _ (inlX6 w h)) hown hK hP 0 rfl rfl 3 (by decide) (hts (.fieldLink RX6 15 "ClearingGates$Runner" "held" "[I") (List.mem_cons_of_mem _ mw_191)) (fun _ h9 => h9) rfl dX6_isGreaterHeld_11 ?_
        refine lv_iload_n hx hb dX6_isGreaterHeld_14 rfl (lv_at hl 0 rfl) ?_
        refine va_iald (D := (dC, dI)) hx hb hK hP 1 0 rfl rfl (vp_in_iff.mpr ⟨by omega, by omega⟩) dX6_isGreaterHeld_15 ?_
        refine lv_topi (fun z3 e_z3 => ?_)
        refine lv_if_le (tgt := 21) hx hb dX6_isGreaterHeld_16 (by decide) (fun c4 => ?_) (fun c4 => ?_)
        · skip
          have f_c4 := i_le c4
          obtain ⟨x5, e_x5⟩ : ∃ yy : Int32, yy = x + 1 := ⟨_, rfl⟩
          refine lv_iinc (v := x5) (lv' := [(2, .int x5), (0, .ref h0), (1, .int p0)]) hx hb dX6_isGreaterHeld_21 hl (k := 0) rfl (by rw [e_x5]; rfl) (by decide) rfl (fun ls hl => ?_)
          have t_x5 := i_add e_x5 (by omega) (by omega)
          refine lv_goto (tgt := 4) hx hb dX6_isGreaterHeld_24 (by decide) ?_
          exact ih_4 x5 (by first | assumption | omega) (by first | assumption | omega) (by omega) _ _ (K_s hK [(0, 1)] rfl) (P_s hP [(0, 2)] rfl) (D_s hD [(0, 2)] 2 rfl (by decide +kernel) rfl) hS ls (lv_sub hl [0, 1, 2] rfl)
        · skip
          have f_c4 := i_nle c4
          refine lv_iconst (v := 1) hx hb dX6_isGreaterHeld_19 (by decide) ?_
          rw [hQ9]
          exact W.zret (v := 1) hx hb hr (by decide) (fun t ht hW => ⟨⟨1, (), rfl, Or.inl ⟨rfl, by first | trivial | omega⟩, by rw [ht]; exact hP, va_K.moved hW.alike hK, hD⟩, hS.F ht⟩) hS.2.2 dX6_isGreaterHeld_20
  exact loop_4 (1000) z1 (by first | assumption | omega) (by first | assumption | omega) (by omega) _ _ hK hP hD hS ls (lv_sub hl [0, 1, 2] rfl)

set_option maxRecDepth 100000 in
set_option maxHeartbeats 4000000 in
/-- Runner.keep -/
theorem c_X6_keep (l : Launch) (dC : Nat → ClassId) (dI : Nat → Nat → Nat) (h0 : Nat) (p0 : Int32) (jb : Nat) (qm : Nat) (mc : Int32) (qh : Nat) (qk : Nat) (qf : Nat) (bg : Int32) (jp : Nat) (kk : ClassId) (fo : Nat → Option Nat) (ro0 : Nat) (kr0 : ClassId) (fr0 : Nat → Int32) (ro1 : Nat) (kr1 : ClassId) (fr1 : Nat → Int32) (ro2 : Nat) (kr2 : ClassId) (fr2 : Nat → Int32) (ro3 : Nat) (kr3 : ClassId) (fr3 : Nat → Int32) (ro4 : Nat) (kr4 : ClassId) (fr4 : Nat → Int32) (ro5 : Nat) (kr5 : ClassId) (fr5 : Nat → Int32) (ro6 : Nat) (kr6 : ClassId) (fr6 : Nat → Int32) (ro7 : Nat) (kr7 : ClassId) (fr7 : Nat → Int32) (ro8 : Nat) (kr8 : ClassId) (fr8 : Nat → Int32) (kf : ClassId) (ff : Nat → Int64) (av0 : Value) (aq1 : Nat) (av2 : Value) (av3 : Value) (av4 : Value) (av5 : Value) (av6 : Value) (av7 : Value) (afees : Int64) (av9 : Value) (av10 : Value) (av11 : Value) (av12 : Value) (ak1 : ClassId) (ag1 : Nat → Int32) (sz : Nat) (h1 : 0 ≤ p0.toInt) (h2 : p0.toInt ≤ 9) (hf0 : fo 0 = some ro0) (hf1 : fo 1 = some ro1) (hf2 : fo 2 = some ro2) (hf3 : fo 3 = some ro3) (hf4 : fo 4 = some ro4) (hf5 : fo 5 = some ro5) (hf6 : fo 6 = some ro6) (hf7 : fo 7 = some ro7) (hf8 : fo 8 = some ro8) : Met l yX6_keep wsX6_keep ({ frames := 1, cells := 0, slots := 0, locals := 60 }) (va_Pc [.ref h0, .int p0] (fun U => U.heap.size = sz ∧ va_P (dC, dI) vwCl [eO h0 5 [.ref jb, .ref qm, .int mc, .ref qh, .ref qk, .ref qf, .int bg, .ref jp], eR qk kk 9 fo, eI ro0 kr0 8 fr0, eI ro1 kr1 8 fr1, eI ro2 kr2 8 fr2, eI ro3 kr3 8 fr3, eI ro4 kr4 8 fr4, eI ro5 kr5 8 fr5, eI ro6 kr6 8 fr6, eI ro7 kr7 8 fr7, eI ro8 kr8 8 fr8, eL qf kf 9 ff, eO jb 0 [av0, .ref aq1, av2, av3, av4, av5, av6, av7, .long afees, av9, av10, av11, av12], eI aq1 ak1 8 ag1] U.heap ∧ va_K (dC, dI) vwCl [(kk, .array .int), (kr0, .int), (kr1, .int), (kr2, .int), (kr3, .int), (kr4, .int), (kr5, .int), (kr6, .int), (kr7, .int), (kr8, .int), (kf, .long), (ak1, .int)] U ∧ va_D (fun _ => True) [eO h0 5 [.ref jb, .ref qm, .int mc, .ref qh, .ref qk, .ref qf, .int bg, .ref jp], eR qk kk 9 fo, eI ro0 kr0 8 fr0, eI ro1 kr1 8 fr1, eI ro2 kr2 8 fr2, eI ro3 kr3 8 fr3, eI ro4 kr4 8 fr4, eI ro5 kr5 8 fr5, eI ro6 kr6 8 fr6, eI ro7 kr7 8 fr7, eI ro8 kr8 8 fr8, eL qf kf 9 ff, eO jb 0 [av0, .ref aq1, av2, av3, av4, av5, av6, av7, .long afees, av9, av10, av11, av12], eI aq1 ak1 8 ag1])) (va_Qv (fun (_ : Unit) => True) (fun (_ : Unit) (t : State) => ∃ (fr0' : Nat → Int32), ∃ (fr1' : Nat → Int32), ∃ (fr2' : Nat → Int32), ∃ (fr3' : Nat → Int32), ∃ (fr4' : Nat → Int32), ∃ (fr5' : Nat → Int32), ∃ (fr6' : Nat → Int32), ∃ (fr7' : Nat → Int32), ∃ (fr8' : Nat → Int32), ∃ (ff' : Nat → Int64), va_P (dC, dI) vwCl [eO h0 5 [.ref jb, .ref qm, .int mc, .ref qh, .ref qk, .ref qf, .int bg, .ref jp], eR qk kk 9 fo, eI ro0 kr0 8 (fr0'), eI ro1 kr1 8 (fr1'), eI ro2 kr2 8 (fr2'), eI ro3 kr3 8 (fr3'), eI ro4 kr4 8 (fr4'), eI ro5 kr5 8 (fr5'), eI ro6 kr6 8 (fr6'), eI ro7 kr7 8 (fr7'), eI ro8 kr8 8 (fr8'), eL qf kf 9 (ff'), eO jb 0 [av0, .ref aq1, av2, av3, av4, av5, av6, av7, .long afees, av9, av10, av11, av12], eI aq1 ak1 8 ag1] t.heap ∧ va_K (dC, dI) vwCl [(kk, .array .int), (kr0, .int), (kr1, .int), (kr2, .int), (kr3, .int), (kr4, .int), (kr5, .int), (kr6, .int), (kr7, .int), (kr8, .int), (kf, .long), (ak1, .int)] t ∧ va_D (va_A [eO h0 5 [.ref jb, .ref qm, .int mc, .ref qh, .ref qk, .ref qf, .int bg, .ref jp], eR qk kk 9 fo, eI ro0 kr0 8 fr0, eI ro1 kr1 8 fr1, eI ro2 kr2 8 fr2, eI ro3 kr3 8 fr3, eI ro4 kr4 8 fr4, eI ro5 kr5 8 fr5, eI ro6 kr6 8 fr6, eI ro7 kr7 8 fr7, eI ro8 kr8 8 fr8, eL qf kf 9 ff, eO jb 0 [av0, .ref aq1, av2, av3, av4, av5, av6, av7, .long afees, av9, av10, av11, av12], eI aq1 ak1 8 ag1] sz) [eO h0 5 [.ref jb, .ref qm, .int mc, .ref qh, .ref qk, .ref qf, .int bg, .ref jp], eR qk kk 9 fo, eI ro0 kr0 8 (fr0'), eI ro1 kr1 8 (fr1'), eI ro2 kr2 8 (fr2'), eI ro3 kr3 8 (fr3'), eI ro4 kr4 8 (fr4'), eI ro5 kr5 8 (fr5'), eI ro6 kr6 8 (fr6'), eI ro7 kr7 8 (fr7'), eI ro8 kr8 8 (fr8'), eL qf kf 9 (ff'), eO jb 0 [av0, .ref aq1, av2, av3, av4, av5, av6, av7, .long afees, av9, av10, av11, av12], eI aq1 ak1 8 ag1]) (va_A [eO h0 5 [.ref jb, .ref qm, .int mc, .ref qh, .ref qk, .ref qf, .int bg, .ref jp], eR qk kk 9 fo, eI ro0 kr0 8 fr0, eI ro1 kr1 8 fr1, eI ro2 kr2 8 fr2, eI ro3 kr3 8 fr3, eI ro4 kr4 8 fr4, eI ro5 kr5 8 fr5, eI ro6 kr6 8 fr6, eI ro7 kr7 8 fr7, eI ro8 kr8 8 fr8, eL qf kf 9 ff, eO jb 0 [av0, .ref aq1, av2, av3, av4, av5, av6, av7, .long afees, av9, av10, av11, av12], eI aq1 ak1 8 ag1] sz)) 0 0 (va_A [eO h0 5 [.ref jb, .ref qm, .int mc, .ref qh, .ref qk, .ref qf, .int bg, .ref jp], eR qk kk 9 fo, eI ro0 kr0 8 fr0, eI ro1 kr1 8 fr1, eI ro2 kr2 8 fr2, eI ro3 kr3 8 fr3, eI ro4 kr4 8 fr4, eI ro5 kr5 8 fr5, eI ro6 kr6 8 fr6, eI ro7 kr7 8 fr7, eI ro8 kr8 8 fr8, eL qf kf 9 ff, eO jb 0 [av0, .ref aq1, av2, av3, av4, av5, av6, av7, .long afees, av9, av10, av11, av12], eI aq1 ak1 8 ag1] sz) := by
  refine Met.ofW (cc := cX6_keep) (maxL := 2) (ret := none) (by decide) rfl ?_
  intro p e s m args below meth c s₁ B hml hv
  obtain ⟨rfl, hsz, hP, hK, hD0⟩ := hv
  have hx := B.exec
  have hb := B.bytes
  have hr := B.returns
  have hts := atoms_spec (ws := wsX6_keep) B.pre
  have hown : s.vm.findClass RX6 = some m.cls := findClass_of_methodNamed B.named
  have hlocks := B.notSynchronized
  subst hsz
  have hD := hD0.self (sz := s.heap.size)
  generalize hAe : va_A [eO h0 5 [.ref jb, .ref qm, .int mc, .ref qh, .ref qk, .ref qf, .int bg, .ref jp], eR qk kk 9 fo, eI ro0 kr0 8 fr0, eI ro1 kr1 8 fr1, eI ro2 kr2 8 fr2, eI ro3 kr3 8 fr3, eI ro4 kr4 8 fr4, eI ro5 kr5 8 fr5, eI ro6 kr6 8 fr6, eI ro7 kr7 8 fr7, eI ro8 kr8 8 fr8, eL qf kf 9 ff, eO jb 0 [av0, .ref aq1, av2, av3, av4, av5, av6, av7, .long afees, av9, av10, av11, av12], eI aq1 ak1 8 ag1] s.heap.size = A at hD ⊢
  have hA : ∀ q : Nat, s.heap.size ≤ q → A q := fun q h => by rw [← hAe]; exact Or.inr h
  have hS : va_S A s.heap s.heap [] := va_S.rf
  have hP : va_P (dC, dI) vwCl [eO h0 5 [.ref jb, .ref qm, .int mc, .ref qh, .ref qk, .ref qf, .int bg, .ref jp], eR qk kk 9 fo, eI ro0 kr0 8 fr0, eI ro1 kr1 8 fr1, eI ro2 kr2 8 fr2, eI ro3 kr3 8 fr3, eI ro4 kr4 8 fr4, eI ro5 kr5 8 fr5, eI ro6 kr6 8 fr6, eI ro7 kr7 8 fr7, eI ro8 kr8 8 fr8, eL qf kf 9 ff, eO jb 0 [av0, .ref aq1, av2, av3, av4, av5, av6, av7, .long afees, av9, av10, av11, av12], eI aq1 ak1 8 ag1] s.heap := hP
  have hl := lv_entry ([.ref h0, .int p0]) (n := 2) (Nat.le_of_ble_eq_true rfl)
  rw [lg_entry_eq]
  generalize (lg_sl ([.ref h0, .int p0]) ++ List.replicate (2 - (lg_sl ([.ref h0, .int p0])).length) Slot.unset).toArray = ls at hl ⊢
  have hl : lv_has ls 2 [(0, .ref h0), (1, .int p0)] := hl
  suffices key9 : ∀ Q9 : State → Prop, Q9 = (MQ below (va_Qv (fun (_ : Unit) => True) (fun (_ : Unit) (t : State) => ∃ (fr0' : Nat → Int32), ∃ (fr1' : Nat → Int32), ∃ (fr2' : Nat → Int32), ∃ (fr3' : Nat → Int32), ∃ (fr4' : Nat → Int32), ∃ (fr5' : Nat → Int32), ∃ (fr6' : Nat → Int32), ∃ (fr7' : Nat → Int32), ∃ (fr8' : Nat → Int32), ∃ (ff' : Nat → Int64), va_P (dC, dI) vwCl [eO h0 5 [.ref jb, .ref qm, .int mc, .ref qh, .ref qk, .ref qf, .int bg, .ref jp], eR qk kk 9 fo, eI ro0 kr0 8 (fr0'), eI ro1 kr1 8 (fr1'), eI ro2 kr2 8 (fr2'), eI ro3 kr3 8 (fr3'), eI ro4 kr4 8 (fr4'), eI ro5 kr5 8 (fr5'), eI ro6 kr6 8 (fr6'), eI ro7 kr7 8 (fr7'), eI ro8 kr8 8 (fr8'), eL qf kf 9 (ff'), eO jb 0 [av0, .ref aq1, av2, av3, av4, av5, av6, av7, .long afees, av9, av10, av11, av12], eI aq1 ak1 8 ag1] t.heap ∧ va_K (dC, dI) vwCl [(kk, .array .int), (kr0, .int), (kr1, .int), (kr2, .int), (kr3, .int), (kr4, .int), (kr5, .int), (kr6, .int), (kr7, .int), (kr8, .int), (kf, .long), (ak1, .int)] t ∧ va_D A [eO h0 5 [.ref jb, .ref qm, .int mc, .ref qh, .ref qk, .ref qf, .int bg, .ref jp], eR qk kk 9 fo, eI ro0 kr0 8 (fr0'), eI ro1 kr1 8 (fr1'), eI ro2 kr2 8 (fr2'), eI ro3 kr3 8 (fr3'), eI ro4 kr4 8 (fr4'), eI ro5 kr5 8 (fr5'), eI ro6 kr6 8 (fr6'), eI ro7 kr7 8 (fr7'), eI ro8 kr8 8 (fr8'), eL qf kf 9 (ff'), eO jb 0 [av0, .ref aq1, av2, av3, av4, av5, av6, av7, .long afees, av9, av10, av11, av12], eI aq1 ak1 8 ag1]) A) (([.ref h0, .int p0] : List Value).toArray) s 0 0 A) → W p l e ({ frames := 1, cells := 0, slots := 0, locals := 60 }) s m (([.ref h0, .int p0] : List Value).toArray) below meth c s.heap [] 0 0 Q9 (F0 m 0 ls []) from key9 _ rfl
  intro Q9 hQ9
  have k_0 : (0 : Int32).toInt = 0 := by decide
  have k_1 : (1 : Int32).toInt = 1 := by decide
  have k_2 : (2 : Int32).toInt = 2 := by decide
  have k_3 : (3 : Int32).toInt = 3 := by decide
  have k_4 : (4 : Int32).toInt = 4 := by decide
  have k_5 : (5 : Int32).toInt = 5 := by decide
  have k_6 : (6 : Int32).toInt = 6 := by decide
  have k_7 : (7 : Int32).toInt = 7 := by decide
  have k_8 : (8 : Int32).toInt = 8 := by decide
  have k_9 : (9 : Int32).toInt = 9 := by decide
  have k10 : p0 = 0 ∨ p0 = 1 ∨ p0 = 2 ∨ p0 = 3 ∨ p0 = 4 ∨ p0 = 5 ∨ p0 = 6 ∨ p0 = 7 ∨ p0 = 8 ∨ p0 = 9 := i10 h1 h2
  rcases k10 with rfl | rfl | rfl | rfl | rfl | rfl | rfl | rfl | rfl | rfl
  · skip
    refine lv_iload_n hx hb dX6_keep_0 rfl (lv_at hl 1 rfl) ?_
    refine lv_bipush (v := 8) hx hb dX6_keep_1 (by decide) ?_
    refine lv_icmp_le (tgt := 7) hx hb dX6_keep_3 (by decide) (fun c1 => ?_) (fun c1 => absurd (by decide) c1)
    refine lv_aload_n hx hb dX6_keep_7 rfl (lv_at hl 0 rfl) ?_
    refine va_get (D := (dC, dI)) (ci := 5) (v := .ref jb) (C := RX6) (T := TX6) (N := 8) hx hb hts (fun w h => List.mem_cons_of_mem _ (inlX6 w h)) hown hK hP 0 rfl rfl 0 (by decide) (hts (.fieldLink RX6 27 "ClearingGates$Runner" "books" "LClearingGates$Books;") (List.mem_cons_of_mem _ mw_185)) (fun _ h9 => h9) rfl dX6_keep_8 ?_
    refine va_get (D := (dC, dI)) (ci := 0) (v := .ref aq1) (C := RX0) (T := TX0) (N := 13) hx hb hts (fun w h => List.mem_cons_of_mem _ (inlX0 w h)) hown hK hP 12 rfl rfl 1 (by decide) (hts (.fieldLink RX6 134 "ClearingGates$Books" "balances" "[I") (List.mem_cons_of_mem _ mw_98)) (fun _ h9 => h9) rfl dX6_keep_11 ?_
    refine lv_iconst (v := 0) hx hb dX6_keep_14 (by decide) ?_
    refine lv_aload_n hx hb dX6_keep_15 rfl (lv_at hl 0 rfl) ?_
    refine va_get (D := (dC, dI)) (ci := 5) (v := .ref qk) (C := RX6) (T := TX6) (N := 8) hx hb hts (fun w h => List.mem_cons_of_mem _ (inlX6 w h)) hown hK hP 0 rfl rfl 4 (by decide) (hts (.fieldLink RX6 20 "ClearingGates$Runner" "keptBalances" "[[I") (List.mem_cons_of_mem _ mw_192)) (fun _ h9 => h9) rfl dX6_keep_16 ?_
    refine lv_iload_n hx hb dX6_keep_19 rfl (lv_at hl 1 rfl) ?_
    refine va_aldm (D := (dC, dI)) hx hb hK hP 1 0 rfl rfl (vp_in_iff.mpr ⟨by decide, by decide⟩) dX6_keep_20 ?_
    rw [show va_rf (fo (0 : Int32).toNatClampNeg) = .ref ro0 from by rw [show (0 : Int32).toNatClampNeg = 0 from rfl, hf0]; rfl]
    refine lv_iconst (v := 0) hx hb dX6_keep_21 (by decide) ?_
    refine lv_bipush (v := 8) hx hb dX6_keep_22 (by decide) ?_
    refine va_copyi (D := (dC, dI)) hx hb (hml.trans hl.1.symm) hown (hts (.methodLink RX6 154 arraycopyName) (List.mem_cons_of_mem _ mw_380)) (hts (.native arraycopyName) (List.mem_cons_of_mem _ mw_330)) (hts (.static arraycopyName) (List.mem_cons_of_mem _ mw_329)) (hts (.initialized "java/lang/System") (List.mem_cons_of_mem _ mw_80)) hK hP hD hS 13 2 11 1 rfl rfl rfl rfl rfl (by decide) (by decide) (by decide) (by decide) (by decide) (fun _ _ => rfl) (Nat.le_of_ble_eq_true rfl) (by decide) dX6_keep_24 (fun H locs hP hD hS => ?_)
    generalize e_g2 : (va_cpy ag1 fr0 (0 : Int32).toNatClampNeg (0 : Int32).toNatClampNeg (8 : Int32).toNatClampNeg) = g2 at hP hD
    obtain ⟨hP, hD⟩ := X_s (ws' := [eO h0 5 [.ref jb, .ref qm, .int mc, .ref qh, .ref qk, .ref qf, .int bg, .ref jp], eR qk kk 9 fo, eI ro0 kr0 8 g2, eI ro1 kr1 8 fr1, eI ro2 kr2 8 fr2, eI ro3 kr3 8 fr3, eI ro4 kr4 8 fr4, eI ro5 kr5 8 fr5, eI ro6 kr6 8 fr6, eI ro7 kr7 8 fr7, eI ro8 kr8 8 fr8, eL qf kf 9 ff, eO jb 0 [av0, .ref aq1, av2, av3, av4, av5, av6, av7, .long afees, av9, av10, av11, av12], eI aq1 ak1 8 ag1]) hP hD rfl
    refine lv_aload_n hx hb dX6_keep_27 rfl (lv_at hl 0 rfl) ?_
    refine va_get (D := (dC, dI)) (ci := 5) (v := .ref qf) (C := RX6) (T := TX6) (N := 8) hx hb hts (fun w h => List.mem_cons_of_mem _ (inlX6 w h)) hown hK hP 0 rfl rfl 5 (by decide) (hts (.fieldLink RX6 23 "ClearingGates$Runner" "keptFees" "[J") (List.mem_cons_of_mem _ mw_193)) (fun _ h9 => h9) rfl dX6_keep_28 ?_
    refine lv_iload_n hx hb dX6_keep_31 rfl (lv_at hl 1 rfl) ?_
    refine lv_aload_n hx hb dX6_keep_32 rfl (lv_at hl 0 rfl) ?_
    refine va_get (D := (dC, dI)) (ci := 5) (v := .ref jb) (C := RX6) (T := TX6) (N := 8) hx hb hts (fun w h => List.mem_cons_of_mem _ (inlX6 w h)) hown hK hP 0 rfl rfl 0 (by decide) (hts (.fieldLink RX6 27 "ClearingGates$Runner" "books" "LClearingGates$Books;") (List.mem_cons_of_mem _ mw_185)) (fun _ h9 => h9) rfl dX6_keep_33 ?_
    refine va_get (D := (dC, dI)) (ci := 0) (v := .long afees) (C := RX0) (T := TX0) (N := 13) hx hb hts (fun w h => List.mem_cons_of_mem _ (inlX0 w h)) hown hK hP 12 rfl rfl 8 (by decide) (hts (.fieldLink RX6 141 "ClearingGates$Books" "fees" "J") (List.mem_cons_of_mem _ mw_116)) (fun _ h9 => h9) rfl dX6_keep_36 ?_
    refine va_last (D := (dC, dI)) hx hb hK hP hD hS 11 10 rfl rfl (vp_in_iff.mpr ⟨by decide, by decide⟩) dX6_keep_39 (fun H locs hP hD hS => ?_)
    generalize e_g3 : (vp_updL ff ((0 : Int32)).toNatClampNeg afees) = g3 at hP hD
    obtain ⟨hP, hD⟩ := X_s (ws' := [eO h0 5 [.ref jb, .ref qm, .int mc, .ref qh, .ref qk, .ref qf, .int bg, .ref jp], eR qk kk 9 fo, eI ro0 kr0 8 g2, eI ro1 kr1 8 fr1, eI ro2 kr2 8 fr2, eI ro3 kr3 8 fr3, eI ro4 kr4 8 fr4, eI ro5 kr5 8 fr5, eI ro6 kr6 8 fr6, eI ro7 kr7 8 fr7, eI ro8 kr8 8 fr8, eL qf kf 9 g3, eO jb 0 [av0, .ref aq1, av2, av3, av4, av5, av6, av7, .long afees, av9, av10, av11, av12], eI aq1 ak1 8 ag1]) hP hD rfl
    rw [hQ9]
    exact W.vret hx hb hr (fun t ht hW => ⟨⟨(), rfl, (by first | rfl | trivial), g2, fr1, fr2, fr3, fr4, fr5, fr6, fr7, fr8, g3, by rw [ht]; exact hP, va_K.moved hW.alike hK, hD⟩, hS.F ht⟩) hS.2.2 dX6_keep_40
  · skip
    refine lv_iload_n hx hb dX6_keep_0 rfl (lv_at hl 1 rfl) ?_
    refine lv_bipush (v := 8) hx hb dX6_keep_1 (by decide) ?_
    refine lv_icmp_le (tgt := 7) hx hb dX6_keep_3 (by decide) (fun c4 => ?_) (fun c4 => absurd (by decide) c4)
    refine lv_aload_n hx hb dX6_keep_7 rfl (lv_at hl 0 rfl) ?_
    refine va_get (D := (dC, dI)) (ci := 5) (v := .ref jb) (C := RX6) (T := TX6) (N := 8) hx hb hts (fun w h => List.mem_cons_of_mem _ (inlX6 w h)) hown hK hP 0 rfl rfl 0 (by decide) (hts (.fieldLink RX6 27 "ClearingGates$Runner" "books" "LClearingGates$Books;") (List.mem_cons_of_mem _ mw_185)) (fun _ h9 => h9) rfl dX6_keep_8 ?_
    refine va_get (D := (dC, dI)) (ci := 0) (v := .ref aq1) (C := RX0) (T := TX0) (N := 13) hx hb hts (fun w h => List.mem_cons_of_mem _ (inlX0 w h)) hown hK hP 12 rfl rfl 1 (by decide) (hts (.fieldLink RX6 134 "ClearingGates$Books" "balances" "[I") (List.mem_cons_of_mem _ mw_98)) (fun _ h9 => h9) rfl dX6_keep_11 ?_
    refine lv_iconst (v := 0) hx hb dX6_keep_14 (by decide) ?_
    refine lv_aload_n hx hb dX6_keep_15 rfl (lv_at hl 0 rfl) ?_
    refine va_get (D := (dC, dI)) (ci := 5) (v := .ref qk) (C := RX6) (T := TX6) (N := 8) hx hb hts (fun w h => List.mem_cons_of_mem _ (inlX6 w h)) hown hK hP 0 rfl rfl 4 (by decide) (hts (.fieldLink RX6 20 "ClearingGates$Runner" "keptBalances" "[[I") (List.mem_cons_of_mem _ mw_192)) (fun _ h9 => h9) rfl dX6_keep_16 ?_
    refine lv_iload_n hx hb dX6_keep_19 rfl (lv_at hl 1 rfl) ?_
    refine va_aldm (D := (dC, dI)) hx hb hK hP 1 0 rfl rfl (vp_in_iff.mpr ⟨by decide, by decide⟩) dX6_keep_20 ?_
    rw [show va_rf (fo (1 : Int32).toNatClampNeg) = .ref ro1 from by rw [show (1 : Int32).toNatClampNeg = 1 from rfl, hf1]; rfl]
    refine lv_iconst (v := 0) hx hb dX6_keep_21 (by decide) ?_
    refine lv_bipush (v := 8) hx hb dX6_keep_22 (by decide) ?_
    refine va_copyi (D := (dC, dI)) hx hb (hml.trans hl.1.symm) hown (hts (.methodLink RX6 154 arraycopyName) (List.mem_cons_of_mem _ mw_380)) (hts (.native arraycopyName) (List.mem_cons_of_mem _ mw_330)) (hts (.static arraycopyName) (List.mem_cons_of_mem _ mw_329)) (hts (.initialized "java/lang/System") (List.mem_cons_of_mem _ mw_80)) hK hP hD hS 13 3 11 2 rfl rfl rfl rfl rfl (by decide) (by decide) (by decide) (by decide) (by decide) (fun _ _ => rfl) (Nat.le_of_ble_eq_true rfl) (by decide) dX6_keep_24 (fun H locs hP hD hS => ?_)
    generalize e_g5 : (va_cpy ag1 fr1 (0 : Int32).toNatClampNeg (0 : Int32).toNatClampNeg (8 : Int32).toNatClampNeg) = g5 at hP hD
    obtain ⟨hP, hD⟩ := X_s (ws' := [eO h0 5 [.ref jb, .ref qm, .int mc, .ref qh, .ref qk, .ref qf, .int bg, .ref jp], eR qk kk 9 fo, eI ro0 kr0 8 fr0, eI ro1 kr1 8 g5, eI ro2 kr2 8 fr2, eI ro3 kr3 8 fr3, eI ro4 kr4 8 fr4, eI ro5 kr5 8 fr5, eI ro6 kr6 8 fr6, eI ro7 kr7 8 fr7, eI ro8 kr8 8 fr8, eL qf kf 9 ff, eO jb 0 [av0, .ref aq1, av2, av3, av4, av5, av6, av7, .long afees, av9, av10, av11, av12], eI aq1 ak1 8 ag1]) hP hD rfl
    refine lv_aload_n hx hb dX6_keep_27 rfl (lv_at hl 0 rfl) ?_
    refine va_get (D := (dC, dI)) (ci := 5) (v := .ref qf) (C := RX6) (T := TX6) (N := 8) hx hb hts (fun w h => List.mem_cons_of_mem _ (inlX6 w h)) hown hK hP 0 rfl rfl 5 (by decide) (hts (.fieldLink RX6 23 "ClearingGates$Runner" "keptFees" "[J") (List.mem_cons_of_mem _ mw_193)) (fun _ h9 => h9) rfl dX6_keep_28 ?_
    refine lv_iload_n hx hb dX6_keep_31 rfl (lv_at hl 1 rfl) ?_
    refine lv_aload_n hx hb dX6_keep_32 rfl (lv_at hl 0 rfl) ?_
    refine va_get (D := (dC, dI)) (ci := 5) (v := .ref jb) (C := RX6) (T := TX6) (N := 8) hx hb hts (fun w h => List.mem_cons_of_mem _ (inlX6 w h)) hown hK hP 0 rfl rfl 0 (by decide) (hts (.fieldLink RX6 27 "ClearingGates$Runner" "books" "LClearingGates$Books;") (List.mem_cons_of_mem _ mw_185)) (fun _ h9 => h9) rfl dX6_keep_33 ?_
    refine va_get (D := (dC, dI)) (ci := 0) (v := .long afees) (C := RX0) (T := TX0) (N := 13) hx hb hts (fun w h => List.mem_cons_of_mem _ (inlX0 w h)) hown hK hP 12 rfl rfl 8 (by decide) (hts (.fieldLink RX6 141 "ClearingGates$Books" "fees" "J") (List.mem_cons_of_mem _ mw_116)) (fun _ h9 => h9) rfl dX6_keep_36 ?_
    refine va_last (D := (dC, dI)) hx hb hK hP hD hS 11 10 rfl rfl (vp_in_iff.mpr ⟨by decide, by decide⟩) dX6_keep_39 (fun H locs hP hD hS => ?_)
    generalize e_g6 : (vp_updL ff ((1 : Int32)).toNatClampNeg afees) = g6 at hP hD
    obtain ⟨hP, hD⟩ := X_s (ws' := [eO h0 5 [.ref jb, .ref qm, .int mc, .ref qh, .ref qk, .ref qf, .int bg, .ref jp], eR qk kk 9 fo, eI ro0 kr0 8 fr0, eI ro1 kr1 8 g5, eI ro2 kr2 8 fr2, eI ro3 kr3 8 fr3, eI ro4 kr4 8 fr4, eI ro5 kr5 8 fr5, eI ro6 kr6 8 fr6, eI ro7 kr7 8 fr7, eI ro8 kr8 8 fr8, eL qf kf 9 g6, eO jb 0 [av0, .ref aq1, av2, av3, av4, av5, av6, av7, .long afees, av9, av10, av11, av12], eI aq1 ak1 8 ag1]) hP hD rfl
    rw [hQ9]
    exact W.vret hx hb hr (fun t ht hW => ⟨⟨(), rfl, (by first | rfl | trivial), fr0, g5, fr2, fr3, fr4, fr5, fr6, fr7, fr8, g6, by rw [ht]; exact hP, va_K.moved hW.alike hK, hD⟩, hS.F ht⟩) hS.2.2 dX6_keep_40
  · skip
    refine lv_iload_n hx hb dX6_keep_0 rfl (lv_at hl 1 rfl) ?_
    refine lv_bipush (v := 8) hx hb dX6_keep_1 (by decide) ?_
    refine lv_icmp_le (tgt := 7) hx hb dX6_keep_3 (by decide) (fun c7 => ?_) (fun c7 => absurd (by decide) c7)
    refine lv_aload_n hx hb dX6_keep_7 rfl (lv_at hl 0 rfl) ?_
    refine va_get (D := (dC, dI)) (ci := 5) (v := .ref jb) (C := RX6) (T := TX6) (N := 8) hx hb hts (fun w h => List.mem_cons_of_mem _ (inlX6 w h)) hown hK hP 0 rfl rfl 0 (by decide) (hts (.fieldLink RX6 27 "ClearingGates$Runner" "books" "LClearingGates$Books;") (List.mem_cons_of_mem _ mw_185)) (fun _ h9 => h9) rfl dX6_keep_8 ?_
    refine va_get (D := (dC, dI)) (ci := 0) (v := .ref aq1) (C := RX0) (T := TX0) (N := 13) hx hb hts (fun w h => List.mem_cons_of_mem _ (inlX0 w h)) hown hK hP 12 rfl rfl 1 (by decide) (hts (.fieldLink RX6 134 "ClearingGates$Books" "balances" "[I") (List.mem_cons_of_mem _ mw_98)) (fun _ h9 => h9) rfl dX6_keep_11 ?_
    refine lv_iconst (v := 0) hx hb dX6_keep_14 (by decide) ?_
    refine lv_aload_n hx hb dX6_keep_15 rfl (lv_at hl 0 rfl) ?_
    refine va_get (D := (dC, dI)) (ci := 5) (v := .ref qk) (C := RX6) (T := TX6) (N := 8) hx hb hts (fun w h => List.mem_cons_of_mem _ (inlX6 w h)) hown hK hP 0 rfl rfl 4 (by decide) (hts (.fieldLink RX6 20 "ClearingGates$Runner" "keptBalances" "[[I") (List.mem_cons_of_mem _ mw_192)) (fun _ h9 => h9) rfl dX6_keep_16 ?_
    refine lv_iload_n hx hb dX6_keep_19 rfl (lv_at hl 1 rfl) ?_
    refine va_aldm (D := (dC, dI)) hx hb hK hP 1 0 rfl rfl (vp_in_iff.mpr ⟨by decide, by decide⟩) dX6_keep_20 ?_
    rw [show va_rf (fo (2 : Int32).toNatClampNeg) = .ref ro2 from by rw [show (2 : Int32).toNatClampNeg = 2 from rfl, hf2]; rfl]
    refine lv_iconst (v := 0) hx hb dX6_keep_21 (by decide) ?_
    refine lv_bipush (v := 8) hx hb dX6_keep_22 (by decide) ?_
    refine va_copyi (D := (dC, dI)) hx hb (hml.trans hl.1.symm) hown (hts (.methodLink RX6 154 arraycopyName) (List.mem_cons_of_mem _ mw_380)) (hts (.native arraycopyName) (List.mem_cons_of_mem _ mw_330)) (hts (.static arraycopyName) (List.mem_cons_of_mem _ mw_329)) (hts (.initialized "java/lang/System") (List.mem_cons_of_mem _ mw_80)) hK hP hD hS 13 4 11 3 rfl rfl rfl rfl rfl (by decide) (by decide) (by decide) (by decide) (by decide) (fun _ _ => rfl) (Nat.le_of_ble_eq_true rfl) (by decide) dX6_keep_24 (fun H locs hP hD hS => ?_)
    generalize e_g8 : (va_cpy ag1 fr2 (0 : Int32).toNatClampNeg (0 : Int32).toNatClampNeg (8 : Int32).toNatClampNeg) = g8 at hP hD
    obtain ⟨hP, hD⟩ := X_s (ws' := [eO h0 5 [.ref jb, .ref qm, .int mc, .ref qh, .ref qk, .ref qf, .int bg, .ref jp], eR qk kk 9 fo, eI ro0 kr0 8 fr0, eI ro1 kr1 8 fr1, eI ro2 kr2 8 g8, eI ro3 kr3 8 fr3, eI ro4 kr4 8 fr4, eI ro5 kr5 8 fr5, eI ro6 kr6 8 fr6, eI ro7 kr7 8 fr7, eI ro8 kr8 8 fr8, eL qf kf 9 ff, eO jb 0 [av0, .ref aq1, av2, av3, av4, av5, av6, av7, .long afees, av9, av10, av11, av12], eI aq1 ak1 8 ag1]) hP hD rfl
    refine lv_aload_n hx hb dX6_keep_27 rfl (lv_at hl 0 rfl) ?_
    refine va_get (D := (dC, dI)) (ci := 5) (v := .ref qf) (C := RX6) (T := TX6) (N := 8) hx hb hts (fun w h => List.mem_cons_of_mem _ (inlX6 w h)) hown hK hP 0 rfl rfl 5 (by decide) (hts (.fieldLink RX6 23 "ClearingGates$Runner" "keptFees" "[J") (List.mem_cons_of_mem _ mw_193)) (fun _ h9 => h9) rfl dX6_keep_28 ?_
    refine lv_iload_n hx hb dX6_keep_31 rfl (lv_at hl 1 rfl) ?_
    refine lv_aload_n hx hb dX6_keep_32 rfl (lv_at hl 0 rfl) ?_
    refine va_get (D := (dC, dI)) (ci := 5) (v := .ref jb) (C := RX6) (T := TX6) (N := 8) hx hb hts (fun w h => List.mem_cons_of_mem _ (inlX6 w h)) hown hK hP 0 rfl rfl 0 (by decide) (hts (.fieldLink RX6 27 "ClearingGates$Runner" "books" "LClearingGates$Books;") (List.mem_cons_of_mem _ mw_185)) (fun _ h9 => h9) rfl dX6_keep_33 ?_
    refine va_get (D := (dC, dI)) (ci := 0) (v := .long afees) (C := RX0) (T := TX0) (N := 13) hx hb hts (fun w h => List.mem_cons_of_mem _ (inlX0 w h)) hown hK hP 12 rfl rfl 8 (by decide) (hts (.fieldLink RX6 141 "ClearingGates$Books" "fees" "J") (List.mem_cons_of_mem _ mw_116)) (fun _ h9 => h9) rfl dX6_keep_36 ?_
    refine va_last (D := (dC, dI)) hx hb hK hP hD hS 11 10 rfl rfl (vp_in_iff.mpr ⟨by decide, by decide⟩) dX6_keep_39 (fun H locs hP hD hS => ?_)
    generalize e_g9 : (vp_updL ff ((2 : Int32)).toNatClampNeg afees) = g9 at hP hD
    obtain ⟨hP, hD⟩ := X_s (ws' := [eO h0 5 [.ref jb, .ref qm, .int mc, .ref qh, .ref qk, .ref qf, .int bg, .ref jp], eR qk kk 9 fo, eI ro0 kr0 8 fr0, eI ro1 kr1 8 fr1, eI ro2 kr2 8 g8, eI ro3 kr3 8 fr3, eI ro4 kr4 8 fr4, eI ro5 kr5 8 fr5, eI ro6 kr6 8 fr6, eI ro7 kr7 8 fr7, eI ro8 kr8 8 fr8, eL qf kf 9 g9, eO jb 0 [av0, .ref aq1, av2, av3, av4, av5, av6, av7, .long afees, av9, av10, av11, av12], eI aq1 ak1 8 ag1]) hP hD rfl
    rw [hQ9]
    exact W.vret hx hb hr (fun t ht hW => ⟨⟨(), rfl, (by first | rfl | trivial), fr0, fr1, g8, fr3, fr4, fr5, fr6, fr7, fr8, g9, by rw [ht]; exact hP, va_K.moved hW.alike hK, hD⟩, hS.F ht⟩) hS.2.2 dX6_keep_40
  · skip
    refine lv_iload_n hx hb dX6_keep_0 rfl (lv_at hl 1 rfl) ?_
    refine lv_bipush (v := 8) hx hb dX6_keep_1 (by decide) ?_
    refine lv_icmp_le (tgt := 7) hx hb dX6_keep_3 (by decide) (fun c10 => ?_) (fun c10 => absurd (by decide) c10)
    refine lv_aload_n hx hb dX6_keep_7 rfl (lv_at hl 0 rfl) ?_
    refine va_get (D := (dC, dI)) (ci := 5) (v := .ref jb) (C := RX6) (T := TX6) (N := 8) hx hb hts (fun w h => List.mem_cons_of_mem _ (inlX6 w h)) hown hK hP 0 rfl rfl 0 (by decide) (hts (.fieldLink RX6 27 "ClearingGates$Runner" "books" "LClearingGates$Books;") (List.mem_cons_of_mem _ mw_185)) (fun _ h9 => h9) rfl dX6_keep_8 ?_
    refine va_get (D := (dC, dI)) (ci := 0) (v := .ref aq1) (C := RX0) (T := TX0) (N := 13) hx hb hts (fun w h => List.mem_cons_of_mem _ (inlX0 w h)) hown hK hP 12 rfl rfl 1 (by decide) (hts (.fieldLink RX6 134 "ClearingGates$Books" "balances" "[I") (List.mem_cons_of_mem _ mw_98)) (fun _ h9 => h9) rfl dX6_keep_11 ?_
    refine lv_iconst (v := 0) hx hb dX6_keep_14 (by decide) ?_
    refine lv_aload_n hx hb dX6_keep_15 rfl (lv_at hl 0 rfl) ?_
    refine va_get (D := (dC, dI)) (ci := 5) (v := .ref qk) (C := RX6) (T := TX6) (N := 8) hx hb hts (fun w h => List.mem_cons_of_mem _ (inlX6 w h)) hown hK hP 0 rfl rfl 4 (by decide) (hts (.fieldLink RX6 20 "ClearingGates$Runner" "keptBalances" "[[I") (List.mem_cons_of_mem _ mw_192)) (fun _ h9 => h9) rfl dX6_keep_16 ?_
    refine lv_iload_n hx hb dX6_keep_19 rfl (lv_at hl 1 rfl) ?_
    refine va_aldm (D := (dC, dI)) hx hb hK hP 1 0 rfl rfl (vp_in_iff.mpr ⟨by decide, by decide⟩) dX6_keep_20 ?_
    rw [show va_rf (fo (3 : Int32).toNatClampNeg) = .ref ro3 from by rw [show (3 : Int32).toNatClampNeg = 3 from rfl, hf3]; rfl]
    refine lv_iconst (v := 0) hx hb dX6_keep_21 (by decide) ?_
    refine lv_bipush (v := 8) hx hb dX6_keep_22 (by decide) ?_
    refine va_copyi (D := (dC, dI)) hx hb (hml.trans hl.1.symm) hown (hts (.methodLink RX6 154 arraycopyName) (List.mem_cons_of_mem _ mw_380)) (hts (.native arraycopyName) (List.mem_cons_of_mem _ mw_330)) (hts (.static arraycopyName) (List.mem_cons_of_mem _ mw_329)) (hts (.initialized "java/lang/System") (List.mem_cons_of_mem _ mw_80)) hK hP hD hS 13 5 11 4 rfl rfl rfl rfl rfl (by decide) (by decide) (by decide) (by decide) (by decide) (fun _ _ => rfl) (Nat.le_of_ble_eq_true rfl) (by decide) dX6_keep_24 (fun H locs hP hD hS => ?_)
    generalize e_g11 : (va_cpy ag1 fr3 (0 : Int32).toNatClampNeg (0 : Int32).toNatClampNeg (8 : Int32).toNatClampNeg) = g11 at hP hD
    obtain ⟨hP, hD⟩ := X_s (ws' := [eO h0 5 [.ref jb, .ref qm, .int mc, .ref qh, .ref qk, .ref qf, .int bg, .ref jp], eR qk kk 9 fo, eI ro0 kr0 8 fr0, eI ro1 kr1 8 fr1, eI ro2 kr2 8 fr2, eI ro3 kr3 8 g11, eI ro4 kr4 8 fr4, eI ro5 kr5 8 fr5, eI ro6 kr6 8 fr6, eI ro7 kr7 8 fr7, eI ro8 kr8 8 fr8, eL qf kf 9 ff, eO jb 0 [av0, .ref aq1, av2, av3, av4, av5, av6, av7, .long afees, av9, av10, av11, av12], eI aq1 ak1 8 ag1]) hP hD rfl
    refine lv_aload_n hx hb dX6_keep_27 rfl (lv_at hl 0 rfl) ?_
    refine va_get (D := (dC, dI)) (ci := 5) (v := .ref qf) (C := RX6) (T := TX6) (N := 8) hx hb hts (fun w h => List.mem_cons_of_mem _ (inlX6 w h)) hown hK hP 0 rfl rfl 5 (by decide) (hts (.fieldLink RX6 23 "ClearingGates$Runner" "keptFees" "[J") (List.mem_cons_of_mem _ mw_193)) (fun _ h9 => h9) rfl dX6_keep_28 ?_
    refine lv_iload_n hx hb dX6_keep_31 rfl (lv_at hl 1 rfl) ?_
    refine lv_aload_n hx hb dX6_keep_32 rfl (lv_at hl 0 rfl) ?_
    refine va_get (D := (dC, dI)) (ci := 5) (v := .ref jb) (C := RX6) (T := TX6) (N := 8) hx hb hts (fun w h => List.mem_cons_of_mem _ (inlX6 w h)) hown hK hP 0 rfl rfl 0 (by decide) (hts (.fieldLink RX6 27 "ClearingGates$Runner" "books" "LClearingGates$Books;") (List.mem_cons_of_mem _ mw_185)) (fun _ h9 => h9) rfl dX6_keep_33 ?_
    refine va_get (D := (dC, dI)) (ci := 0) (v := .long afees) (C := RX0) (T := TX0) (N := 13) hx hb hts (fun w h => List.mem_cons_of_mem _ (inlX0 w h)) hown hK hP 12 rfl rfl 8 (by decide) (hts (.fieldLink RX6 141 "ClearingGates$Books" "fees" "J") (List.mem_cons_of_mem _ mw_116)) (fun _ h9 => h9) rfl dX6_keep_36 ?_
    refine va_last (D := (dC, dI)) hx hb hK hP hD hS 11 10 rfl rfl (vp_in_iff.mpr ⟨by decide, by decide⟩) dX6_keep_39 (fun H locs hP hD hS => ?_)
    generalize e_g12 : (vp_updL ff ((3 : Int32)).toNatClampNeg afees) = g12 at hP hD
    obtain ⟨hP, hD⟩ := X_s (ws' := [eO h0 5 [.ref jb, .ref qm, .int mc, .ref qh, .ref qk, .ref qf, .int bg, .ref jp], eR qk kk 9 fo, eI ro0 kr0 8 fr0, eI ro1 kr1 8 fr1, eI ro2 kr2 8 fr2, eI ro3 kr3 8 g11, eI ro4 kr4 8 fr4, eI ro5 kr5 8 fr5, eI ro6 kr6 8 fr6, eI ro7 kr7 8 fr7, eI ro8 kr8 8 fr8, eL qf kf 9 g12, eO jb 0 [av0, .ref aq1, av2, av3, av4, av5, av6, av7, .long afees, av9, av10, av11, av12], eI aq1 ak1 8 ag1]) hP hD rfl
    rw [hQ9]
    exact W.vret hx hb hr (fun t ht hW => ⟨⟨(), rfl, (by first | rfl | trivial), fr0, fr1, fr2, g11, fr4, fr5, fr6, fr7, fr8, g12, by rw [ht]; exact hP, va_K.moved hW.alike hK, hD⟩, hS.F ht⟩) hS.2.2 dX6_keep_40
  · skip
    refine lv_iload_n hx hb dX6_keep_0 rfl (lv_at hl 1 rfl) ?_
    refine lv_bipush (v := 8) hx hb dX6_keep_1 (by decide) ?_
    refine lv_icmp_le (tgt := 7) hx hb dX6_keep_3 (by decide) (fun c13 => ?_) (fun c13 => absurd (by decide) c13)
    refine lv_aload_n hx hb dX6_keep_7 rfl (lv_at hl 0 rfl) ?_
    refine va_get (D := (dC, dI)) (ci := 5) (v := .ref jb) (C := RX6) (T := TX6) (N := 8) hx hb hts (fun w h => List.mem_cons_of_mem _ (inlX6 w h)) hown hK hP 0 rfl rfl 0 (by decide) (hts (.fieldLink RX6 27 "ClearingGates$Runner" "books" "LClearingGates$Books;") (List.mem_cons_of_mem _ mw_185)) (fun _ h9 => h9) rfl dX6_keep_8 ?_
    refine va_get (D := (dC, dI)) (ci := 0) (v := .ref aq1) (C := RX0) (T := TX0) (N := 13) hx hb hts (fun w h => List.mem_cons_of_mem _ (inlX0 w h)) hown hK hP 12 rfl rfl 1 (by decide) (hts (.fieldLink RX6 134 "ClearingGates$Books" "balances" "[I") (List.mem_cons_of_mem _ mw_98)) (fun _ h9 => h9) rfl dX6_keep_11 ?_
    refine lv_iconst (v := 0) hx hb dX6_keep_14 (by decide) ?_
    refine lv_aload_n hx hb dX6_keep_15 rfl (lv_at hl 0 rfl) ?_
    refine va_get (D := (dC, dI)) (ci := 5) (v := .ref qk) (C := RX6) (T := TX6) (N := 8) hx hb hts (fun w h => List.mem_cons_of_mem _ (inlX6 w h)) hown hK hP 0 rfl rfl 4 (by decide) (hts (.fieldLink RX6 20 "ClearingGates$Runner" "keptBalances" "[[I") (List.mem_cons_of_mem _ mw_192)) (fun _ h9 => h9) rfl dX6_keep_16 ?_
    refine lv_iload_n hx hb dX6_keep_19 rfl (lv_at hl 1 rfl) ?_
    refine va_aldm (D := (dC, dI)) hx hb hK hP 1 0 rfl rfl (vp_in_iff.mpr ⟨by decide, by decide⟩) dX6_keep_20 ?_
    rw [show va_rf (fo (4 : Int32).toNatClampNeg) = .ref ro4 from by rw [show (4 : Int32).toNatClampNeg = 4 from rfl, hf4]; rfl]
    refine lv_iconst (v := 0) hx hb dX6_keep_21 (by decide) ?_
    refine lv_bipush (v := 8) hx hb dX6_keep_22 (by decide) ?_
    refine va_copyi (D := (dC, dI)) hx hb (hml.trans hl.1.symm) hown (hts (.methodLink RX6 154 arraycopyName) (List.mem_cons_of_mem _ mw_380)) (hts (.native arraycopyName) (List.mem_cons_of_mem _ mw_330)) (hts (.static arraycopyName) (List.mem_cons_of_mem _ mw_329)) (hts (.initialized "java/lang/System") (List.mem_cons_of_mem _ mw_80)) hK hP hD hS 13 6 11 5 rfl rfl rfl rfl rfl (by decide) (by decide) (by decide) (by decide) (by decide) (fun _ _ => rfl) (Nat.le_of_ble_eq_true rfl) (by decide) dX6_keep_24 (fun H locs hP hD hS => ?_)
    generalize e_g14 : (va_cpy ag1 fr4 (0 : Int32).toNatClampNeg (0 : Int32).toNatClampNeg (8 : Int32).toNatClampNeg) = g14 at hP hD
    obtain ⟨hP, hD⟩ := X_s (ws' := [eO h0 5 [.ref jb, .ref qm, .int mc, .ref qh, .ref qk, .ref qf, .int bg, .ref jp], eR qk kk 9 fo, eI ro0 kr0 8 fr0, eI ro1 kr1 8 fr1, eI ro2 kr2 8 fr2, eI ro3 kr3 8 fr3, eI ro4 kr4 8 g14, eI ro5 kr5 8 fr5, eI ro6 kr6 8 fr6, eI ro7 kr7 8 fr7, eI ro8 kr8 8 fr8, eL qf kf 9 ff, eO jb 0 [av0, .ref aq1, av2, av3, av4, av5, av6, av7, .long afees, av9, av10, av11, av12], eI aq1 ak1 8 ag1]) hP hD rfl
    refine lv_aload_n hx hb dX6_keep_27 rfl (lv_at hl 0 rfl) ?_
    refine va_get (D := (dC, dI)) (ci := 5) (v := .ref qf) (C := RX6) (T := TX6) (N := 8) hx hb hts (fun w h => List.mem_cons_of_mem _ (inlX6 w h)) hown hK hP 0 rfl rfl 5 (by decide) (hts (.fieldLink RX6 23 "ClearingGates$Runner" "keptFees" "[J") (List.mem_cons_of_mem _ mw_193)) (fun _ h9 => h9) rfl dX6_keep_28 ?_
    refine lv_iload_n hx hb dX6_keep_31 rfl (lv_at hl 1 rfl) ?_
    refine lv_aload_n hx hb dX6_keep_32 rfl (lv_at hl 0 rfl) ?_
    refine va_get (D := (dC, dI)) (ci := 5) (v := .ref jb) (C := RX6) (T := TX6) (N := 8) hx hb hts (fun w h => List.mem_cons_of_mem _ (inlX6 w h)) hown hK hP 0 rfl rfl 0 (by decide) (hts (.fieldLink RX6 27 "ClearingGates$Runner" "books" "LClearingGates$Books;") (List.mem_cons_of_mem _ mw_185)) (fun _ h9 => h9) rfl dX6_keep_33 ?_
    refine va_get (D := (dC, dI)) (ci := 0) (v := .long afees) (C := RX0) (T := TX0) (N := 13) hx hb hts (fun w h => List.mem_cons_of_mem _ (inlX0 w h)) hown hK hP 12 rfl rfl 8 (by decide) (hts (.fieldLink RX6 141 "ClearingGates$Books" "fees" "J") (List.mem_cons_of_mem _ mw_116)) (fun _ h9 => h9) rfl dX6_keep_36 ?_
    refine va_last (D := (dC, dI)) hx hb hK hP hD hS 11 10 rfl rfl (vp_in_iff.mpr ⟨by decide, by decide⟩) dX6_keep_39 (fun H locs hP hD hS => ?_)
    generalize e_g15 : (vp_updL ff ((4 : Int32)).toNatClampNeg afees) = g15 at hP hD
    obtain ⟨hP, hD⟩ := X_s (ws' := [eO h0 5 [.ref jb, .ref qm, .int mc, .ref qh, .ref qk, .ref qf, .int bg, .ref jp], eR qk kk 9 fo, eI ro0 kr0 8 fr0, eI ro1 kr1 8 fr1, eI ro2 kr2 8 fr2, eI ro3 kr3 8 fr3, eI ro4 kr4 8 g14, eI ro5 kr5 8 fr5, eI ro6 kr6 8 fr6, eI ro7 kr7 8 fr7, eI ro8 kr8 8 fr8, eL qf kf 9 g15, eO jb 0 [av0, .ref aq1, av2, av3, av4, av5, av6, av7, .long afees, av9, av10, av11, av12], eI aq1 ak1 8 ag1]) hP hD rfl
    rw [hQ9]
    exact W.vret hx hb hr (fun t ht hW => ⟨⟨(), rfl, (by first | rfl | trivial), fr0, fr1, fr2, fr3, g14, fr5, fr6, fr7, fr8, g15, by rw [ht]; exact hP, va_K.moved hW.alike hK, hD⟩, hS.F ht⟩) hS.2.2 dX6_keep_40
  · skip
    refine lv_iload_n hx hb dX6_keep_0 rfl (lv_at hl 1 rfl) ?_
    refine lv_bipush (v := 8) hx hb dX6_keep_1 (by decide) ?_
    refine lv_icmp_le (tgt := 7) hx hb dX6_keep_3 (by decide) (fun c16 => ?_) (fun c16 => absurd (by decide) c16)
    refine lv_aload_n hx hb dX6_keep_7 rfl (lv_at hl 0 rfl) ?_
    refine va_get (D := (dC, dI)) (ci := 5) (v := .ref jb) (C := RX6) (T := TX6) (N := 8) hx hb hts (fun w h => List.mem_cons_of_mem _ (inlX6 w h)) hown hK hP 0 rfl rfl 0 (by decide) (hts (.fieldLink RX6 27 "ClearingGates$Runner" "books" "LClearingGates$Books;") (List.mem_cons_of_mem _ mw_185)) (fun _ h9 => h9) rfl dX6_keep_8 ?_
    refine va_get (D := (dC, dI)) (ci := 0) (v := .ref aq1) (C := RX0) (T := TX0) (N := 13) hx hb hts (fun w h => List.mem_cons_of_mem _ (inlX0 w h)) hown hK hP 12 rfl rfl 1 (by decide) (hts (.fieldLink RX6 134 "ClearingGates$Books" "balances" "[I") (List.mem_cons_of_mem _ mw_98)) (fun _ h9 => h9) rfl dX6_keep_11 ?_
    refine lv_iconst (v := 0) hx hb dX6_keep_14 (by decide) ?_
    refine lv_aload_n hx hb dX6_keep_15 rfl (lv_at hl 0 rfl) ?_
    refine va_get (D := (dC, dI)) (ci := 5) (v := .ref qk) (C := RX6) (T := TX6) (N := 8) hx hb hts (fun w h => List.mem_cons_of_mem _ (inlX6 w h)) hown hK hP 0 rfl rfl 4 (by decide) (hts (.fieldLink RX6 20 "ClearingGates$Runner" "keptBalances" "[[I") (List.mem_cons_of_mem _ mw_192)) (fun _ h9 => h9) rfl dX6_keep_16 ?_
    refine lv_iload_n hx hb dX6_keep_19 rfl (lv_at hl 1 rfl) ?_
    refine va_aldm (D := (dC, dI)) hx hb hK hP 1 0 rfl rfl (vp_in_iff.mpr ⟨by decide, by decide⟩) dX6_keep_20 ?_
    rw [show va_rf (fo (5 : Int32).toNatClampNeg) = .ref ro5 from by rw [show (5 : Int32).toNatClampNeg = 5 from rfl, hf5]; rfl]
    refine lv_iconst (v := 0) hx hb dX6_keep_21 (by decide) ?_
    refine lv_bipush (v := 8) hx hb dX6_keep_22 (by decide) ?_
    refine va_copyi (D := (dC, dI)) hx hb (hml.trans hl.1.symm) hown (hts (.methodLink RX6 154 arraycopyName) (List.mem_cons_of_mem _ mw_380)) (hts (.native arraycopyName) (List.mem_cons_of_mem _ mw_330)) (hts (.static arraycopyName) (List.mem_cons_of_mem _ mw_329)) (hts (.initialized "java/lang/System") (List.mem_cons_of_mem _ mw_80)) hK hP hD hS 13 7 11 6 rfl rfl rfl rfl rfl (by decide) (by decide) (by decide) (by decide) (by decide) (fun _ _ => rfl) (Nat.le_of_ble_eq_true rfl) (by decide) dX6_keep_24 (fun H locs hP hD hS => ?_)
    generalize e_g17 : (va_cpy ag1 fr5 (0 : Int32).toNatClampNeg (0 : Int32).toNatClampNeg (8 : Int32).toNatClampNeg) = g17 at hP hD
    obtain ⟨hP, hD⟩ := X_s (ws' := [eO h0 5 [.ref jb, .ref qm, .int mc, .ref qh, .ref qk, .ref qf, .int bg, .ref jp], eR qk kk 9 fo, eI ro0 kr0 8 fr0, eI ro1 kr1 8 fr1, eI ro2 kr2 8 fr2, eI ro3 kr3 8 fr3, eI ro4 kr4 8 fr4, eI ro5 kr5 8 g17, eI ro6 kr6 8 fr6, eI ro7 kr7 8 fr7, eI ro8 kr8 8 fr8, eL qf kf 9 ff, eO jb 0 [av0, .ref aq1, av2, av3, av4, av5, av6, av7, .long afees, av9, av10, av11, av12], eI aq1 ak1 8 ag1]) hP hD rfl
    refine lv_aload_n hx hb dX6_keep_27 rfl (lv_at hl 0 rfl) ?_
    refine va_get (D := (dC, dI)) (ci := 5) (v := .ref qf) (C := RX6) (T := TX6) (N := 8) hx hb hts (fun w h => List.mem_cons_of_mem _ (inlX6 w h)) hown hK hP 0 rfl rfl 5 (by decide) (hts (.fieldLink RX6 23 "ClearingGates$Runner" "keptFees" "[J") (List.mem_cons_of_mem _ mw_193)) (fun _ h9 => h9) rfl dX6_keep_28 ?_
    refine lv_iload_n hx hb dX6_keep_31 rfl (lv_at hl 1 rfl) ?_
    refine lv_aload_n hx hb dX6_keep_32 rfl (lv_at hl 0 rfl) ?_
    refine va_get (D := (dC, dI)) (ci := 5) (v := .ref jb) (C := RX6) (T := TX6) (N := 8) hx hb hts (fun w h => List.mem_cons_of_mem _ (inlX6 w h)) hown hK hP 0 rfl rfl 0 (by decide) (hts (.fieldLink RX6 27 "ClearingGates$Runner" "books" "LClearingGates$Books;") (List.mem_cons_of_mem _ mw_185)) (fun _ h9 => h9) rfl dX6_keep_33 ?_
    refine va_get (D := (dC, dI)) (ci := 0) (v := .long afees) (C := RX0) (T := TX0) (N := 13) hx hb hts (fun w h => List.mem_cons_of_mem _ (inlX0 w h)) hown hK hP 12 rfl rfl 8 (by decide) (hts (.fieldLink RX6 141 "ClearingGates$Books" "fees" "J") (List.mem_cons_of_mem _ mw_116)) (fun _ h9 => h9) rfl dX6_keep_36 ?_
    refine va_last (D := (dC, dI)) hx hb hK hP hD hS 11 10 rfl rfl (vp_in_iff.mpr ⟨by decide, by decide⟩) dX6_keep_39 (fun H locs hP hD hS => ?_)
    generalize e_g18 : (vp_updL ff ((5 : Int32)).toNatClampNeg afees) = g18 at hP hD
    obtain ⟨hP, hD⟩ := X_s (ws' := [eO h0 5 [.ref jb, .ref qm, .int mc, .ref qh, .ref qk, .ref qf, .int bg, .ref jp], eR qk kk 9 fo, eI ro0 kr0 8 fr0, eI ro1 kr1 8 fr1, eI ro2 kr2 8 fr2, eI ro3 kr3 8 fr3, eI ro4 kr4 8 fr4, eI ro5 kr5 8 g17, eI ro6 kr6 8 fr6, eI ro7 kr7 8 fr7, eI ro8 kr8 8 fr8, eL qf kf 9 g18, eO jb 0 [av0, .ref aq1, av2, av3, av4, av5, av6, av7, .long afees, av9, av10, av11, av12], eI aq1 ak1 8 ag1]) hP hD rfl
    rw [hQ9]
    exact W.vret hx hb hr (fun t ht hW => ⟨⟨(), rfl, (by first | rfl | trivial), fr0, fr1, fr2, fr3, fr4, g17, fr6, fr7, fr8, g18, by rw [ht]; exact hP, va_K.moved hW.alike hK, hD⟩, hS.F ht⟩) hS.2.2 dX6_keep_40
  · skip
    refine lv_iload_n hx hb dX6_keep_0 rfl (lv_at hl 1 rfl) ?_
    refine lv_bipush (v := 8) hx hb dX6_keep_1 (by decide) ?_
    refine lv_icmp_le (tgt := 7) hx hb dX6_keep_3 (by decide) (fun c19 => ?_) (fun c19 => absurd (by decide) c19)
    refine lv_aload_n hx hb dX6_keep_7 rfl (lv_at hl 0 rfl) ?_
    refine va_get (D := (dC, dI)) (ci := 5) (v := .ref jb) (C := RX6) (T := TX6) (N := 8) hx hb hts (fun w h => List.mem_cons_of_mem _ (inlX6 w h)) hown hK hP 0 rfl rfl 0 (by decide) (hts (.fieldLink RX6 27 "ClearingGates$Runner" "books" "LClearingGates$Books;") (List.mem_cons_of_mem _ mw_185)) (fun _ h9 => h9) rfl dX6_keep_8 ?_
    refine va_get (D := (dC, dI)) (ci := 0) (v := .ref aq1) (C := RX0) (T := TX0) (N := 13) hx hb hts (fun w h => List.mem_cons_of_mem _ (inlX0 w h)) hown hK hP 12 rfl rfl 1 (by decide) (hts (.fieldLink RX6 134 "ClearingGates$Books" "balances" "[I") (List.mem_cons_of_mem _ mw_98)) (fun _ h9 => h9) rfl dX6_keep_11 ?_
    refine lv_iconst (v := 0) hx hb dX6_keep_14 (by decide) ?_
    refine lv_aload_n hx hb dX6_keep_15 rfl (lv_at hl 0 rfl) ?_
    refine va_get (D := (dC, dI)) (ci := 5) (v := .ref qk) (C := RX6) (T := TX6) (N := 8) hx hb hts (fun w h => List.mem_cons_of_mem _ (inlX6 w h)) hown hK hP 0 rfl rfl 4 (by decide) (hts (.fieldLink RX6 20 "ClearingGates$Runner" "keptBalances" "[[I") (List.mem_cons_of_mem _ mw_192)) (fun _ h9 => h9) rfl dX6_keep_16 ?_
    refine lv_iload_n hx hb dX6_keep_19 rfl (lv_at hl 1 rfl) ?_
    refine va_aldm (D := (dC, dI)) hx hb hK hP 1 0 rfl rfl (vp_in_iff.mpr ⟨by decide, by decide⟩) dX6_keep_20 ?_
    rw [show va_rf (fo (6 : Int32).toNatClampNeg) = .ref ro6 from by rw [show (6 : Int32).toNatClampNeg = 6 from rfl, hf6]; rfl]
    refine lv_iconst (v := 0) hx hb dX6_keep_21 (by decide) ?_
    refine lv_bipush (v := 8) hx hb dX6_keep_22 (by decide) ?_
    refine va_copyi (D := (dC, dI)) hx hb (hml.trans hl.1.symm) hown (hts (.methodLink RX6 154 arraycopyName) (List.mem_cons_of_mem _ mw_380)) (hts (.native arraycopyName) (List.mem_cons_of_mem _ mw_330)) (hts (.static arraycopyName) (List.mem_cons_of_mem _ mw_329)) (hts (.initialized "java/lang/System") (List.mem_cons_of_mem _ mw_80)) hK hP hD hS 13 8 11 7 rfl rfl rfl rfl rfl (by decide) (by decide) (by decide) (by decide) (by decide) (fun _ _ => rfl) (Nat.le_of_ble_eq_true rfl) (by decide) dX6_keep_24 (fun H locs hP hD hS => ?_)
    generalize e_g20 : (va_cpy ag1 fr6 (0 : Int32).toNatClampNeg (0 : Int32).toNatClampNeg (8 : Int32).toNatClampNeg) = g20 at hP hD
    obtain ⟨hP, hD⟩ := X_s (ws' := [eO h0 5 [.ref jb, .ref qm, .int mc, .ref qh, .ref qk, .ref qf, .int bg, .ref jp], eR qk kk 9 fo, eI ro0 kr0 8 fr0, eI ro1 kr1 8 fr1, eI ro2 kr2 8 fr2, eI ro3 kr3 8 fr3, eI ro4 kr4 8 fr4, eI ro5 kr5 8 fr5, eI ro6 kr6 8 g20, eI ro7 kr7 8 fr7, eI ro8 kr8 8 fr8, eL qf kf 9 ff, eO jb 0 [av0, .ref aq1, av2, av3, av4, av5, av6, av7, .long afees, av9, av10, av11, av12], eI aq1 ak1 8 ag1]) hP hD rfl
    refine lv_aload_n hx hb dX6_keep_27 rfl (lv_at hl 0 rfl) ?_
    refine va_get (D := (dC, dI)) (ci := 5) (v := .ref qf) (C := RX6) (T := TX6) (N := 8) hx hb hts (fun w h => List.mem_cons_of_mem _ (inlX6 w h)) hown hK hP 0 rfl rfl 5 (by decide) (hts (.fieldLink RX6 23 "ClearingGates$Runner" "keptFees" "[J") (List.mem_cons_of_mem _ mw_193)) (fun _ h9 => h9) rfl dX6_keep_28 ?_
    refine lv_iload_n hx hb dX6_keep_31 rfl (lv_at hl 1 rfl) ?_
    refine lv_aload_n hx hb dX6_keep_32 rfl (lv_at hl 0 rfl) ?_
    refine va_get (D := (dC, dI)) (ci := 5) (v := .ref jb) (C := RX6) (T := TX6) (N := 8) hx hb hts (fun w h => List.mem_cons_of_mem _ (inlX6 w h)) hown hK hP 0 rfl rfl 0 (by decide) (hts (.fieldLink RX6 27 "ClearingGates$Runner" "books" "LClearingGates$Books;") (List.mem_cons_of_mem _ mw_185)) (fun _ h9 => h9) rfl dX6_keep_33 ?_
    refine va_get (D := (dC, dI)) (ci := 0) (v := .long afees) (C := RX0) (T := TX0) (N := 13) hx hb hts (fun w h => List.mem_cons_of_mem _ (inlX0 w h)) hown hK hP 12 rfl rfl 8 (by decide) (hts (.fieldLink RX6 141 "ClearingGates$Books" "fees" "J") (List.mem_cons_of_mem _ mw_116)) (fun _ h9 => h9) rfl dX6_keep_36 ?_
    refine va_last (D := (dC, dI)) hx hb hK hP hD hS 11 10 rfl rfl (vp_in_iff.mpr ⟨by decide, by decide⟩) dX6_keep_39 (fun H locs hP hD hS => ?_)
    generalize e_g21 : (vp_updL ff ((6 : Int32)).toNatClampNeg afees) = g21 at hP hD
    obtain ⟨hP, hD⟩ := X_s (ws' := [eO h0 5 [.ref jb, .ref qm, .int mc, .ref qh, .ref qk, .ref qf, .int bg, .ref jp], eR qk kk 9 fo, eI ro0 kr0 8 fr0, eI ro1 kr1 8 fr1, eI ro2 kr2 8 fr2, eI ro3 kr3 8 fr3, eI ro4 kr4 8 fr4, eI ro5 kr5 8 fr5, eI ro6 kr6 8 g20, eI ro7 kr7 8 fr7, eI ro8 kr8 8 fr8, eL qf kf 9 g21, eO jb 0 [av0, .ref aq1, av2, av3, av4, av5, av6, av7, .long afees, av9, av10, av11, av12], eI aq1 ak1 8 ag1]) hP hD rfl
    rw [hQ9]
    exact W.vret hx hb hr (fun t ht hW => ⟨⟨(), rfl, (by first | rfl | trivial), fr0, fr1, fr2, fr3, fr4, fr5, g20, fr7, fr8, g21, by rw [ht]; exact hP, va_K.moved hW.alike hK, hD⟩, hS.F ht⟩) hS.2.2 dX6_keep_40
  · skip
    refine lv_iload_n hx hb dX6_keep_0 rfl (lv_at hl 1 rfl) ?_
    refine lv_bipush (v := 8) hx hb dX6_keep_1 (by decide) ?_
    refine lv_icmp_le (tgt := 7) hx hb dX6_keep_3 (by decide) (fun c22 => ?_) (fun c22 => absurd (by decide) c22)
    refine lv_aload_n hx hb dX6_keep_7 rfl (lv_at hl 0 rfl) ?_
    refine va_get (D := (dC, dI)) (ci := 5) (v := .ref jb) (C := RX6) (T := TX6) (N := 8) hx hb hts (fun w h => List.mem_cons_of_mem _ (inlX6 w h)) hown hK hP 0 rfl rfl 0 (by decide) (hts (.fieldLink RX6 27 "ClearingGates$Runner" "books" "LClearingGates$Books;") (List.mem_cons_of_mem _ mw_185)) (fun _ h9 => h9) rfl dX6_keep_8 ?_
    refine va_get (D := (dC, dI)) (ci := 0) (v := .ref aq1) (C := RX0) (T := TX0) (N := 13) hx hb hts (fun w h => List.mem_cons_of_mem _ (inlX0 w h)) hown hK hP 12 rfl rfl 1 (by decide) (hts (.fieldLink RX6 134 "ClearingGates$Books" "balances" "[I") (List.mem_cons_of_mem _ mw_98)) (fun _ h9 => h9) rfl dX6_keep_11 ?_
    refine lv_iconst (v := 0) hx hb dX6_keep_14 (by decide) ?_
    refine lv_aload_n hx hb dX6_keep_15 rfl (lv_at hl 0 rfl) ?_
    refine va_get (D := (dC, dI)) (ci := 5) (v := .ref qk) (C := RX6) (T := TX6) (N := 8) hx hb hts (fun w h => List.mem_cons_of_mem _ (inlX6 w h)) hown hK hP 0 rfl rfl 4 (by decide) (hts (.fieldLink RX6 20 "ClearingGates$Runner" "keptBalances" "[[I") (List.mem_cons_of_mem _ mw_192)) (fun _ h9 => h9) rfl dX6_keep_16 ?_
    refine lv_iload_n hx hb dX6_keep_19 rfl (lv_at hl 1 rfl) ?_
    refine va_aldm (D := (dC, dI)) hx hb hK hP 1 0 rfl rfl (vp_in_iff.mpr ⟨by decide, by decide⟩) dX6_keep_20 ?_
    rw [show va_rf (fo (7 : Int32).toNatClampNeg) = .ref ro7 from by rw [show (7 : Int32).toNatClampNeg = 7 from rfl, hf7]; rfl]
    refine lv_iconst (v := 0) hx hb dX6_keep_21 (by decide) ?_
    refine lv_bipush (v := 8) hx hb dX6_keep_22 (by decide) ?_
    refine va_copyi (D := (dC, dI)) hx hb (hml.trans hl.1.symm) hown (hts (.methodLink RX6 154 arraycopyName) (List.mem_cons_of_mem _ mw_380)) (hts (.native arraycopyName) (List.mem_cons_of_mem _ mw_330)) (hts (.static arraycopyName) (List.mem_cons_of_mem _ mw_329)) (hts (.initialized "java/lang/System") (List.mem_cons_of_mem _ mw_80)) hK hP hD hS 13 9 11 8 rfl rfl rfl rfl rfl (by decide) (by decide) (by decide) (by decide) (by decide) (fun _ _ => rfl) (Nat.le_of_ble_eq_true rfl) (by decide) dX6_keep_24 (fun H locs hP hD hS => ?_)
    generalize e_g23 : (va_cpy ag1 fr7 (0 : Int32).toNatClampNeg (0 : Int32).toNatClampNeg (8 : Int32).toNatClampNeg) = g23 at hP hD
    obtain ⟨hP, hD⟩ := X_s (ws' := [eO h0 5 [.ref jb, .ref qm, .int mc, .ref qh, .ref qk, .ref qf, .int bg, .ref jp], eR qk kk 9 fo, eI ro0 kr0 8 fr0, eI ro1 kr1 8 fr1, eI ro2 kr2 8 fr2, eI ro3 kr3 8 fr3, eI ro4 kr4 8 fr4, eI ro5 kr5 8 fr5, eI ro6 kr6 8 fr6, eI ro7 kr7 8 g23, eI ro8 kr8 8 fr8, eL qf kf 9 ff, eO jb 0 [av0, .ref aq1, av2, av3, av4, av5, av6, av7, .long afees, av9, av10, av11, av12], eI aq1 ak1 8 ag1]) hP hD rfl
    refine lv_aload_n hx hb dX6_keep_27 rfl (lv_at hl 0 rfl) ?_
    refine va_get (D := (dC, dI)) (ci := 5) (v := .ref qf) (C := RX6) (T := TX6) (N := 8) hx hb hts (fun w h => List.mem_cons_of_mem _ (inlX6 w h)) hown hK hP 0 rfl rfl 5 (by decide) (hts (.fieldLink RX6 23 "ClearingGates$Runner" "keptFees" "[J") (List.mem_cons_of_mem _ mw_193)) (fun _ h9 => h9) rfl dX6_keep_28 ?_
    refine lv_iload_n hx hb dX6_keep_31 rfl (lv_at hl 1 rfl) ?_
    refine lv_aload_n hx hb dX6_keep_32 rfl (lv_at hl 0 rfl) ?_
    refine va_get (D := (dC, dI)) (ci := 5) (v := .ref jb) (C := RX6) (T := TX6) (N := 8) hx hb hts (fun w h => List.mem_cons_of_mem _ (inlX6 w h)) hown hK hP 0 rfl rfl 0 (by decide) (hts (.fieldLink RX6 27 "ClearingGates$Runner" "books" "LClearingGates$Books;") (List.mem_cons_of_mem _ mw_185)) (fun _ h9 => h9) rfl dX6_keep_33 ?_
    refine va_get (D := (dC, dI)) (ci := 0) (v := .long afees) (C := RX0) (T := TX0) (N := 13) hx hb hts (fun w h => List.mem_cons_of_mem _ (inlX0 w h)) hown hK hP 12 rfl rfl 8 (by decide) (hts (.fieldLink RX6 141 "ClearingGates$Books" "fees" "J") (List.mem_cons_of_mem _ mw_116)) (fun _ h9 => h9) rfl dX6_keep_36 ?_
    refine va_last (D := (dC, dI)) hx hb hK hP hD hS 11 10 rfl rfl (vp_in_iff.mpr ⟨by decide, by decide⟩) dX6_keep_39 (fun H locs hP hD hS => ?_)
    generalize e_g24 : (vp_updL ff ((7 : Int32)).toNatClampNeg afees) = g24 at hP hD
    obtain ⟨hP, hD⟩ := X_s (ws' := [eO h0 5 [.ref jb, .ref qm, .int mc, .ref qh, .ref qk, .ref qf, .int bg, .ref jp], eR qk kk 9 fo, eI ro0 kr0 8 fr0, eI ro1 kr1 8 fr1, eI ro2 kr2 8 fr2, eI ro3 kr3 8 fr3, eI ro4 kr4 8 fr4, eI ro5 kr5 8 fr5, eI ro6 kr6 8 fr6, eI ro7 kr7 8 g23, eI ro8 kr8 8 fr8, eL qf kf 9 g24, eO jb 0 [av0, .ref aq1, av2, av3, av4, av5, av6, av7, .long afees, av9, av10, av11, av12], eI aq1 ak1 8 ag1]) hP hD rfl
    rw [hQ9]
    exact W.vret hx hb hr (fun t ht hW => ⟨⟨(), rfl, (by first | rfl | trivial), fr0, fr1, fr2, fr3, fr4, fr5, fr6, g23, fr8, g24, by rw [ht]; exact hP, va_K.moved hW.alike hK, hD⟩, hS.F ht⟩) hS.2.2 dX6_keep_40
  · skip
    refine lv_iload_n hx hb dX6_keep_0 rfl (lv_at hl 1 rfl) ?_
    refine lv_bipush (v := 8) hx hb dX6_keep_1 (by decide) ?_
    refine lv_icmp_le (tgt := 7) hx hb dX6_keep_3 (by decide) (fun c25 => ?_) (fun c25 => absurd (by decide) c25)
    refine lv_aload_n hx hb dX6_keep_7 rfl (lv_at hl 0 rfl) ?_
    refine va_get (D := (dC, dI)) (ci := 5) (v := .ref jb) (C := RX6) (T := TX6) (N := 8) hx hb hts (fun w h => List.mem_cons_of_mem _ (inlX6 w h)) hown hK hP 0 rfl rfl 0 (by decide) (hts (.fieldLink RX6 27 "ClearingGates$Runner" "books" "LClearingGates$Books;") (List.mem_cons_of_mem _ mw_185)) (fun _ h9 => h9) rfl dX6_keep_8 ?_
    refine va_get (D := (dC, dI)) (ci := 0) (v := .ref aq1) (C := RX0) (T := TX0) (N := 13) hx hb hts (fun w h => List.mem_cons_of_mem _ (inlX0 w h)) hown hK hP 12 rfl rfl 1 (by decide) (hts (.fieldLink RX6 134 "ClearingGates$Books" "balances" "[I") (List.mem_cons_of_mem _ mw_98)) (fun _ h9 => h9) rfl dX6_keep_11 ?_
    refine lv_iconst (v := 0) hx hb dX6_keep_14 (by decide) ?_
    refine lv_aload_n hx hb dX6_keep_15 rfl (lv_at hl 0 rfl) ?_
    refine va_get (D := (dC, dI)) (ci := 5) (v := .ref qk) (C := RX6) (T := TX6) (N := 8) hx hb hts (fun w h => List.mem_cons_of_mem _ (inlX6 w h)) hown hK hP 0 rfl rfl 4 (by decide) (hts (.fieldLink RX6 20 "ClearingGates$Runner" "keptBalances" "[[I") (List.mem_cons_of_mem _ mw_192)) (fun _ h9 => h9) rfl dX6_keep_16 ?_
    refine lv_iload_n hx hb dX6_keep_19 rfl (lv_at hl 1 rfl) ?_
    refine va_aldm (D := (dC, dI)) hx hb hK hP 1 0 rfl rfl (vp_in_iff.mpr ⟨by decide, by decide⟩) dX6_keep_20 ?_
    rw [show va_rf (fo (8 : Int32).toNatClampNeg) = .ref ro8 from by rw [show (8 : Int32).toNatClampNeg = 8 from rfl, hf8]; rfl]
    refine lv_iconst (v := 0) hx hb dX6_keep_21 (by decide) ?_
    refine lv_bipush (v := 8) hx hb dX6_keep_22 (by decide) ?_
    refine va_copyi (D := (dC, dI)) hx hb (hml.trans hl.1.symm) hown (hts (.methodLink RX6 154 arraycopyName) (List.mem_cons_of_mem _ mw_380)) (hts (.native arraycopyName) (List.mem_cons_of_mem _ mw_330)) (hts (.static arraycopyName) (List.mem_cons_of_mem _ mw_329)) (hts (.initialized "java/lang/System") (List.mem_cons_of_mem _ mw_80)) hK hP hD hS 13 10 11 9 rfl rfl rfl rfl rfl (by decide) (by decide) (by decide) (by decide) (by decide) (fun _ _ => rfl) (Nat.le_of_ble_eq_true rfl) (by decide) dX6_keep_24 (fun H locs hP hD hS => ?_)
    generalize e_g26 : (va_cpy ag1 fr8 (0 : Int32).toNatClampNeg (0 : Int32).toNatClampNeg (8 : Int32).toNatClampNeg) = g26 at hP hD
    obtain ⟨hP, hD⟩ := X_s (ws' := [eO h0 5 [.ref jb, .ref qm, .int mc, .ref qh, .ref qk, .ref qf, .int bg, .ref jp], eR qk kk 9 fo, eI ro0 kr0 8 fr0, eI ro1 kr1 8 fr1, eI ro2 kr2 8 fr2, eI ro3 kr3 8 fr3, eI ro4 kr4 8 fr4, eI ro5 kr5 8 fr5, eI ro6 kr6 8 fr6, eI ro7 kr7 8 fr7, eI ro8 kr8 8 g26, eL qf kf 9 ff, eO jb 0 [av0, .ref aq1, av2, av3, av4, av5, av6, av7, .long afees, av9, av10, av11, av12], eI aq1 ak1 8 ag1]) hP hD rfl
    refine lv_aload_n hx hb dX6_keep_27 rfl (lv_at hl 0 rfl) ?_
    refine va_get (D := (dC, dI)) (ci := 5) (v := .ref qf) (C := RX6) (T := TX6) (N := 8) hx hb hts (fun w h => List.mem_cons_of_mem _ (inlX6 w h)) hown hK hP 0 rfl rfl 5 (by decide) (hts (.fieldLink RX6 23 "ClearingGates$Runner" "keptFees" "[J") (List.mem_cons_of_mem _ mw_193)) (fun _ h9 => h9) rfl dX6_keep_28 ?_
    refine lv_iload_n hx hb dX6_keep_31 rfl (lv_at hl 1 rfl) ?_
    refine lv_aload_n hx hb dX6_keep_32 rfl (lv_at hl 0 rfl) ?_
    refine va_get (D := (dC, dI)) (ci := 5) (v := .ref jb) (C := RX6) (T := TX6) (N := 8) hx hb hts (fun w h => List.mem_cons_of_mem _ (inlX6 w h)) hown hK hP 0 rfl rfl 0 (by decide) (hts (.fieldLink RX6 27 "ClearingGates$Runner" "books" "LClearingGates$Books;") (List.mem_cons_of_mem _ mw_185)) (fun _ h9 => h9) rfl dX6_keep_33 ?_
    refine va_get (D := (dC, dI)) (ci := 0) (v := .long afees) (C := RX0) (T := TX0) (N := 13) hx hb hts (fun w h => List.mem_cons_of_mem _ (inlX0 w h)) hown hK hP 12 rfl rfl 8 (by decide) (hts (.fieldLink RX6 141 "ClearingGates$Books" "fees" "J") (List.mem_cons_of_mem _ mw_116)) (fun _ h9 => h9) rfl dX6_keep_36 ?_
    refine va_last (D := (dC, dI)) hx hb hK hP hD hS 11 10 rfl rfl (vp_in_iff.mpr ⟨by decide, by decide⟩) dX6_keep_39 (fun H locs hP hD hS => ?_)
    generalize e_g27 : (vp_updL ff ((8 : Int32)).toNatClampNeg afees) = g27 at hP hD
    obtain ⟨hP, hD⟩ := X_s (ws' := [eO h0 5 [.ref jb, .ref qm, .int mc, .ref qh, .ref qk, .ref qf, .int bg, .ref jp], eR qk kk 9 fo, eI ro0 kr0 8 fr0, eI ro1 kr1 8 fr1, eI ro2 kr2 8 fr2, eI ro3 kr3 8 fr3, eI ro4 kr4 8 fr4, eI ro5 kr5 8 fr5, eI ro6 kr6 8 fr6, eI ro7 kr7 8 fr7, eI ro8 kr8 8 g26, eL qf kf 9 g27, eO jb 0 [av0, .ref aq1, av2, av3, av4, av5, av6, av7, .long afees, av9, av10, av11, av12], eI aq1 ak1 8 ag1]) hP hD rfl
    rw [hQ9]
    exact W.vret hx hb hr (fun t ht hW => ⟨⟨(), rfl, (by first | rfl | trivial), fr0, fr1, fr2, fr3, fr4, fr5, fr6, fr7, g26, g27, by rw [ht]; exact hP, va_K.moved hW.alike hK, hD⟩, hS.F ht⟩) hS.2.2 dX6_keep_40
  · skip
    refine lv_iload_n hx hb dX6_keep_0 rfl (lv_at hl 1 rfl) ?_
    refine lv_bipush (v := 8) hx hb dX6_keep_1 (by decide) ?_
    refine lv_icmp_le (tgt := 7) hx hb dX6_keep_3 (by decide) (fun c28 => absurd c28 (by decide)) (fun c28 => ?_)
    rw [hQ9]
    exact W.vret hx hb hr (fun t ht hW => ⟨⟨(), rfl, (by first | rfl | trivial), fr0, fr1, fr2, fr3, fr4, fr5, fr6, fr7, fr8, ff, by rw [ht]; exact hP, va_K.moved hW.alike hK, hD⟩, hS.F ht⟩) hS.2.2 dX6_keep_6

set_option maxRecDepth 100000 in
set_option maxHeartbeats 4000000 in
/-- Runner.undo -/
theorem c_X6_undo (l : Launch) (dC : Nat → ClassId) (dI : Nat → Nat → Nat) (h0 : Nat) (p0 : Int32) (jb : Nat) (qm : Nat) (mc : Int32) (qh : Nat) (qk : Nat) (qf : Nat) (bg : Int32) (jp : Nat) (kk : ClassId) (fo : Nat → Option Nat) (ro0 : Nat) (kr0 : ClassId) (fr0 : Nat → Int32) (ro1 : Nat) (kr1 : ClassId) (fr1 : Nat → Int32) (ro2 : Nat) (kr2 : ClassId) (fr2 : Nat → Int32) (ro3 : Nat) (kr3 : ClassId) (fr3 : Nat → Int32) (ro4 : Nat) (kr4 : ClassId) (fr4 : Nat → Int32) (ro5 : Nat) (kr5 : ClassId) (fr5 : Nat → Int32) (ro6 : Nat) (kr6 : ClassId) (fr6 : Nat → Int32) (ro7 : Nat) (kr7 : ClassId) (fr7 : Nat → Int32) (ro8 : Nat) (kr8 : ClassId) (fr8 : Nat → Int32) (kf : ClassId) (ff : Nat → Int64) (av0 : Value) (aq1 : Nat) (av2 : Value) (av3 : Value) (av4 : Value) (av5 : Value) (av6 : Value) (av7 : Value) (afees : Int64) (av9 : Value) (av10 : Value) (av11 : Value) (av12 : Value) (ak1 : ClassId) (ag1 : Nat → Int32) (sz : Nat) (h1 : 0 ≤ p0.toInt) (h2 : p0.toInt ≤ 9) (hf0 : fo 0 = some ro0) (hf1 : fo 1 = some ro1) (hf2 : fo 2 = some ro2) (hf3 : fo 3 = some ro3) (hf4 : fo 4 = some ro4) (hf5 : fo 5 = some ro5) (hf6 : fo 6 = some ro6) (hf7 : fo 7 = some ro7) (hf8 : fo 8 = some ro8) : Met l yX6_undo wsX6_undo ({ frames := 1, cells := 0, slots := 0, locals := 60 }) (va_Pc [.ref h0, .int p0] (fun U => U.heap.size = sz ∧ va_P (dC, dI) vwCl [eO h0 5 [.ref jb, .ref qm, .int mc, .ref qh, .ref qk, .ref qf, .int bg, .ref jp], eR qk kk 9 fo, eI ro0 kr0 8 fr0, eI ro1 kr1 8 fr1, eI ro2 kr2 8 fr2, eI ro3 kr3 8 fr3, eI ro4 kr4 8 fr4, eI ro5 kr5 8 fr5, eI ro6 kr6 8 fr6, eI ro7 kr7 8 fr7, eI ro8 kr8 8 fr8, eL qf kf 9 ff, eO jb 0 [av0, .ref aq1, av2, av3, av4, av5, av6, av7, .long afees, av9, av10, av11, av12], eI aq1 ak1 8 ag1] U.heap ∧ va_K (dC, dI) vwCl [(kk, .array .int), (kr0, .int), (kr1, .int), (kr2, .int), (kr3, .int), (kr4, .int), (kr5, .int), (kr6, .int), (kr7, .int), (kr8, .int), (kf, .long), (ak1, .int)] U ∧ va_D (fun _ => True) [eO h0 5 [.ref jb, .ref qm, .int mc, .ref qh, .ref qk, .ref qf, .int bg, .ref jp], eR qk kk 9 fo, eI ro0 kr0 8 fr0, eI ro1 kr1 8 fr1, eI ro2 kr2 8 fr2, eI ro3 kr3 8 fr3, eI ro4 kr4 8 fr4, eI ro5 kr5 8 fr5, eI ro6 kr6 8 fr6, eI ro7 kr7 8 fr7, eI ro8 kr8 8 fr8, eL qf kf 9 ff, eO jb 0 [av0, .ref aq1, av2, av3, av4, av5, av6, av7, .long afees, av9, av10, av11, av12], eI aq1 ak1 8 ag1])) (va_Qv (fun (_ : Unit) => True) (fun (_ : Unit) (t : State) => ∃ (ag1' : Nat → Int32), ∃ (afees' : Int64), va_P (dC, dI) vwCl [eO h0 5 [.ref jb, .ref qm, .int mc, .ref qh, .ref qk, .ref qf, .int bg, .ref jp], eR qk kk 9 fo, eI ro0 kr0 8 fr0, eI ro1 kr1 8 fr1, eI ro2 kr2 8 fr2, eI ro3 kr3 8 fr3, eI ro4 kr4 8 fr4, eI ro5 kr5 8 fr5, eI ro6 kr6 8 fr6, eI ro7 kr7 8 fr7, eI ro8 kr8 8 fr8, eL qf kf 9 ff, eO jb 0 [av0, .ref aq1, av2, av3, av4, av5, av6, av7, .long afees', av9, av10, av11, av12], eI aq1 ak1 8 (ag1')] t.heap ∧ va_K (dC, dI) vwCl [(kk, .array .int), (kr0, .int), (kr1, .int), (kr2, .int), (kr3, .int), (kr4, .int), (kr5, .int), (kr6, .int), (kr7, .int), (kr8, .int), (kf, .long), (ak1, .int)] t ∧ va_D (va_A [eO h0 5 [.ref jb, .ref qm, .int mc, .ref qh, .ref qk, .ref qf, .int bg, .ref jp], eR qk kk 9 fo, eI ro0 kr0 8 fr0, eI ro1 kr1 8 fr1, eI ro2 kr2 8 fr2, eI ro3 kr3 8 fr3, eI ro4 kr4 8 fr4, eI ro5 kr5 8 fr5, eI ro6 kr6 8 fr6, eI ro7 kr7 8 fr7, eI ro8 kr8 8 fr8, eL qf kf 9 ff, eO jb 0 [av0, .ref aq1, av2, av3, av4, av5, av6, av7, .long afees, av9, av10, av11, av12], eI aq1 ak1 8 ag1] sz) [eO h0 5 [.ref jb, .ref qm, .int mc, .ref qh, .ref qk, .ref qf, .int bg, .ref jp], eR qk kk 9 fo, eI ro0 kr0 8 fr0, eI ro1 kr1 8 fr1, eI ro2 kr2 8 fr2, eI ro3 kr3 8 fr3, eI ro4 kr4 8 fr4, eI ro5 kr5 8 fr5, eI ro6 kr6 8 fr6, eI ro7 kr7 8 fr7, eI ro8 kr8 8 fr8, eL qf kf 9 ff, eO jb 0 [av0, .ref aq1, av2, av3, av4, av5, av6, av7, .long afees', av9, av10, av11, av12], eI aq1 ak1 8 (ag1')]) (va_A [eO h0 5 [.ref jb, .ref qm, .int mc, .ref qh, .ref qk, .ref qf, .int bg, .ref jp], eR qk kk 9 fo, eI ro0 kr0 8 fr0, eI ro1 kr1 8 fr1, eI ro2 kr2 8 fr2, eI ro3 kr3 8 fr3, eI ro4 kr4 8 fr4, eI ro5 kr5 8 fr5, eI ro6 kr6 8 fr6, eI ro7 kr7 8 fr7, eI ro8 kr8 8 fr8, eL qf kf 9 ff, eO jb 0 [av0, .ref aq1, av2, av3, av4, av5, av6, av7, .long afees, av9, av10, av11, av12], eI aq1 ak1 8 ag1] sz)) 0 0 (va_A [eO h0 5 [.ref jb, .ref qm, .int mc, .ref qh, .ref qk, .ref qf, .int bg, .ref jp], eR qk kk 9 fo, eI ro0 kr0 8 fr0, eI ro1 kr1 8 fr1, eI ro2 kr2 8 fr2, eI ro3 kr3 8 fr3, eI ro4 kr4 8 fr4, eI ro5 kr5 8 fr5, eI ro6 kr6 8 fr6, eI ro7 kr7 8 fr7, eI ro8 kr8 8 fr8, eL qf kf 9 ff, eO jb 0 [av0, .ref aq1, av2, av3, av4, av5, av6, av7, .long afees, av9, av10, av11, av12], eI aq1 ak1 8 ag1] sz) := by
  refine Met.ofW (cc := cX6_undo) (maxL := 2) (ret := none) (by decide) rfl ?_
  intro p e s m args below meth c s₁ B hml hv
  obtain ⟨rfl, hsz, hP, hK, hD0⟩ := hv
  have hx := B.exec
  have hb := B.bytes
  have hr := B.returns
  have hts := atoms_spec (ws := wsX6_undo) B.pre
  have hown : s.vm.findClass RX6 = some m.cls := findClass_of_methodNamed B.named
  have hlocks := B.notSynchronized
  subst hsz
  have hD := hD0.self (sz := s.heap.size)
  generalize hAe : va_A [eO h0 5 [.ref jb, .ref qm, .int mc, .ref qh, .ref qk, .ref qf, .int bg, .ref jp], eR qk kk 9 fo, eI ro0 kr0 8 fr0, eI ro1 kr1 8 fr1, eI ro2 kr2 8 fr2, eI ro3 kr3 8 fr3, eI ro4 kr4 8 fr4, eI ro5 kr5 8 fr5, eI ro6 kr6 8 fr6, eI ro7 kr7 8 fr7, eI ro8 kr8 8 fr8, eL qf kf 9 ff, eO jb 0 [av0, .ref aq1, av2, av3, av4, av5, av6, av7, .long afees, av9, av10, av11, av12], eI aq1 ak1 8 ag1] s.heap.size = A at hD ⊢
  have hA : ∀ q : Nat, s.heap.size ≤ q → A q := fun q h => by rw [← hAe]; exact Or.inr h
  have hS : va_S A s.heap s.heap [] := va_S.rf
  have hP : va_P (dC, dI) vwCl [eO h0 5 [.ref jb, .ref qm, .int mc, .ref qh, .ref qk, .ref qf, .int bg, .ref jp], eR qk kk 9 fo, eI ro0 kr0 8 fr0, eI ro1 kr1 8 fr1, eI ro2 kr2 8 fr2, eI ro3 kr3 8 fr3, eI ro4 kr4 8 fr4, eI ro5 kr5 8 fr5, eI ro6 kr6 8 fr6, eI ro7 kr7 8 fr7, eI ro8 kr8 8 fr8, eL qf kf 9 ff, eO jb 0 [av0, .ref aq1, av2, av3, av4, av5, av6, av7, .long afees, av9, av10, av11, av12], eI aq1 ak1 8 ag1] s.heap := hP
  have hl := lv_entry ([.ref h0, .int p0]) (n := 2) (Nat.le_of_ble_eq_true rfl)
  rw [lg_entry_eq]
  generalize (lg_sl ([.ref h0, .int p0]) ++ List.replicate (2 - (lg_sl ([.ref h0, .int p0])).length) Slot.unset).toArray = ls at hl ⊢
  have hl : lv_has ls 2 [(0, .ref h0), (1, .int p0)] := hl
  suffices key9 : ∀ Q9 : State → Prop, Q9 = (MQ below (va_Qv (fun (_ : Unit) => True) (fun (_ : Unit) (t : State) => ∃ (ag1' : Nat → Int32), ∃ (afees' : Int64), va_P (dC, dI) vwCl [eO h0 5 [.ref jb, .ref qm, .int mc, .ref qh, .ref qk, .ref qf, .int bg, .ref jp], eR qk kk 9 fo, eI ro0 kr0 8 fr0, eI ro1 kr1 8 fr1, eI ro2 kr2 8 fr2, eI ro3 kr3 8 fr3, eI ro4 kr4 8 fr4, eI ro5 kr5 8 fr5, eI ro6 kr6 8 fr6, eI ro7 kr7 8 fr7, eI ro8 kr8 8 fr8, eL qf kf 9 ff, eO jb 0 [av0, .ref aq1, av2, av3, av4, av5, av6, av7, .long afees', av9, av10, av11, av12], eI aq1 ak1 8 (ag1')] t.heap ∧ va_K (dC, dI) vwCl [(kk, .array .int), (kr0, .int), (kr1, .int), (kr2, .int), (kr3, .int), (kr4, .int), (kr5, .int), (kr6, .int), (kr7, .int), (kr8, .int), (kf, .long), (ak1, .int)] t ∧ va_D A [eO h0 5 [.ref jb, .ref qm, .int mc, .ref qh, .ref qk, .ref qf, .int bg, .ref jp], eR qk kk 9 fo, eI ro0 kr0 8 fr0, eI ro1 kr1 8 fr1, eI ro2 kr2 8 fr2, eI ro3 kr3 8 fr3, eI ro4 kr4 8 fr4, eI ro5 kr5 8 fr5, eI ro6 kr6 8 fr6, eI ro7 kr7 8 fr7, eI ro8 kr8 8 fr8, eL qf kf 9 ff, eO jb 0 [av0, .ref aq1, av2, av3, av4, av5, av6, av7, .long afees', av9, av10, av11, av12], eI aq1 ak1 8 (ag1')]) A) (([.ref h0, .int p0] : List Value).toArray) s 0 0 A) → W p l e ({ frames := 1, cells := 0, slots := 0, locals := 60 }) s m (([.ref h0, .int p0] : List Value).toArray) below meth c s.heap [] 0 0 Q9 (F0 m 0 ls []) from key9 _ rfl
  intro Q9 hQ9
  have k_0 : (0 : Int32).toInt = 0 := by decide
  have k_1 : (1 : Int32).toInt = 1 := by decide
  have k_2 : (2 : Int32).toInt = 2 := by decide
  have k_3 : (3 : Int32).toInt = 3 := by decide
  have k_4 : (4 : Int32).toInt = 4 := by decide
  have k_5 : (5 : Int32).toInt = 5 := by decide
  have k_6 : (6 : Int32).toInt = 6 := by decide
  have k_7 : (7 : Int32).toInt = 7 := by decide
  have k_8 : (8 : Int32).toInt = 8 := by decide
  have k_9 : (9 : Int32).toInt = 9 := by decide
  have k10 : p0 = 0 ∨ p0 = 1 ∨ p0 = 2 ∨ p0 = 3 ∨ p0 = 4 ∨ p0 = 5 ∨ p0 = 6 ∨ p0 = 7 ∨ p0 = 8 ∨ p0 = 9 := i10 h1 h2
  rcases k10 with rfl | rfl | rfl | rfl | rfl | rfl | rfl | rfl | rfl | rfl
  · skip
    refine lv_iload_n hx hb dX6_undo_0 rfl (lv_at hl 1 rfl) ?_
    refine lv_bipush (v := 8) hx hb dX6_undo_1 (by decide) ?_
    refine lv_icmp_le (tgt := 7) hx hb dX6_undo_3 (by decide) (fun c1 => ?_) (fun c1 => absurd (by decide) c1)
    refine lv_aload_n hx hb dX6_undo_7 rfl (lv_at hl 0 rfl) ?_
    refine va_get (D := (dC, dI)) (ci := 5) (v := .ref qk) (C := RX6) (T := TX6) (N := 8) hx hb hts (fun w h => List.mem_cons_of_mem _ (inlX6 w h)) hown hK hP 0 rfl rfl 4 (by decide) (hts (.fieldLink RX6 20 "ClearingGates$Runner" "keptBalances" "[[I") (List.mem_cons_of_mem _ mw_192)) (fun _ h9 => h9) rfl dX6_undo_8 ?_
    refine lv_iload_n hx hb dX6_undo_11 rfl (lv_at hl 1 rfl) ?_
    refine va_aldm (D := (dC, dI)) hx hb hK hP 1 0 rfl rfl (vp_in_iff.mpr ⟨by decide, by decide⟩) dX6_undo_12 ?_
    rw [show va_rf (fo (0 : Int32).toNatClampNeg) = .ref ro0 from by rw [show (0 : Int32).toNatClampNeg = 0 from rfl, hf0]; rfl]
    refine lv_iconst (v := 0) hx hb dX6_undo_13 (by decide) ?_
    refine lv_aload_n hx hb dX6_undo_14 rfl (lv_at hl 0 rfl) ?_
    refine va_get (D := (dC, dI)) (ci := 5) (v := .ref jb) (C := RX6) (T := TX6) (N := 8) hx hb hts (fun w h => List.mem_cons_of_mem _ (inlX6 w h)) hown hK hP 0 rfl rfl 0 (by decide) (hts (.fieldLink RX6 27 "ClearingGates$Runner" "books" "LClearingGates$Books;") (List.mem_cons_of_mem _ mw_185)) (fun _ h9 => h9) rfl dX6_undo_15 ?_
    refine va_get (D := (dC, dI)) (ci := 0) (v := .ref aq1) (C := RX0) (T := TX0) (N := 13) hx hb hts (fun w h => List.mem_cons_of_mem _ (inlX0 w h)) hown hK hP 12 rfl rfl 1 (by decide) (hts (.fieldLink RX6 134 "ClearingGates$Books" "balances" "[I") (List.mem_cons_of_mem _ mw_98)) (fun _ h9 => h9) rfl dX6_undo_18 ?_
    refine lv_iconst (v := 0) hx hb dX6_undo_21 (by decide) ?_
    refine lv_bipush (v := 8) hx hb dX6_undo_22 (by decide) ?_
    refine va_copyi (D := (dC, dI)) hx hb (hml.trans hl.1.symm) hown (hts (.methodLink RX6 154 arraycopyName) (List.mem_cons_of_mem _ mw_380)) (hts (.native arraycopyName) (List.mem_cons_of_mem _ mw_330)) (hts (.static arraycopyName) (List.mem_cons_of_mem _ mw_329)) (hts (.initialized "java/lang/System") (List.mem_cons_of_mem _ mw_80)) hK hP hD hS 2 13 1 11 rfl rfl rfl rfl rfl (by decide) (by decide) (by decide) (by decide) (by decide) (fun _ _ => rfl) (Nat.le_of_ble_eq_true rfl) (by decide) dX6_undo_24 (fun H locs hP hD hS => ?_)
    generalize e_g2 : (va_cpy fr0 ag1 (0 : Int32).toNatClampNeg (0 : Int32).toNatClampNeg (8 : Int32).toNatClampNeg) = g2 at hP hD
    obtain ⟨hP, hD⟩ := X_s (ws' := [eO h0 5 [.ref jb, .ref qm, .int mc, .ref qh, .ref qk, .ref qf, .int bg, .ref jp], eR qk kk 9 fo, eI ro0 kr0 8 fr0, eI ro1 kr1 8 fr1, eI ro2 kr2 8 fr2, eI ro3 kr3 8 fr3, eI ro4 kr4 8 fr4, eI ro5 kr5 8 fr5, eI ro6 kr6 8 fr6, eI ro7 kr7 8 fr7, eI ro8 kr8 8 fr8, eL qf kf 9 ff, eO jb 0 [av0, .ref aq1, av2, av3, av4, av5, av6, av7, .long afees, av9, av10, av11, av12], eI aq1 ak1 8 g2]) hP hD rfl
    refine lv_aload_n hx hb dX6_undo_27 rfl (lv_at hl 0 rfl) ?_
    refine va_get (D := (dC, dI)) (ci := 5) (v := .ref jb) (C := RX6) (T := TX6) (N := 8) hx hb hts (fun w h => List.mem_cons_of_mem _ (inlX6 w h)) hown hK hP 0 rfl rfl 0 (by decide) (hts (.fieldLink RX6 27 "ClearingGates$Runner" "books" "LClearingGates$Books;") (List.mem_cons_of_mem _ mw_185)) (fun _ h9 => h9) rfl dX6_undo_28 ?_
    refine lv_aload_n hx hb dX6_undo_31 rfl (lv_at hl 0 rfl) ?_
    refine va_get (D := (dC, dI)) (ci := 5) (v := .ref qf) (C := RX6) (T := TX6) (N := 8) hx hb hts (fun w h => List.mem_cons_of_mem _ (inlX6 w h)) hown hK hP 0 rfl rfl 5 (by decide) (hts (.fieldLink RX6 23 "ClearingGates$Runner" "keptFees" "[J") (List.mem_cons_of_mem _ mw_193)) (fun _ h9 => h9) rfl dX6_undo_32 ?_
    refine lv_iload_n hx hb dX6_undo_35 rfl (lv_at hl 1 rfl) ?_
    refine va_lald (D := (dC, dI)) hx hb hK hP 11 10 rfl rfl (vp_in_iff.mpr ⟨by decide, by decide⟩) dX6_undo_36 ?_
    refine lv_topl (fun z3 e_z3 => ?_)
    refine va_put (D := (dC, dI)) (ci := 0) (v := .long z3) (ty := .long) (C := RX0) (T := TX0) (N := 13) hx hb hts (fun w h => List.mem_cons_of_mem _ (inlX0 w h)) tyX0 tyX0_ok nmX0 hown hK hP hD hS 12 rfl rfl 8 (by decide) (hts (.fieldLink RX6 141 "ClearingGates$Books" "fees" "J") (List.mem_cons_of_mem _ mw_116)) (fun _ h9 => h9) rfl (by decide +kernel) rfl rfl (Nat.le_of_ble_eq_true rfl) dX6_undo_37 (fun H locs hP hD hS => ?_)
    obtain ⟨hP, hD⟩ := X_s (ws' := [eO h0 5 [.ref jb, .ref qm, .int mc, .ref qh, .ref qk, .ref qf, .int bg, .ref jp], eR qk kk 9 fo, eI ro0 kr0 8 fr0, eI ro1 kr1 8 fr1, eI ro2 kr2 8 fr2, eI ro3 kr3 8 fr3, eI ro4 kr4 8 fr4, eI ro5 kr5 8 fr5, eI ro6 kr6 8 fr6, eI ro7 kr7 8 fr7, eI ro8 kr8 8 fr8, eL qf kf 9 ff, eO jb 0 [av0, .ref aq1, av2, av3, av4, av5, av6, av7, .long z3, av9, av10, av11, av12], eI aq1 ak1 8 g2]) hP hD rfl
    rw [hQ9]
    exact W.vret hx hb hr (fun t ht hW => ⟨⟨(), rfl, (by first | rfl | trivial), g2, z3, by rw [ht]; exact hP, va_K.moved hW.alike hK, hD⟩, hS.F ht⟩) hS.2.2 dX6_undo_40
  · skip
    refine lv_iload_n hx hb dX6_undo_0 rfl (lv_at hl 1 rfl) ?_
    refine lv_bipush (v := 8) hx hb dX6_undo_1 (by decide) ?_
    refine lv_icmp_le (tgt := 7) hx hb dX6_undo_3 (by decide) (fun c4 => ?_) (fun c4 => absurd (by decide) c4)
    refine lv_aload_n hx hb dX6_undo_7 rfl (lv_at hl 0 rfl) ?_
    refine va_get (D := (dC, dI)) (ci := 5) (v := .ref qk) (C := RX6) (T := TX6) (N := 8) hx hb hts (fun w h => List.mem_cons_of_mem _ (inlX6 w h)) hown hK hP 0 rfl rfl 4 (by decide) (hts (.fieldLink RX6 20 "ClearingGates$Runner" "keptBalances" "[[I") (List.mem_cons_of_mem _ mw_192)) (fun _ h9 => h9) rfl dX6_undo_8 ?_
    refine lv_iload_n hx hb dX6_undo_11 rfl (lv_at hl 1 rfl) ?_
    refine va_aldm (D := (dC, dI)) hx hb hK hP 1 0 rfl rfl (vp_in_iff.mpr ⟨by decide, by decide⟩) dX6_undo_12 ?_
    rw [show va_rf (fo (1 : Int32).toNatClampNeg) = .ref ro1 from by rw [show (1 : Int32).toNatClampNeg = 1 from rfl, hf1]; rfl]
    refine lv_iconst (v := 0) hx hb dX6_undo_13 (by decide) ?_
    refine lv_aload_n hx hb dX6_undo_14 rfl (lv_at hl 0 rfl) ?_
    refine va_get (D := (dC, dI)) (ci := 5) (v := .ref jb) (C := RX6) (T := TX6) (N := 8) hx hb hts (fun w h => List.mem_cons_of_mem _ (inlX6 w h)) hown hK hP 0 rfl rfl 0 (by decide) (hts (.fieldLink RX6 27 "ClearingGates$Runner" "books" "LClearingGates$Books;") (List.mem_cons_of_mem _ mw_185)) (fun _ h9 => h9) rfl dX6_undo_15 ?_
    refine va_get (D := (dC, dI)) (ci := 0) (v := .ref aq1) (C := RX0) (T := TX0) (N := 13) hx hb hts (fun w h => List.mem_cons_of_mem _ (inlX0 w h)) hown hK hP 12 rfl rfl 1 (by decide) (hts (.fieldLink RX6 134 "ClearingGates$Books" "balances" "[I") (List.mem_cons_of_mem _ mw_98)) (fun _ h9 => h9) rfl dX6_undo_18 ?_
    refine lv_iconst (v := 0) hx hb dX6_undo_21 (by decide) ?_
    refine lv_bipush (v := 8) hx hb dX6_undo_22 (by decide) ?_
    refine va_copyi (D := (dC, dI)) hx hb (hml.trans hl.1.symm) hown (hts (.methodLink RX6 154 arraycopyName) (List.mem_cons_of_mem _ mw_380)) (hts (.native arraycopyName) (List.mem_cons_of_mem _ mw_330)) (hts (.static arraycopyName) (List.mem_cons_of_mem _ mw_329)) (hts (.initialized "java/lang/System") (List.mem_cons_of_mem _ mw_80)) hK hP hD hS 3 13 2 11 rfl rfl rfl rfl rfl (by decide) (by decide) (by decide) (by decide) (by decide) (fun _ _ => rfl) (Nat.le_of_ble_eq_true rfl) (by decide) dX6_undo_24 (fun H locs hP hD hS => ?_)
    generalize e_g5 : (va_cpy fr1 ag1 (0 : Int32).toNatClampNeg (0 : Int32).toNatClampNeg (8 : Int32).toNatClampNeg) = g5 at hP hD
    obtain ⟨hP, hD⟩ := X_s (ws' := [eO h0 5 [.ref jb, .ref qm, .int mc, .ref qh, .ref qk, .ref qf, .int bg, .ref jp], eR qk kk 9 fo, eI ro0 kr0 8 fr0, eI ro1 kr1 8 fr1, eI ro2 kr2 8 fr2, eI ro3 kr3 8 fr3, eI ro4 kr4 8 fr4, eI ro5 kr5 8 fr5, eI ro6 kr6 8 fr6, eI ro7 kr7 8 fr7, eI ro8 kr8 8 fr8, eL qf kf 9 ff, eO jb 0 [av0, .ref aq1, av2, av3, av4, av5, av6, av7, .long afees, av9, av10, av11, av12], eI aq1 ak1 8 g5]) hP hD rfl
    refine lv_aload_n hx hb dX6_undo_27 rfl (lv_at hl 0 rfl) ?_
    refine va_get (D := (dC, dI)) (ci := 5) (v := .ref jb) (C := RX6) (T := TX6) (N := 8) hx hb hts (fun w h => List.mem_cons_of_mem _ (inlX6 w h)) hown hK hP 0 rfl rfl 0 (by decide) (hts (.fieldLink RX6 27 "ClearingGates$Runner" "books" "LClearingGates$Books;") (List.mem_cons_of_mem _ mw_185)) (fun _ h9 => h9) rfl dX6_undo_28 ?_
    refine lv_aload_n hx hb dX6_undo_31 rfl (lv_at hl 0 rfl) ?_
    refine va_get (D := (dC, dI)) (ci := 5) (v := .ref qf) (C := RX6) (T := TX6) (N := 8) hx hb hts (fun w h => List.mem_cons_of_mem _ (inlX6 w h)) hown hK hP 0 rfl rfl 5 (by decide) (hts (.fieldLink RX6 23 "ClearingGates$Runner" "keptFees" "[J") (List.mem_cons_of_mem _ mw_193)) (fun _ h9 => h9) rfl dX6_undo_32 ?_
    refine lv_iload_n hx hb dX6_undo_35 rfl (lv_at hl 1 rfl) ?_
    refine va_lald (D := (dC, dI)) hx hb hK hP 11 10 rfl rfl (vp_in_iff.mpr ⟨by decide, by decide⟩) dX6_undo_36 ?_
    refine lv_topl (fun z6 e_z6 => ?_)
    refine va_put (D := (dC, dI)) (ci := 0) (v := .long z6) (ty := .long) (C := RX0) (T := TX0) (N := 13) hx hb hts (fun w h => List.mem_cons_of_mem _ (inlX0 w h)) tyX0 tyX0_ok nmX0 hown hK hP hD hS 12 rfl rfl 8 (by decide) (hts (.fieldLink RX6 141 "ClearingGates$Books" "fees" "J") (List.mem_cons_of_mem _ mw_116)) (fun _ h9 => h9) rfl (by decide +kernel) rfl rfl (Nat.le_of_ble_eq_true rfl) dX6_undo_37 (fun H locs hP hD hS => ?_)
    obtain ⟨hP, hD⟩ := X_s (ws' := [eO h0 5 [.ref jb, .ref qm, .int mc, .ref qh, .ref qk, .ref qf, .int bg, .ref jp], eR qk kk 9 fo, eI ro0 kr0 8 fr0, eI ro1 kr1 8 fr1, eI ro2 kr2 8 fr2, eI ro3 kr3 8 fr3, eI ro4 kr4 8 fr4, eI ro5 kr5 8 fr5, eI ro6 kr6 8 fr6, eI ro7 kr7 8 fr7, eI ro8 kr8 8 fr8, eL qf kf 9 ff, eO jb 0 [av0, .ref aq1, av2, av3, av4, av5, av6, av7, .long z6, av9, av10, av11, av12], eI aq1 ak1 8 g5]) hP hD rfl
    rw [hQ9]
    exact W.vret hx hb hr (fun t ht hW => ⟨⟨(), rfl, (by first | rfl | trivial), g5, z6, by rw [ht]; exact hP, va_K.moved hW.alike hK, hD⟩, hS.F ht⟩) hS.2.2 dX6_undo_40
  · skip
    refine lv_iload_n hx hb dX6_undo_0 rfl (lv_at hl 1 rfl) ?_
    refine lv_bipush (v := 8) hx hb dX6_undo_1 (by decide) ?_
    refine lv_icmp_le (tgt := 7) hx hb dX6_undo_3 (by decide) (fun c7 => ?_) (fun c7 => absurd (by decide) c7)
    refine lv_aload_n hx hb dX6_undo_7 rfl (lv_at hl 0 rfl) ?_
    refine va_get (D := (dC, dI)) (ci := 5) (v := .ref qk) (C := RX6) (T := TX6) (N := 8) hx hb hts (fun w h => List.mem_cons_of_mem _ (inlX6 w h)) hown hK hP 0 rfl rfl 4 (by decide) (hts (.fieldLink RX6 20 "ClearingGates$Runner" "keptBalances" "[[I") (List.mem_cons_of_mem _ mw_192)) (fun _ h9 => h9) rfl dX6_undo_8 ?_
    refine lv_iload_n hx hb dX6_undo_11 rfl (lv_at hl 1 rfl) ?_
    refine va_aldm (D := (dC, dI)) hx hb hK hP 1 0 rfl rfl (vp_in_iff.mpr ⟨by decide, by decide⟩) dX6_undo_12 ?_
    rw [show va_rf (fo (2 : Int32).toNatClampNeg) = .ref ro2 from by rw [show (2 : Int32).toNatClampNeg = 2 from rfl, hf2]; rfl]
    refine lv_iconst (v := 0) hx hb dX6_undo_13 (by decide) ?_
    refine lv_aload_n hx hb dX6_undo_14 rfl (lv_at hl 0 rfl) ?_
    refine va_get (D := (dC, dI)) (ci := 5) (v := .ref jb) (C := RX6) (T := TX6) (N := 8) hx hb hts (fun w h => List.mem_cons_of_mem _ (inlX6 w h)) hown hK hP 0 rfl rfl 0 (by decide) (hts (.fieldLink RX6 27 "ClearingGates$Runner" "books" "LClearingGates$Books;") (List.mem_cons_of_mem _ mw_185)) (fun _ h9 => h9) rfl dX6_undo_15 ?_
    refine va_get (D := (dC, dI)) (ci := 0) (v := .ref aq1) (C := RX0) (T := TX0) (N := 13) hx hb hts (fun w h => List.mem_cons_of_mem _ (inlX0 w h)) hown hK hP 12 rfl rfl 1 (by decide) (hts (.fieldLink RX6 134 "ClearingGates$Books" "balances" "[I") (List.mem_cons_of_mem _ mw_98)) (fun _ h9 => h9) rfl dX6_undo_18 ?_
    refine lv_iconst (v := 0) hx hb dX6_undo_21 (by decide) ?_
    refine lv_bipush (v := 8) hx hb dX6_undo_22 (by decide) ?_
    refine va_copyi (D := (dC, dI)) hx hb (hml.trans hl.1.symm) hown (hts (.methodLink RX6 154 arraycopyName) (List.mem_cons_of_mem _ mw_380)) (hts (.native arraycopyName) (List.mem_cons_of_mem _ mw_330)) (hts (.static arraycopyName) (List.mem_cons_of_mem _ mw_329)) (hts (.initialized "java/lang/System") (List.mem_cons_of_mem _ mw_80)) hK hP hD hS 4 13 3 11 rfl rfl rfl rfl rfl (by decide) (by decide) (by decide) (by decide) (by decide) (fun _ _ => rfl) (Nat.le_of_ble_eq_true rfl) (by decide) dX6_undo_24 (fun H locs hP hD hS => ?_)
    generalize e_g8 : (va_cpy fr2 ag1 (0 : Int32).toNatClampNeg (0 : Int32).toNatClampNeg (8 : Int32).toNatClampNeg) = g8 at hP hD
    obtain ⟨hP, hD⟩ := X_s (ws' := [eO h0 5 [.ref jb, .ref qm, .int mc, .ref qh, .ref qk, .ref qf, .int bg, .ref jp], eR qk kk 9 fo, eI ro0 kr0 8 fr0, eI ro1 kr1 8 fr1, eI ro2 kr2 8 fr2, eI ro3 kr3 8 fr3, eI ro4 kr4 8 fr4, eI ro5 kr5 8 fr5, eI ro6 kr6 8 fr6, eI ro7 kr7 8 fr7, eI ro8 kr8 8 fr8, eL qf kf 9 ff, eO jb 0 [av0, .ref aq1, av2, av3, av4, av5, av6, av7, .long afees, av9, av10, av11, av12], eI aq1 ak1 8 g8]) hP hD rfl
    refine lv_aload_n hx hb dX6_undo_27 rfl (lv_at hl 0 rfl) ?_
    refine va_get (D := (dC, dI)) (ci := 5) (v := .ref jb) (C := RX6) (T := TX6) (N := 8) hx hb hts (fun w h => List.mem_cons_of_mem _ (inlX6 w h)) hown hK hP 0 rfl rfl 0 (by decide) (hts (.fieldLink RX6 27 "ClearingGates$Runner" "books" "LClearingGates$Books;") (List.mem_cons_of_mem _ mw_185)) (fun _ h9 => h9) rfl dX6_undo_28 ?_
    refine lv_aload_n hx hb dX6_undo_31 rfl (lv_at hl 0 rfl) ?_
    refine va_get (D := (dC, dI)) (ci := 5) (v := .ref qf) (C := RX6) (T := TX6) (N := 8) hx hb hts (fun w h => List.mem_cons_of_mem _ (inlX6 w h)) hown hK hP 0 rfl rfl 5 (by decide) (hts (.fieldLink RX6 23 "ClearingGates$Runner" "keptFees" "[J") (List.mem_cons_of_mem _ mw_193)) (fun _ h9 => h9) rfl dX6_undo_32 ?_
    refine lv_iload_n hx hb dX6_undo_35 rfl (lv_at hl 1 rfl) ?_
    refine va_lald (D := (dC, dI)) hx hb hK hP 11 10 rfl rfl (vp_in_iff.mpr ⟨by decide, by decide⟩) dX6_undo_36 ?_
    refine lv_topl (fun z9 e_z9 => ?_)
    refine va_put (D := (dC, dI)) (ci := 0) (v := .long z9) (ty := .long) (C := RX0) (T := TX0) (N := 13) hx hb hts (fun w h => List.mem_cons_of_mem _ (inlX0 w h)) tyX0 tyX0_ok nmX0 hown hK hP hD hS 12 rfl rfl 8 (by decide) (hts (.fieldLink RX6 141 "ClearingGates$Books" "fees" "J") (List.mem_cons_of_mem _ mw_116)) (fun _ h9 => h9) rfl (by decide +kernel) rfl rfl (Nat.le_of_ble_eq_true rfl) dX6_undo_37 (fun H locs hP hD hS => ?_)
    obtain ⟨hP, hD⟩ := X_s (ws' := [eO h0 5 [.ref jb, .ref qm, .int mc, .ref qh, .ref qk, .ref qf, .int bg, .ref jp], eR qk kk 9 fo, eI ro0 kr0 8 fr0, eI ro1 kr1 8 fr1, eI ro2 kr2 8 fr2, eI ro3 kr3 8 fr3, eI ro4 kr4 8 fr4, eI ro5 kr5 8 fr5, eI ro6 kr6 8 fr6, eI ro7 kr7 8 fr7, eI ro8 kr8 8 fr8, eL qf kf 9 ff, eO jb 0 [av0, .ref aq1, av2, av3, av4, av5, av6, av7, .long z9, av9, av10, av11, av12], eI aq1 ak1 8 g8]) hP hD rfl
    rw [hQ9]
    exact W.vret hx hb hr (fun t ht hW => ⟨⟨(), rfl, (by first | rfl | trivial), g8, z9, by rw [ht]; exact hP, va_K.moved hW.alike hK, hD⟩, hS.F ht⟩) hS.2.2 dX6_undo_40
  · skip
    refine lv_iload_n hx hb dX6_undo_0 rfl (lv_at hl 1 rfl) ?_
    refine lv_bipush (v := 8) hx hb dX6_undo_1 (by decide) ?_
    refine lv_icmp_le (tgt := 7) hx hb dX6_undo_3 (by decide) (fun c10 => ?_) (fun c10 => absurd (by decide) c10)
    refine lv_aload_n hx hb dX6_undo_7 rfl (lv_at hl 0 rfl) ?_
    refine va_get (D := (dC, dI)) (ci := 5) (v := .ref qk) (C := RX6) (T := TX6) (N := 8) hx hb hts (fun w h => List.mem_cons_of_mem _ (inlX6 w h)) hown hK hP 0 rfl rfl 4 (by decide) (hts (.fieldLink RX6 20 "ClearingGates$Runner" "keptBalances" "[[I") (List.mem_cons_of_mem _ mw_192)) (fun _ h9 => h9) rfl dX6_undo_8 ?_
    refine lv_iload_n hx hb dX6_undo_11 rfl (lv_at hl 1 rfl) ?_
    refine va_aldm (D := (dC, dI)) hx hb hK hP 1 0 rfl rfl (vp_in_iff.mpr ⟨by decide, by decide⟩) dX6_undo_12 ?_
    rw [show va_rf (fo (3 : Int32).toNatClampNeg) = .ref ro3 from by rw [show (3 : Int32).toNatClampNeg = 3 from rfl, hf3]; rfl]
    refine lv_iconst (v := 0) hx hb dX6_undo_13 (by decide) ?_
    refine lv_aload_n hx hb dX6_undo_14 rfl (lv_at hl 0 rfl) ?_
    refine va_get (D := (dC, dI)) (ci := 5) (v := .ref jb) (C := RX6) (T := TX6) (N := 8) hx hb hts (fun w h => List.mem_cons_of_mem _ (inlX6 w h)) hown hK hP 0 rfl rfl 0 (by decide) (hts (.fieldLink RX6 27 "ClearingGates$Runner" "books" "LClearingGates$Books;") (List.mem_cons_of_mem _ mw_185)) (fun _ h9 => h9) rfl dX6_undo_15 ?_
    refine va_get (D := (dC, dI)) (ci := 0) (v := .ref aq1) (C := RX0) (T := TX0) (N := 13) hx hb hts (fun w h => List.mem_cons_of_mem _ (inlX0 w h)) hown hK hP 12 rfl rfl 1 (by decide) (hts (.fieldLink RX6 134 "ClearingGates$Books" "balances" "[I") (List.mem_cons_of_mem _ mw_98)) (fun _ h9 => h9) rfl dX6_undo_18 ?_
    refine lv_iconst (v := 0) hx hb dX6_undo_21 (by decide) ?_
    refine lv_bipush (v := 8) hx hb dX6_undo_22 (by decide) ?_
    refine va_copyi (D := (dC, dI)) hx hb (hml.trans hl.1.symm) hown (hts (.methodLink RX6 154 arraycopyName) (List.mem_cons_of_mem _ mw_380)) (hts (.native arraycopyName) (List.mem_cons_of_mem _ mw_330)) (hts (.static arraycopyName) (List.mem_cons_of_mem _ mw_329)) (hts (.initialized "java/lang/System") (List.mem_cons_of_mem _ mw_80)) hK hP hD hS 5 13 4 11 rfl rfl rfl rfl rfl (by decide) (by decide) (by decide) (by decide) (by decide) (fun _ _ => rfl) (Nat.le_of_ble_eq_true rfl) (by decide) dX6_undo_24 (fun H locs hP hD hS => ?_)
    generalize e_g11 : (va_cpy fr3 ag1 (0 : Int32).toNatClampNeg (0 : Int32).toNatClampNeg (8 : Int32).toNatClampNeg) = g11 at hP hD
    obtain ⟨hP, hD⟩ := X_s (ws' := [eO h0 5 [.ref jb, .ref qm, .int mc, .ref qh, .ref qk, .ref qf, .int bg, .ref jp], eR qk kk 9 fo, eI ro0 kr0 8 fr0, eI ro1 kr1 8 fr1, eI ro2 kr2 8 fr2, eI ro3 kr3 8 fr3, eI ro4 kr4 8 fr4, eI ro5 kr5 8 fr5, eI ro6 kr6 8 fr6, eI ro7 kr7 8 fr7, eI ro8 kr8 8 fr8, eL qf kf 9 ff, eO jb 0 [av0, .ref aq1, av2, av3, av4, av5, av6, av7, .long afees, av9, av10, av11, av12], eI aq1 ak1 8 g11]) hP hD rfl
    refine lv_aload_n hx hb dX6_undo_27 rfl (lv_at hl 0 rfl) ?_
    refine va_get (D := (dC, dI)) (ci := 5) (v := .ref jb) (C := RX6) (T := TX6) (N := 8) hx hb hts (fun w h => List.mem_cons_of_mem _ (inlX6 w h)) hown hK hP 0 rfl rfl 0 (by decide) (hts (.fieldLink RX6 27 "ClearingGates$Runner" "books" "LClearingGates$Books;") (List.mem_cons_of_mem _ mw_185)) (fun _ h9 => h9) rfl dX6_undo_28 ?_
    refine lv_aload_n hx hb dX6_undo_31 rfl (lv_at hl 0 rfl) ?_
    refine va_get (D := (dC, dI)) (ci := 5) (v := .ref qf) (C := RX6) (T := TX6) (N := 8) hx hb hts (fun w h => List.mem_cons_of_mem _ (inlX6 w h)) hown hK hP 0 rfl rfl 5 (by decide) (hts (.fieldLink RX6 23 "ClearingGates$Runner" "keptFees" "[J") (List.mem_cons_of_mem _ mw_193)) (fun _ h9 => h9) rfl dX6_undo_32 ?_
    refine lv_iload_n hx hb dX6_undo_35 rfl (lv_at hl 1 rfl) ?_
    refine va_lald (D := (dC, dI)) hx hb hK hP 11 10 rfl rfl (vp_in_iff.mpr ⟨by decide, by decide⟩) dX6_undo_36 ?_
    refine lv_topl (fun z12 e_z12 => ?_)
    refine va_put (D := (dC, dI)) (ci := 0) (v := .long z12) (ty := .long) (C := RX0) (T := TX0) (N := 13) hx hb hts (fun w h => List.mem_cons_of_mem _ (inlX0 w h)) tyX0 tyX0_ok nmX0 hown hK hP hD hS 12 rfl rfl 8 (by decide) (hts (.fieldLink RX6 141 "ClearingGates$Books" "fees" "J") (List.mem_cons_of_mem _ mw_116)) (fun _ h9 => h9) rfl (by decide +kernel) rfl rfl (Nat.le_of_ble_eq_true rfl) dX6_undo_37 (fun H locs hP hD hS => ?_)
    obtain ⟨hP, hD⟩ := X_s (ws' := [eO h0 5 [.ref jb, .ref qm, .int mc, .ref qh, .ref qk, .ref qf, .int bg, .ref jp], eR qk kk 9 fo, eI ro0 kr0 8 fr0, eI ro1 kr1 8 fr1, eI ro2 kr2 8 fr2, eI ro3 kr3 8 fr3, eI ro4 kr4 8 fr4, eI ro5 kr5 8 fr5, eI ro6 kr6 8 fr6, eI ro7 kr7 8 fr7, eI ro8 kr8 8 fr8, eL qf kf 9 ff, eO jb 0 [av0, .ref aq1, av2, av3, av4, av5, av6, av7, .long z12, av9, av10, av11, av12], eI aq1 ak1 8 g11]) hP hD rfl
    rw [hQ9]
    exact W.vret hx hb hr (fun t ht hW => ⟨⟨(), rfl, (by first | rfl | trivial), g11, z12, by rw [ht]; exact hP, va_K.moved hW.alike hK, hD⟩, hS.F ht⟩) hS.2.2 dX6_undo_40
  · skip
    refine lv_iload_n hx hb dX6_undo_0 rfl (lv_at hl 1 rfl) ?_
    refine lv_bipush (v := 8) hx hb dX6_undo_1 (by decide) ?_
    refine lv_icmp_le (tgt := 7) hx hb dX6_undo_3 (by decide) (fun c13 => ?_) (fun c13 => absurd (by decide) c13)
    refine lv_aload_n hx hb dX6_undo_7 rfl (lv_at hl 0 rfl) ?_
    refine va_get (D := (dC, dI)) (ci := 5) (v := .ref qk) (C := RX6) (T := TX6) (N := 8) hx hb hts (fun w h => List.mem_cons_of_mem _ (inlX6 w h)) hown hK hP 0 rfl rfl 4 (by decide) (hts (.fieldLink RX6 20 "ClearingGates$Runner" "keptBalances" "[[I") (List.mem_cons_of_mem _ mw_192)) (fun _ h9 => h9) rfl dX6_undo_8 ?_
    refine lv_iload_n hx hb dX6_undo_11 rfl (lv_at hl 1 rfl) ?_
    refine va_aldm (D := (dC, dI)) hx hb hK hP 1 0 rfl rfl (vp_in_iff.mpr ⟨by decide, by decide⟩) dX6_undo_12 ?_
    rw [show va_rf (fo (4 : Int32).toNatClampNeg) = .ref ro4 from by rw [show (4 : Int32).toNatClampNeg = 4 from rfl, hf4]; rfl]
    refine lv_iconst (v := 0) hx hb dX6_undo_13 (by decide) ?_
    refine lv_aload_n hx hb dX6_undo_14 rfl (lv_at hl 0 rfl) ?_
    refine va_get (D := (dC, dI)) (ci := 5) (v := .ref jb) (C := RX6) (T := TX6) (N := 8) hx hb hts (fun w h => List.mem_cons_of_mem _ (inlX6 w h)) hown hK hP 0 rfl rfl 0 (by decide) (hts (.fieldLink RX6 27 "ClearingGates$Runner" "books" "LClearingGates$Books;") (List.mem_cons_of_mem _ mw_185)) (fun _ h9 => h9) rfl dX6_undo_15 ?_
    refine va_get (D := (dC, dI)) (ci := 0) (v := .ref aq1) (C := RX0) (T := TX0) (N := 13) hx hb hts (fun w h => List.mem_cons_of_mem _ (inlX0 w h)) hown hK hP 12 rfl rfl 1 (by decide) (hts (.fieldLink RX6 134 "ClearingGates$Books" "balances" "[I") (List.mem_cons_of_mem _ mw_98)) (fun _ h9 => h9) rfl dX6_undo_18 ?_
    refine lv_iconst (v := 0) hx hb dX6_undo_21 (by decide) ?_
    refine lv_bipush (v := 8) hx hb dX6_undo_22 (by decide) ?_
    refine va_copyi (D := (dC, dI)) hx hb (hml.trans hl.1.symm) hown (hts (.methodLink RX6 154 arraycopyName) (List.mem_cons_of_mem _ mw_380)) (hts (.native arraycopyName) (List.mem_cons_of_mem _ mw_330)) (hts (.static arraycopyName) (List.mem_cons_of_mem _ mw_329)) (hts (.initialized "java/lang/System") (List.mem_cons_of_mem _ mw_80)) hK hP hD hS 6 13 5 11 rfl rfl rfl rfl rfl (by decide) (by decide) (by decide) (by decide) (by decide) (fun _ _ => rfl) (Nat.le_of_ble_eq_true rfl) (by decide) dX6_undo_24 (fun H locs hP hD hS => ?_)
    generalize e_g14 : (va_cpy fr4 ag1 (0 : Int32).toNatClampNeg (0 : Int32).toNatClampNeg (8 : Int32).toNatClampNeg) = g14 at hP hD
    obtain ⟨hP, hD⟩ := X_s (ws' := [eO h0 5 [.ref jb, .ref qm, .int mc, .ref qh, .ref qk, .ref qf, .int bg, .ref jp], eR qk kk 9 fo, eI ro0 kr0 8 fr0, eI ro1 kr1 8 fr1, eI ro2 kr2 8 fr2, eI ro3 kr3 8 fr3, eI ro4 kr4 8 fr4, eI ro5 kr5 8 fr5, eI ro6 kr6 8 fr6, eI ro7 kr7 8 fr7, eI ro8 kr8 8 fr8, eL qf kf 9 ff, eO jb 0 [av0, .ref aq1, av2, av3, av4, av5, av6, av7, .long afees, av9, av10, av11, av12], eI aq1 ak1 8 g14]) hP hD rfl
    refine lv_aload_n hx hb dX6_undo_27 rfl (lv_at hl 0 rfl) ?_
    refine va_get (D := (dC, dI)) (ci := 5) (v := .ref jb) (C := RX6) (T := TX6) (N := 8) hx hb hts (fun w h => List.mem_cons_of_mem _ (inlX6 w h)) hown hK hP 0 rfl rfl 0 (by decide) (hts (.fieldLink RX6 27 "ClearingGates$Runner" "books" "LClearingGates$Books;") (List.mem_cons_of_mem _ mw_185)) (fun _ h9 => h9) rfl dX6_undo_28 ?_
    refine lv_aload_n hx hb dX6_undo_31 rfl (lv_at hl 0 rfl) ?_
    refine va_get (D := (dC, dI)) (ci := 5) (v := .ref qf) (C := RX6) (T := TX6) (N := 8) hx hb hts (fun w h => List.mem_cons_of_mem _ (inlX6 w h)) hown hK hP 0 rfl rfl 5 (by decide) (hts (.fieldLink RX6 23 "ClearingGates$Runner" "keptFees" "[J") (List.mem_cons_of_mem _ mw_193)) (fun _ h9 => h9) rfl dX6_undo_32 ?_
    refine lv_iload_n hx hb dX6_undo_35 rfl (lv_at hl 1 rfl) ?_
    refine va_lald (D := (dC, dI)) hx hb hK hP 11 10 rfl rfl (vp_in_iff.mpr ⟨by decide, by decide⟩) dX6_undo_36 ?_
    refine lv_topl (fun z15 e_z15 => ?_)
    refine va_put (D := (dC, dI)) (ci := 0) (v := .long z15) (ty := .long) (C := RX0) (T := TX0) (N := 13) hx hb hts (fun w h => List.mem_cons_of_mem _ (inlX0 w h)) tyX0 tyX0_ok nmX0 hown hK hP hD hS 12 rfl rfl 8 (by decide) (hts (.fieldLink RX6 141 "ClearingGates$Books" "fees" "J") (List.mem_cons_of_mem _ mw_116)) (fun _ h9 => h9) rfl (by decide +kernel) rfl rfl (Nat.le_of_ble_eq_true rfl) dX6_undo_37 (fun H locs hP hD hS => ?_)
    obtain ⟨hP, hD⟩ := X_s (ws' := [eO h0 5 [.ref jb, .ref qm, .int mc, .ref qh, .ref qk, .ref qf, .int bg, .ref jp], eR qk kk 9 fo, eI ro0 kr0 8 fr0, eI ro1 kr1 8 fr1, eI ro2 kr2 8 fr2, eI ro3 kr3 8 fr3, eI ro4 kr4 8 fr4, eI ro5 kr5 8 fr5, eI ro6 kr6 8 fr6, eI ro7 kr7 8 fr7, eI ro8 kr8 8 fr8, eL qf kf 9 ff, eO jb 0 [av0, .ref aq1, av2, av3, av4, av5, av6, av7, .long z15, av9, av10, av11, av12], eI aq1 ak1 8 g14]) hP hD rfl
    rw [hQ9]
    exact W.vret hx hb hr (fun t ht hW => ⟨⟨(), rfl, (by first | rfl | trivial), g14, z15, by rw [ht]; exact hP, va_K.moved hW.alike hK, hD⟩, hS.F ht⟩) hS.2.2 dX6_undo_40
  · skip
    refine lv_iload_n hx hb dX6_undo_0 rfl (lv_at hl 1 rfl) ?_
    refine lv_bipush (v := 8) hx hb dX6_undo_1 (by decide) ?_
    refine lv_icmp_le (tgt := 7) hx hb dX6_undo_3 (by decide) (fun c16 => ?_) (fun c16 => absurd (by decide) c16)
    refine lv_aload_n hx hb dX6_undo_7 rfl (lv_at hl 0 rfl) ?_
    refine va_get (D := (dC, dI)) (ci := 5) (v := .ref qk) (C := RX6) (T := TX6) (N := 8) hx hb hts (fun w h => List.mem_cons_of_mem _ (inlX6 w h)) hown hK hP 0 rfl rfl 4 (by decide) (hts (.fieldLink RX6 20 "ClearingGates$Runner" "keptBalances" "[[I") (List.mem_cons_of_mem _ mw_192)) (fun _ h9 => h9) rfl dX6_undo_8 ?_
    refine lv_iload_n hx hb dX6_undo_11 rfl (lv_at hl 1 rfl) ?_
    refine va_aldm (D := (dC, dI)) hx hb hK hP 1 0 rfl rfl (vp_in_iff.mpr ⟨by decide, by decide⟩) dX6_undo_12 ?_
    rw [show va_rf (fo (5 : Int32).toNatClampNeg) = .ref ro5 from by rw [show (5 : Int32).toNatClampNeg = 5 from rfl, hf5]; rfl]
    refine lv_iconst (v := 0) hx hb dX6_undo_13 (by decide) ?_
    refine lv_aload_n hx hb dX6_undo_14 rfl (lv_at hl 0 rfl) ?_
    refine va_get (D := (dC, dI)) (ci := 5) (v := .ref jb) (C := RX6) (T := TX6) (N := 8) hx hb hts (fun w h => List.mem_cons_of_mem _ (inlX6 w h)) hown hK hP 0 rfl rfl 0 (by decide) (hts (.fieldLink RX6 27 "ClearingGates$Runner" "books" "LClearingGates$Books;") (List.mem_cons_of_mem _ mw_185)) (fun _ h9 => h9) rfl dX6_undo_15 ?_
    refine va_get (D := (dC, dI)) (ci := 0) (v := .ref aq1) (C := RX0) (T := TX0) (N := 13) hx hb hts (fun w h => List.mem_cons_of_mem _ (inlX0 w h)) hown hK hP 12 rfl rfl 1 (by decide) (hts (.fieldLink RX6 134 "ClearingGates$Books" "balances" "[I") (List.mem_cons_of_mem _ mw_98)) (fun _ h9 => h9) rfl dX6_undo_18 ?_
    refine lv_iconst (v := 0) hx hb dX6_undo_21 (by decide) ?_
    refine lv_bipush (v := 8) hx hb dX6_undo_22 (by decide) ?_
    refine va_copyi (D := (dC, dI)) hx hb (hml.trans hl.1.symm) hown (hts (.methodLink RX6 154 arraycopyName) (List.mem_cons_of_mem _ mw_380)) (hts (.native arraycopyName) (List.mem_cons_of_mem _ mw_330)) (hts (.static arraycopyName) (List.mem_cons_of_mem _ mw_329)) (hts (.initialized "java/lang/System") (List.mem_cons_of_mem _ mw_80)) hK hP hD hS 7 13 6 11 rfl rfl rfl rfl rfl (by decide) (by decide) (by decide) (by decide) (by decide) (fun _ _ => rfl) (Nat.le_of_ble_eq_true rfl) (by decide) dX6_undo_24 (fun H locs hP hD hS => ?_)
    generalize e_g17 : (va_cpy fr5 ag1 (0 : Int32).toNatClampNeg (0 : Int32).toNatClampNeg (8 : Int32).toNatClampNeg) = g17 at hP hD
    obtain ⟨hP, hD⟩ := X_s (ws' := [eO h0 5 [.ref jb, .ref qm, .int mc, .ref qh, .ref qk, .ref qf, .int bg, .ref jp], eR qk kk 9 fo, eI ro0 kr0 8 fr0, eI ro1 kr1 8 fr1, eI ro2 kr2 8 fr2, eI ro3 kr3 8 fr3, eI ro4 kr4 8 fr4, eI ro5 kr5 8 fr5, eI ro6 kr6 8 fr6, eI ro7 kr7 8 fr7, eI ro8 kr8 8 fr8, eL qf kf 9 ff, eO jb 0 [av0, .ref aq1, av2, av3, av4, av5, av6, av7, .long afees, av9, av10, av11, av12], eI aq1 ak1 8 g17]) hP hD rfl
    refine lv_aload_n hx hb dX6_undo_27 rfl (lv_at hl 0 rfl) ?_
    refine va_get (D := (dC, dI)) (ci := 5) (v := .ref jb) (C := RX6) (T := TX6) (N := 8) hx hb hts (fun w h => List.mem_cons_of_mem _ (inlX6 w h)) hown hK hP 0 rfl rfl 0 (by decide) (hts (.fieldLink RX6 27 "ClearingGates$Runner" "books" "LClearingGates$Books;") (List.mem_cons_of_mem _ mw_185)) (fun _ h9 => h9) rfl dX6_undo_28 ?_
    refine lv_aload_n hx hb dX6_undo_31 rfl (lv_at hl 0 rfl) ?_
    refine va_get (D := (dC, dI)) (ci := 5) (v := .ref qf) (C := RX6) (T := TX6) (N := 8) hx hb hts (fun w h => List.mem_cons_of_mem _ (inlX6 w h)) hown hK hP 0 rfl rfl 5 (by decide) (hts (.fieldLink RX6 23 "ClearingGates$Runner" "keptFees" "[J") (List.mem_cons_of_mem _ mw_193)) (fun _ h9 => h9) rfl dX6_undo_32 ?_
    refine lv_iload_n hx hb dX6_undo_35 rfl (lv_at hl 1 rfl) ?_
    refine va_lald (D := (dC, dI)) hx hb hK hP 11 10 rfl rfl (vp_in_iff.mpr ⟨by decide, by decide⟩) dX6_undo_36 ?_
    refine lv_topl (fun z18 e_z18 => ?_)
    refine va_put (D := (dC, dI)) (ci := 0) (v := .long z18) (ty := .long) (C := RX0) (T := TX0) (N := 13) hx hb hts (fun w h => List.mem_cons_of_mem _ (inlX0 w h)) tyX0 tyX0_ok nmX0 hown hK hP hD hS 12 rfl rfl 8 (by decide) (hts (.fieldLink RX6 141 "ClearingGates$Books" "fees" "J") (List.mem_cons_of_mem _ mw_116)) (fun _ h9 => h9) rfl (by decide +kernel) rfl rfl (Nat.le_of_ble_eq_true rfl) dX6_undo_37 (fun H locs hP hD hS => ?_)
    obtain ⟨hP, hD⟩ := X_s (ws' := [eO h0 5 [.ref jb, .ref qm, .int mc, .ref qh, .ref qk, .ref qf, .int bg, .ref jp], eR qk kk 9 fo, eI ro0 kr0 8 fr0, eI ro1 kr1 8 fr1, eI ro2 kr2 8 fr2, eI ro3 kr3 8 fr3, eI ro4 kr4 8 fr4, eI ro5 kr5 8 fr5, eI ro6 kr6 8 fr6, eI ro7 kr7 8 fr7, eI ro8 kr8 8 fr8, eL qf kf 9 ff, eO jb 0 [av0, .ref aq1, av2, av3, av4, av5, av6, av7, .long z18, av9, av10, av11, av12], eI aq1 ak1 8 g17]) hP hD rfl
    rw [hQ9]
    exact W.vret hx hb hr (fun t ht hW => ⟨⟨(), rfl, (by first | rfl | trivial), g17, z18, by rw [ht]; exact hP, va_K.moved hW.alike hK, hD⟩, hS.F ht⟩) hS.2.2 dX6_undo_40
  · skip
    refine lv_iload_n hx hb dX6_undo_0 rfl (lv_at hl 1 rfl) ?_
    refine lv_bipush (v := 8) hx hb dX6_undo_1 (by decide) ?_
    refine lv_icmp_le (tgt := 7) hx hb dX6_undo_3 (by decide) (fun c19 => ?_) (fun c19 => absurd (by decide) c19)
    refine lv_aload_n hx hb dX6_undo_7 rfl (lv_at hl 0 rfl) ?_
    refine va_get (D := (dC, dI)) (ci := 5) (v := .ref qk) (C := RX6) (T := TX6) (N := 8) hx hb hts (fun w h => List.mem_cons_of_mem _ (inlX6 w h)) hown hK hP 0 rfl rfl 4 (by decide) (hts (.fieldLink RX6 20 "ClearingGates$Runner" "keptBalances" "[[I") (List.mem_cons_of_mem _ mw_192)) (fun _ h9 => h9) rfl dX6_undo_8 ?_
    refine lv_iload_n hx hb dX6_undo_11 rfl (lv_at hl 1 rfl) ?_
    refine va_aldm (D := (dC, dI)) hx hb hK hP 1 0 rfl rfl (vp_in_iff.mpr ⟨by decide, by decide⟩) dX6_undo_12 ?_
    rw [show va_rf (fo (6 : Int32).toNatClampNeg) = .ref ro6 from by rw [show (6 : Int32).toNatClampNeg = 6 from rfl, hf6]; rfl]
    refine lv_iconst (v := 0) hx hb dX6_undo_13 (by decide) ?_
    refine lv_aload_n hx hb dX6_undo_14 rfl (lv_at hl 0 rfl) ?_
    refine va_get (D := (dC, dI)) (ci := 5) (v := .ref jb) (C := RX6) (T := TX6) (N := 8) hx hb hts (fun w h => List.mem_cons_of_mem _ (inlX6 w h)) hown hK hP 0 rfl rfl 0 (by decide) (hts (.fieldLink RX6 27 "ClearingGates$Runner" "books" "LClearingGates$Books;") (List.mem_cons_of_mem _ mw_185)) (fun _ h9 => h9) rfl dX6_undo_15 ?_
    refine va_get (D := (dC, dI)) (ci := 0) (v := .ref aq1) (C := RX0) (T := TX0) (N := 13) hx hb hts (fun w h => List.mem_cons_of_mem _ (inlX0 w h)) hown hK hP 12 rfl rfl 1 (by decide) (hts (.fieldLink RX6 134 "ClearingGates$Books" "balances" "[I") (List.mem_cons_of_mem _ mw_98)) (fun _ h9 => h9) rfl dX6_undo_18 ?_
    refine lv_iconst (v := 0) hx hb dX6_undo_21 (by decide) ?_
    refine lv_bipush (v := 8) hx hb dX6_undo_22 (by decide) ?_
    refine va_copyi (D := (dC, dI)) hx hb (hml.trans hl.1.symm) hown (hts (.methodLink RX6 154 arraycopyName) (List.mem_cons_of_mem _ mw_380)) (hts (.native arraycopyName) (List.mem_cons_of_mem _ mw_330)) (hts (.static arraycopyName) (List.mem_cons_of_mem _ mw_329)) (hts (.initialized "java/lang/System") (List.mem_cons_of_mem _ mw_80)) hK hP hD hS 8 13 7 11 rfl rfl rfl rfl rfl (by decide) (by decide) (by decide) (by decide) (by decide) (fun _ _ => rfl) (Nat.le_of_ble_eq_true rfl) (by decide) dX6_undo_24 (fun H locs hP hD hS => ?_)
    generalize e_g20 : (va_cpy fr6 ag1 (0 : Int32).toNatClampNeg (0 : Int32).toNatClampNeg (8 : Int32).toNatClampNeg) = g20 at hP hD
    obtain ⟨hP, hD⟩ := X_s (ws' := [eO h0 5 [.ref jb, .ref qm, .int mc, .ref qh, .ref qk, .ref qf, .int bg, .ref jp], eR qk kk 9 fo, eI ro0 kr0 8 fr0, eI ro1 kr1 8 fr1, eI ro2 kr2 8 fr2, eI ro3 kr3 8 fr3, eI ro4 kr4 8 fr4, eI ro5 kr5 8 fr5, eI ro6 kr6 8 fr6, eI ro7 kr7 8 fr7, eI ro8 kr8 8 fr8, eL qf kf 9 ff, eO jb 0 [av0, .ref aq1, av2, av3, av4, av5, av6, av7, .long afees, av9, av10, av11, av12], eI aq1 ak1 8 g20]) hP hD rfl
    refine lv_aload_n hx hb dX6_undo_27 rfl (lv_at hl 0 rfl) ?_
    refine va_get (D := (dC, dI)) (ci := 5) (v := .ref jb) (C := RX6) (T := TX6) (N := 8) hx hb hts (fun w h => List.mem_cons_of_mem _ (inlX6 w h)) hown hK hP 0 rfl rfl 0 (by decide) (hts (.fieldLink RX6 27 "ClearingGates$Runner" "books" "LClearingGates$Books;") (List.mem_cons_of_mem _ mw_185)) (fun _ h9 => h9) rfl dX6_undo_28 ?_
    refine lv_aload_n hx hb dX6_undo_31 rfl (lv_at hl 0 rfl) ?_
    refine va_get (D := (dC, dI)) (ci := 5) (v := .ref qf) (C := RX6) (T := TX6) (N := 8) hx hb hts (fun w h => List.mem_cons_of_mem _ (inlX6 w h)) hown hK hP 0 rfl rfl 5 (by decide) (hts (.fieldLink RX6 23 "ClearingGates$Runner" "keptFees" "[J") (List.mem_cons_of_mem _ mw_193)) (fun _ h9 => h9) rfl dX6_undo_32 ?_
    refine lv_iload_n hx hb dX6_undo_35 rfl (lv_at hl 1 rfl) ?_
    refine va_lald (D := (dC, dI)) hx hb hK hP 11 10 rfl rfl (vp_in_iff.mpr ⟨by decide, by decide⟩) dX6_undo_36 ?_
    refine lv_topl (fun z21 e_z21 => ?_)
    refine va_put (D := (dC, dI)) (ci := 0) (v := .long z21) (ty := .long) (C := RX0) (T := TX0) (N := 13) hx hb hts (fun w h => List.mem_cons_of_mem _ (inlX0 w h)) tyX0 tyX0_ok nmX0 hown hK hP hD hS 12 rfl rfl 8 (by decide) (hts (.fieldLink RX6 141 "ClearingGates$Books" "fees" "J") (List.mem_cons_of_mem _ mw_116)) (fun _ h9 => h9) rfl (by decide +kernel) rfl rfl (Nat.le_of_ble_eq_true rfl) dX6_undo_37 (fun H locs hP hD hS => ?_)
    obtain ⟨hP, hD⟩ := X_s (ws' := [eO h0 5 [.ref jb, .ref qm, .int mc, .ref qh, .ref qk, .ref qf, .int bg, .ref jp], eR qk kk 9 fo, eI ro0 kr0 8 fr0, eI ro1 kr1 8 fr1, eI ro2 kr2 8 fr2, eI ro3 kr3 8 fr3, eI ro4 kr4 8 fr4, eI ro5 kr5 8 fr5, eI ro6 kr6 8 fr6, eI ro7 kr7 8 fr7, eI ro8 kr8 8 fr8, eL qf kf 9 ff, eO jb 0 [av0, .ref aq1, av2, av3, av4, av5, av6, av7, .long z21, av9, av10, av11, av12], eI aq1 ak1 8 g20]) hP hD rfl
    rw [hQ9]
    exact W.vret hx hb hr (fun t ht hW => ⟨⟨(), rfl, (by first | rfl | trivial), g20, z21, by rw [ht]; exact hP, va_K.moved hW.alike hK, hD⟩, hS.F ht⟩) hS.2.2 dX6_undo_40
  · skip
    refine lv_iload_n hx hb dX6_undo_0 rfl (lv_at hl 1 rfl) ?_
    refine lv_bipush (v := 8) hx hb dX6_undo_1 (by decide) ?_
    refine lv_icmp_le (tgt := 7) hx hb dX6_undo_3 (by decide) (fun c22 => ?_) (fun c22 => absurd (by decide) c22)
    refine lv_aload_n hx hb dX6_undo_7 rfl (lv_at hl 0 rfl) ?_
    refine va_get (D := (dC, dI)) (ci := 5) (v := .ref qk) (C := RX6) (T := TX6) (N := 8) hx hb hts (fun w h => List.mem_cons_of_mem _ (inlX6 w h)) hown hK hP 0 rfl rfl 4 (by decide) (hts (.fieldLink RX6 20 "ClearingGates$Runner" "keptBalances" "[[I") (List.mem_cons_of_mem _ mw_192)) (fun _ h9 => h9) rfl dX6_undo_8 ?_
    refine lv_iload_n hx hb dX6_undo_11 rfl (lv_at hl 1 rfl) ?_
    refine va_aldm (D := (dC, dI)) hx hb hK hP 1 0 rfl rfl (vp_in_iff.mpr ⟨by decide, by decide⟩) dX6_undo_12 ?_
    rw [show va_rf (fo (7 : Int32).toNatClampNeg) = .ref ro7 from by rw [show (7 : Int32).toNatClampNeg = 7 from rfl, hf7]; rfl]
    refine lv_iconst (v := 0) hx hb dX6_undo_13 (by decide) ?_
    refine lv_aload_n hx hb dX6_undo_14 rfl (lv_at hl 0 rfl) ?_
    refine va_get (D := (dC, dI)) (ci := 5) (v := .ref jb) (C := RX6) (T := TX6) (N := 8) hx hb hts (fun w h => List.mem_cons_of_mem _ (inlX6 w h)) hown hK hP 0 rfl rfl 0 (by decide) (hts (.fieldLink RX6 27 "ClearingGates$Runner" "books" "LClearingGates$Books;") (List.mem_cons_of_mem _ mw_185)) (fun _ h9 => h9) rfl dX6_undo_15 ?_
    refine va_get (D := (dC, dI)) (ci := 0) (v := .ref aq1) (C := RX0) (T := TX0) (N := 13) hx hb hts (fun w h => List.mem_cons_of_mem _ (inlX0 w h)) hown hK hP 12 rfl rfl 1 (by decide) (hts (.fieldLink RX6 134 "ClearingGates$Books" "balances" "[I") (List.mem_cons_of_mem _ mw_98)) (fun _ h9 => h9) rfl dX6_undo_18 ?_
    refine lv_iconst (v := 0) hx hb dX6_undo_21 (by decide) ?_
    refine lv_bipush (v := 8) hx hb dX6_undo_22 (by decide) ?_
    refine va_copyi (D := (dC, dI)) hx hb (hml.trans hl.1.symm) hown (hts (.methodLink RX6 154 arraycopyName) (List.mem_cons_of_mem _ mw_380)) (hts (.native arraycopyName) (List.mem_cons_of_mem _ mw_330)) (hts (.static arraycopyName) (List.mem_cons_of_mem _ mw_329)) (hts (.initialized "java/lang/System") (List.mem_cons_of_mem _ mw_80)) hK hP hD hS 9 13 8 11 rfl rfl rfl rfl rfl (by decide) (by decide) (by decide) (by decide) (by decide) (fun _ _ => rfl) (Nat.le_of_ble_eq_true rfl) (by decide) dX6_undo_24 (fun H locs hP hD hS => ?_)
    generalize e_g23 : (va_cpy fr7 ag1 (0 : Int32).toNatClampNeg (0 : Int32).toNatClampNeg (8 : Int32).toNatClampNeg) = g23 at hP hD
    obtain ⟨hP, hD⟩ := X_s (ws' := [eO h0 5 [.ref jb, .ref qm, .int mc, .ref qh, .ref qk, .ref qf, .int bg, .ref jp], eR qk kk 9 fo, eI ro0 kr0 8 fr0, eI ro1 kr1 8 fr1, eI ro2 kr2 8 fr2, eI ro3 kr3 8 fr3, eI ro4 kr4 8 fr4, eI ro5 kr5 8 fr5, eI ro6 kr6 8 fr6, eI ro7 kr7 8 fr7, eI ro8 kr8 8 fr8, eL qf kf 9 ff, eO jb 0 [av0, .ref aq1, av2, av3, av4, av5, av6, av7, .long afees, av9, av10, av11, av12], eI aq1 ak1 8 g23]) hP hD rfl
    refine lv_aload_n hx hb dX6_undo_27 rfl (lv_at hl 0 rfl) ?_
    refine va_get (D := (dC, dI)) (ci := 5) (v := .ref jb) (C := RX6) (T := TX6) (N := 8) hx hb hts (fun w h => List.mem_cons_of_mem _ (inlX6 w h)) hown hK hP 0 rfl rfl 0 (by decide) (hts (.fieldLink RX6 27 "ClearingGates$Runner" "books" "LClearingGates$Books;") (List.mem_cons_of_mem _ mw_185)) (fun _ h9 => h9) rfl dX6_undo_28 ?_
    refine lv_aload_n hx hb dX6_undo_31 rfl (lv_at hl 0 rfl) ?_
    refine va_get (D := (dC, dI)) (ci := 5) (v := .ref qf) (C := RX6) (T := TX6) (N := 8) hx hb hts (fun w h => List.mem_cons_of_mem _ (inlX6 w h)) hown hK hP 0 rfl rfl 5 (by decide) (hts (.fieldLink RX6 23 "ClearingGates$Runner" "keptFees" "[J") (List.mem_cons_of_mem _ mw_193)) (fun _ h9 => h9) rfl dX6_undo_32 ?_
    refine lv_iload_n hx hb dX6_undo_35 rfl (lv_at hl 1 rfl) ?_
    refine va_lald (D := (dC, dI)) hx hb hK hP 11 10 rfl rfl (vp_in_iff.mpr ⟨by decide, by decide⟩) dX6_undo_36 ?_
    refine lv_topl (fun z24 e_z24 => ?_)
    refine va_put (D := (dC, dI)) (ci := 0) (v := .long z24) (ty := .long) (C := RX0) (T := TX0) (N := 13) hx hb hts (fun w h => List.mem_cons_of_mem _ (inlX0 w h)) tyX0 tyX0_ok nmX0 hown hK hP hD hS 12 rfl rfl 8 (by decide) (hts (.fieldLink RX6 141 "ClearingGates$Books" "fees" "J") (List.mem_cons_of_mem _ mw_116)) (fun _ h9 => h9) rfl (by decide +kernel) rfl rfl (Nat.le_of_ble_eq_true rfl) dX6_undo_37 (fun H locs hP hD hS => ?_)
    obtain ⟨hP, hD⟩ := X_s (ws' := [eO h0 5 [.ref jb, .ref qm, .int mc, .ref qh, .ref qk, .ref qf, .int bg, .ref jp], eR qk kk 9 fo, eI ro0 kr0 8 fr0, eI ro1 kr1 8 fr1, eI ro2 kr2 8 fr2, eI ro3 kr3 8 fr3, eI ro4 kr4 8 fr4, eI ro5 kr5 8 fr5, eI ro6 kr6 8 fr6, eI ro7 kr7 8 fr7, eI ro8 kr8 8 fr8, eL qf kf 9 ff, eO jb 0 [av0, .ref aq1, av2, av3, av4, av5, av6, av7, .long z24, av9, av10, av11, av12], eI aq1 ak1 8 g23]) hP hD rfl
    rw [hQ9]
    exact W.vret hx hb hr (fun t ht hW => ⟨⟨(), rfl, (by first | rfl | trivial), g23, z24, by rw [ht]; exact hP, va_K.moved hW.alike hK, hD⟩, hS.F ht⟩) hS.2.2 dX6_undo_40
  · skip
    refine lv_iload_n hx hb dX6_undo_0 rfl (lv_at hl 1 rfl) ?_
    refine lv_bipush (v := 8) hx hb dX6_undo_1 (by decide) ?_
    refine lv_icmp_le (tgt := 7) hx hb dX6_undo_3 (by decide) (fun c25 => ?_) (fun c25 => absurd (by decide) c25)
    refine lv_aload_n hx hb dX6_undo_7 rfl (lv_at hl 0 rfl) ?_
    refine va_get (D := (dC, dI)) (ci := 5) (v := .ref qk) (C := RX6) (T := TX6) (N := 8) hx hb hts (fun w h => List.mem_cons_of_mem _ (inlX6 w h)) hown hK hP 0 rfl rfl 4 (by decide) (hts (.fieldLink RX6 20 "ClearingGates$Runner" "keptBalances" "[[I") (List.mem_cons_of_mem _ mw_192)) (fun _ h9 => h9) rfl dX6_undo_8 ?_
    refine lv_iload_n hx hb dX6_undo_11 rfl (lv_at hl 1 rfl) ?_
    refine va_aldm (D := (dC, dI)) hx hb hK hP 1 0 rfl rfl (vp_in_iff.mpr ⟨by decide, by decide⟩) dX6_undo_12 ?_
    rw [show va_rf (fo (8 : Int32).toNatClampNeg) = .ref ro8 from by rw [show (8 : Int32).toNatClampNeg = 8 from rfl, hf8]; rfl]
    refine lv_iconst (v := 0) hx hb dX6_undo_13 (by decide) ?_
    refine lv_aload_n hx hb dX6_undo_14 rfl (lv_at hl 0 rfl) ?_
    refine va_get (D := (dC, dI)) (ci := 5) (v := .ref jb) (C := RX6) (T := TX6) (N := 8) hx hb hts (fun w h => List.mem_cons_of_mem _ (inlX6 w h)) hown hK hP 0 rfl rfl 0 (by decide) (hts (.fieldLink RX6 27 "ClearingGates$Runner" "books" "LClearingGates$Books;") (List.mem_cons_of_mem _ mw_185)) (fun _ h9 => h9) rfl dX6_undo_15 ?_
    refine va_get (D := (dC, dI)) (ci := 0) (v := .ref aq1) (C := RX0) (T := TX0) (N := 13) hx hb hts (fun w h => List.mem_cons_of_mem _ (inlX0 w h)) hown hK hP 12 rfl rfl 1 (by decide) (hts (.fieldLink RX6 134 "ClearingGates$Books" "balances" "[I") (List.mem_cons_of_mem _ mw_98)) (fun _ h9 => h9) rfl dX6_undo_18 ?_
    refine lv_iconst (v := 0) hx hb dX6_undo_21 (by decide) ?_
    refine lv_bipush (v := 8) hx hb dX6_undo_22 (by decide) ?_
    refine va_copyi (D := (dC, dI)) hx hb (hml.trans hl.1.symm) hown (hts (.methodLink RX6 154 arraycopyName) (List.mem_cons_of_mem _ mw_380)) (hts (.native arraycopyName) (List.mem_cons_of_mem _ mw_330)) (hts (.static arraycopyName) (List.mem_cons_of_mem _ mw_329)) (hts (.initialized "java/lang/System") (List.mem_cons_of_mem _ mw_80)) hK hP hD hS 10 13 9 11 rfl rfl rfl rfl rfl (by decide) (by decide) (by decide) (by decide) (by decide) (fun _ _ => rfl) (Nat.le_of_ble_eq_true rfl) (by decide) dX6_undo_24 (fun H locs hP hD hS => ?_)
    generalize e_g26 : (va_cpy fr8 ag1 (0 : Int32).toNatClampNeg (0 : Int32).toNatClampNeg (8 : Int32).toNatClampNeg) = g26 at hP hD
    obtain ⟨hP, hD⟩ := X_s (ws' := [eO h0 5 [.ref jb, .ref qm, .int mc, .ref qh, .ref qk, .ref qf, .int bg, .ref jp], eR qk kk 9 fo, eI ro0 kr0 8 fr0, eI ro1 kr1 8 fr1, eI ro2 kr2 8 fr2, eI ro3 kr3 8 fr3, eI ro4 kr4 8 fr4, eI ro5 kr5 8 fr5, eI ro6 kr6 8 fr6, eI ro7 kr7 8 fr7, eI ro8 kr8 8 fr8, eL qf kf 9 ff, eO jb 0 [av0, .ref aq1, av2, av3, av4, av5, av6, av7, .long afees, av9, av10, av11, av12], eI aq1 ak1 8 g26]) hP hD rfl
    refine lv_aload_n hx hb dX6_undo_27 rfl (lv_at hl 0 rfl) ?_
    refine va_get (D := (dC, dI)) (ci := 5) (v := .ref jb) (C := RX6) (T := TX6) (N := 8) hx hb hts (fun w h => List.mem_cons_of_mem _ (inlX6 w h)) hown hK hP 0 rfl rfl 0 (by decide) (hts (.fieldLink RX6 27 "ClearingGates$Runner" "books" "LClearingGates$Books;") (List.mem_cons_of_mem _ mw_185)) (fun _ h9 => h9) rfl dX6_undo_28 ?_
    refine lv_aload_n hx hb dX6_undo_31 rfl (lv_at hl 0 rfl) ?_
    refine va_get (D := (dC, dI)) (ci := 5) (v := .ref qf) (C := RX6) (T := TX6) (N := 8) hx hb hts (fun w h => List.mem_cons_of_mem _ (inlX6 w h)) hown hK hP 0 rfl rfl 5 (by decide) (hts (.fieldLink RX6 23 "ClearingGates$Runner" "keptFees" "[J") (List.mem_cons_of_mem _ mw_193)) (fun _ h9 => h9) rfl dX6_undo_32 ?_
    refine lv_iload_n hx hb dX6_undo_35 rfl (lv_at hl 1 rfl) ?_
    refine va_lald (D := (dC, dI)) hx hb hK hP 11 10 rfl rfl (vp_in_iff.mpr ⟨by decide, by decide⟩) dX6_undo_36 ?_
    refine lv_topl (fun z27 e_z27 => ?_)
    refine va_put (D := (dC, dI)) (ci := 0) (v := .long z27) (ty := .long) (C := RX0) (T := TX0) (N := 13) hx hb hts (fun w h => List.mem_cons_of_mem _ (inlX0 w h)) tyX0 tyX0_ok nmX0 hown hK hP hD hS 12 rfl rfl 8 (by decide) (hts (.fieldLink RX6 141 "ClearingGates$Books" "fees" "J") (List.mem_cons_of_mem _ mw_116)) (fun _ h9 => h9) rfl (by decide +kernel) rfl rfl (Nat.le_of_ble_eq_true rfl) dX6_undo_37 (fun H locs hP hD hS => ?_)
    obtain ⟨hP, hD⟩ := X_s (ws' := [eO h0 5 [.ref jb, .ref qm, .int mc, .ref qh, .ref qk, .ref qf, .int bg, .ref jp], eR qk kk 9 fo, eI ro0 kr0 8 fr0, eI ro1 kr1 8 fr1, eI ro2 kr2 8 fr2, eI ro3 kr3 8 fr3, eI ro4 kr4 8 fr4, eI ro5 kr5 8 fr5, eI ro6 kr6 8 fr6, eI ro7 kr7 8 fr7, eI ro8 kr8 8 fr8, eL qf kf 9 ff, eO jb 0 [av0, .ref aq1, av2, av3, av4, av5, av6, av7, .long z27, av9, av10, av11, av12], eI aq1 ak1 8 g26]) hP hD rfl
    rw [hQ9]
    exact W.vret hx hb hr (fun t ht hW => ⟨⟨(), rfl, (by first | rfl | trivial), g26, z27, by rw [ht]; exact hP, va_K.moved hW.alike hK, hD⟩, hS.F ht⟩) hS.2.2 dX6_undo_40
  · skip
    refine lv_iload_n hx hb dX6_undo_0 rfl (lv_at hl 1 rfl) ?_
    refine lv_bipush (v := 8) hx hb dX6_undo_1 (by decide) ?_
    refine lv_icmp_le (tgt := 7) hx hb dX6_undo_3 (by decide) (fun c28 => absurd c28 (by decide)) (fun c28 => ?_)
    rw [hQ9]
    exact W.vret hx hb hr (fun t ht hW => ⟨⟨(), rfl, (by first | rfl | trivial), ag1, afees, by rw [ht]; exact hP, va_K.moved hW.alike hK, hD⟩, hS.F ht⟩) hS.2.2 dX6_undo_6

set_option maxRecDepth 100000 in
set_option maxHeartbeats 4000000 in
/-- Runner.bell -/
theorem c_X6_bell (l : Launch) (dC : Nat → ClassId) (dI : Nat → Nat → Nat) (h0 : Nat) (p0 : Int32) (p1 : Int32) (jb : Nat) (qm : Nat) (mc : Int32) (qh : Nat) (qk : Nat) (qf : Nat) (bg : Int32) (jp : Nat) (km : ClassId) (fm : Nat → Int32) (kh : ClassId) (fh : Nat → Int32) (aq0 : Nat) (aq1 : Nat) (aq2 : Nat) (aq3 : Nat) (aq4 : Nat) (aq5 : Nat) (aq6 : Nat) (aacc : Int32) (afees : Int64) (amis : Int32) (abel : Int32) (aref : Int32) (acau : Int32) (ak3 : ClassId) (ag3 : Nat → Int32) (sz : Nat) (ra1 : 0 ≤ aacc.toInt) (ra2 : aacc.toInt ≤ 8) (rb3 : 0 ≤ mc.toInt) (rb4 : mc.toInt ≤ 1500) : Met l yX6_bell wsX6_bell ({ frames := 2, cells := 0, slots := 0, locals := 42 }) (va_Pc [.ref h0, .int p0, .int p1] (fun U => U.heap.size = sz ∧ va_P (dC, dI) vwCl [eO h0 5 [.ref jb, .ref qm, .int mc, .ref qh, .ref qk, .ref qf, .int bg, .ref jp], eI qm km 60 fm, eI qh kh 8 fh, eO jb 0 [.ref aq0, .ref aq1, .ref aq2, .ref aq3, .ref aq4, .ref aq5, .ref aq6, .int aacc, .long afees, .int amis, .int abel, .int aref, .int acau], eI aq3 ak3 8 ag3] U.heap ∧ va_K (dC, dI) vwCl [(km, .int), (kh, .int), (ak3, .boolean)] U ∧ va_D (fun _ => True) [eO h0 5 [.ref jb, .ref qm, .int mc, .ref qh, .ref qk, .ref qf, .int bg, .ref jp], eI qm km 60 fm, eI qh kh 8 fh, eO jb 0 [.ref aq0, .ref aq1, .ref aq2, .ref aq3, .ref aq4, .ref aq5, .ref aq6, .int aacc, .long afees, .int amis, .int abel, .int aref, .int acau], eI aq3 ak3 8 ag3])) (va_Qi (fun (r : Int32) (_ : Unit) => r = 0) (fun (_ : Unit) (t : State) => ∃ (fm' : Nat → Int32), ∃ (mc' : Int32), ∃ (amis' : Int32), ∃ (abel' : Int32), ∃ (aref' : Int32), (0 ≤ mc'.toInt) ∧ (mc'.toInt ≤ mc.toInt + 1) ∧ va_P (dC, dI) vwCl [eO h0 5 [.ref jb, .ref qm, .int mc', .ref qh, .ref qk, .ref qf, .int bg, .ref jp], eI qm km 60 (fm'), eI qh kh 8 fh, eO jb 0 [.ref aq0, .ref aq1, .ref aq2, .ref aq3, .ref aq4, .ref aq5, .ref aq6, .int aacc, .long afees, .int amis', .int abel', .int aref', .int acau], eI aq3 ak3 8 ag3] t.heap ∧ va_K (dC, dI) vwCl [(km, .int), (kh, .int), (ak3, .boolean)] t ∧ va_D (va_A [eO h0 5 [.ref jb, .ref qm, .int mc, .ref qh, .ref qk, .ref qf, .int bg, .ref jp], eI qm km 60 fm, eI qh kh 8 fh, eO jb 0 [.ref aq0, .ref aq1, .ref aq2, .ref aq3, .ref aq4, .ref aq5, .ref aq6, .int aacc, .long afees, .int amis, .int abel, .int aref, .int acau], eI aq3 ak3 8 ag3] sz) [eO h0 5 [.ref jb, .ref qm, .int mc', .ref qh, .ref qk, .ref qf, .int bg, .ref jp], eI qm km 60 (fm'), eI qh kh 8 fh, eO jb 0 [.ref aq0, .ref aq1, .ref aq2, .ref aq3, .ref aq4, .ref aq5, .ref aq6, .int aacc, .long afees, .int amis', .int abel', .int aref', .int acau], eI aq3 ak3 8 ag3]) (va_A [eO h0 5 [.ref jb, .ref qm, .int mc, .ref qh, .ref qk, .ref qf, .int bg, .ref jp], eI qm km 60 fm, eI qh kh 8 fh, eO jb 0 [.ref aq0, .ref aq1, .ref aq2, .ref aq3, .ref aq4, .ref aq5, .ref aq6, .int aacc, .long afees, .int amis, .int abel, .int aref, .int acau], eI aq3 ak3 8 ag3] sz)) 0 0 (va_A [eO h0 5 [.ref jb, .ref qm, .int mc, .ref qh, .ref qk, .ref qf, .int bg, .ref jp], eI qm km 60 fm, eI qh kh 8 fh, eO jb 0 [.ref aq0, .ref aq1, .ref aq2, .ref aq3, .ref aq4, .ref aq5, .ref aq6, .int aacc, .long afees, .int amis, .int abel, .int aref, .int acau], eI aq3 ak3 8 ag3] sz) := by
  refine Met.ofW (cc := cX6_bell) (maxL := 3) (ret := (some .int)) (by decide) rfl ?_
  intro p e s m args below meth c s₁ B hml hv
  obtain ⟨rfl, hsz, hP, hK, hD0⟩ := hv
  have hx := B.exec
  have hb := B.bytes
  have hr := B.returns
  have hts := atoms_spec (ws := wsX6_bell) B.pre
  have hown : s.vm.findClass RX6 = some m.cls := findClass_of_methodNamed B.named
  have hlocks := B.notSynchronized
  subst hsz
  have hD := hD0.self (sz := s.heap.size)
  generalize hAe : va_A [eO h0 5 [.ref jb, .ref qm, .int mc, .ref qh, .ref qk, .ref qf, .int bg, .ref jp], eI qm km 60 fm, eI qh kh 8 fh, eO jb 0 [.ref aq0, .ref aq1, .ref aq2, .ref aq3, .ref aq4, .ref aq5, .ref aq6, .int aacc, .long afees, .int amis, .int abel, .int aref, .int acau], eI aq3 ak3 8 ag3] s.heap.size = A at hD ⊢
  have hA : ∀ q : Nat, s.heap.size ≤ q → A q := fun q h => by rw [← hAe]; exact Or.inr h
  have hS : va_S A s.heap s.heap [] := va_S.rf
  have hP : va_P (dC, dI) vwCl [eO h0 5 [.ref jb, .ref qm, .int mc, .ref qh, .ref qk, .ref qf, .int bg, .ref jp], eI qm km 60 fm, eI qh kh 8 fh, eO jb 0 [.ref aq0, .ref aq1, .ref aq2, .ref aq3, .ref aq4, .ref aq5, .ref aq6, .int aacc, .long afees, .int amis, .int abel, .int aref, .int acau], eI aq3 ak3 8 ag3] s.heap := hP
  have hl := lv_entry ([.ref h0, .int p0, .int p1]) (n := 3) (Nat.le_of_ble_eq_true rfl)
  rw [lg_entry_eq]
  generalize (lg_sl ([.ref h0, .int p0, .int p1]) ++ List.replicate (3 - (lg_sl ([.ref h0, .int p0, .int p1])).length) Slot.unset).toArray = ls at hl ⊢
  have hl : lv_has ls 3 [(0, .ref h0), (1, .int p0), (2, .int p1)] := hl
  suffices key9 : ∀ Q9 : State → Prop, Q9 = (MQ below (va_Qi (fun (r : Int32) (_ : Unit) => r = 0) (fun (_ : Unit) (t : State) => ∃ (fm' : Nat → Int32), ∃ (mc' : Int32), ∃ (amis' : Int32), ∃ (abel' : Int32), ∃ (aref' : Int32), (0 ≤ mc'.toInt) ∧ (mc'.toInt ≤ mc.toInt + 1) ∧ va_P (dC, dI) vwCl [eO h0 5 [.ref jb, .ref qm, .int mc', .ref qh, .ref qk, .ref qf, .int bg, .ref jp], eI qm km 60 (fm'), eI qh kh 8 fh, eO jb 0 [.ref aq0, .ref aq1, .ref aq2, .ref aq3, .ref aq4, .ref aq5, .ref aq6, .int aacc, .long afees, .int amis', .int abel', .int aref', .int acau], eI aq3 ak3 8 ag3] t.heap ∧ va_K (dC, dI) vwCl [(km, .int), (kh, .int), (ak3, .boolean)] t ∧ va_D A [eO h0 5 [.ref jb, .ref qm, .int mc', .ref qh, .ref qk, .ref qf, .int bg, .ref jp], eI qm km 60 (fm'), eI qh kh 8 fh, eO jb 0 [.ref aq0, .ref aq1, .ref aq2, .ref aq3, .ref aq4, .ref aq5, .ref aq6, .int aacc, .long afees, .int amis', .int abel', .int aref', .int acau], eI aq3 ak3 8 ag3]) A) (([.ref h0, .int p0, .int p1] : List Value).toArray) s 0 0 A) → W p l e ({ frames := 2, cells := 0, slots := 0, locals := 42 }) s m (([.ref h0, .int p0, .int p1] : List Value).toArray) below meth c s.heap [] 0 0 Q9 (F0 m 0 ls []) from key9 _ rfl
  intro Q9 hQ9
  have k_0 : (0 : Int32).toInt = 0 := by decide
  have k_1 : (1 : Int32).toInt = 1 := by decide
  have k_30 : (30 : Int32).toInt = 30 := by decide
  have k_40 : (40 : Int32).toInt = 40 := by decide
  refine lv_aload_n hx hb dX6_bell_0 rfl (lv_at hl 0 rfl) ?_
  refine va_get (D := (dC, dI)) (ci := 5) (v := .ref jb) (C := RX6) (T := TX6) (N := 8) hx hb hts (fun w h => List.mem_cons_of_mem _ (inlX6 w h)) hown hK hP 0 rfl rfl 0 (by decide) (hts (.fieldLink RX6 27 "ClearingGates$Runner" "books" "LClearingGates$Books;") (List.mem_cons_of_mem _ mw_185)) (fun _ h9 => h9) rfl dX6_bell_1 ?_
  refine lv_iload_n hx hb dX6_bell_4 rfl (lv_at hl 1 rfl) ?_
  obtain ⟨hPc, hDc, hFc, hCm, hNw⟩ := C_s (wc := [eO jb 0 [.ref aq0, .ref aq1, .ref aq2, .ref aq3, .ref aq4, .ref aq5, .ref aq6, .int aacc, .long afees, .int amis, .int abel, .int aref, .int acau], eI aq3 ak3 8 ag3]) hP hD hS hA [(3, 2)] 5 rfl (by decide +kernel) rfl
  have hKc := K_s (tys' := [(ak3, .boolean)]) hK [(2, 1)] rfl
  refine va_calli (va_runV (As := [.int p0]) (rest := []) ⟨hx, hb, hml, hown, hts⟩ (c_X0_hasGate l dC dI jb p0 (.ref aq0) (.ref aq1) (.ref aq2) aq3 (.ref aq4) (.ref aq5) (.ref aq6) aacc (.long afees) (.int amis) (.int abel) (.int aref) (.int acau) ak3 ag3 s.heap.size ra2) (cwV 1 hts gX6_bell_X0_hasGate rfl rfl rfl (by decide +kernel) ⟨Nat.le_of_ble_eq_true rfl, Nat.le_of_ble_eq_true rfl⟩) ⟨fun a U g mk q => by obtain ⟨q0, q1, qP, qK, qD⟩ := q; exact ⟨q0, q1, qP, va_K.moved (u := U) (U := U.calling g mk a) (Vm.Alike.refl U.vm) qK, qD⟩, va_recv (s := s) (q := (RX0, TX0, 13)) hKc hPc (ci := 0) (q0 := 0) rfl rfl, fun U hU hW => ⟨rfl, by rw [hU], by rw [hU]; exact hPc, va_K.moved hW.alike hKc, hDc.weaken (fun _ _ _ _ => trivial)⟩⟩ rfl rfl hl.1 rfl (lv_room (Nat.le_of_ble_eq_true rfl)) dX6_bell_5 ⟨Nat.le_of_ble_eq_true rfl, Nat.le_of_ble_eq_true rfl⟩) hS (fun q _ h => hFc q h) hFc (fun r1 u t H1 locs ht hvm hw hB hz1 hk1 hS => ?_)
  obtain ⟨hP1, hK1, hD1⟩ := hB
  rw [ht] at hP1
  have hK1 := va_K.moved hvm.symm hK1
  try dsimp only at hw
  obtain ⟨hP, hD⟩ := J_s (wL := [eO h0 5 [.ref jb, .ref qm, .int mc, .ref qh, .ref qk, .ref qf, .int bg, .ref jp], eI qm km 60 fm, eI qh kh 8 fh, eO jb 0 [.ref aq0, .ref aq1, .ref aq2, .ref aq3, .ref aq4, .ref aq5, .ref aq6, .int aacc, .long afees, .int amis, .int abel, .int aref, .int acau], eI aq3 ak3 8 ag3]) hP hD [(3, 2)] [(0, 3)] hCm hNw (by decide +kernel) hk1 hFc hP1 hD1 rfl
  have hK := KJ_s (tys' := [(km, .int), (kh, .int), (ak3, .boolean)]) hK hK1 [(0, 2)] rfl
  generalize H1 = H at hP hS ⊢
  rcases hw with ⟨e_r1, f_r1⟩ | ⟨e_r1, f_r1⟩
  · subst e_r1
    refine lv_if_ne (tgt := 27) hx hb dX6_bell_8 (by decide) (fun c2 => ?_) (fun c2 => absurd c2 (by decide))
    refine lv_aload_n hx hb dX6_bell_27 rfl (lv_at hl 0 rfl) ?_
    refine lv_iload_n hx hb dX6_bell_28 rfl (lv_at hl 1 rfl) ?_
    obtain ⟨hPc, hDc, hFc, hCm, hNw⟩ := C_s (wc := [eO h0 5 [.ref jb, .ref qm, .int mc, .ref qh, .ref qk, .ref qf, .int bg, .ref jp], eI qh kh 8 fh, eO jb 0 [.ref aq0, .ref aq1, .ref aq2, .ref aq3, .ref aq4, .ref aq5, .ref aq6, .int aacc, .long afees, .int amis, .int abel, .int aref, .int acau]]) hP hD hS hA [(0, 1), (2, 2)] 5 rfl (by decide +kernel) rfl
    have hKc := K_s (tys' := [(kh, .int)]) hK [(1, 1)] rfl
    refine va_calli (va_runV (As := [.int p0]) (rest := []) ⟨hx, hb, hml, hown, hts⟩ (c_X6_isHeld l dC dI h0 p0 jb qm mc qh qk qf bg jp kh fh (.ref aq0) (.ref aq1) (.ref aq2) (.ref aq3) (.ref aq4) (.ref aq5) (.ref aq6) aacc (.long afees) (.int amis) (.int abel) (.int aref) (.int acau) H.size ra2) (cwV 1 hts gX6_bell_X6_isHeld rfl rfl rfl (by decide +kernel) ⟨Nat.le_of_ble_eq_true rfl, Nat.le_of_ble_eq_true rfl⟩) ⟨fun a U g mk q => by obtain ⟨q0, q1, qP, qK, qD⟩ := q; exact ⟨q0, q1, qP, va_K.moved (u := U) (U := U.calling g mk a) (Vm.Alike.refl U.vm) qK, qD⟩, va_recv (s := s) (q := (RX6, TX6, 8)) hKc hPc (ci := 5) (q0 := 0) rfl rfl, fun U hU hW => ⟨rfl, by rw [hU], by rw [hU]; exact hPc, va_K.moved hW.alike hKc, hDc.weaken (fun _ _ _ _ => trivial)⟩⟩ rfl rfl hl.1 rfl (lv_room (Nat.le_of_ble_eq_true rfl)) dX6_bell_29 ⟨Nat.le_of_ble_eq_true rfl, Nat.le_of_ble_eq_true rfl⟩) hS (fun q _ h => hFc q h) hFc (fun r3 u t H1 locs ht hvm hw hB hz1 hk1 hS => ?_)
    obtain ⟨hP1, hK1, hD1⟩ := hB
    rw [ht] at hP1
    have hK1 := va_K.moved hvm.symm hK1
    try dsimp only at hw
    obtain ⟨hP, hD⟩ := J_s (wL := [eI qm km 60 fm, eI aq3 ak3 8 ag3, eO h0 5 [.ref jb, .ref qm, .int mc, .ref qh, .ref qk, .ref qf, .int bg, .ref jp], eI qh kh 8 fh, eO jb 0 [.ref aq0, .ref aq1, .ref aq2, .ref aq3, .ref aq4, .ref aq5, .ref aq6, .int aacc, .long afees, .int amis, .int abel, .int aref, .int acau]]) hP hD [(0, 1), (2, 2)] [(1, 1), (4, 1)] hCm hNw (by decide +kernel) hk1 hFc hP1 hD1 rfl
    have hK := KJ_s (tys' := [(km, .int), (ak3, .boolean), (kh, .int)]) hK hK1 [(0, 1), (2, 1)] rfl
    generalize H1 = H at hP hS ⊢
    rcases hw with ⟨e_r3, f_r3⟩ | ⟨e_r3, f_r3⟩
    · subst e_r3
      refine lv_if_eq (tgt := 59) hx hb dX6_bell_32 (by decide) (fun c4 => absurd c4 (by decide)) (fun c4 => ?_)
      refine lv_aload_n hx hb dX6_bell_35 rfl (lv_at hl 0 rfl) ?_
      refine va_get (D := (dC, dI)) (ci := 5) (v := .ref jb) (C := RX6) (T := TX6) (N := 8) hx hb hts (fun w h => List.mem_cons_of_mem _ (inlX6 w h)) hown hK hP 2 rfl rfl 0 (by decide) (hts (.fieldLink RX6 27 "ClearingGates$Runner" "books" "LClearingGates$Books;") (List.mem_cons_of_mem _ mw_185)) (fun _ h9 => h9) rfl dX6_bell_36 ?_
      refine lv_dup hx hb dX6_bell_39 rfl ?_
      refine va_get (D := (dC, dI)) (ci := 0) (v := .int abel) (C := RX0) (T := TX0) (N := 13) hx hb hts (fun w h => List.mem_cons_of_mem _ (inlX0 w h)) hown hK hP 4 rfl rfl 10 (by decide) (hts (.fieldLink RX6 145 "ClearingGates$Books" "bells" "I") (List.mem_cons_of_mem _ mw_121)) (fun _ h9 => h9) rfl dX6_bell_40 ?_
      refine lv_iload_n hx hb dX6_bell_43 rfl (lv_at hl 2 rfl) ?_
      refine lv_iadd hx hb dX6_bell_44 ?_
      refine lv_topi (fun z5 e_z5 => ?_)
      refine va_put (D := (dC, dI)) (ci := 0) (v := .int z5) (ty := .int) (C := RX0) (T := TX0) (N := 13) hx hb hts (fun w h => List.mem_cons_of_mem _ (inlX0 w h)) tyX0 tyX0_ok nmX0 hown hK hP hD hS 4 rfl rfl 10 (by decide) (hts (.fieldLink RX6 145 "ClearingGates$Books" "bells" "I") (List.mem_cons_of_mem _ mw_121)) (fun _ h9 => h9) rfl (by decide +kernel) rfl rfl (Nat.le_of_ble_eq_true rfl) dX6_bell_45 (fun H locs hP hD hS => ?_)
      obtain ⟨hP, hD⟩ := X_s (ws' := [eI qm km 60 fm, eI aq3 ak3 8 ag3, eO h0 5 [.ref jb, .ref qm, .int mc, .ref qh, .ref qk, .ref qf, .int bg, .ref jp], eI qh kh 8 fh, eO jb 0 [.ref aq0, .ref aq1, .ref aq2, .ref aq3, .ref aq4, .ref aq5, .ref aq6, .int aacc, .long afees, .int amis, .int z5, .int aref, .int acau]]) hP hD rfl
      refine lv_aload_n hx hb dX6_bell_48 rfl (lv_at hl 0 rfl) ?_
      refine lv_bipush (v := 30) hx hb dX6_bell_49 (by decide) ?_
      refine lv_iload_n hx hb dX6_bell_51 rfl (lv_at hl 1 rfl) ?_
      refine lv_iadd hx hb dX6_bell_52 ?_
      refine lv_topi (fun z6 e_z6 => ?_)
      obtain ⟨hPc, hDc, hFc, hCm, hNw⟩ := C_s (wc := [eO h0 5 [.ref jb, .ref qm, .int mc, .ref qh, .ref qk, .ref qf, .int bg, .ref jp], eI qm km 60 fm]) hP hD hS hA [(2, 1), (0, 1)] 5 rfl (by decide +kernel) rfl
      have hKc := K_s (tys' := [(km, .int)]) hK [(0, 1)] rfl
      refine va_callv (va_runV (As := [.int z6]) (rest := []) ⟨hx, hb, hml, hown, hts⟩ (c_X6_mark l dC dI h0 z6 jb qm mc qh qk qf bg jp km fm H.size rb3 (by first | assumption | omega)) (cwV 1 hts gX6_bell_X6_mark rfl rfl rfl (by decide +kernel) ⟨Nat.le_of_ble_eq_true rfl, Nat.le_of_ble_eq_true rfl⟩) ⟨fun a U g mk q => by obtain ⟨q0, q1, qP, qK, qD⟩ := q; exact ⟨q0, q1, qP, va_K.moved (u := U) (U := U.calling g mk a) (Vm.Alike.refl U.vm) qK, qD⟩, va_recv (s := s) (q := (RX6, TX6, 8)) hKc hPc (ci := 5) (q0 := 0) rfl rfl, fun U hU hW => ⟨rfl, by rw [hU], by rw [hU]; exact hPc, va_K.moved hW.alike hKc, hDc.weaken (fun _ _ _ _ => trivial)⟩⟩ rfl rfl hl.1 rfl (lv_room (Nat.le_of_ble_eq_true rfl)) dX6_bell_53 ⟨Nat.le_of_ble_eq_true rfl, Nat.le_of_ble_eq_true rfl⟩) hS (fun q _ h => hFc q h) hFc (fun u t H1 locs ht hvm hw hB hz1 hk1 hS => ?_)
      obtain ⟨q8, q9, x1_r7, hP1, hK1, hD1⟩ := hB
      rw [ht] at hP1
      have hK1 := va_K.moved hvm.symm hK1
      try dsimp only at hw
      obtain ⟨hP, hD⟩ := J_s (wL := [eI aq3 ak3 8 ag3, eI qh kh 8 fh, eO jb 0 [.ref aq0, .ref aq1, .ref aq2, .ref aq3, .ref aq4, .ref aq5, .ref aq6, .int aacc, .long afees, .int amis, .int z5, .int aref, .int acau], eO h0 5 [.ref jb, .ref qm, .int q9, .ref qh, .ref qk, .ref qf, .int bg, .ref jp], eI qm km 60 q8]) hP hD [(2, 1), (0, 1)] [(1, 1), (3, 2)] hCm hNw (by decide +kernel) hk1 hFc hP1 hD1 rfl
      have hK := KJ_s (tys' := [(ak3, .boolean), (kh, .int), (km, .int)]) hK hK1 [(1, 2)] rfl
      generalize H1 = H at hP hS ⊢
      refine lv_goto (tgt := 80) hx hb dX6_bell_56 (by decide) ?_
      refine lv_iconst (v := 0) hx hb dX6_bell_80 (by decide) ?_
      rw [hQ9]
      exact W.iret (v := 0) hx hb hr (fun t ht hW => ⟨⟨0, (), rfl, (by first | rfl | (simp only [if_pos, if_neg, *]; done)), q8, q9, amis, z5, aref, (by first | assumption | omega), (by first | assumption | omega), by rw [ht]; exact P_s hP [(3, 2), (1, 2), (0, 1)] rfl, va_K.moved hW.alike (K_s hK [(2, 1), (1, 1), (0, 1)] rfl), D_s hD [(3, 2), (1, 2), (0, 1)] 5 rfl (by decide +kernel) rfl⟩, hS.F ht⟩) hS.2.2 dX6_bell_81
    · subst e_r3
      refine lv_if_eq (tgt := 59) hx hb dX6_bell_32 (by decide) (fun c10 => ?_) (fun c10 => absurd (by decide) c10)
      refine lv_aload_n hx hb dX6_bell_59 rfl (lv_at hl 0 rfl) ?_
      refine va_get (D := (dC, dI)) (ci := 5) (v := .ref jb) (C := RX6) (T := TX6) (N := 8) hx hb hts (fun w h => List.mem_cons_of_mem _ (inlX6 w h)) hown hK hP 2 rfl rfl 0 (by decide) (hts (.fieldLink RX6 27 "ClearingGates$Runner" "books" "LClearingGates$Books;") (List.mem_cons_of_mem _ mw_185)) (fun _ h9 => h9) rfl dX6_bell_60 ?_
      refine lv_dup hx hb dX6_bell_63 rfl ?_
      refine va_get (D := (dC, dI)) (ci := 0) (v := .int aref) (C := RX0) (T := TX0) (N := 13) hx hb hts (fun w h => List.mem_cons_of_mem _ (inlX0 w h)) hown hK hP 4 rfl rfl 11 (by decide) (hts (.fieldLink RX6 148 "ClearingGates$Books" "refused" "I") (List.mem_cons_of_mem _ mw_124)) (fun _ h9 => h9) rfl dX6_bell_64 ?_
      refine lv_iconst (v := 1) hx hb dX6_bell_67 (by decide) ?_
      refine lv_iadd hx hb dX6_bell_68 ?_
      refine lv_topi (fun z11 e_z11 => ?_)
      refine va_put (D := (dC, dI)) (ci := 0) (v := .int z11) (ty := .int) (C := RX0) (T := TX0) (N := 13) hx hb hts (fun w h => List.mem_cons_of_mem _ (inlX0 w h)) tyX0 tyX0_ok nmX0 hown hK hP hD hS 4 rfl rfl 11 (by decide) (hts (.fieldLink RX6 148 "ClearingGates$Books" "refused" "I") (List.mem_cons_of_mem _ mw_124)) (fun _ h9 => h9) rfl (by decide +kernel) rfl rfl (Nat.le_of_ble_eq_true rfl) dX6_bell_69 (fun H locs hP hD hS => ?_)
      obtain ⟨hP, hD⟩ := X_s (ws' := [eI qm km 60 fm, eI aq3 ak3 8 ag3, eO h0 5 [.ref jb, .ref qm, .int mc, .ref qh, .ref qk, .ref qf, .int bg, .ref jp], eI qh kh 8 fh, eO jb 0 [.ref aq0, .ref aq1, .ref aq2, .ref aq3, .ref aq4, .ref aq5, .ref aq6, .int aacc, .long afees, .int amis, .int abel, .int z11, .int acau]]) hP hD rfl
      refine lv_aload_n hx hb dX6_bell_72 rfl (lv_at hl 0 rfl) ?_
      refine lv_bipush (v := 40) hx hb dX6_bell_73 (by decide) ?_
      refine lv_iload_n hx hb dX6_bell_75 rfl (lv_at hl 1 rfl) ?_
      refine lv_iadd hx hb dX6_bell_76 ?_
      refine lv_topi (fun z12 e_z12 => ?_)
      obtain ⟨hPc, hDc, hFc, hCm, hNw⟩ := C_s (wc := [eO h0 5 [.ref jb, .ref qm, .int mc, .ref qh, .ref qk, .ref qf, .int bg, .ref jp], eI qm km 60 fm]) hP hD hS hA [(2, 1), (0, 1)] 5 rfl (by decide +kernel) rfl
      have hKc := K_s (tys' := [(km, .int)]) hK [(0, 1)] rfl
      refine va_callv (va_runV (As := [.int z12]) (rest := []) ⟨hx, hb, hml, hown, hts⟩ (c_X6_mark l dC dI h0 z12 jb qm mc qh qk qf bg jp km fm H.size rb3 (by first | assumption | omega)) (cwV 1 hts gX6_bell_X6_mark rfl rfl rfl (by decide +kernel) ⟨Nat.le_of_ble_eq_true rfl, Nat.le_of_ble_eq_true rfl⟩) ⟨fun a U g mk q => by obtain ⟨q0, q1, qP, qK, qD⟩ := q; exact ⟨q0, q1, qP, va_K.moved (u := U) (U := U.calling g mk a) (Vm.Alike.refl U.vm) qK, qD⟩, va_recv (s := s) (q := (RX6, TX6, 8)) hKc hPc (ci := 5) (q0 := 0) rfl rfl, fun U hU hW => ⟨rfl, by rw [hU], by rw [hU]; exact hPc, va_K.moved hW.alike hKc, hDc.weaken (fun _ _ _ _ => trivial)⟩⟩ rfl rfl hl.1 rfl (lv_room (Nat.le_of_ble_eq_true rfl)) dX6_bell_77 ⟨Nat.le_of_ble_eq_true rfl, Nat.le_of_ble_eq_true rfl⟩) hS (fun q _ h => hFc q h) hFc (fun u t H1 locs ht hvm hw hB hz1 hk1 hS => ?_)
      obtain ⟨q14, q15, x1_r13, hP1, hK1, hD1⟩ := hB
      rw [ht] at hP1
      have hK1 := va_K.moved hvm.symm hK1
      try dsimp only at hw
      obtain ⟨hP, hD⟩ := J_s (wL := [eI aq3 ak3 8 ag3, eI qh kh 8 fh, eO jb 0 [.ref aq0, .ref aq1, .ref aq2, .ref aq3, .ref aq4, .ref aq5, .ref aq6, .int aacc, .long afees, .int amis, .int abel, .int z11, .int acau], eO h0 5 [.ref jb, .ref qm, .int q15, .ref qh, .ref qk, .ref qf, .int bg, .ref jp], eI qm km 60 q14]) hP hD [(2, 1), (0, 1)] [(1, 1), (3, 2)] hCm hNw (by decide +kernel) hk1 hFc hP1 hD1 rfl
      have hK := KJ_s (tys' := [(ak3, .boolean), (kh, .int), (km, .int)]) hK hK1 [(1, 2)] rfl
      generalize H1 = H at hP hS ⊢
      refine lv_iconst (v := 0) hx hb dX6_bell_80 (by decide) ?_
      rw [hQ9]
      exact W.iret (v := 0) hx hb hr (fun t ht hW => ⟨⟨0, (), rfl, (by first | rfl | (simp only [if_pos, if_neg, *]; done)), q14, q15, amis, abel, z11, (by first | assumption | omega), (by first | assumption | omega), by rw [ht]; exact P_s hP [(3, 2), (1, 2), (0, 1)] rfl, va_K.moved hW.alike (K_s hK [(2, 1), (1, 1), (0, 1)] rfl), D_s hD [(3, 2), (1, 2), (0, 1)] 5 rfl (by decide +kernel) rfl⟩, hS.F ht⟩) hS.2.2 dX6_bell_81
  · subst e_r1
    refine lv_if_ne (tgt := 27) hx hb dX6_bell_8 (by decide) (fun c16 => absurd (by decide) c16) (fun c16 => ?_)
    refine lv_aload_n hx hb dX6_bell_11 rfl (lv_at hl 0 rfl) ?_
    refine va_get (D := (dC, dI)) (ci := 5) (v := .ref jb) (C := RX6) (T := TX6) (N := 8) hx hb hts (fun w h => List.mem_cons_of_mem _ (inlX6 w h)) hown hK hP 0 rfl rfl 0 (by decide) (hts (.fieldLink RX6 27 "ClearingGates$Runner" "books" "LClearingGates$Books;") (List.mem_cons_of_mem _ mw_185)) (fun _ h9 => h9) rfl dX6_bell_12 ?_
    refine lv_dup hx hb dX6_bell_15 rfl ?_
    refine va_get (D := (dC, dI)) (ci := 0) (v := .int amis) (C := RX0) (T := TX0) (N := 13) hx hb hts (fun w h => List.mem_cons_of_mem _ (inlX0 w h)) hown hK hP 3 rfl rfl 9 (by decide) (hts (.fieldLink RX6 101 "ClearingGates$Books" "missed" "I") (List.mem_cons_of_mem _ mw_117)) (fun _ h9 => h9) rfl dX6_bell_16 ?_
    refine lv_iconst (v := 1) hx hb dX6_bell_19 (by decide) ?_
    refine lv_iadd hx hb dX6_bell_20 ?_
    refine lv_topi (fun z17 e_z17 => ?_)
    refine va_put (D := (dC, dI)) (ci := 0) (v := .int z17) (ty := .int) (C := RX0) (T := TX0) (N := 13) hx hb hts (fun w h => List.mem_cons_of_mem _ (inlX0 w h)) tyX0 tyX0_ok nmX0 hown hK hP hD hS 3 rfl rfl 9 (by decide) (hts (.fieldLink RX6 101 "ClearingGates$Books" "missed" "I") (List.mem_cons_of_mem _ mw_117)) (fun _ h9 => h9) rfl (by decide +kernel) rfl rfl (Nat.le_of_ble_eq_true rfl) dX6_bell_21 (fun H locs hP hD hS => ?_)
    obtain ⟨hP, hD⟩ := X_s (ws' := [eO h0 5 [.ref jb, .ref qm, .int mc, .ref qh, .ref qk, .ref qf, .int bg, .ref jp], eI qm km 60 fm, eI qh kh 8 fh, eO jb 0 [.ref aq0, .ref aq1, .ref aq2, .ref aq3, .ref aq4, .ref aq5, .ref aq6, .int aacc, .long afees, .int z17, .int abel, .int aref, .int acau], eI aq3 ak3 8 ag3]) hP hD rfl
    refine lv_goto (tgt := 80) hx hb dX6_bell_24 (by decide) ?_
    refine lv_iconst (v := 0) hx hb dX6_bell_80 (by decide) ?_
    rw [hQ9]
    exact W.iret (v := 0) hx hb hr (fun t ht hW => ⟨⟨0, (), rfl, (by first | rfl | (simp only [if_pos, if_neg, *]; done)), fm, mc, z17, abel, aref, (by first | assumption | omega), (by first | assumption | omega), by rw [ht]; exact hP, va_K.moved hW.alike hK, hD⟩, hS.F ht⟩) hS.2.2 dX6_bell_81

set_option maxRecDepth 100000 in
set_option maxHeartbeats 4000000 in
/-- Runner.payment -/
theorem c_X6_payment (l : Launch) (dC : Nat → ClassId) (dI : Nat → Nat → Nat) (h0 : Nat) (p0 : Int32) (jb : Nat) (qm : Nat) (mc : Int32) (qh : Nat) (qk : Nat) (qf : Nat) (bg : Int32) (jp : Nat) (km : ClassId) (fm : Nat → Int32) (kh : ClassId) (fh : Nat → Int32) (aq0 : Nat) (aq1 : Nat) (aq2 : Nat) (aq3 : Nat) (aq4 : Nat) (aq5 : Nat) (aq6 : Nat) (aacc : Int32) (afees : Int64) (amis : Int32) (abel : Int32) (aref : Int32) (acau : Int32) (ak0 : ClassId) (ag0 : Nat → Int32) (ak1 : ClassId) (ag1 : Nat → Int32) (ak2 : ClassId) (ag2 : Nat → Int32) (pb : Nat) (pn : Nat) (ps : Int32) (kpb : ClassId) (fpb : Nat → Int32) (kpn : ClassId) (fpn : Nat → Int32) (sz : Nat) (ra1 : 0 ≤ aacc.toInt) (ra2 : aacc.toInt ≤ 8) (rb3 : 0 ≤ mc.toInt) (rb4 : mc.toInt ≤ 1500) (hp1 : 0 ≤ ps.toInt) (hp2 : ps.toInt ≤ 80) (hb0 : ∀ k : Nat, 0 ≤ (fpn k).toInt ∧ (fpn k).toInt ≤ 80) (pl1 : 0 ≤ p0.toInt) (pl2 : p0.toInt ≤ 90) : Met l yX6_payment wsX6_payment ({ frames := 2, cells := 0, slots := 0, locals := 45 }) (va_Pc [.ref h0, .int p0] (fun U => U.heap.size = sz ∧ va_P (dC, dI) vwCl [eO h0 5 [.ref jb, .ref qm, .int mc, .ref qh, .ref qk, .ref qf, .int bg, .ref jp], eI qm km 60 fm, eI qh kh 8 fh, eO jb 0 [.ref aq0, .ref aq1, .ref aq2, .ref aq3, .ref aq4, .ref aq5, .ref aq6, .int aacc, .long afees, .int amis, .int abel, .int aref, .int acau], eI aq0 ak0 8 ag0, eI aq1 ak1 8 ag1, eI aq2 ak2 8 ag2, eO jp 2 [.ref pb, .ref pn, .int ps], eI pb kpb 80 fpb, eI pn kpn 80 fpn] U.heap ∧ va_K (dC, dI) vwCl [(km, .int), (kh, .int), (ak0, .int), (ak1, .int), (ak2, .int), (kpb, .int), (kpn, .int)] U ∧ va_D (fun _ => True) [eO h0 5 [.ref jb, .ref qm, .int mc, .ref qh, .ref qk, .ref qf, .int bg, .ref jp], eI qm km 60 fm, eI qh kh 8 fh, eO jb 0 [.ref aq0, .ref aq1, .ref aq2, .ref aq3, .ref aq4, .ref aq5, .ref aq6, .int aacc, .long afees, .int amis, .int abel, .int aref, .int acau], eI aq0 ak0 8 ag0, eI aq1 ak1 8 ag1, eI aq2 ak2 8 ag2, eO jp 2 [.ref pb, .ref pn, .int ps], eI pb kpb 80 fpb, eI pn kpn 80 fpn])) (va_Qi (fun (r : Int32) (_ : Unit) => True) (fun (_ : Unit) (t : State) => ∃ (fm' : Nat → Int32), ∃ (mc' : Int32), ∃ (ag1' : Nat → Int32), ∃ (afees' : Int64), (0 ≤ mc'.toInt) ∧ (mc'.toInt ≤ mc.toInt + 1) ∧ va_P (dC, dI) vwCl [eO h0 5 [.ref jb, .ref qm, .int mc', .ref qh, .ref qk, .ref qf, .int bg, .ref jp], eI qm km 60 (fm'), eI qh kh 8 fh, eO jb 0 [.ref aq0, .ref aq1, .ref aq2, .ref aq3, .ref aq4, .ref aq5, .ref aq6, .int aacc, .long afees', .int amis, .int abel, .int aref, .int acau], eI aq0 ak0 8 ag0, eI aq1 ak1 8 (ag1'), eI aq2 ak2 8 ag2, eO jp 2 [.ref pb, .ref pn, .int ps], eI pb kpb 80 fpb, eI pn kpn 80 fpn] t.heap ∧ va_K (dC, dI) vwCl [(km, .int), (kh, .int), (ak0, .int), (ak1, .int), (ak2, .int), (kpb, .int), (kpn, .int)] t ∧ va_D (va_A [eO h0 5 [.ref jb, .ref qm, .int mc, .ref qh, .ref qk, .ref qf, .int bg, .ref jp], eI qm km 60 fm, eI qh kh 8 fh, eO jb 0 [.ref aq0, .ref aq1, .ref aq2, .ref aq3, .ref aq4, .ref aq5, .ref aq6, .int aacc, .long afees, .int amis, .int abel, .int aref, .int acau], eI aq0 ak0 8 ag0, eI aq1 ak1 8 ag1, eI aq2 ak2 8 ag2, eO jp 2 [.ref pb, .ref pn, .int ps], eI pb kpb 80 fpb, eI pn kpn 80 fpn] sz) [eO h0 5 [.ref jb, .ref qm, .int mc', .ref qh, .ref qk, .ref qf, .int bg, .ref jp], eI qm km 60 (fm'), eI qh kh 8 fh, eO jb 0 [.ref aq0, .ref aq1, .ref aq2, .ref aq3, .ref aq4, .ref aq5, .ref aq6, .int aacc, .long afees', .int amis, .int abel, .int aref, .int acau], eI aq0 ak0 8 ag0, eI aq1 ak1 8 (ag1'), eI aq2 ak2 8 ag2, eO jp 2 [.ref pb, .ref pn, .int ps], eI pb kpb 80 fpb, eI pn kpn 80 fpn]) (va_A [eO h0 5 [.ref jb, .ref qm, .int mc, .ref qh, .ref qk, .ref qf, .int bg, .ref jp], eI qm km 60 fm, eI qh kh 8 fh, eO jb 0 [.ref aq0, .ref aq1, .ref aq2, .ref aq3, .ref aq4, .ref aq5, .ref aq6, .int aacc, .long afees, .int amis, .int abel, .int aref, .int acau], eI aq0 ak0 8 ag0, eI aq1 ak1 8 ag1, eI aq2 ak2 8 ag2, eO jp 2 [.ref pb, .ref pn, .int ps], eI pb kpb 80 fpb, eI pn kpn 80 fpn] sz)) 0 0 (va_A [eO h0 5 [.ref jb, .ref qm, .int mc, .ref qh, .ref qk, .ref qf, .int bg, .ref jp], eI qm km 60 fm, eI qh kh 8 fh, eO jb 0 [.ref aq0, .ref aq1, .ref aq2, .ref aq3, .ref aq4, .ref aq5, .ref aq6, .int aacc, .long afees, .int amis, .int abel, .int aref, .int acau], eI aq0 ak0 8 ag0, eI aq1 ak1 8 ag1, eI aq2 ak2 8 ag2, eO jp 2 [.ref pb, .ref pn, .int ps], eI pb kpb 80 fpb, eI pn kpn 80 fpn] sz) := by
  refine Met.ofW (cc := cX6_payment) (maxL := 7) (ret := (some .int)) (by decide) rfl ?_
  intro p e s m args below meth c s₁ B hml hv
  obtain ⟨rfl, hsz, hP, hK, hD0⟩ := hv
  have hx := B.exec
  have hb := B.bytes
  have hr := B.returns
  have hts := atoms_spec (ws := wsX6_payment) B.pre
  have hown : s.vm.findClass RX6 = some m.cls := findClass_of_methodNamed B.named
  have hlocks := B.notSynchronized
  subst hsz
  have hD := hD0.self (sz := s.heap.size)
  generalize hAe : va_A [eO h0 5 [.ref jb, .ref qm, .int mc, .ref qh, .ref qk, .ref qf, .int bg, .ref jp], eI qm km 60 fm, eI qh kh 8 fh, eO jb 0 [.ref aq0, .ref aq1, .ref aq2, .ref aq3, .ref aq4, .ref aq5, .ref aq6, .int aacc, .long afees, .int amis, .int abel, .int aref, .int acau], eI aq0 ak0 8 ag0, eI aq1 ak1 8 ag1, eI aq2 ak2 8 ag2, eO jp 2 [.ref pb, .ref pn, .int ps], eI pb kpb 80 fpb, eI pn kpn 80 fpn] s.heap.size = A at hD ⊢
  have hA : ∀ q : Nat, s.heap.size ≤ q → A q := fun q h => by rw [← hAe]; exact Or.inr h
  have hS : va_S A s.heap s.heap [] := va_S.rf
  have hP : va_P (dC, dI) vwCl [eO h0 5 [.ref jb, .ref qm, .int mc, .ref qh, .ref qk, .ref qf, .int bg, .ref jp], eI qm km 60 fm, eI qh kh 8 fh, eO jb 0 [.ref aq0, .ref aq1, .ref aq2, .ref aq3, .ref aq4, .ref aq5, .ref aq6, .int aacc, .long afees, .int amis, .int abel, .int aref, .int acau], eI aq0 ak0 8 ag0, eI aq1 ak1 8 ag1, eI aq2 ak2 8 ag2, eO jp 2 [.ref pb, .ref pn, .int ps], eI pb kpb 80 fpb, eI pn kpn 80 fpn] s.heap := hP
  have hl := lv_entry ([.ref h0, .int p0]) (n := 7) (Nat.le_of_ble_eq_true rfl)
  rw [lg_entry_eq]
  generalize (lg_sl ([.ref h0, .int p0]) ++ List.replicate (7 - (lg_sl ([.ref h0, .int p0])).length) Slot.unset).toArray = ls at hl ⊢
  have hl : lv_has ls 7 [(0, .ref h0), (1, .int p0)] := hl
  suffices key9 : ∀ Q9 : State → Prop, Q9 = (MQ below (va_Qi (fun (r : Int32) (_ : Unit) => True) (fun (_ : Unit) (t : State) => ∃ (fm' : Nat → Int32), ∃ (mc' : Int32), ∃ (ag1' : Nat → Int32), ∃ (afees' : Int64), (0 ≤ mc'.toInt) ∧ (mc'.toInt ≤ mc.toInt + 1) ∧ va_P (dC, dI) vwCl [eO h0 5 [.ref jb, .ref qm, .int mc', .ref qh, .ref qk, .ref qf, .int bg, .ref jp], eI qm km 60 (fm'), eI qh kh 8 fh, eO jb 0 [.ref aq0, .ref aq1, .ref aq2, .ref aq3, .ref aq4, .ref aq5, .ref aq6, .int aacc, .long afees', .int amis, .int abel, .int aref, .int acau], eI aq0 ak0 8 ag0, eI aq1 ak1 8 (ag1'), eI aq2 ak2 8 ag2, eO jp 2 [.ref pb, .ref pn, .int ps], eI pb kpb 80 fpb, eI pn kpn 80 fpn] t.heap ∧ va_K (dC, dI) vwCl [(km, .int), (kh, .int), (ak0, .int), (ak1, .int), (ak2, .int), (kpb, .int), (kpn, .int)] t ∧ va_D A [eO h0 5 [.ref jb, .ref qm, .int mc', .ref qh, .ref qk, .ref qf, .int bg, .ref jp], eI qm km 60 (fm'), eI qh kh 8 fh, eO jb 0 [.ref aq0, .ref aq1, .ref aq2, .ref aq3, .ref aq4, .ref aq5, .ref aq6, .int aacc, .long afees', .int amis, .int abel, .int aref, .int acau], eI aq0 ak0 8 ag0, eI aq1 ak1 8 (ag1'), eI aq2 ak2 8 ag2, eO jp 2 [.ref pb, .ref pn, .int ps], eI pb kpb 80 fpb, eI pn kpn 80 fpn]) A) (([.ref h0, .int p0] : List Value).toArray) s 0 0 A) → W p l e ({ frames := 2, cells := 0, slots := 0, locals := 45 }) s m (([.ref h0, .int p0] : List Value).toArray) below meth c s.heap [] 0 0 Q9 (F0 m 0 ls []) from key9 _ rfl
  intro Q9 hQ9
  have k_0 : (0 : Int32).toInt = 0 := by decide
  have k_1 : (1 : Int32).toInt = 1 := by decide
  have k_2 : (2 : Int32).toInt = 2 := by decide
  have k_3 : (3 : Int32).toInt = 3 := by decide
  have k_10 : (10 : Int32).toInt = 10 := by decide
  have k_100 : (100 : Int32).toInt = 100 := by decide
  have k_1000000000 : (1000000000 : Int32).toInt = 1000000000 := by decide
  refine lv_aload_n hx hb dX6_payment_0 rfl (lv_at hl 0 rfl) ?_
  refine va_get (D := (dC, dI)) (ci := 5) (v := .ref jp) (C := RX6) (T := TX6) (N := 8) hx hb hts (fun w h => List.mem_cons_of_mem _ (inlX6 w h)) hown hK hP 0 rfl rfl 7 (by decide) (hts (.fieldLink RX6 41 "ClearingGates$Runner" "program" "LClearingGates$Program;") (List.mem_cons_of_mem _ mw_195)) (fun _ h9 => h9) rfl dX6_payment_1 ?_
  refine lv_iload_n hx hb dX6_payment_4 rfl (lv_at hl 1 rfl) ?_
  refine lv_iconst (v := 1) hx hb dX6_payment_5 (by decide) ?_
  refine lv_iadd hx hb dX6_payment_6 ?_
  refine lv_topi (fun z1 e_z1 => ?_)
  have t_z1 := i_add e_z1 (by omega) (by omega)
  obtain ⟨hPc, hDc, hFc, hCm, hNw⟩ := C_s (wc := [eO jp 2 [.ref pb, .ref pn, .int ps], eI pb kpb 80 fpb]) hP hD hS hA [(7, 2)] 10 rfl (by decide +kernel) rfl
  have hKc := K_s (tys' := [(kpb, .int)]) hK [(5, 1)] rfl
  refine va_calli (va_runV (As := [.int z1]) (rest := []) ⟨hx, hb, hml, hown, hts⟩ (c_X3_figureAt l dC dI jp z1 pb pn ps kpb fpb s.heap.size hp1 hp2) (cwV 1 hts gX6_payment_X3_figureAt rfl rfl rfl (by decide +kernel) ⟨Nat.le_of_ble_eq_true rfl, Nat.le_of_ble_eq_true rfl⟩) ⟨fun a U g mk q => by obtain ⟨q0, q1, qP, qK, qD⟩ := q; exact ⟨q0, q1, qP, va_K.moved (u := U) (U := U.calling g mk a) (Vm.Alike.refl U.vm) qK, qD⟩, va_recv (s := s) (q := (RX3, TX3, 3)) hKc hPc (ci := 2) (q0 := 0) rfl rfl, fun U hU hW => ⟨rfl, by rw [hU], by rw [hU]; exact hPc, va_K.moved hW.alike hKc, hDc.weaken (fun _ _ _ _ => trivial)⟩⟩ rfl rfl hl.1 rfl (lv_room (Nat.le_of_ble_eq_true rfl)) dX6_payment_7 ⟨Nat.le_of_ble_eq_true rfl, Nat.le_of_ble_eq_true rfl⟩) hS (fun q _ h => hFc q h) hFc (fun r2 u t H1 locs ht hvm hw hB hz1 hk1 hS => ?_)
  obtain ⟨hP1, hK1, hD1⟩ := hB
  rw [ht] at hP1
  have hK1 := va_K.moved hvm.symm hK1
  try dsimp only at hw
  obtain ⟨hP, hD⟩ := J_s (wL := [eO h0 5 [.ref jb, .ref qm, .int mc, .ref qh, .ref qk, .ref qf, .int bg, .ref jp], eI qm km 60 fm, eI qh kh 8 fh, eO jb 0 [.ref aq0, .ref aq1, .ref aq2, .ref aq3, .ref aq4, .ref aq5, .ref aq6, .int aacc, .long afees, .int amis, .int abel, .int aref, .int acau], eI aq0 ak0 8 ag0, eI aq1 ak1 8 ag1, eI aq2 ak2 8 ag2, eI pn kpn 80 fpn, eO jp 2 [.ref pb, .ref pn, .int ps], eI pb kpb 80 fpb]) hP hD [(7, 2)] [(0, 7), (9, 1)] hCm hNw (by decide +kernel) hk1 hFc hP1 hD1 rfl
  have hK := KJ_s (tys' := [(km, .int), (kh, .int), (ak0, .int), (ak1, .int), (ak2, .int), (kpn, .int), (kpb, .int)]) hK hK1 [(0, 5), (6, 1)] rfl
  generalize H1 = H at hP hS ⊢
  refine lv_istore_n (lv' := [(2, .int r2), (0, .ref h0), (1, .int p0)]) hx hb dX6_payment_10 rfl hl (by decide) rfl (fun ls hl => ?_)
  refine lv_aload_n hx hb dX6_payment_11 rfl (lv_at hl 1 rfl) ?_
  refine va_get (D := (dC, dI)) (ci := 5) (v := .ref jp) (C := RX6) (T := TX6) (N := 8) hx hb hts (fun w h => List.mem_cons_of_mem _ (inlX6 w h)) hown hK hP 0 rfl rfl 7 (by decide) (hts (.fieldLink RX6 41 "ClearingGates$Runner" "program" "LClearingGates$Program;") (List.mem_cons_of_mem _ mw_195)) (fun _ h9 => h9) rfl dX6_payment_12 ?_
  refine lv_iload_n hx hb dX6_payment_15 rfl (lv_at hl 2 rfl) ?_
  refine lv_iconst (v := 2) hx hb dX6_payment_16 (by decide) ?_
  refine lv_iadd hx hb dX6_payment_17 ?_
  refine lv_topi (fun z3 e_z3 => ?_)
  have t_z3 := i_add e_z3 (by omega) (by omega)
  obtain ⟨hPc, hDc, hFc, hCm, hNw⟩ := C_s (wc := [eO jp 2 [.ref pb, .ref pn, .int ps], eI pb kpb 80 fpb]) hP hD hS hA [(8, 2)] 10 rfl (by decide +kernel) rfl
  have hKc := K_s (tys' := [(kpb, .int)]) hK [(6, 1)] rfl
  refine va_calli (va_runV (As := [.int z3]) (rest := []) ⟨hx, hb, hml, hown, hts⟩ (c_X3_figureAt l dC dI jp z3 pb pn ps kpb fpb H.size hp1 hp2) (cwV 1 hts gX6_payment_X3_figureAt rfl rfl rfl (by decide +kernel) ⟨Nat.le_of_ble_eq_true rfl, Nat.le_of_ble_eq_true rfl⟩) ⟨fun a U g mk q => by obtain ⟨q0, q1, qP, qK, qD⟩ := q; exact ⟨q0, q1, qP, va_K.moved (u := U) (U := U.calling g mk a) (Vm.Alike.refl U.vm) qK, qD⟩, va_recv (s := s) (q := (RX3, TX3, 3)) hKc hPc (ci := 2) (q0 := 0) rfl rfl, fun U hU hW => ⟨rfl, by rw [hU], by rw [hU]; exact hPc, va_K.moved hW.alike hKc, hDc.weaken (fun _ _ _ _ => trivial)⟩⟩ rfl rfl hl.1 rfl (lv_room (Nat.le_of_ble_eq_true rfl)) dX6_payment_18 ⟨Nat.le_of_ble_eq_true rfl, Nat.le_of_ble_eq_true rfl⟩) hS (fun q _ h => hFc q h) hFc (fun r4 u t H1 locs ht hvm hw hB hz1 hk1 hS => ?_)
  obtain ⟨hP1, hK1, hD1⟩ := hB
  rw [ht] at hP1
  have hK1 := va_K.moved hvm.symm hK1
  try dsimp only at hw
  obtain ⟨hP, hD⟩ := J_s (wL := [eO h0 5 [.ref jb, .ref qm, .int mc, .ref qh, .ref qk, .ref qf, .int bg, .ref jp], eI qm km 60 fm, eI qh kh 8 fh, eO jb 0 [.ref aq0, .ref aq1, .ref aq2, .ref aq3, .ref aq4, .ref aq5, .ref aq6, .int aacc, .long afees, .int amis, .int abel, .int aref, .int acau], eI aq0 ak0 8 ag0, eI aq1 ak1 8 ag1, eI aq2 ak2 8 ag2, eI pn kpn 80 fpn, eO jp 2 [.ref pb, .ref pn, .int ps], eI pb kpb 80 fpb]) hP hD [(8, 2)] [(0, 8)] hCm hNw (by decide +kernel) hk1 hFc hP1 hD1 rfl
  have hK := KJ_s (tys' := [(km, .int), (kh, .int), (ak0, .int), (ak1, .int), (ak2, .int), (kpn, .int), (kpb, .int)]) hK hK1 [(0, 6)] rfl
  generalize H1 = H at hP hS ⊢
  refine lv_istore_n (lv' := [(3, .int r4), (2, .int r2), (0, .ref h0), (1, .int p0)]) hx hb dX6_payment_21 rfl hl (by decide) rfl (fun ls hl => ?_)
  refine lv_iload_n hx hb dX6_payment_22 rfl (lv_at hl 1 rfl) ?_
  refine lv_iload_n hx hb dX6_payment_23 rfl (lv_at hl 0 rfl) ?_
  refine lv_icmp_eq (tgt := 43) hx hb dX6_payment_24 (by decide) (fun c5 => ?_) (fun c5 => ?_)
  · skip
    have f_c5 := i_eq c5
    refine lv_iconst (v := 2) hx hb dX6_payment_43 (by decide) ?_
    rw [hQ9]
    exact W.iret (v := 2) hx hb hr (fun t ht hW => ⟨⟨2, (), rfl, (by first | rfl | trivial), fm, mc, ag1, afees, (by first | assumption | omega), (by first | assumption | omega), by rw [ht]; exact P_s hP [(0, 7), (8, 2), (7, 1)] rfl, va_K.moved hW.alike (K_s hK [(0, 5), (6, 1), (5, 1)] rfl), D_s hD [(0, 7), (8, 2), (7, 1)] 10 rfl (by decide +kernel) rfl⟩, hS.F ht⟩) hS.2.2 dX6_payment_44
  · skip
    have f_c5 := i_ne c5
    refine lv_aload_n hx hb dX6_payment_27 rfl (lv_at hl 2 rfl) ?_
    refine lv_iload_n hx hb dX6_payment_28 rfl (lv_at hl 1 rfl) ?_
    obtain ⟨hPc, hDc, hFc, hCm, hNw⟩ := C_s (wc := [eO h0 5 [.ref jb, .ref qm, .int mc, .ref qh, .ref qk, .ref qf, .int bg, .ref jp], eI qh kh 8 fh, eO jb 0 [.ref aq0, .ref aq1, .ref aq2, .ref aq3, .ref aq4, .ref aq5, .ref aq6, .int aacc, .long afees, .int amis, .int abel, .int aref, .int acau]]) hP hD hS hA [(0, 1), (2, 2)] 10 rfl (by decide +kernel) rfl
    have hKc := K_s (tys' := [(kh, .int)]) hK [(1, 1)] rfl
    refine va_calli (va_runV (As := [.int r2]) (rest := []) ⟨hx, hb, hml, hown, hts⟩ (c_X6_isHeld l dC dI h0 r2 jb qm mc qh qk qf bg jp kh fh (.ref aq0) (.ref aq1) (.ref aq2) (.ref aq3) (.ref aq4) (.ref aq5) (.ref aq6) aacc (.long afees) (.int amis) (.int abel) (.int aref) (.int acau) H.size ra2) (cwV 1 hts gX6_payment_X6_isHeld rfl rfl rfl (by decide +kernel) ⟨Nat.le_of_ble_eq_true rfl, Nat.le_of_ble_eq_true rfl⟩) ⟨fun a U g mk q => by obtain ⟨q0, q1, qP, qK, qD⟩ := q; exact ⟨q0, q1, qP, va_K.moved (u := U) (U := U.calling g mk a) (Vm.Alike.refl U.vm) qK, qD⟩, va_recv (s := s) (q := (RX6, TX6, 8)) hKc hPc (ci := 5) (q0 := 0) rfl rfl, fun U hU hW => ⟨rfl, by rw [hU], by rw [hU]; exact hPc, va_K.moved hW.alike hKc, hDc.weaken (fun _ _ _ _ => trivial)⟩⟩ rfl rfl hl.1 rfl (lv_room (Nat.le_of_ble_eq_true rfl)) dX6_payment_29 ⟨Nat.le_of_ble_eq_true rfl, Nat.le_of_ble_eq_true rfl⟩) hS (fun q _ h => hFc q h) hFc (fun r6 u t H1 locs ht hvm hw hB hz1 hk1 hS => ?_)
    obtain ⟨hP1, hK1, hD1⟩ := hB
    rw [ht] at hP1
    have hK1 := va_K.moved hvm.symm hK1
    try dsimp only at hw
    obtain ⟨hP, hD⟩ := J_s (wL := [eI qm km 60 fm, eI aq0 ak0 8 ag0, eI aq1 ak1 8 ag1, eI aq2 ak2 8 ag2, eI pn kpn 80 fpn, eO jp 2 [.ref pb, .ref pn, .int ps], eI pb kpb 80 fpb, eO h0 5 [.ref jb, .ref qm, .int mc, .ref qh, .ref qk, .ref qf, .int bg, .ref jp], eI qh kh 8 fh, eO jb 0 [.ref aq0, .ref aq1, .ref aq2, .ref aq3, .ref aq4, .ref aq5, .ref aq6, .int aacc, .long afees, .int amis, .int abel, .int aref, .int acau]]) hP hD [(0, 1), (2, 2)] [(1, 1), (4, 6)] hCm hNw (by decide +kernel) hk1 hFc hP1 hD1 rfl
    have hK := KJ_s (tys' := [(km, .int), (ak0, .int), (ak1, .int), (ak2, .int), (kpn, .int), (kpb, .int), (kh, .int)]) hK hK1 [(0, 1), (2, 5)] rfl
    generalize H1 = H at hP hS ⊢
    rcases hw with ⟨e_r6, f_r6⟩ | ⟨e_r6, f_r6⟩
    · subst e_r6
      refine lv_if_eq (tgt := 43) hx hb dX6_payment_32 (by decide) (fun c7 => absurd c7 (by decide)) (fun c7 => ?_)
      refine lv_aload_n hx hb dX6_payment_35 rfl (lv_at hl 2 rfl) ?_
      refine lv_iload_n hx hb dX6_payment_36 rfl (lv_at hl 0 rfl) ?_
      obtain ⟨hPc, hDc, hFc, hCm, hNw⟩ := C_s (wc := [eO h0 5 [.ref jb, .ref qm, .int mc, .ref qh, .ref qk, .ref qf, .int bg, .ref jp], eI qh kh 8 fh, eO jb 0 [.ref aq0, .ref aq1, .ref aq2, .ref aq3, .ref aq4, .ref aq5, .ref aq6, .int aacc, .long afees, .int amis, .int abel, .int aref, .int acau]]) hP hD hS hA [(7, 3)] 10 rfl (by decide +kernel) rfl
      have hKc := K_s (tys' := [(kh, .int)]) hK [(6, 1)] rfl
      refine va_calli (va_runV (As := [.int r4]) (rest := []) ⟨hx, hb, hml, hown, hts⟩ (c_X6_isHeld l dC dI h0 r4 jb qm mc qh qk qf bg jp kh fh (.ref aq0) (.ref aq1) (.ref aq2) (.ref aq3) (.ref aq4) (.ref aq5) (.ref aq6) aacc (.long afees) (.int amis) (.int abel) (.int aref) (.int acau) H.size ra2) (cwV 1 hts gX6_payment_X6_isHeld rfl rfl rfl (by decide +kernel) ⟨Nat.le_of_ble_eq_true rfl, Nat.le_of_ble_eq_true rfl⟩) ⟨fun a U g mk q => by obtain ⟨q0, q1, qP, qK, qD⟩ := q; exact ⟨q0, q1, qP, va_K.moved (u := U) (U := U.calling g mk a) (Vm.Alike.refl U.vm) qK, qD⟩, va_recv (s := s) (q := (RX6, TX6, 8)) hKc hPc (ci := 5) (q0 := 0) rfl rfl, fun U hU hW => ⟨rfl, by rw [hU], by rw [hU]; exact hPc, va_K.moved hW.alike hKc, hDc.weaken (fun _ _ _ _ => trivial)⟩⟩ rfl rfl hl.1 rfl (lv_room (Nat.le_of_ble_eq_true rfl)) dX6_payment_37 ⟨Nat.le_of_ble_eq_true rfl, Nat.le_of_ble_eq_true rfl⟩) hS (fun q _ h => hFc q h) hFc (fun r8 u t H1 locs ht hvm hw hB hz1 hk1 hS => ?_)
      obtain ⟨hP1, hK1, hD1⟩ := hB
      rw [ht] at hP1
      have hK1 := va_K.moved hvm.symm hK1
      try dsimp only at hw
      obtain ⟨hP, hD⟩ := J_s (wL := [eI qm km 60 fm, eI aq0 ak0 8 ag0, eI aq1 ak1 8 ag1, eI aq2 ak2 8 ag2, eI pn kpn 80 fpn, eO jp 2 [.ref pb, .ref pn, .int ps], eI pb kpb 80 fpb, eO h0 5 [.ref jb, .ref qm, .int mc, .ref qh, .ref qk, .ref qf, .int bg, .ref jp], eI qh kh 8 fh, eO jb 0 [.ref aq0, .ref aq1, .ref aq2, .ref aq3, .ref aq4, .ref aq5, .ref aq6, .int aacc, .long afees, .int amis, .int abel, .int aref, .int acau]]) hP hD [(7, 3)] [(0, 7)] hCm hNw (by decide +kernel) hk1 hFc hP1 hD1 rfl
      have hK := KJ_s (tys' := [(km, .int), (ak0, .int), (ak1, .int), (ak2, .int), (kpn, .int), (kpb, .int), (kh, .int)]) hK hK1 [(0, 6)] rfl
      generalize H1 = H at hP hS ⊢
      rcases hw with ⟨e_r8, f_r8⟩ | ⟨e_r8, f_r8⟩
      · subst e_r8
        refine lv_if_ne (tgt := 45) hx hb dX6_payment_40 (by decide) (fun c9 => ?_) (fun c9 => absurd c9 (by decide))
        refine lv_aload_n hx hb dX6_payment_45 rfl (lv_at hl 2 rfl) ?_
        refine va_get (D := (dC, dI)) (ci := 5) (v := .ref jp) (C := RX6) (T := TX6) (N := 8) hx hb hts (fun w h => List.mem_cons_of_mem _ (inlX6 w h)) hown hK hP 7 rfl rfl 7 (by decide) (hts (.fieldLink RX6 41 "ClearingGates$Runner" "program" "LClearingGates$Program;") (List.mem_cons_of_mem _ mw_195)) (fun _ h9 => h9) rfl dX6_payment_46 ?_
        refine lv_iload_n hx hb dX6_payment_49 rfl (lv_at hl 3 rfl) ?_
        refine lv_iconst (v := 3) hx hb dX6_payment_50 (by decide) ?_
        refine lv_iadd hx hb dX6_payment_51 ?_
        refine lv_topi (fun z10 e_z10 => ?_)
        have t_z10 := i_add e_z10 (by omega) (by omega)
        refine lv_aload_n hx hb dX6_payment_52 rfl (lv_at hl 2 rfl) ?_
        refine va_get (D := (dC, dI)) (ci := 5) (v := .ref jp) (C := RX6) (T := TX6) (N := 8) hx hb hts (fun w h => List.mem_cons_of_mem _ (inlX6 w h)) hown hK hP 7 rfl rfl 7 (by decide) (hts (.fieldLink RX6 41 "ClearingGates$Runner" "program" "LClearingGates$Program;") (List.mem_cons_of_mem _ mw_195)) (fun _ h9 => h9) rfl dX6_payment_53 ?_
        refine lv_iload_n hx hb dX6_payment_56 rfl (lv_at hl 3 rfl) ?_
        obtain ⟨hPc, hDc, hFc, hCm, hNw⟩ := C_s (wc := [eO jp 2 [.ref pb, .ref pn, .int ps], eI pn kpn 80 fpn]) hP hD hS hA [(5, 1), (4, 1)] 10 rfl (by decide +kernel) rfl
        have hKc := K_s (tys' := [(kpn, .int)]) hK [(4, 1)] rfl
        refine va_calli (va_runV (As := [.int p0]) (rest := [.int z10, .ref jp]) ⟨hx, hb, hml, hown, hts⟩ (c_X3_behindItem l dC dI jp p0 pb pn ps kpn fpn H.size hp1 hp2 hb0) (cwV 1 hts gX6_payment_X3_behindItem rfl rfl rfl (by decide +kernel) ⟨Nat.le_of_ble_eq_true rfl, Nat.le_of_ble_eq_true rfl⟩) ⟨fun a U g mk q => by obtain ⟨q0, q1, qP, qK, qD⟩ := q; exact ⟨q0, q1, qP, va_K.moved (u := U) (U := U.calling g mk a) (Vm.Alike.refl U.vm) qK, qD⟩, va_recv (s := s) (q := (RX3, TX3, 3)) hKc hPc (ci := 2) (q0 := 0) rfl rfl, fun U hU hW => ⟨rfl, by rw [hU], by rw [hU]; exact hPc, va_K.moved hW.alike hKc, hDc.weaken (fun _ _ _ _ => trivial)⟩⟩ rfl rfl hl.1 rfl (lv_room (Nat.le_of_ble_eq_true rfl)) dX6_payment_57 ⟨Nat.le_of_ble_eq_true rfl, Nat.le_of_ble_eq_true rfl⟩) hS (fun q _ h => hFc q h) hFc (fun r11 u t H1 locs ht hvm hw hB hz1 hk1 hS => ?_)
        obtain ⟨hP1, hK1, hD1⟩ := hB
        rw [ht] at hP1
        have hK1 := va_K.moved hvm.symm hK1
        try dsimp only at hw
        obtain ⟨hP, hD⟩ := J_s (wL := [eI qm km 60 fm, eI aq0 ak0 8 ag0, eI aq1 ak1 8 ag1, eI aq2 ak2 8 ag2, eI pb kpb 80 fpb, eO h0 5 [.ref jb, .ref qm, .int mc, .ref qh, .ref qk, .ref qf, .int bg, .ref jp], eI qh kh 8 fh, eO jb 0 [.ref aq0, .ref aq1, .ref aq2, .ref aq3, .ref aq4, .ref aq5, .ref aq6, .int aacc, .long afees, .int amis, .int abel, .int aref, .int acau], eO jp 2 [.ref pb, .ref pn, .int ps], eI pn kpn 80 fpn]) hP hD [(5, 1), (4, 1)] [(0, 4), (6, 4)] hCm hNw (by decide +kernel) hk1 hFc hP1 hD1 rfl
        have hK := KJ_s (tys' := [(km, .int), (ak0, .int), (ak1, .int), (ak2, .int), (kpb, .int), (kh, .int), (kpn, .int)]) hK hK1 [(0, 4), (5, 2)] rfl
        generalize H1 = H at hP hS ⊢
        have h_r11 := hw
        obtain ⟨hPc, hDc, hFc, hCm, hNw⟩ := C_s (wc := [eO jp 2 [.ref pb, .ref pn, .int ps], eI pb kpb 80 fpb]) hP hD hS hA [(8, 1), (4, 1)] 10 rfl (by decide +kernel) rfl
        have hKc := K_s (tys' := [(kpb, .int)]) hK [(4, 1)] rfl
        refine va_calli (va_runV (As := [.int z10, .int r11]) (rest := []) ⟨hx, hb, hml, hown, hts⟩ (c_X3_numberBetween l dC dI jp z10 r11 pb pn ps kpb fpb H.size hp1 hp2 (by first | assumption | omega) (by first | assumption | omega) (by first | assumption | omega)) (cwV 2 hts gX6_payment_X3_numberBetween rfl rfl rfl (by decide +kernel) ⟨Nat.le_of_ble_eq_true rfl, Nat.le_of_ble_eq_true rfl⟩) ⟨fun a U g mk q => by obtain ⟨q0, q1, qP, qK, qD⟩ := q; exact ⟨q0, q1, qP, va_K.moved (u := U) (U := U.calling g mk a) (Vm.Alike.refl U.vm) qK, qD⟩, va_recv (s := s) (q := (RX3, TX3, 3)) hKc hPc (ci := 2) (q0 := 0) rfl rfl, fun U hU hW => ⟨rfl, by rw [hU], by rw [hU]; exact hPc, va_K.moved hW.alike hKc, hDc.weaken (fun _ _ _ _ => trivial)⟩⟩ rfl rfl hl.1 rfl (lv_room (Nat.le_of_ble_eq_true rfl)) dX6_payment_60 ⟨Nat.le_of_ble_eq_true rfl, Nat.le_of_ble_eq_true rfl⟩) hS (fun q _ h => hFc q h) hFc (fun r12 u t H1 locs ht hvm hw hB hz1 hk1 hS => ?_)
        obtain ⟨hP1, hK1, hD1⟩ := hB
        rw [ht] at hP1
        have hK1 := va_K.moved hvm.symm hK1
        try dsimp only at hw
        obtain ⟨hP, hD⟩ := J_s (wL := [eI qm km 60 fm, eI aq0 ak0 8 ag0, eI aq1 ak1 8 ag1, eI aq2 ak2 8 ag2, eO h0 5 [.ref jb, .ref qm, .int mc, .ref qh, .ref qk, .ref qf, .int bg, .ref jp], eI qh kh 8 fh, eO jb 0 [.ref aq0, .ref aq1, .ref aq2, .ref aq3, .ref aq4, .ref aq5, .ref aq6, .int aacc, .long afees, .int amis, .int abel, .int aref, .int acau], eI pn kpn 80 fpn, eO jp 2 [.ref pb, .ref pn, .int ps], eI pb kpb 80 fpb]) hP hD [(8, 1), (4, 1)] [(0, 4), (5, 3), (9, 1)] hCm hNw (by decide +kernel) hk1 hFc hP1 hD1 rfl
        have hK := KJ_s (tys' := [(km, .int), (ak0, .int), (ak1, .int), (ak2, .int), (kh, .int), (kpn, .int), (kpb, .int)]) hK hK1 [(0, 4), (5, 2)] rfl
        generalize H1 = H at hP hS ⊢
        refine lv_istore (lv' := [(4, .int r12), (3, .int r4), (2, .int r2), (0, .ref h0), (1, .int p0)]) hx hb dX6_payment_63 hl (by decide) rfl (fun ls hl => ?_)
        refine lv_aload_n hx hb dX6_payment_65 rfl (lv_at hl 3 rfl) ?_
        refine va_get (D := (dC, dI)) (ci := 5) (v := .ref jb) (C := RX6) (T := TX6) (N := 8) hx hb hts (fun w h => List.mem_cons_of_mem _ (inlX6 w h)) hown hK hP 4 rfl rfl 0 (by decide) (hts (.fieldLink RX6 27 "ClearingGates$Runner" "books" "LClearingGates$Books;") (List.mem_cons_of_mem _ mw_185)) (fun _ h9 => h9) rfl dX6_payment_66 ?_
        refine lv_iload_n hx hb dX6_payment_69 rfl (lv_at hl 2 rfl) ?_
        refine lv_iload hx hb dX6_payment_70 (lv_at hl 0 rfl) ?_
        obtain ⟨hPc, hDc, hFc, hCm, hNw⟩ := C_s (wc := [eO jb 0 [.ref aq0, .ref aq1, .ref aq2, .ref aq3, .ref aq4, .ref aq5, .ref aq6, .int aacc, .long afees, .int amis, .int abel, .int aref, .int acau], eI aq0 ak0 8 ag0]) hP hD hS hA [(6, 1), (1, 1)] 10 rfl (by decide +kernel) rfl
        have hKc := K_s (tys' := [(ak0, .int)]) hK [(1, 1)] rfl
        refine va_calli (va_runV (As := [.int r2, .int r12]) (rest := []) ⟨hx, hb, hml, hown, hts⟩ (c_X0_feeOf l dC dI jb r2 r12 aq0 (.ref aq1) (.ref aq2) (.ref aq3) (.ref aq4) (.ref aq5) (.ref aq6) (.int aacc) (.long afees) (.int amis) (.int abel) (.int aref) (.int acau) ak0 ag0 H.size (by first | assumption | omega) (by first | assumption | omega)) (cwV 2 hts gX6_payment_X0_feeOf rfl rfl rfl (by decide +kernel) ⟨Nat.le_of_ble_eq_true rfl, Nat.le_of_ble_eq_true rfl⟩) ⟨fun a U g mk q => by obtain ⟨q0, q1, qP, qK, qD⟩ := q; exact ⟨q0, q1, qP, va_K.moved (u := U) (U := U.calling g mk a) (Vm.Alike.refl U.vm) qK, qD⟩, va_recv (s := s) (q := (RX0, TX0, 13)) hKc hPc (ci := 0) (q0 := 0) rfl rfl, fun U hU hW => ⟨rfl, by rw [hU], by rw [hU]; exact hPc, va_K.moved hW.alike hKc, hDc.weaken (fun _ _ _ _ => trivial)⟩⟩ rfl rfl hl.1 rfl (lv_room (Nat.le_of_ble_eq_true rfl)) dX6_payment_72 ⟨Nat.le_of_ble_eq_true rfl, Nat.le_of_ble_eq_true rfl⟩) hS (fun q _ h => hFc q h) hFc (fun r13 u t H1 locs ht hvm hw hB hz1 hk1 hS => ?_)
        obtain ⟨hP1, hK1, hD1⟩ := hB
        rw [ht] at hP1
        have hK1 := va_K.moved hvm.symm hK1
        try dsimp only at hw
        obtain ⟨hP, hD⟩ := J_s (wL := [eI qm km 60 fm, eI aq1 ak1 8 ag1, eI aq2 ak2 8 ag2, eO h0 5 [.ref jb, .ref qm, .int mc, .ref qh, .ref qk, .ref qf, .int bg, .ref jp], eI qh kh 8 fh, eI pn kpn 80 fpn, eO jp 2 [.ref pb, .ref pn, .int ps], eI pb kpb 80 fpb, eO jb 0 [.ref aq0, .ref aq1, .ref aq2, .ref aq3, .ref aq4, .ref aq5, .ref aq6, .int aacc, .long afees, .int amis, .int abel, .int aref, .int acau], eI aq0 ak0 8 ag0]) hP hD [(6, 1), (1, 1)] [(0, 1), (2, 4), (7, 3)] hCm hNw (by decide +kernel) hk1 hFc hP1 hD1 rfl
        have hK := KJ_s (tys' := [(km, .int), (ak1, .int), (ak2, .int), (kh, .int), (kpn, .int), (kpb, .int), (ak0, .int)]) hK hK1 [(0, 1), (2, 5)] rfl
        generalize H1 = H at hP hS ⊢
        refine lv_istore (lv' := [(5, .int r13), (4, .int r12), (3, .int r4), (2, .int r2), (0, .ref h0), (1, .int p0)]) hx hb dX6_payment_75 hl (by decide) rfl (fun ls hl => ?_)
        refine lv_aload_n hx hb dX6_payment_77 rfl (lv_at hl 4 rfl) ?_
        refine va_get (D := (dC, dI)) (ci := 5) (v := .ref jb) (C := RX6) (T := TX6) (N := 8) hx hb hts (fun w h => List.mem_cons_of_mem _ (inlX6 w h)) hown hK hP 3 rfl rfl 0 (by decide) (hts (.fieldLink RX6 27 "ClearingGates$Runner" "books" "LClearingGates$Books;") (List.mem_cons_of_mem _ mw_185)) (fun _ h9 => h9) rfl dX6_payment_78 ?_
        refine va_get (D := (dC, dI)) (ci := 0) (v := .ref aq1) (C := RX0) (T := TX0) (N := 13) hx hb hts (fun w h => List.mem_cons_of_mem _ (inlX0 w h)) hown hK hP 8 rfl rfl 1 (by decide) (hts (.fieldLink RX6 134 "ClearingGates$Books" "balances" "[I") (List.mem_cons_of_mem _ mw_98)) (fun _ h9 => h9) rfl dX6_payment_81 ?_
        refine lv_iload_n hx hb dX6_payment_84 rfl (lv_at hl 3 rfl) ?_
        refine va_iald (D := (dC, dI)) hx hb hK hP 1 1 rfl rfl (vp_in_iff.mpr ⟨by omega, by omega⟩) dX6_payment_85 ?_
        refine lv_topi (fun z14 e_z14 => ?_)
        refine lv_iload hx hb dX6_payment_86 (lv_at hl 1 rfl) ?_
        refine lv_isub hx hb dX6_payment_88 ?_
        refine lv_topi (fun z15 e_z15 => ?_)
        refine lv_iload hx hb dX6_payment_89 (lv_at hl 0 rfl) ?_
        refine lv_isub hx hb dX6_payment_91 ?_
        refine lv_topi (fun z16 e_z16 => ?_)
        refine lv_istore (lv' := [(6, .int z16), (5, .int r13), (4, .int r12), (3, .int r4), (2, .int r2), (0, .ref h0), (1, .int p0)]) hx hb dX6_payment_92 hl (by decide) rfl (fun ls hl => ?_)
        refine lv_iload hx hb dX6_payment_94 (lv_at hl 0 rfl) ?_
        refine lv_aload_n hx hb dX6_payment_96 rfl (lv_at hl 5 rfl) ?_
        refine va_get (D := (dC, dI)) (ci := 5) (v := .ref jb) (C := RX6) (T := TX6) (N := 8) hx hb hts (fun w h => List.mem_cons_of_mem _ (inlX6 w h)) hown hK hP 3 rfl rfl 0 (by decide) (hts (.fieldLink RX6 27 "ClearingGates$Runner" "books" "LClearingGates$Books;") (List.mem_cons_of_mem _ mw_185)) (fun _ h9 => h9) rfl dX6_payment_97 ?_
        refine lv_iload_n hx hb dX6_payment_100 rfl (lv_at hl 4 rfl) ?_
        obtain ⟨hPc, hDc, hFc, hCm, hNw⟩ := C_s (wc := [eO jb 0 [.ref aq0, .ref aq1, .ref aq2, .ref aq3, .ref aq4, .ref aq5, .ref aq6, .int aacc, .long afees, .int amis, .int abel, .int aref, .int acau], eI aq0 ak0 8 ag0, eI aq2 ak2 8 ag2]) hP hD hS hA [(8, 2), (2, 1)] 10 rfl (by decide +kernel) rfl
        have hKc := K_s (tys' := [(ak0, .int), (ak2, .int)]) hK [(6, 1), (2, 1)] rfl
        refine va_calli (va_runV (As := [.int r2]) (rest := [.int z16]) ⟨hx, hb, hml, hown, hts⟩ (c_X0_floorOf l dC dI jb r2 aq0 (.ref aq1) aq2 (.ref aq3) (.ref aq4) (.ref aq5) (.ref aq6) (.int aacc) (.long afees) (.int amis) (.int abel) (.int aref) (.int acau) ak0 ag0 ak2 ag2 H.size (by first | assumption | omega) (by first | assumption | omega)) (cwV 1 hts gX6_payment_X0_floorOf rfl rfl rfl (by decide +kernel) ⟨Nat.le_of_ble_eq_true rfl, Nat.le_of_ble_eq_true rfl⟩) ⟨fun a U g mk q => by obtain ⟨q0, q1, qP, qK, qD⟩ := q; exact ⟨q0, q1, qP, va_K.moved (u := U) (U := U.calling g mk a) (Vm.Alike.refl U.vm) qK, qD⟩, va_recv (s := s) (q := (RX0, TX0, 13)) hKc hPc (ci := 0) (q0 := 0) rfl rfl, fun U hU hW => ⟨rfl, by rw [hU], by rw [hU]; exact hPc, va_K.moved hW.alike hKc, hDc.weaken (fun _ _ _ _ => trivial)⟩⟩ rfl rfl hl.1 rfl (lv_room (Nat.le_of_ble_eq_true rfl)) dX6_payment_101 ⟨Nat.le_of_ble_eq_true rfl, Nat.le_of_ble_eq_true rfl⟩) hS (fun q _ h => hFc q h) hFc (fun r17 u t H1 locs ht hvm hw hB hz1 hk1 hS => ?_)
        obtain ⟨hP1, hK1, hD1⟩ := hB
        rw [ht] at hP1
        have hK1 := va_K.moved hvm.symm hK1
        try dsimp only at hw
        obtain ⟨hP, hD⟩ := J_s (wL := [eI qm km 60 fm, eI aq1 ak1 8 ag1, eO h0 5 [.ref jb, .ref qm, .int mc, .ref qh, .ref qk, .ref qf, .int bg, .ref jp], eI qh kh 8 fh, eI pn kpn 80 fpn, eO jp 2 [.ref pb, .ref pn, .int ps], eI pb kpb 80 fpb, eO jb 0 [.ref aq0, .ref aq1, .ref aq2, .ref aq3, .ref aq4, .ref aq5, .ref aq6, .int aacc, .long afees, .int amis, .int abel, .int aref, .int acau], eI aq0 ak0 8 ag0, eI aq2 ak2 8 ag2]) hP hD [(8, 2), (2, 1)] [(0, 2), (3, 5)] hCm hNw (by decide +kernel) hk1 hFc hP1 hD1 rfl
        have hK := KJ_s (tys' := [(km, .int), (ak1, .int), (kh, .int), (kpn, .int), (kpb, .int), (ak0, .int), (ak2, .int)]) hK hK1 [(0, 2), (3, 3)] rfl
        generalize H1 = H at hP hS ⊢
        refine lv_icmp_lt (tgt := 124) hx hb dX6_payment_104 (by decide) (fun c18 => ?_) (fun c18 => ?_)
        · skip
          have f_c18 := i_lt c18
          refine lv_iconst (v := 1) hx hb dX6_payment_124 (by decide) ?_
          rw [hQ9]
          exact W.iret (v := 1) hx hb hr (fun t ht hW => ⟨⟨1, (), rfl, (by first | rfl | trivial), fm, mc, ag1, afees, (by first | assumption | omega), (by first | assumption | omega), by rw [ht]; exact P_s hP [(2, 1), (0, 1), (3, 1), (7, 2), (1, 1), (9, 1), (5, 2), (4, 1)] rfl, va_K.moved hW.alike (K_s hK [(0, 1), (2, 1), (5, 1), (1, 1), (6, 1), (4, 1), (3, 1)] rfl), D_s hD [(2, 1), (0, 1), (3, 1), (7, 2), (1, 1), (9, 1), (5, 2), (4, 1)] 10 rfl (by decide +kernel) rfl⟩, hS.F ht⟩) hS.2.2 dX6_payment_125
        · skip
          have f_c18 := i_nlt c18
          refine lv_aload_n hx hb dX6_payment_107 rfl (lv_at hl 5 rfl) ?_
          refine va_get (D := (dC, dI)) (ci := 5) (v := .ref jb) (C := RX6) (T := TX6) (N := 8) hx hb hts (fun w h => List.mem_cons_of_mem _ (inlX6 w h)) hown hK hP 2 rfl rfl 0 (by decide) (hts (.fieldLink RX6 27 "ClearingGates$Runner" "books" "LClearingGates$Books;") (List.mem_cons_of_mem _ mw_185)) (fun _ h9 => h9) rfl dX6_payment_108 ?_
          refine va_get (D := (dC, dI)) (ci := 0) (v := .ref aq1) (C := RX0) (T := TX0) (N := 13) hx hb hts (fun w h => List.mem_cons_of_mem _ (inlX0 w h)) hown hK hP 7 rfl rfl 1 (by decide) (hts (.fieldLink RX6 134 "ClearingGates$Books" "balances" "[I") (List.mem_cons_of_mem _ mw_98)) (fun _ h9 => h9) rfl dX6_payment_111 ?_
          refine lv_iload_n hx hb dX6_payment_114 rfl (lv_at hl 3 rfl) ?_
          refine va_iald (D := (dC, dI)) hx hb hK hP 1 1 rfl rfl (vp_in_iff.mpr ⟨by omega, by omega⟩) dX6_payment_115 ?_
          refine lv_topi (fun z19 e_z19 => ?_)
          refine lv_iload hx hb dX6_payment_116 (lv_at hl 2 rfl) ?_
          refine lv_iadd hx hb dX6_payment_118 ?_
          refine lv_topi (fun z20 e_z20 => ?_)
          refine lv_ldc hx hb hown (hts (.constant RX6 140 (1000000000)) (List.mem_cons_of_mem _ mw_436)) dX6_payment_119 ?_
          refine lv_icmp_le (tgt := 126) hx hb dX6_payment_121 (by decide) (fun c21 => ?_) (fun c21 => ?_)
          · skip
            have f_c21 := i_le c21
            refine lv_aload_n hx hb dX6_payment_126 rfl (lv_at hl 5 rfl) ?_
            refine va_get (D := (dC, dI)) (ci := 5) (v := .ref jb) (C := RX6) (T := TX6) (N := 8) hx hb hts (fun w h => List.mem_cons_of_mem _ (inlX6 w h)) hown hK hP 2 rfl rfl 0 (by decide) (hts (.fieldLink RX6 27 "ClearingGates$Runner" "books" "LClearingGates$Books;") (List.mem_cons_of_mem _ mw_185)) (fun _ h9 => h9) rfl dX6_payment_127 ?_
            refine va_get (D := (dC, dI)) (ci := 0) (v := .ref aq1) (C := RX0) (T := TX0) (N := 13) hx hb hts (fun w h => List.mem_cons_of_mem _ (inlX0 w h)) hown hK hP 7 rfl rfl 1 (by decide) (hts (.fieldLink RX6 134 "ClearingGates$Books" "balances" "[I") (List.mem_cons_of_mem _ mw_98)) (fun _ h9 => h9) rfl dX6_payment_130 ?_
            refine lv_iload_n hx hb dX6_payment_133 rfl (lv_at hl 4 rfl) ?_
            refine lv_iload hx hb dX6_payment_134 (lv_at hl 0 rfl) ?_
            refine va_iast (D := (dC, dI)) hx hb hK hP hD hS 1 1 rfl rfl (vp_in_iff.mpr ⟨by omega, by omega⟩) dX6_payment_136 (fun H locs hP hD hS => ?_)
            generalize e_g22 : (upd ag1 (r2).toNatClampNeg z16) = g22 at hP hD
            obtain ⟨hP, hD⟩ := X_s (ws' := [eI qm km 60 fm, eI aq1 ak1 8 g22, eO h0 5 [.ref jb, .ref qm, .int mc, .ref qh, .ref qk, .ref qf, .int bg, .ref jp], eI qh kh 8 fh, eI pn kpn 80 fpn, eO jp 2 [.ref pb, .ref pn, .int ps], eI pb kpb 80 fpb, eO jb 0 [.ref aq0, .ref aq1, .ref aq2, .ref aq3, .ref aq4, .ref aq5, .ref aq6, .int aacc, .long afees, .int amis, .int abel, .int aref, .int acau], eI aq0 ak0 8 ag0, eI aq2 ak2 8 ag2]) hP hD rfl
            refine lv_aload_n hx hb dX6_payment_137 rfl (lv_at hl 5 rfl) ?_
            refine va_get (D := (dC, dI)) (ci := 5) (v := .ref jb) (C := RX6) (T := TX6) (N := 8) hx hb hts (fun w h => List.mem_cons_of_mem _ (inlX6 w h)) hown hK hP 2 rfl rfl 0 (by decide) (hts (.fieldLink RX6 27 "ClearingGates$Runner" "books" "LClearingGates$Books;") (List.mem_cons_of_mem _ mw_185)) (fun _ h9 => h9) rfl dX6_payment_138 ?_
            refine va_get (D := (dC, dI)) (ci := 0) (v := .ref aq1) (C := RX0) (T := TX0) (N := 13) hx hb hts (fun w h => List.mem_cons_of_mem _ (inlX0 w h)) hown hK hP 7 rfl rfl 1 (by decide) (hts (.fieldLink RX6 134 "ClearingGates$Books" "balances" "[I") (List.mem_cons_of_mem _ mw_98)) (fun _ h9 => h9) rfl dX6_payment_141 ?_
            refine lv_iload_n hx hb dX6_payment_144 rfl (lv_at hl 3 rfl) ?_
            refine lv_dup2_11 hx hb dX6_payment_145 rfl rfl ?_
            refine va_iald (D := (dC, dI)) hx hb hK hP 1 1 rfl rfl (vp_in_iff.mpr ⟨by omega, by omega⟩) dX6_payment_146 ?_
            refine lv_topi (fun z23 e_z23 => ?_)
            refine lv_iload hx hb dX6_payment_147 (lv_at hl 2 rfl) ?_
            refine lv_iadd hx hb dX6_payment_149 ?_
            refine lv_topi (fun z24 e_z24 => ?_)
            refine va_iast (D := (dC, dI)) hx hb hK hP hD hS 1 1 rfl rfl (vp_in_iff.mpr ⟨by omega, by omega⟩) dX6_payment_150 (fun H locs hP hD hS => ?_)
            generalize e_g25 : (upd g22 (r4).toNatClampNeg z24) = g25 at hP hD
            obtain ⟨hP, hD⟩ := X_s (ws' := [eI qm km 60 fm, eI aq1 ak1 8 g25, eO h0 5 [.ref jb, .ref qm, .int mc, .ref qh, .ref qk, .ref qf, .int bg, .ref jp], eI qh kh 8 fh, eI pn kpn 80 fpn, eO jp 2 [.ref pb, .ref pn, .int ps], eI pb kpb 80 fpb, eO jb 0 [.ref aq0, .ref aq1, .ref aq2, .ref aq3, .ref aq4, .ref aq5, .ref aq6, .int aacc, .long afees, .int amis, .int abel, .int aref, .int acau], eI aq0 ak0 8 ag0, eI aq2 ak2 8 ag2]) hP hD rfl
            refine lv_aload_n hx hb dX6_payment_151 rfl (lv_at hl 5 rfl) ?_
            refine va_get (D := (dC, dI)) (ci := 5) (v := .ref jb) (C := RX6) (T := TX6) (N := 8) hx hb hts (fun w h => List.mem_cons_of_mem _ (inlX6 w h)) hown hK hP 2 rfl rfl 0 (by decide) (hts (.fieldLink RX6 27 "ClearingGates$Runner" "books" "LClearingGates$Books;") (List.mem_cons_of_mem _ mw_185)) (fun _ h9 => h9) rfl dX6_payment_152 ?_
            refine lv_dup hx hb dX6_payment_155 rfl ?_
            refine va_get (D := (dC, dI)) (ci := 0) (v := .long afees) (C := RX0) (T := TX0) (N := 13) hx hb hts (fun w h => List.mem_cons_of_mem _ (inlX0 w h)) hown hK hP 7 rfl rfl 8 (by decide) (hts (.fieldLink RX6 141 "ClearingGates$Books" "fees" "J") (List.mem_cons_of_mem _ mw_116)) (fun _ h9 => h9) rfl dX6_payment_156 ?_
            refine lv_iload hx hb dX6_payment_159 (lv_at hl 1 rfl) ?_
            refine lv_i2l (v := r13.toInt64) hx hb dX6_payment_161 rfl ?_
            have t_t26 := Int32.toInt_toInt64 r13
            refine lv_ladd hx hb dX6_payment_162 ?_
            refine lv_topl (fun z27 e_z27 => ?_)
            refine va_put (D := (dC, dI)) (ci := 0) (v := .long z27) (ty := .long) (C := RX0) (T := TX0) (N := 13) hx hb hts (fun w h => List.mem_cons_of_mem _ (inlX0 w h)) tyX0 tyX0_ok nmX0 hown hK hP hD hS 7 rfl rfl 8 (by decide) (hts (.fieldLink RX6 141 "ClearingGates$Books" "fees" "J") (List.mem_cons_of_mem _ mw_116)) (fun _ h9 => h9) rfl (by decide +kernel) rfl rfl (Nat.le_of_ble_eq_true rfl) dX6_payment_163 (fun H locs hP hD hS => ?_)
            obtain ⟨hP, hD⟩ := X_s (ws' := [eI qm km 60 fm, eI aq1 ak1 8 g25, eO h0 5 [.ref jb, .ref qm, .int mc, .ref qh, .ref qk, .ref qf, .int bg, .ref jp], eI qh kh 8 fh, eI pn kpn 80 fpn, eO jp 2 [.ref pb, .ref pn, .int ps], eI pb kpb 80 fpb, eO jb 0 [.ref aq0, .ref aq1, .ref aq2, .ref aq3, .ref aq4, .ref aq5, .ref aq6, .int aacc, .long z27, .int amis, .int abel, .int aref, .int acau], eI aq0 ak0 8 ag0, eI aq2 ak2 8 ag2]) hP hD rfl
            refine lv_aload_n hx hb dX6_payment_166 rfl (lv_at hl 5 rfl) ?_
            refine lv_bipush (v := 100) hx hb dX6_payment_167 (by decide) ?_
            refine lv_bipush (v := 10) hx hb dX6_payment_169 (by decide) ?_
            refine lv_iload_n hx hb dX6_payment_171 rfl (lv_at hl 4 rfl) ?_
            refine lv_imul hx hb dX6_payment_172 ?_
            refine lv_topi (fun z28 e_z28 => ?_)
            refine lv_iadd hx hb dX6_payment_173 ?_
            refine lv_topi (fun z29 e_z29 => ?_)
            refine lv_iload_n hx hb dX6_payment_174 rfl (lv_at hl 3 rfl) ?_
            refine lv_iadd hx hb dX6_payment_175 ?_
            refine lv_topi (fun z30 e_z30 => ?_)
            obtain ⟨hPc, hDc, hFc, hCm, hNw⟩ := C_s (wc := [eO h0 5 [.ref jb, .ref qm, .int mc, .ref qh, .ref qk, .ref qf, .int bg, .ref jp], eI qm km 60 fm]) hP hD hS hA [(2, 1), (0, 1)] 10 rfl (by decide +kernel) rfl
            have hKc := K_s (tys' := [(km, .int)]) hK [(0, 1)] rfl
            refine va_callv (va_runV (As := [.int z30]) (rest := []) ⟨hx, hb, hml, hown, hts⟩ (c_X6_mark l dC dI h0 z30 jb qm mc qh qk qf bg jp km fm H.size rb3 (by first | assumption | omega)) (cwV 1 hts gX6_payment_X6_mark rfl rfl rfl (by decide +kernel) ⟨Nat.le_of_ble_eq_true rfl, Nat.le_of_ble_eq_true rfl⟩) ⟨fun a U g mk q => by obtain ⟨q0, q1, qP, qK, qD⟩ := q; exact ⟨q0, q1, qP, va_K.moved (u := U) (U := U.calling g mk a) (Vm.Alike.refl U.vm) qK, qD⟩, va_recv (s := s) (q := (RX6, TX6, 8)) hKc hPc (ci := 5) (q0 := 0) rfl rfl, fun U hU hW => ⟨rfl, by rw [hU], by rw [hU]; exact hPc, va_K.moved hW.alike hKc, hDc.weaken (fun _ _ _ _ => trivial)⟩⟩ rfl rfl hl.1 rfl (lv_room (Nat.le_of_ble_eq_true rfl)) dX6_payment_176 ⟨Nat.le_of_ble_eq_true rfl, Nat.le_of_ble_eq_true rfl⟩) hS (fun q _ h => hFc q h) hFc (fun u t H1 locs ht hvm hw hB hz1 hk1 hS => ?_)
            obtain ⟨q32, q33, x1_r31, hP1, hK1, hD1⟩ := hB
            rw [ht] at hP1
            have hK1 := va_K.moved hvm.symm hK1
            try dsimp only at hw
            obtain ⟨hP, hD⟩ := J_s (wL := [eI aq1 ak1 8 g25, eI qh kh 8 fh, eI pn kpn 80 fpn, eO jp 2 [.ref pb, .ref pn, .int ps], eI pb kpb 80 fpb, eO jb 0 [.ref aq0, .ref aq1, .ref aq2, .ref aq3, .ref aq4, .ref aq5, .ref aq6, .int aacc, .long z27, .int amis, .int abel, .int aref, .int acau], eI aq0 ak0 8 ag0, eI aq2 ak2 8 ag2, eO h0 5 [.ref jb, .ref qm, .int q33, .ref qh, .ref qk, .ref qf, .int bg, .ref jp], eI qm km 60 q32]) hP hD [(2, 1), (0, 1)] [(1, 1), (3, 7)] hCm hNw (by decide +kernel) hk1 hFc hP1 hD1 rfl
            have hK := KJ_s (tys' := [(ak1, .int), (kh, .int), (kpn, .int), (kpb, .int), (ak0, .int), (ak2, .int), (km, .int)]) hK hK1 [(1, 6)] rfl
            generalize H1 = H at hP hS ⊢
            refine lv_iconst (v := 0) hx hb dX6_payment_179 (by decide) ?_
            rw [hQ9]
            exact W.iret (v := 0) hx hb hr (fun t ht hW => ⟨⟨0, (), rfl, (by first | rfl | trivial), q32, q33, g25, z27, (by first | assumption | omega), (by first | assumption | omega), by rw [ht]; exact P_s hP [(8, 2), (1, 1), (5, 2), (0, 1), (7, 1), (3, 2), (2, 1)] rfl, va_K.moved hW.alike (K_s hK [(6, 1), (1, 1), (4, 1), (0, 1), (5, 1), (3, 1), (2, 1)] rfl), D_s hD [(8, 2), (1, 1), (5, 2), (0, 1), (7, 1), (3, 2), (2, 1)] 10 rfl (by decide +kernel) rfl⟩, hS.F ht⟩) hS.2.2 dX6_payment_180
          · skip
            have f_c21 := i_nle c21
            refine lv_iconst (v := 1) hx hb dX6_payment_124 (by decide) ?_
            rw [hQ9]
            exact W.iret (v := 1) hx hb hr (fun t ht hW => ⟨⟨1, (), rfl, (by first | rfl | trivial), fm, mc, ag1, afees, (by first | assumption | omega), (by first | assumption | omega), by rw [ht]; exact P_s hP [(2, 1), (0, 1), (3, 1), (7, 2), (1, 1), (9, 1), (5, 2), (4, 1)] rfl, va_K.moved hW.alike (K_s hK [(0, 1), (2, 1), (5, 1), (1, 1), (6, 1), (4, 1), (3, 1)] rfl), D_s hD [(2, 1), (0, 1), (3, 1), (7, 2), (1, 1), (9, 1), (5, 2), (4, 1)] 10 rfl (by decide +kernel) rfl⟩, hS.F ht⟩) hS.2.2 dX6_payment_125
      · subst e_r8
        refine lv_if_ne (tgt := 45) hx hb dX6_payment_40 (by decide) (fun c34 => absurd (by decide) c34) (fun c34 => ?_)
        refine lv_iconst (v := 2) hx hb dX6_payment_43 (by decide) ?_
        rw [hQ9]
        exact W.iret (v := 2) hx hb hr (fun t ht hW => ⟨⟨2, (), rfl, (by first | rfl | trivial), fm, mc, ag1, afees, (by first | assumption | omega), (by first | assumption | omega), by rw [ht]; exact P_s hP [(7, 1), (0, 1), (8, 2), (1, 3), (5, 2), (4, 1)] rfl, va_K.moved hW.alike (K_s hK [(0, 1), (6, 1), (1, 3), (5, 1), (4, 1)] rfl), D_s hD [(7, 1), (0, 1), (8, 2), (1, 3), (5, 2), (4, 1)] 10 rfl (by decide +kernel) rfl⟩, hS.F ht⟩) hS.2.2 dX6_payment_44
    · subst e_r6
      refine lv_if_eq (tgt := 43) hx hb dX6_payment_32 (by decide) (fun c35 => ?_) (fun c35 => absurd (by decide) c35)
      refine lv_iconst (v := 2) hx hb dX6_payment_43 (by decide) ?_
      rw [hQ9]
      exact W.iret (v := 2) hx hb hr (fun t ht hW => ⟨⟨2, (), rfl, (by first | rfl | trivial), fm, mc, ag1, afees, (by first | assumption | omega), (by first | assumption | omega), by rw [ht]; exact P_s hP [(7, 1), (0, 1), (8, 2), (1, 3), (5, 2), (4, 1)] rfl, va_K.moved hW.alike (K_s hK [(0, 1), (6, 1), (1, 3), (5, 1), (4, 1)] rfl), D_s hD [(7, 1), (0, 1), (8, 2), (1, 3), (5, 2), (4, 1)] 10 rfl (by decide +kernel) rfl⟩, hS.F ht⟩) hS.2.2 dX6_payment_44
