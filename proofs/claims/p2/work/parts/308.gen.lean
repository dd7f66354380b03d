set_option maxRecDepth 100000 in
set_option maxHeartbeats 4000000 in
/-- Tape.add -/
theorem c_X8_add (l : Launch) (dC : Nat → ClassId) (dI : Nat → Nat → Nat) (h0 : Nat) (p0 : Int32) (qb : Nat) (n0 : Int32) (kb : ClassId) (fb : Nat → Int32) (sz : Nat) (h1 : 0 ≤ n0.toInt) (h2 : n0.toInt ≤ 80) : Met l yX8_add wsX8_add ({ frames := 0, cells := 0, slots := 0, locals := 0 }) (va_Pc [.ref h0, .int p0] (fun U => U.heap.size = sz ∧ va_P (dC, dI) vwCl [eO h0 7 [.ref qb, .int n0], eI qb kb 80 fb] U.heap ∧ va_K (dC, dI) vwCl [(kb, .int)] U ∧ va_D (fun _ => True) [eO h0 7 [.ref qb, .int n0], eI qb kb 80 fb])) (va_Qv (fun (_ : Unit) => True) (fun (_ : Unit) (t : State) => ∃ (fb' : Nat → Int32), ∃ (n0' : Int32), (0 ≤ n0'.toInt ∧ n0'.toInt ≤ 80 ∧ (n0.toInt < 80 → n0'.toInt = n0.toInt + 1)) ∧ va_P (dC, dI) vwCl [eO h0 7 [.ref qb, .int n0'], eI qb kb 80 (fb')] t.heap ∧ va_K (dC, dI) vwCl [(kb, .int)] t ∧ va_D (va_A [eO h0 7 [.ref qb, .int n0], eI qb kb 80 fb] sz) [eO h0 7 [.ref qb, .int n0'], eI qb kb 80 (fb')]) (va_A [eO h0 7 [.ref qb, .int n0], eI qb kb 80 fb] sz)) 0 0 (va_A [eO h0 7 [.ref qb, .int n0], eI qb kb 80 fb] sz) := by
  refine Met.ofW (cc := cX8_add) (maxL := 2) (ret := none) (by decide) rfl ?_
  intro p e s m args below meth c s₁ B hml hv
  obtain ⟨rfl, hsz, hP, hK, hD0⟩ := hv
  have hx := B.exec
  have hb := B.bytes
  have hr := B.returns
  have hts := atoms_spec (ws := wsX8_add) B.pre
  have hown : s.vm.findClass RX8 = some m.cls := findClass_of_methodNamed B.named
  have hlocks := B.notSynchronized
  subst hsz
  have hD := hD0.self (sz := s.heap.size)
  generalize hAe : va_A [eO h0 7 [.ref qb, .int n0], eI qb kb 80 fb] s.heap.size = A at hD ⊢
  have hA : ∀ q : Nat, s.heap.size ≤ q → A q := fun q h => by rw [← hAe]; exact Or.inr h
  have hS : va_S A s.heap s.heap [] := va_S.rf
  have hP : va_P (dC, dI) vwCl [eO h0 7 [.ref qb, .int n0], eI qb kb 80 fb] s.heap := hP
  have hl := lv_entry ([.ref h0, .int p0]) (n := 2) (Nat.le_of_ble_eq_true rfl)
  rw [lg_entry_eq]
  generalize (lg_sl ([.ref h0, .int p0]) ++ List.replicate (2 - (lg_sl ([.ref h0, .int p0])).length) Slot.unset).toArray = ls at hl ⊢
  have hl : lv_has ls 2 [(0, .ref h0), (1, .int p0)] := hl
  suffices key9 : ∀ Q9 : State → Prop, Q9 = (MQ below (va_Qv (fun (_ : Unit) => True) (fun (_ : Unit) (t : State) => ∃ (fb' : Nat → Int32), ∃ (n0' : Int32), (0 ≤ n0'.toInt ∧ n0'.toInt ≤ 80 ∧ (n0.toInt < 80 → n0'.toInt = n0.toInt + 1)) ∧ va_P (dC, dI) vwCl [eO h0 7 [.ref qb, .int n0'], eI qb kb 80 (fb')] t.heap ∧ va_K (dC, dI) vwCl [(kb, .int)] t ∧ va_D A [eO h0 7 [.ref qb, .int n0'], eI qb kb 80 (fb')]) A) (([.ref h0, .int p0] : List Value).toArray) s 0 0 A) → W p l e ({ frames := 0, cells := 0, slots := 0, locals := 0 }) s m (([.ref h0, .int p0] : List Value).toArray) below meth c s.heap [] 0 0 Q9 (F0 m 0 ls []) from key9 _ rfl
  intro Q9 hQ9
  have k_1 : (1 : Int32).toInt = 1 := by decide
  have k_80 : (80 : Int32).toInt = 80 := by decide
  refine lv_aload_n hx hb dX8_add_0 rfl (lv_at hl 0 rfl) ?_
  refine va_get (D := (dC, dI)) (ci := 7) (v := .int n0) (C := RX8) (T := TX8) (N := 2) hx hb hts (fun w h => List.mem_cons_of_mem _ (inlX8 w h)) hown hK hP 0 rfl rfl 1 (by decide) (hts (.fieldLink RX8 15 "ClearingGates$Tape" "size" "I") (List.mem_cons_of_mem _ mw_165)) (fun _ h9 => h9) rfl dX8_add_1 ?_
  refine lv_bipush (v := 80) hx hb dX8_add_4 (by decide) ?_
  refine lv_icmp_ge (tgt := 29) hx hb dX8_add_6 (by decide) (fun c1 => ?_) (fun c1 => ?_)
  · skip
    have f_c1 := i_le c1
    rw [hQ9]
    exact W.vret hx hb hr (fun t ht hW => ⟨⟨(), rfl, (by first | rfl | trivial), fb, n0, ⟨by omega, by omega, by omega⟩, by rw [ht]; exact hP, va_K.moved hW.alike hK, hD⟩, hS.F ht⟩) hS.2.2 dX8_add_29
  · skip
    have f_c1 := i_nle c1
    refine lv_aload_n hx hb dX8_add_9 rfl (lv_at hl 0 rfl) ?_
    refine va_get (D := (dC, dI)) (ci := 7) (v := .ref qb) (C := RX8) (T := TX8) (N := 2) hx hb hts (fun w h => List.mem_cons_of_mem _ (inlX8 w h)) hown hK hP 0 rfl rfl 0 (by decide) (hts (.fieldLink RX8 9 "ClearingGates$Tape" "bytes" "[I") (List.mem_cons_of_mem _ mw_163)) (fun _ h9 => h9) rfl dX8_add_10 ?_
    refine lv_aload_n hx hb dX8_add_13 rfl (lv_at hl 0 rfl) ?_
    refine va_get (D := (dC, dI)) (ci := 7) (v := .int n0) (C := RX8) (T := TX8) (N := 2) hx hb hts (fun w h => List.mem_cons_of_mem _ (inlX8 w h)) hown hK hP 0 rfl rfl 1 (by decide) (hts (.fieldLink RX8 15 "ClearingGates$Tape" "size" "I") (List.mem_cons_of_mem _ mw_165)) (fun _ h9 => h9) rfl dX8_add_14 ?_
    refine lv_iload_n hx hb dX8_add_17 rfl (lv_at hl 1 rfl) ?_
    refine va_iast (D := (dC, dI)) hx hb hK hP hD hS 1 0 rfl rfl (vp_in_iff.mpr ⟨by omega, by omega⟩) dX8_add_18 (fun H locs hP hD hS => ?_)
    generalize e_g2 : (upd fb (n0).toNatClampNeg p0) = g2 at hP hD
    obtain ⟨hP, hD⟩ := X_s (ws' := [eO h0 7 [.ref qb, .int n0], eI qb kb 80 g2]) hP hD rfl
    refine lv_aload_n hx hb dX8_add_19 rfl (lv_at hl 0 rfl) ?_
    refine lv_dup hx hb dX8_add_20 rfl ?_
    refine va_get (D := (dC, dI)) (ci := 7) (v := .int n0) (C := RX8) (T := TX8) (N := 2) hx hb hts (fun w h => List.mem_cons_of_mem _ (inlX8 w h)) hown hK hP 0 rfl rfl 1 (by decide) (hts (.fieldLink RX8 15 "ClearingGates$Tape" "size" "I") (List.mem_cons_of_mem _ mw_165)) (fun _ h9 => h9) rfl dX8_add_21 ?_
    refine lv_iconst (v := 1) hx hb dX8_add_24 (by decide) ?_
    refine lv_iadd hx hb dX8_add_25 ?_
    refine lv_topi (fun z3 e_z3 => ?_)
    have t_z3 := i_add e_z3 (by omega) (by omega)
    refine va_put (D := (dC, dI)) (ci := 7) (v := .int z3) (ty := .int) (C := RX8) (T := TX8) (N := 2) hx hb hts (fun w h => List.mem_cons_of_mem _ (inlX8 w h)) tyX8 tyX8_ok nmX8 hown hK hP hD hS 0 rfl rfl 1 (by decide) (hts (.fieldLink RX8 15 "ClearingGates$Tape" "size" "I") (List.mem_cons_of_mem _ mw_165)) (fun _ h9 => h9) rfl (by decide +kernel) rfl rfl (Nat.le_of_ble_eq_true rfl) dX8_add_26 (fun H locs hP hD hS => ?_)
    obtain ⟨hP, hD⟩ := X_s (ws' := [eO h0 7 [.ref qb, .int z3], eI qb kb 80 g2]) hP hD rfl
    rw [hQ9]
    exact W.vret hx hb hr (fun t ht hW => ⟨⟨(), rfl, (by first | rfl | trivial), g2, z3, ⟨by omega, by omega, by omega⟩, by rw [ht]; exact hP, va_K.moved hW.alike hK, hD⟩, hS.F ht⟩) hS.2.2 dX8_add_29

set_option maxRecDepth 100000 in
set_option maxHeartbeats 4000000 in
/-- Program.takeOver -/
theorem c_X3_takeOver (l : Launch) (dC : Nat → ClassId) (dI : Nat → Nat → Nat) (h0 : Nat) (h1 : Nat) (pb : Nat) (pn : Nat) (ps : Int32) (kpb : ClassId) (fpb : Nat → Int32) (kpn : ClassId) (fpn : Nat → Int32) (qb : Nat) (n0 : Int32) (kb : ClassId) (fb : Nat → Int32) (sz : Nat) : Met l yX3_takeOver wsX3_takeOver ({ frames := 1, cells := 0, slots := 0, locals := 60 }) (va_Pc [.ref h0, .ref h1] (fun U => U.heap.size = sz ∧ va_P (dC, dI) vwCl [eO h0 2 [.ref pb, .ref pn, .int ps], eI pb kpb 80 fpb, eI pn kpn 80 fpn, eO h1 7 [.ref qb, .int n0], eI qb kb 80 fb] U.heap ∧ va_K (dC, dI) vwCl [(kpb, .int), (kpn, .int), (kb, .int)] U ∧ va_D (fun _ => True) [eO h0 2 [.ref pb, .ref pn, .int ps], eI pb kpb 80 fpb, eI pn kpn 80 fpn, eO h1 7 [.ref qb, .int n0], eI qb kb 80 fb])) (va_Qv (fun (_ : Unit) => True) (fun (_ : Unit) (t : State) => ∃ (fpb' : Nat → Int32), va_P (dC, dI) vwCl [eO h0 2 [.ref pb, .ref pn, .int n0], eI pb kpb 80 (fpb'), eI pn kpn 80 fpn, eO h1 7 [.ref qb, .int n0], eI qb kb 80 fb] t.heap ∧ va_K (dC, dI) vwCl [(kpb, .int), (kpn, .int), (kb, .int)] t ∧ va_D (va_A [eO h0 2 [.ref pb, .ref pn, .int ps], eI pb kpb 80 fpb, eI pn kpn 80 fpn, eO h1 7 [.ref qb, .int n0], eI qb kb 80 fb] sz) [eO h0 2 [.ref pb, .ref pn, .int n0], eI pb kpb 80 (fpb'), eI pn kpn 80 fpn, eO h1 7 [.ref qb, .int n0], eI qb kb 80 fb]) (va_A [eO h0 2 [.ref pb, .ref pn, .int ps], eI pb kpb 80 fpb, eI pn kpn 80 fpn, eO h1 7 [.ref qb, .int n0], eI qb kb 80 fb] sz)) 0 0 (va_A [eO h0 2 [.ref pb, .ref pn, .int ps], eI pb kpb 80 fpb, eI pn kpn 80 fpn, eO h1 7 [.ref qb, .int n0], eI qb kb 80 fb] sz) := by
  refine Met.ofW (cc := cX3_takeOver) (maxL := 2) (ret := none) (by decide) rfl ?_
  intro p e s m args below meth c s₁ B hml hv
  obtain ⟨rfl, hsz, hP, hK, hD0⟩ := hv
  have hx := B.exec
  have hb := B.bytes
  have hr := B.returns
  have hts := atoms_spec (ws := wsX3_takeOver) B.pre
  have hown : s.vm.findClass RX3 = some m.cls := findClass_of_methodNamed B.named
  have hlocks := B.notSynchronized
  subst hsz
  have hD := hD0.self (sz := s.heap.size)
  generalize hAe : va_A [eO h0 2 [.ref pb, .ref pn, .int ps], eI pb kpb 80 fpb, eI pn kpn 80 fpn, eO h1 7 [.ref qb, .int n0], eI qb kb 80 fb] s.heap.size = A at hD ⊢
  have hA : ∀ q : Nat, s.heap.size ≤ q → A q := fun q h => by rw [← hAe]; exact Or.inr h
  have hS : va_S A s.heap s.heap [] := va_S.rf
  have hP : va_P (dC, dI) vwCl [eO h0 2 [.ref pb, .ref pn, .int ps], eI pb kpb 80 fpb, eI pn kpn 80 fpn, eO h1 7 [.ref qb, .int n0], eI qb kb 80 fb] s.heap := hP
  have hl := lv_entry ([.ref h0, .ref h1]) (n := 2) (Nat.le_of_ble_eq_true rfl)
  rw [lg_entry_eq]
  generalize (lg_sl ([.ref h0, .ref h1]) ++ List.replicate (2 - (lg_sl ([.ref h0, .ref h1])).length) Slot.unset).toArray = ls at hl ⊢
  have hl : lv_has ls 2 [(0, .ref h0), (1, .ref h1)] := hl
  suffices key9 : ∀ Q9 : State → Prop, Q9 = (MQ below (va_Qv (fun (_ : Unit) => True) (fun (_ : Unit) (t : State) => ∃ (fpb' : Nat → Int32), va_P (dC, dI) vwCl [eO h0 2 [.ref pb, .ref pn, .int n0], eI pb kpb 80 (fpb'), eI pn kpn 80 fpn, eO h1 7 [.ref qb, .int n0], eI qb kb 80 fb] t.heap ∧ va_K (dC, dI) vwCl [(kpb, .int), (kpn, .int), (kb, .int)] t ∧ va_D A [eO h0 2 [.ref pb, .ref pn, .int n0], eI pb kpb 80 (fpb'), eI pn kpn 80 fpn, eO h1 7 [.ref qb, .int n0], eI qb kb 80 fb]) A) (([.ref h0, .ref h1] : List Value).toArray) s 0 0 A) → W p l e ({ frames := 1, cells := 0, slots := 0, locals := 60 }) s m (([.ref h0, .ref h1] : List Value).toArray) below meth c s.heap [] 0 0 Q9 (F0 m 0 ls []) from key9 _ rfl
  intro Q9 hQ9
  have k_0 : (0 : Int32).toInt = 0 := by decide
  have k_80 : (80 : Int32).toInt = 80 := by decide
  refine lv_aload_n hx hb dX3_takeOver_0 rfl (lv_at hl 1 rfl) ?_
  refine va_get (D := (dC, dI)) (ci := 7) (v := .ref qb) (C := RX8) (T := TX8) (N := 2) hx hb hts (fun w h => List.mem_cons_of_mem _ (inlX8 w h)) hown hK hP 3 rfl rfl 0 (by decide) (hts (.fieldLink RX3 18 "ClearingGates$Tape" "bytes" "[I") (List.mem_cons_of_mem _ mw_164)) (fun _ h9 => h9) rfl dX3_takeOver_1 ?_
  refine lv_iconst (v := 0) hx hb dX3_takeOver_4 (by decide) ?_
  refine lv_aload_n hx hb dX3_takeOver_5 rfl (lv_at hl 0 rfl) ?_
  refine va_get (D := (dC, dI)) (ci := 2) (v := .ref pb) (C := RX3) (T := TX3) (N := 3) hx hb hts (fun w h => List.mem_cons_of_mem _ (inlX3 w h)) hown hK hP 0 rfl rfl 0 (by decide) (hts (.fieldLink RX3 9 "ClearingGates$Program" "bytes" "[I") (List.mem_cons_of_mem _ mw_152)) (fun _ h9 => h9) rfl dX3_takeOver_6 ?_
  refine lv_iconst (v := 0) hx hb dX3_takeOver_9 (by decide) ?_
  refine lv_bipush (v := 80) hx hb dX3_takeOver_10 (by decide) ?_
  refine va_copyi (D := (dC, dI)) hx hb (hml.trans hl.1.symm) hown (hts (.methodLink RX3 21 arraycopyName) (List.mem_cons_of_mem _ mw_328)) (hts (.native arraycopyName) (List.mem_cons_of_mem _ mw_330)) (hts (.static arraycopyName) (List.mem_cons_of_mem _ mw_329)) (hts (.initialized "java/lang/System") (List.mem_cons_of_mem _ mw_80)) hK hP hD hS 4 1 2 0 rfl rfl rfl rfl rfl (by decide) (by decide) (by decide) (by decide) (by decide) (fun _ _ => rfl) (Nat.le_of_ble_eq_true rfl) (by decide) dX3_takeOver_12 (fun H locs hP hD hS => ?_)
  generalize e_g1 : (va_cpy fb fpb (0 : Int32).toNatClampNeg (0 : Int32).toNatClampNeg (80 : Int32).toNatClampNeg) = g1 at hP hD
  obtain ⟨hP, hD⟩ := X_s (ws' := [eO h0 2 [.ref pb, .ref pn, .int ps], eI pb kpb 80 g1, eI pn kpn 80 fpn, eO h1 7 [.ref qb, .int n0], eI qb kb 80 fb]) hP hD rfl
  refine lv_aload_n hx hb dX3_takeOver_15 rfl (lv_at hl 0 rfl) ?_
  refine lv_aload_n hx hb dX3_takeOver_16 rfl (lv_at hl 1 rfl) ?_
  refine va_get (D := (dC, dI)) (ci := 7) (v := .int n0) (C := RX8) (T := TX8) (N := 2) hx hb hts (fun w h => List.mem_cons_of_mem _ (inlX8 w h)) hown hK hP 3 rfl rfl 1 (by decide) (hts (.fieldLink RX3 27 "ClearingGates$Tape" "size" "I") (List.mem_cons_of_mem _ mw_166)) (fun _ h9 => h9) rfl dX3_takeOver_17 ?_
  refine va_put (D := (dC, dI)) (ci := 2) (v := .int n0) (ty := .int) (C := RX3) (T := TX3) (N := 3) hx hb hts (fun w h => List.mem_cons_of_mem _ (inlX3 w h)) tyX3 tyX3_ok nmX3 hown hK hP hD hS 0 rfl rfl 2 (by decide) (hts (.fieldLink RX3 31 "ClearingGates$Program" "size" "I") (List.mem_cons_of_mem _ mw_155)) (fun _ h9 => h9) rfl (by decide +kernel) rfl rfl (Nat.le_of_ble_eq_true rfl) dX3_takeOver_20 (fun H locs hP hD hS => ?_)
  obtain ⟨hP, hD⟩ := X_s (ws' := [eO h0 2 [.ref pb, .ref pn, .int n0], eI pb kpb 80 g1, eI pn kpn 80 fpn, eO h1 7 [.ref qb, .int n0], eI qb kb 80 fb]) hP hD rfl
  rw [hQ9]
  exact W.vret hx hb hr (fun t ht hW => ⟨⟨(), rfl, (by first | rfl | trivial), g1, by rw [ht]; exact hP, va_K.moved hW.alike hK, hD⟩, hS.F ht⟩) hS.2.2 dX3_takeOver_23

set_option maxRecDepth 100000 in
set_option maxHeartbeats 4000000 in
/-- Program.byteAt -/
theorem c_X3_byteAt (l : Launch) (dC : Nat → ClassId) (dI : Nat → Nat → Nat) (h0 : Nat) (p0 : Int32) (pb : Nat) (pn : Nat) (ps : Int32) (kpb : ClassId) (fpb : Nat → Int32) (sz : Nat) (hp1 : 0 ≤ ps.toInt) (hp2 : ps.toInt ≤ 80) : Met l yX3_byteAt wsX3_byteAt ({ frames := 0, cells := 0, slots := 0, locals := 0 }) (va_Pc [.ref h0, .int p0] (fun U => U.heap.size = sz ∧ va_P (dC, dI) vwCl [eO h0 2 [.ref pb, .ref pn, .int ps], eI pb kpb 80 fpb] U.heap ∧ va_K (dC, dI) vwCl [(kpb, .int)] U ∧ va_D (fun _ => True) [eO h0 2 [.ref pb, .ref pn, .int ps], eI pb kpb 80 fpb])) (va_Qi (fun (r : Int32) (_ : Unit) => r.toInt = -1 ∨ (0 ≤ p0.toInt ∧ p0.toInt < ps.toInt)) (fun (_ : Unit) (t : State) => va_P (dC, dI) vwCl [eO h0 2 [.ref pb, .ref pn, .int ps], eI pb kpb 80 fpb] t.heap ∧ va_K (dC, dI) vwCl [(kpb, .int)] t ∧ va_D (va_A [eO h0 2 [.ref pb, .ref pn, .int ps], eI pb kpb 80 fpb] sz) [eO h0 2 [.ref pb, .ref pn, .int ps], eI pb kpb 80 fpb]) (va_A [eO h0 2 [.ref pb, .ref pn, .int ps], eI pb kpb 80 fpb] sz)) 0 0 (va_A [eO h0 2 [.ref pb, .ref pn, .int ps], eI pb kpb 80 fpb] sz) := by
  refine Met.ofW (cc := cX3_byteAt) (maxL := 2) (ret := (some .int)) (by decide) rfl ?_
  intro p e s m args below meth c s₁ B hml hv
  obtain ⟨rfl, hsz, hP, hK, hD0⟩ := hv
  have hx := B.exec
  have hb := B.bytes
  have hr := B.returns
  have hts := atoms_spec (ws := wsX3_byteAt) B.pre
  have hown : s.vm.findClass RX3 = some m.cls := findClass_of_methodNamed B.named
  have hlocks := B.notSynchronized
  subst hsz
  have hD := hD0.self (sz := s.heap.size)
  generalize hAe : va_A [eO h0 2 [.ref pb, .ref pn, .int ps], eI pb kpb 80 fpb] s.heap.size = A at hD ⊢
  have hA : ∀ q : Nat, s.heap.size ≤ q → A q := fun q h => by rw [← hAe]; exact Or.inr h
  have hS : va_S A s.heap s.heap [] := va_S.rf
  have hP : va_P (dC, dI) vwCl [eO h0 2 [.ref pb, .ref pn, .int ps], eI pb kpb 80 fpb] s.heap := hP
  have hl := lv_entry ([.ref h0, .int p0]) (n := 2) (Nat.le_of_ble_eq_true rfl)
  rw [lg_entry_eq]
  generalize (lg_sl ([.ref h0, .int p0]) ++ List.replicate (2 - (lg_sl ([.ref h0, .int p0])).length) Slot.unset).toArray = ls at hl ⊢
  have hl : lv_has ls 2 [(0, .ref h0), (1, .int p0)] := hl
  suffices key9 : ∀ Q9 : State → Prop, Q9 = (MQ below (va_Qi (fun (r : Int32) (_ : Unit) => r.toInt = -1 ∨ (0 ≤ p0.toInt ∧ p0.toInt < ps.toInt)) (fun (_ : Unit) (t : State) => va_P (dC, dI) vwCl [eO h0 2 [.ref pb, .ref pn, .int ps], eI pb kpb 80 fpb] t.heap ∧ va_K (dC, dI) vwCl [(kpb, .int)] t ∧ va_D A [eO h0 2 [.ref pb, .ref pn, .int ps], eI pb kpb 80 fpb]) A) (([.ref h0, .int p0] : List Value).toArray) s 0 0 A) → W p l e ({ frames := 0, cells := 0, slots := 0, locals := 0 }) s m (([.ref h0, .int p0] : List Value).toArray) below meth c s.heap [] 0 0 Q9 (F0 m 0 ls []) from key9 _ rfl
  intro Q9 hQ9
  have k_m1 : ((-1) : Int32).toInt = (-1) := by decide
  have k_0 : (0 : Int32).toInt = 0 := by decide
  refine lv_iload_n hx hb dX3_byteAt_0 rfl (lv_at hl 1 rfl) ?_
  refine lv_if_lt (tgt := 21) hx hb dX3_byteAt_1 (by decide) (fun c1 => ?_) (fun c1 => ?_)
  · skip
    have f_c1 := i_lt c1
    refine lv_iconst (v := -1) hx hb dX3_byteAt_21 (by decide) ?_
    rw [hQ9]
    exact W.iret (v := (-1)) hx hb hr (fun t ht hW => ⟨⟨(-1), (), rfl, Or.inl (by decide), by rw [ht]; exact hP, va_K.moved hW.alike hK, hD⟩, hS.F ht⟩) hS.2.2 dX3_byteAt_22
  · skip
    have f_c1 := i_nlt c1
    refine lv_iload_n hx hb dX3_byteAt_4 rfl (lv_at hl 1 rfl) ?_
    refine lv_aload_n hx hb dX3_byteAt_5 rfl (lv_at hl 0 rfl) ?_
    refine va_get (D := (dC, dI)) (ci := 2) (v := .int ps) (C := RX3) (T := TX3) (N := 3) hx hb hts (fun w h => List.mem_cons_of_mem _ (inlX3 w h)) hown hK hP 0 rfl rfl 2 (by decide) (hts (.fieldLink RX3 31 "ClearingGates$Program" "size" "I") (List.mem_cons_of_mem _ mw_155)) (fun _ h9 => h9) rfl dX3_byteAt_6 ?_
    refine lv_icmp_ge (tgt := 21) hx hb dX3_byteAt_9 (by decide) (fun c2 => ?_) (fun c2 => ?_)
    · skip
      have f_c2 := i_le c2
      refine lv_iconst (v := -1) hx hb dX3_byteAt_21 (by decide) ?_
      rw [hQ9]
      exact W.iret (v := (-1)) hx hb hr (fun t ht hW => ⟨⟨(-1), (), rfl, Or.inl (by decide), by rw [ht]; exact hP, va_K.moved hW.alike hK, hD⟩, hS.F ht⟩) hS.2.2 dX3_byteAt_22
    · skip
      have f_c2 := i_nle c2
      refine lv_aload_n hx hb dX3_byteAt_12 rfl (lv_at hl 0 rfl) ?_
      refine va_get (D := (dC, dI)) (ci := 2) (v := .ref pb) (C := RX3) (T := TX3) (N := 3) hx hb hts (fun w h => List.mem_cons_of_mem _ (inlX3 w h)) hown hK hP 0 rfl rfl 0 (by decide) (hts (.fieldLink RX3 9 "ClearingGates$Program" "bytes" "[I") (List.mem_cons_of_mem _ mw_152)) (fun _ h9 => h9) rfl dX3_byteAt_13 ?_
      refine lv_iload_n hx hb dX3_byteAt_16 rfl (lv_at hl 1 rfl) ?_
      refine va_iald (D := (dC, dI)) hx hb hK hP 1 0 rfl rfl (vp_in_iff.mpr ⟨by omega, by omega⟩) dX3_byteAt_17 ?_
      refine lv_topi (fun z3 e_z3 => ?_)
      refine lv_goto (tgt := 22) hx hb dX3_byteAt_18 (by decide) ?_
      rw [hQ9]
      exact W.iret (v := z3) hx hb hr (fun t ht hW => ⟨⟨z3, (), rfl, Or.inr ⟨by omega, by omega⟩, by rw [ht]; exact hP, va_K.moved hW.alike hK, hD⟩, hS.F ht⟩) hS.2.2 dX3_byteAt_22

set_option maxRecDepth 100000 in
set_option maxHeartbeats 4000000 in
/-- Program.behindItem -/
theorem c_X3_behindItem (l : Launch) (dC : Nat → ClassId) (dI : Nat → Nat → Nat) (h0 : Nat) (p0 : Int32) (pb : Nat) (pn : Nat) (ps : Int32) (kpn : ClassId) (fpn : Nat → Int32) (sz : Nat) (hp1 : 0 ≤ ps.toInt) (hp2 : ps.toInt ≤ 80) (hb0 : ∀ k : Nat, 0 ≤ (fpn k).toInt ∧ (fpn k).toInt ≤ 80) : Met l yX3_behindItem wsX3_behindItem ({ frames := 0, cells := 0, slots := 0, locals := 0 }) (va_Pc [.ref h0, .int p0] (fun U => U.heap.size = sz ∧ va_P (dC, dI) vwCl [eO h0 2 [.ref pb, .ref pn, .int ps], eI pn kpn 80 fpn] U.heap ∧ va_K (dC, dI) vwCl [(kpn, .int)] U ∧ va_D (fun _ => True) [eO h0 2 [.ref pb, .ref pn, .int ps], eI pn kpn 80 fpn])) (va_Qi (fun (r : Int32) (_ : Unit) => 0 ≤ r.toInt ∧ r.toInt ≤ 80) (fun (_ : Unit) (t : State) => va_P (dC, dI) vwCl [eO h0 2 [.ref pb, .ref pn, .int ps], eI pn kpn 80 fpn] t.heap ∧ va_K (dC, dI) vwCl [(kpn, .int)] t ∧ va_D (va_A [eO h0 2 [.ref pb, .ref pn, .int ps], eI pn kpn 80 fpn] sz) [eO h0 2 [.ref pb, .ref pn, .int ps], eI pn kpn 80 fpn]) (va_A [eO h0 2 [.ref pb, .ref pn, .int ps], eI pn kpn 80 fpn] sz)) 0 0 (va_A [eO h0 2 [.ref pb, .ref pn, .int ps], eI pn kpn 80 fpn] sz) := by
  refine Met.ofW (cc := cX3_behindItem) (maxL := 2) (ret := (some .int)) (by decide) rfl ?_
  intro p e s m args below meth c s₁ B hml hv
  obtain ⟨rfl, hsz, hP, hK, hD0⟩ := hv
  have hx := B.exec
  have hb := B.bytes
  have hr := B.returns
  have hts := atoms_spec (ws := wsX3_behindItem) B.pre
  have hown : s.vm.findClass RX3 = some m.cls := findClass_of_methodNamed B.named
  have hlocks := B.notSynchronized
  subst hsz
  have hD := hD0.self (sz := s.heap.size)
  generalize hAe : va_A [eO h0 2 [.ref pb, .ref pn, .int ps], eI pn kpn 80 fpn] s.heap.size = A at hD ⊢
  have hA : ∀ q : Nat, s.heap.size ≤ q → A q := fun q h => by rw [← hAe]; exact Or.inr h
  have hS : va_S A s.heap s.heap [] := va_S.rf
  have hP : va_P (dC, dI) vwCl [eO h0 2 [.ref pb, .ref pn, .int ps], eI pn kpn 80 fpn] s.heap := hP
  have hl := lv_entry ([.ref h0, .int p0]) (n := 2) (Nat.le_of_ble_eq_true rfl)
  rw [lg_entry_eq]
  generalize (lg_sl ([.ref h0, .int p0]) ++ List.replicate (2 - (lg_sl ([.ref h0, .int p0])).length) Slot.unset).toArray = ls at hl ⊢
  have hl : lv_has ls 2 [(0, .ref h0), (1, .int p0)] := hl
  suffices key9 : ∀ Q9 : State → Prop, Q9 = (MQ below (va_Qi (fun (r : Int32) (_ : Unit) => 0 ≤ r.toInt ∧ r.toInt ≤ 80) (fun (_ : Unit) (t : State) => va_P (dC, dI) vwCl [eO h0 2 [.ref pb, .ref pn, .int ps], eI pn kpn 80 fpn] t.heap ∧ va_K (dC, dI) vwCl [(kpn, .int)] t ∧ va_D A [eO h0 2 [.ref pb, .ref pn, .int ps], eI pn kpn 80 fpn]) A) (([.ref h0, .int p0] : List Value).toArray) s 0 0 A) → W p l e ({ frames := 0, cells := 0, slots := 0, locals := 0 }) s m (([.ref h0, .int p0] : List Value).toArray) below meth c s.heap [] 0 0 Q9 (F0 m 0 ls []) from key9 _ rfl
  intro Q9 hQ9
  have k_0 : (0 : Int32).toInt = 0 := by decide
  refine lv_iload_n hx hb dX3_behindItem_0 rfl (lv_at hl 1 rfl) ?_
  refine lv_if_lt (tgt := 21) hx hb dX3_behindItem_1 (by decide) (fun c1 => ?_) (fun c1 => ?_)
  · skip
    have f_c1 := i_lt c1
    refine lv_aload_n hx hb dX3_behindItem_21 rfl (lv_at hl 0 rfl) ?_
    refine va_get (D := (dC, dI)) (ci := 2) (v := .int ps) (C := RX3) (T := TX3) (N := 3) hx hb hts (fun w h => List.mem_cons_of_mem _ (inlX3 w h)) hown hK hP 0 rfl rfl 2 (by decide) (hts (.fieldLink RX3 31 "ClearingGates$Program" "size" "I") (List.mem_cons_of_mem _ mw_155)) (fun _ h9 => h9) rfl dX3_behindItem_22 ?_
    rw [hQ9]
    exact W.iret (v := ps) hx hb hr (fun t ht hW => ⟨⟨ps, (), rfl, ⟨by omega, by omega⟩, by rw [ht]; exact hP, va_K.moved hW.alike hK, hD⟩, hS.F ht⟩) hS.2.2 dX3_behindItem_25
  · skip
    have f_c1 := i_nlt c1
    refine lv_iload_n hx hb dX3_behindItem_4 rfl (lv_at hl 1 rfl) ?_
    refine lv_aload_n hx hb dX3_behindItem_5 rfl (lv_at hl 0 rfl) ?_
    refine va_get (D := (dC, dI)) (ci := 2) (v := .int ps) (C := RX3) (T := TX3) (N := 3) hx hb hts (fun w h => List.mem_cons_of_mem _ (inlX3 w h)) hown hK hP 0 rfl rfl 2 (by decide) (hts (.fieldLink RX3 31 "ClearingGates$Program" "size" "I") (List.mem_cons_of_mem _ mw_155)) (fun _ h9 => h9) rfl dX3_behindItem_6 ?_
    refine lv_icmp_ge (tgt := 21) hx hb dX3_behindItem_9 (by decide) (fun c2 => ?_) (fun c2 => ?_)
    · skip
      have f_c2 := i_le c2
      refine lv_aload_n hx hb dX3_behindItem_21 rfl (lv_at hl 0 rfl) ?_
      refine va_get (D := (dC, dI)) (ci := 2) (v := .int ps) (C := RX3) (T := TX3) (N := 3) hx hb hts (fun w h => List.mem_cons_of_mem _ (inlX3 w h)) hown hK hP 0 rfl rfl 2 (by decide) (hts (.fieldLink RX3 31 "ClearingGates$Program" "size" "I") (List.mem_cons_of_mem _ mw_155)) (fun _ h9 => h9) rfl dX3_behindItem_22 ?_
      rw [hQ9]
      exact W.iret (v := ps) hx hb hr (fun t ht hW => ⟨⟨ps, (), rfl, ⟨by omega, by omega⟩, by rw [ht]; exact hP, va_K.moved hW.alike hK, hD⟩, hS.F ht⟩) hS.2.2 dX3_behindItem_25
    · skip
      have f_c2 := i_nle c2
      refine lv_aload_n hx hb dX3_behindItem_12 rfl (lv_at hl 0 rfl) ?_
      refine va_get (D := (dC, dI)) (ci := 2) (v := .ref pn) (C := RX3) (T := TX3) (N := 3) hx hb hts (fun w h => List.mem_cons_of_mem _ (inlX3 w h)) hown hK hP 0 rfl rfl 1 (by decide) (hts (.fieldLink RX3 15 "ClearingGates$Program" "behind" "[I") (List.mem_cons_of_mem _ mw_153)) (fun _ h9 => h9) rfl dX3_behindItem_13 ?_
      refine lv_iload_n hx hb dX3_behindItem_16 rfl (lv_at hl 1 rfl) ?_
      refine va_iald (D := (dC, dI)) hx hb hK hP 1 0 rfl rfl (vp_in_iff.mpr ⟨by omega, by omega⟩) dX3_behindItem_17 ?_
      refine lv_topi (fun z3 e_z3 => ?_)
      obtain ⟨wa_z3, wb_z3⟩ : 0 ≤ z3.toInt ∧ z3.toInt ≤ 80 := by rw [e_z3]; exact hb0 _
      refine lv_goto (tgt := 25) hx hb dX3_behindItem_18 (by decide) ?_
      rw [hQ9]
      exact W.iret (v := z3) hx hb hr (fun t ht hW => ⟨⟨z3, (), rfl, ⟨by omega, by omega⟩, by rw [ht]; exact hP, va_K.moved hW.alike hK, hD⟩, hS.F ht⟩) hS.2.2 dX3_behindItem_25

set_option maxRecDepth 100000 in
set_option maxHeartbeats 4000000 in
/-- Program.figureAt -/
theorem c_X3_figureAt (l : Launch) (dC : Nat → ClassId) (dI : Nat → Nat → Nat) (h0 : Nat) (p0 : Int32) (pb : Nat) (pn : Nat) (ps : Int32) (kpb : ClassId) (fpb : Nat → Int32) (sz : Nat) (hp1 : 0 ≤ ps.toInt) (hp2 : ps.toInt ≤ 80) : Met l yX3_figureAt wsX3_figureAt ({ frames := 1, cells := 0, slots := 0, locals := 21 }) (va_Pc [.ref h0, .int p0] (fun U => U.heap.size = sz ∧ va_P (dC, dI) vwCl [eO h0 2 [.ref pb, .ref pn, .int ps], eI pb kpb 80 fpb] U.heap ∧ va_K (dC, dI) vwCl [(kpb, .int)] U ∧ va_D (fun _ => True) [eO h0 2 [.ref pb, .ref pn, .int ps], eI pb kpb 80 fpb])) (va_Qi (fun (r : Int32) (_ : Unit) => True) (fun (_ : Unit) (t : State) => va_P (dC, dI) vwCl [eO h0 2 [.ref pb, .ref pn, .int ps], eI pb kpb 80 fpb] t.heap ∧ va_K (dC, dI) vwCl [(kpb, .int)] t ∧ va_D (va_A [eO h0 2 [.ref pb, .ref pn, .int ps], eI pb kpb 80 fpb] sz) [eO h0 2 [.ref pb, .ref pn, .int ps], eI pb kpb 80 fpb]) (va_A [eO h0 2 [.ref pb, .ref pn, .int ps], eI pb kpb 80 fpb] sz)) 0 0 (va_A [eO h0 2 [.ref pb, .ref pn, .int ps], eI pb kpb 80 fpb] sz) := by
  refine Met.ofW (cc := cX3_figureAt) (maxL := 2) (ret := (some .int)) (by decide) rfl ?_
  intro p e s m args below meth c s₁ B hml hv
  obtain ⟨rfl, hsz, hP, hK, hD0⟩ := hv
  have hx := B.exec
  have hb := B.bytes
  have hr := B.returns
  have hts := atoms_spec (ws := wsX3_figureAt) B.pre
  have hown : s.vm.findClass RX3 = some m.cls := findClass_of_methodNamed B.named
  have hlocks := B.notSynchronized
  subst hsz
  have hD := hD0.self (sz := s.heap.size)
  generalize hAe : va_A [eO h0 2 [.ref pb, .ref pn, .int ps], eI pb kpb 80 fpb] s.heap.size = A at hD ⊢
  have hA : ∀ q : Nat, s.heap.size ≤ q → A q := fun q h => by rw [← hAe]; exact Or.inr h
  have hS : va_S A s.heap s.heap [] := va_S.rf
  have hP : va_P (dC, dI) vwCl [eO h0 2 [.ref pb, .ref pn, .int ps], eI pb kpb 80 fpb] s.heap := hP
  have hl := lv_entry ([.ref h0, .int p0]) (n := 2) (Nat.le_of_ble_eq_true rfl)
  rw [lg_entry_eq]
  generalize (lg_sl ([.ref h0, .int p0]) ++ List.replicate (2 - (lg_sl ([.ref h0, .int p0])).length) Slot.unset).toArray = ls at hl ⊢
  have hl : lv_has ls 2 [(0, .ref h0), (1, .int p0)] := hl
  suffices key9 : ∀ Q9 : State → Prop, Q9 = (MQ below (va_Qi (fun (r : Int32) (_ : Unit) => True) (fun (_ : Unit) (t : State) => va_P (dC, dI) vwCl [eO h0 2 [.ref pb, .ref pn, .int ps], eI pb kpb 80 fpb] t.heap ∧ va_K (dC, dI) vwCl [(kpb, .int)] t ∧ va_D A [eO h0 2 [.ref pb, .ref pn, .int ps], eI pb kpb 80 fpb]) A) (([.ref h0, .int p0] : List Value).toArray) s 0 0 A) → W p l e ({ frames := 1, cells := 0, slots := 0, locals := 21 }) s m (([.ref h0, .int p0] : List Value).toArray) below meth c s.heap [] 0 0 Q9 (F0 m 0 ls []) from key9 _ rfl
  intro Q9 hQ9
  have k_48 : (48 : Int32).toInt = 48 := by decide
  refine lv_aload_n hx hb dX3_figureAt_0 rfl (lv_at hl 0 rfl) ?_
  refine lv_iload_n hx hb dX3_figureAt_1 rfl (lv_at hl 1 rfl) ?_
  obtain ⟨hPc, hDc, hFc, hCm, hNw⟩ := C_s (wc := [eO h0 2 [.ref pb, .ref pn, .int ps], eI pb kpb 80 fpb]) hP hD hS hA [(0, 2)] 2 rfl (by decide +kernel) rfl
  have hKc := K_s (tys' := [(kpb, .int)]) hK [(0, 1)] rfl
  refine va_calli (va_runV (As := [.int p0]) (rest := []) ⟨hx, hb, hml, hown, hts⟩ (c_X3_byteAt l dC dI h0 p0 pb pn ps kpb fpb s.heap.size hp1 hp2) (cwV 1 hts gX3_figureAt_X3_byteAt rfl rfl rfl (by decide +kernel) ⟨Nat.le_of_ble_eq_true rfl, Nat.le_of_ble_eq_true rfl⟩) ⟨fun a U g mk q => by obtain ⟨q0, q1, qP, qK, qD⟩ := q; exact ⟨q0, q1, qP, va_K.moved (u := U) (U := U.calling g mk a) (Vm.Alike.refl U.vm) qK, qD⟩, va_recv (s := s) (q := (RX3, TX3, 3)) hKc hPc (ci := 2) (q0 := 0) rfl rfl, fun U hU hW => ⟨rfl, by rw [hU], by rw [hU]; exact hPc, va_K.moved hW.alike hKc, hDc.weaken (fun _ _ _ _ => trivial)⟩⟩ rfl rfl hl.1 rfl (lv_room (Nat.le_of_ble_eq_true rfl)) dX3_figureAt_2 ⟨Nat.le_of_ble_eq_true rfl, Nat.le_of_ble_eq_true rfl⟩) hS (fun q _ h => hFc q h) hFc (fun r1 u t H1 locs ht hvm hw hB hz1 hk1 hS => ?_)
  obtain ⟨hP1, hK1, hD1⟩ := hB
  rw [ht] at hP1
  have hK1 := va_K.moved hvm.symm hK1
  try dsimp only at hw
  obtain ⟨hP, hD⟩ := J_s (wL := [eO h0 2 [.ref pb, .ref pn, .int ps], eI pb kpb 80 fpb]) hP hD [(0, 2)] [] hCm hNw (by decide +kernel) hk1 hFc hP1 hD1 rfl
  have hK := KJ_s (tys' := [(kpb, .int)]) hK hK1 [] rfl
  generalize H1 = H at hP hS ⊢
  have h_r1 := hw
  refine lv_bipush (v := 48) hx hb dX3_figureAt_5 (by decide) ?_
  refine lv_isub hx hb dX3_figureAt_7 ?_
  refine lv_topi (fun z2 e_z2 => ?_)
  rw [hQ9]
  exact W.iret (v := z2) hx hb hr (fun t ht hW => ⟨⟨z2, (), rfl, (by first | rfl | trivial), by rw [ht]; exact hP, va_K.moved hW.alike hK, hD⟩, hS.F ht⟩) hS.2.2 dX3_figureAt_8

set_option maxRecDepth 100000 in
set_option maxHeartbeats 4000000 in
/-- Program.numberBetween -/
theorem c_X3_numberBetween (l : Launch) (dC : Nat → ClassId) (dI : Nat → Nat → Nat) (h0 : Nat) (p0 : Int32) (p1 : Int32) (pb : Nat) (pn : Nat) (ps : Int32) (kpb : ClassId) (fpb : Nat → Int32) (sz : Nat) (hp1 : 0 ≤ ps.toInt) (hp2 : ps.toInt ≤ 80) (h1 : 0 ≤ p0.toInt) (h2 : p0.toInt ≤ 100) (h3 : p1.toInt ≤ 80) : Met l yX3_numberBetween wsX3_numberBetween ({ frames := 1, cells := 0, slots := 0, locals := 21 }) (va_Pc [.ref h0, .int p0, .int p1] (fun U => U.heap.size = sz ∧ va_P (dC, dI) vwCl [eO h0 2 [.ref pb, .ref pn, .int ps], eI pb kpb 80 fpb] U.heap ∧ va_K (dC, dI) vwCl [(kpb, .int)] U ∧ va_D (fun _ => True) [eO h0 2 [.ref pb, .ref pn, .int ps], eI pb kpb 80 fpb])) (va_Qi (fun (r : Int32) (_ : Unit) => True) (fun (_ : Unit) (t : State) => va_P (dC, dI) vwCl [eO h0 2 [.ref pb, .ref pn, .int ps], eI pb kpb 80 fpb] t.heap ∧ va_K (dC, dI) vwCl [(kpb, .int)] t ∧ va_D (va_A [eO h0 2 [.ref pb, .ref pn, .int ps], eI pb kpb 80 fpb] sz) [eO h0 2 [.ref pb, .ref pn, .int ps], eI pb kpb 80 fpb]) (va_A [eO h0 2 [.ref pb, .ref pn, .int ps], eI pb kpb 80 fpb] sz)) 0 0 (va_A [eO h0 2 [.ref pb, .ref pn, .int ps], eI pb kpb 80 fpb] sz) := by
  refine Met.ofW (cc := cX3_numberBetween) (maxL := 5) (ret := (some .int)) (by decide) rfl ?_
  intro p e s m args below meth c s₁ B hml hv
  obtain ⟨rfl, hsz, hP, hK, hD0⟩ := hv
  have hx := B.exec
  have hb := B.bytes
  have hr := B.returns
  have hts := atoms_spec (ws := wsX3_numberBetween) B.pre
  have hown : s.vm.findClass RX3 = some m.cls := findClass_of_methodNamed B.named
  have hlocks := B.notSynchronized
  subst hsz
  have hD := hD0.self (sz := s.heap.size)
  generalize hAe : va_A [eO h0 2 [.ref pb, .ref pn, .int ps], eI pb kpb 80 fpb] s.heap.size = A at hD ⊢
  have hA : ∀ q : Nat, s.heap.size ≤ q → A q := fun q h => by rw [← hAe]; exact Or.inr h
  have hS : va_S A s.heap s.heap [] := va_S.rf
  have hP : va_P (dC, dI) vwCl [eO h0 2 [.ref pb, .ref pn, .int ps], eI pb kpb 80 fpb] s.heap := hP
  have hl := lv_entry ([.ref h0, .int p0, .int p1]) (n := 5) (Nat.le_of_ble_eq_true rfl)
  rw [lg_entry_eq]
  generalize (lg_sl ([.ref h0, .int p0, .int p1]) ++ List.replicate (5 - (lg_sl ([.ref h0, .int p0, .int p1])).length) Slot.unset).toArray = ls at hl ⊢
  have hl : lv_has ls 5 [(0, .ref h0), (1, .int p0), (2, .int p1)] := hl
  suffices key9 : ∀ Q9 : State → Prop, Q9 = (MQ below (va_Qi (fun (r : Int32) (_ : Unit) => True) (fun (_ : Unit) (t : State) => va_P (dC, dI) vwCl [eO h0 2 [.ref pb, .ref pn, .int ps], eI pb kpb 80 fpb] t.heap ∧ va_K (dC, dI) vwCl [(kpb, .int)] t ∧ va_D A [eO h0 2 [.ref pb, .ref pn, .int ps], eI pb kpb 80 fpb]) A) (([.ref h0, .int p0, .int p1] : List Value).toArray) s 0 0 A) → W p l e ({ frames := 1, cells := 0, slots := 0, locals := 21 }) s m (([.ref h0, .int p0, .int p1] : List Value).toArray) below meth c s.heap [] 0 0 Q9 (F0 m 0 ls []) from key9 _ rfl
  intro Q9 hQ9
  have k_1 : (1 : Int32).toInt = 1 := by decide
  have k_10 : (10 : Int32).toInt = 10 := by decide
  have k_48 : (48 : Int32).toInt = 48 := by decide
  refine lv_iconst (v := 0) hx hb dX3_numberBetween_0 (by decide) ?_
  refine lv_istore_n (lv' := [(3, .int 0), (0, .ref h0), (1, .int p0), (2, .int p1)]) hx hb dX3_numberBetween_1 rfl hl (by decide) rfl (fun ls hl => ?_)
  refine lv_iload_n hx hb dX3_numberBetween_2 rfl (lv_at hl 2 rfl) ?_
  refine lv_istore (lv' := [(4, .int p0), (3, .int 0), (0, .ref h0), (1, .int p0), (2, .int p1)]) hx hb dX3_numberBetween_3 hl (by decide) rfl (fun ls hl => ?_)
  have loop_5 : ∀ (n : Nat) (x : Int32) (nu : Int32), (0 ≤ x.toInt) → (x.toInt ≤ 100) → (100 - x.toInt) < (n : Int) → ∀ (H : Heap) (locs : List Loc), va_K (dC, dI) vwCl [(kpb, .int)] s → va_P (dC, dI) vwCl [eO h0 2 [.ref pb, .ref pn, .int ps], eI pb kpb 80 fpb] H → va_D A [eO h0 2 [.ref pb, .ref pn, .int ps], eI pb kpb 80 fpb] → va_S A s.heap H locs → ∀ (ls : Array Slot), lv_has ls 5 [(4, .int x), (3, .int nu), (0, .ref h0), (1, .int p0), (2, .int p1)] → W p l e ({ frames := 1, cells := 0, slots := 0, locals := 21 }) s m (([.ref h0, .int p0, .int p1] : List Value).toArray) below meth c H locs 0 0 Q9 (F0 m 5 ls []) := by
    intro n
    induction n with
    | zero => intro x nu i1 i2 hM_5; exfalso; omega
    | succ n ih_5 =>
      intro x nu i1 i2 hM_5 H locs hK hP hD hS ls hl
      refine lv_iload hx hb dX3_numberBetween_5 (lv_at hl 0 rfl) ?_
      refine lv_iload_n hx hb dX3_numberBetween_7 rfl (lv_at hl 4 rfl) ?_
      refine lv_icmp_ge (tgt := 32) hx hb dX3_numberBetween_8 (by decide) (fun c1 => ?_) (fun c1 => ?_)
      · skip
        have f_c1 := i_le c1
        refine lv_iload_n hx hb dX3_numberBetween_32 rfl (lv_at hl 1 rfl) ?_
        rw [hQ9]
        exact W.iret (v := nu) hx hb hr (fun t ht hW => ⟨⟨nu, (), rfl, (by first | rfl | trivial), by rw [ht]; exact hP, va_K.moved hW.alike hK, hD⟩, hS.F ht⟩) hS.2.2 dX3_numberBetween_33
      · skip
        have f_c1 := i_nle c1
        refine lv_iload_n hx hb dX3_numberBetween_11 rfl (lv_at hl 1 rfl) ?_
        refine lv_bipush (v := 10) hx hb dX3_numberBetween_12 (by decide) ?_
        refine lv_imul hx hb dX3_numberBetween_14 ?_
        refine lv_topi (fun z2 e_z2 => ?_)
        refine lv_aload_n hx hb dX3_numberBetween_15 rfl (lv_at hl 2 rfl) ?_
        refine lv_iload hx hb dX3_numberBetween_16 (lv_at hl 0 rfl) ?_
        obtain ⟨hPc, hDc, hFc, hCm, hNw⟩ := C_s (wc := [eO h0 2 [.ref pb, .ref pn, .int ps], eI pb kpb 80 fpb]) hP hD hS hA [(0, 2)] 2 rfl (by decide +kernel) rfl
        have hKc := K_s (tys' := [(kpb, .int)]) hK [(0, 1)] rfl
        refine va_calli (va_runV (As := [.int x]) (rest := [.int z2]) ⟨hx, hb, hml, hown, hts⟩ (c_X3_byteAt l dC dI h0 x pb pn ps kpb fpb H.size hp1 hp2) (cwV 1 hts gX3_numberBetween_X3_byteAt rfl rfl rfl (by decide +kernel) ⟨Nat.le_of_ble_eq_true rfl, Nat.le_of_ble_eq_true rfl⟩) ⟨fun a U g mk q => by obtain ⟨q0, q1, qP, qK, qD⟩ := q; exact ⟨q0, q1, qP, va_K.moved (u := U) (U := U.calling g mk a) (Vm.Alike.refl U.vm) qK, qD⟩, va_recv (s := s) (q := (RX3, TX3, 3)) hKc hPc (ci := 2) (q0 := 0) rfl rfl, fun U hU hW => ⟨rfl, by rw [hU], by rw [hU]; exact hPc, va_K.moved hW.alike hKc, hDc.weaken (fun _ _ _ _ => trivial)⟩⟩ rfl rfl hl.1 rfl (lv_room (Nat.le_of_ble_eq_true rfl)) dX3_numberBetween_18 ⟨Nat.le_of_ble_eq_true rfl, Nat.le_of_ble_eq_true rfl⟩) hS (fun q _ h => hFc q h) hFc (fun r3 u t H1 locs ht hvm hw hB hz1 hk1 hS => ?_)
        obtain ⟨hP1, hK1, hD1⟩ := hB
        rw [ht] at hP1
        have hK1 := va_K.moved hvm.symm hK1
        try dsimp only at hw
        obtain ⟨hP, hD⟩ := J_s (wL := [eO h0 2 [.ref pb, .ref pn, .int ps], eI pb kpb 80 fpb]) hP hD [(0, 2)] [] hCm hNw (by decide +kernel) hk1 hFc hP1 hD1 rfl
        have hK := KJ_s (tys' := [(kpb, .int)]) hK hK1 [] rfl
        generalize H1 = H at hP hS ⊢
        have h_r3 := hw
        refine lv_iadd hx hb dX3_numberBetween_21 ?_
        refine lv_topi (fun z4 e_z4 => ?_)
        refine lv_bipush (v := 48) hx hb dX3_numberBetween_22 (by decide) ?_
        refine lv_isub hx hb dX3_numberBetween_24 ?_
        refine lv_topi (fun z5 e_z5 => ?_)
        refine lv_istore_n (lv' := [(3, .int z5), (4, .int x), (0, .ref h0), (1, .int p0), (2, .int p1)]) hx hb dX3_numberBetween_25 rfl hl (by decide) rfl (fun ls hl => ?_)
        obtain ⟨x6, e_x6⟩ : ∃ yy : Int32, yy = x + 1 := ⟨_, rfl⟩
        refine lv_iinc (v := x6) (lv' := [(4, .int x6), (3, .int z5), (0, .ref h0), (1, .int p0), (2, .int p1)]) hx hb dX3_numberBetween_26 hl (k := 1) rfl (by rw [e_x6]; rfl) (by decide) rfl (fun ls hl => ?_)
        have t_x6 := i_add e_x6 (by omega) (by omega)
        refine lv_goto (tgt := 5) hx hb dX3_numberBetween_29 (by decide) ?_
        exact ih_5 x6 z5 (by first | assumption | omega) (by first | assumption | omega) (by omega) _ _ (K_s hK [(0, 1)] rfl) (P_s hP [(0, 2)] rfl) (D_s hD [(0, 2)] 2 rfl (by decide +kernel) rfl) hS ls (lv_sub hl [0, 1, 2, 3, 4] rfl)
  exact loop_5 (1000) p0 0 (by first | assumption | omega) (by first | assumption | omega) (by omega) _ _ hK hP hD hS ls (lv_sub hl [0, 1, 2, 3, 4] rfl)
