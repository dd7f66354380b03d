set_option maxRecDepth 100000 in
set_option maxHeartbeats 4000000 in
/-- Reader.faultAt -/
theorem c_X4_faultAt (l : Launch) (dC : Nat → ClassId) (dI : Nat → Nat → Nat) (h0 : Nat) (p0 : Int32) (qo : Nat) (op : Int32) (lp : Int32) (fa : Int32) (jp : Nat) (sz : Nat) (h1 : 0 ≤ p0.toInt) (h2 : p0.toInt ≤ 90) : Met l yX4_faultAt wsX4_faultAt ({ frames := 0, cells := 0, slots := 0, locals := 0 }) (va_Pc [.ref h0, .int p0] (fun U => U.heap.size = sz ∧ va_P (dC, dI) vwCl [eO h0 3 [.ref qo, .int op, .int lp, .int fa, .ref jp]] U.heap ∧ va_K (dC, dI) vwCl [] U ∧ va_D (fun _ => True) [eO h0 3 [.ref qo, .int op, .int lp, .int fa, .ref jp]])) (va_Qi (fun (r : Int32) (_ : Unit) => r.toInt = p0.toInt + 1) (fun (_ : Unit) (t : State) => va_P (dC, dI) vwCl [eO h0 3 [.ref qo, .int op, .int lp, .int p0, .ref jp]] t.heap ∧ va_K (dC, dI) vwCl [] t ∧ va_D (va_A [eO h0 3 [.ref qo, .int op, .int lp, .int fa, .ref jp]] sz) [eO h0 3 [.ref qo, .int op, .int lp, .int p0, .ref jp]]) (va_A [eO h0 3 [.ref qo, .int op, .int lp, .int fa, .ref jp]] sz)) 0 0 (va_A [eO h0 3 [.ref qo, .int op, .int lp, .int fa, .ref jp]] sz) := by
  refine Met.ofW (cc := cX4_faultAt) (maxL := 2) (ret := (some .int)) (by decide) rfl ?_
  intro p e s m args below meth c s₁ B hml hv
  obtain ⟨rfl, hsz, hP, hK, hD0⟩ := hv
  have hx := B.exec
  have hb := B.bytes
  have hr := B.returns
  have hts := atoms_spec (ws := wsX4_faultAt) B.pre
  have hown : s.vm.findClass RX4 = some m.cls := findClass_of_methodNamed B.named
  have hlocks := B.notSynchronized
  subst hsz
  have hD := hD0.self (sz := s.heap.size)
  generalize hAe : va_A [eO h0 3 [.ref qo, .int op, .int lp, .int fa, .ref jp]] s.heap.size = A at hD ⊢
  have hA : ∀ q : Nat, s.heap.size ≤ q → A q := fun q h => by rw [← hAe]; exact Or.inr h
  have hS : va_S A s.heap s.heap [] := va_S.rf
  have hP : va_P (dC, dI) vwCl [eO h0 3 [.ref qo, .int op, .int lp, .int fa, .ref jp]] s.heap := hP
  have hl := lv_entry ([.ref h0, .int p0]) (n := 2) (Nat.le_of_ble_eq_true rfl)
  rw [lg_entry_eq]
  generalize (lg_sl ([.ref h0, .int p0]) ++ List.replicate (2 - (lg_sl ([.ref h0, .int p0])).length) Slot.unset).toArray = ls at hl ⊢
  have hl : lv_has ls 2 [(0, .ref h0), (1, .int p0)] := hl
  suffices key9 : ∀ Q9 : State → Prop, Q9 = (MQ below (va_Qi (fun (r : Int32) (_ : Unit) => r.toInt = p0.toInt + 1) (fun (_ : Unit) (t : State) => va_P (dC, dI) vwCl [eO h0 3 [.ref qo, .int op, .int lp, .int p0, .ref jp]] t.heap ∧ va_K (dC, dI) vwCl [] t ∧ va_D A [eO h0 3 [.ref qo, .int op, .int lp, .int p0, .ref jp]]) A) (([.ref h0, .int p0] : List Value).toArray) s 0 0 A) → W p l e ({ frames := 0, cells := 0, slots := 0, locals := 0 }) s m (([.ref h0, .int p0] : List Value).toArray) below meth c s.heap [] 0 0 Q9 (F0 m 0 ls []) from key9 _ rfl
  intro Q9 hQ9
  have k_1 : (1 : Int32).toInt = 1 := by decide
  refine lv_aload_n hx hb dX4_faultAt_0 rfl (lv_at hl 0 rfl) ?_
  refine lv_iload_n hx hb dX4_faultAt_1 rfl (lv_at hl 1 rfl) ?_
  refine va_put (D := (dC, dI)) (ci := 3) (v := .int p0) (ty := .int) (C := RX4) (T := TX4) (N := 5) hx hb hts (fun w h => List.mem_cons_of_mem _ (inlX4 w h)) tyX4 tyX4_ok nmX4 hown hK hP hD hS 0 rfl rfl 3 (by decide) (hts (.fieldLink RX4 26 "ClearingGates$Reader" "fault" "I") (List.mem_cons_of_mem _ mw_176)) (fun _ h9 => h9) rfl (by decide +kernel) rfl rfl (Nat.le_of_ble_eq_true rfl) dX4_faultAt_2 (fun H locs hP hD hS => ?_)
  obtain ⟨hP, hD⟩ := X_s (ws' := [eO h0 3 [.ref qo, .int op, .int lp, .int p0, .ref jp]]) hP hD rfl
  refine lv_iload_n hx hb dX4_faultAt_5 rfl (lv_at hl 1 rfl) ?_
  refine lv_iconst (v := 1) hx hb dX4_faultAt_6 (by decide) ?_
  refine lv_iadd hx hb dX4_faultAt_7 ?_
  refine lv_topi (fun z1 e_z1 => ?_)
  have t_z1 := i_add e_z1 (by omega) (by omega)
  rw [hQ9]
  exact W.iret (v := z1) hx hb hr (fun t ht hW => ⟨⟨z1, (), rfl, (by omega), by rw [ht]; exact hP, va_K.moved hW.alike hK, hD⟩, hS.F ht⟩) hS.2.2 dX4_faultAt_8

set_option maxRecDepth 100000 in
set_option maxHeartbeats 4000000 in
/-- Reader.isFigure -/
theorem c_X4_isFigure (l : Launch) (dC : Nat → ClassId) (dI : Nat → Nat → Nat) (h0 : Nat) (p0 : Int32) (p1 : Int32) (p2 : Int32) (qo : Nat) (op : Int32) (lp : Int32) (fa : Int32) (jp : Nat) (pb : Nat) (pn : Nat) (ps : Int32) (kpb : ClassId) (fpb : Nat → Int32) (kpn : ClassId) (fpn : Nat → Int32) (sz : Nat) (hp1 : 0 ≤ ps.toInt) (hp2 : ps.toInt ≤ 80) (h1 : 0 ≤ p1.toInt) : Met l yX4_isFigure wsX4_isFigure ({ frames := 1, cells := 0, slots := 0, locals := 21 }) (va_Pc [.ref h0, .int p0, .int p1, .int p2] (fun U => U.heap.size = sz ∧ va_P (dC, dI) vwCl [eO h0 3 [.ref qo, .int op, .int lp, .int fa, .ref jp], eO jp 2 [.ref pb, .ref pn, .int ps], eI pb kpb 80 fpb, eI pn kpn 80 fpn] U.heap ∧ va_K (dC, dI) vwCl [(kpb, .int), (kpn, .int)] U ∧ va_D (fun _ => True) [eO h0 3 [.ref qo, .int op, .int lp, .int fa, .ref jp], eO jp 2 [.ref pb, .ref pn, .int ps], eI pb kpb 80 fpb, eI pn kpn 80 fpn])) (va_Qi (fun (r : Int32) (_ : Unit) => (r = 1 ∧ 0 ≤ p0.toInt ∧ p0.toInt < ps.toInt) ∨ (r = 0 ∧ (0 : Int) ≤ 0)) (fun (_ : Unit) (t : State) => va_P (dC, dI) vwCl [eO h0 3 [.ref qo, .int op, .int lp, .int fa, .ref jp], eO jp 2 [.ref pb, .ref pn, .int ps], eI pb kpb 80 fpb, eI pn kpn 80 fpn] t.heap ∧ va_K (dC, dI) vwCl [(kpb, .int), (kpn, .int)] t ∧ va_D (va_A [eO h0 3 [.ref qo, .int op, .int lp, .int fa, .ref jp], eO jp 2 [.ref pb, .ref pn, .int ps], eI pb kpb 80 fpb, eI pn kpn 80 fpn] sz) [eO h0 3 [.ref qo, .int op, .int lp, .int fa, .ref jp], eO jp 2 [.ref pb, .ref pn, .int ps], eI pb kpb 80 fpb, eI pn kpn 80 fpn]) (va_A [eO h0 3 [.ref qo, .int op, .int lp, .int fa, .ref jp], eO jp 2 [.ref pb, .ref pn, .int ps], eI pb kpb 80 fpb, eI pn kpn 80 fpn] sz)) 0 0 (va_A [eO h0 3 [.ref qo, .int op, .int lp, .int fa, .ref jp], eO jp 2 [.ref pb, .ref pn, .int ps], eI pb kpb 80 fpb, eI pn kpn 80 fpn] sz) := by
  refine Met.ofW (cc := cX4_isFigure) (maxL := 4) (ret := (some .boolean)) (by decide) rfl ?_
  intro p e s m args below meth c s₁ B hml hv
  obtain ⟨rfl, hsz, hP, hK, hD0⟩ := hv
  have hx := B.exec
  have hb := B.bytes
  have hr := B.returns
  have hts := atoms_spec (ws := wsX4_isFigure) B.pre
  have hown : s.vm.findClass RX4 = some m.cls := findClass_of_methodNamed B.named
  have hlocks := B.notSynchronized
  subst hsz
  have hD := hD0.self (sz := s.heap.size)
  generalize hAe : va_A [eO h0 3 [.ref qo, .int op, .int lp, .int fa, .ref jp], eO jp 2 [.ref pb, .ref pn, .int ps], eI pb kpb 80 fpb, eI pn kpn 80 fpn] s.heap.size = A at hD ⊢
  have hA : ∀ q : Nat, s.heap.size ≤ q → A q := fun q h => by rw [← hAe]; exact Or.inr h
  have hS : va_S A s.heap s.heap [] := va_S.rf
  have hP : va_P (dC, dI) vwCl [eO h0 3 [.ref qo, .int op, .int lp, .int fa, .ref jp], eO jp 2 [.ref pb, .ref pn, .int ps], eI pb kpb 80 fpb, eI pn kpn 80 fpn] s.heap := hP
  have hl := lv_entry ([.ref h0, .int p0, .int p1, .int p2]) (n := 4) (Nat.le_of_ble_eq_true rfl)
  rw [lg_entry_eq]
  generalize (lg_sl ([.ref h0, .int p0, .int p1, .int p2]) ++ List.replicate (4 - (lg_sl ([.ref h0, .int p0, .int p1, .int p2])).length) Slot.unset).toArray = ls at hl ⊢
  have hl : lv_has ls 4 [(0, .ref h0), (1, .int p0), (2, .int p1), (3, .int p2)] := hl
  suffices key9 : ∀ Q9 : State → Prop, Q9 = (MQ below (va_Qi (fun (r : Int32) (_ : Unit) => (r = 1 ∧ 0 ≤ p0.toInt ∧ p0.toInt < ps.toInt) ∨ (r = 0 ∧ (0 : Int) ≤ 0)) (fun (_ : Unit) (t : State) => va_P (dC, dI) vwCl [eO h0 3 [.ref qo, .int op, .int lp, .int fa, .ref jp], eO jp 2 [.ref pb, .ref pn, .int ps], eI pb kpb 80 fpb, eI pn kpn 80 fpn] t.heap ∧ va_K (dC, dI) vwCl [(kpb, .int), (kpn, .int)] t ∧ va_D A [eO h0 3 [.ref qo, .int op, .int lp, .int fa, .ref jp], eO jp 2 [.ref pb, .ref pn, .int ps], eI pb kpb 80 fpb, eI pn kpn 80 fpn]) A) (([.ref h0, .int p0, .int p1, .int p2] : List Value).toArray) s 0 0 A) → W p l e ({ frames := 1, cells := 0, slots := 0, locals := 21 }) s m (([.ref h0, .int p0, .int p1, .int p2] : List Value).toArray) below meth c s.heap [] 0 0 Q9 (F0 m 0 ls []) from key9 _ rfl
  intro Q9 hQ9
  have k_0 : (0 : Int32).toInt = 0 := by decide
  have k_1 : (1 : Int32).toInt = 1 := by decide
  refine lv_aload_n hx hb dX4_isFigure_0 rfl (lv_at hl 0 rfl) ?_
  refine va_get (D := (dC, dI)) (ci := 3) (v := .ref jp) (C := RX4) (T := TX4) (N := 5) hx hb hts (fun w h => List.mem_cons_of_mem _ (inlX4 w h)) hown hK hP 0 rfl rfl 4 (by decide) (hts (.fieldLink RX4 15 "ClearingGates$Reader" "program" "LClearingGates$Program;") (List.mem_cons_of_mem _ mw_177)) (fun _ h9 => h9) rfl dX4_isFigure_1 ?_
  refine lv_iload_n hx hb dX4_isFigure_4 rfl (lv_at hl 1 rfl) ?_
  obtain ⟨hPc, hDc, hFc, hCm, hNw⟩ := C_s (wc := [eO jp 2 [.ref pb, .ref pn, .int ps], eI pb kpb 80 fpb]) hP hD hS hA [(1, 2)] 4 rfl (by decide +kernel) rfl
  have hKc := K_s (tys' := [(kpb, .int)]) hK [(0, 1)] rfl
  refine va_calli (va_runV (As := [.int p0]) (rest := []) ⟨hx, hb, hml, hown, hts⟩ (c_X3_byteAt l dC dI jp p0 pb pn ps kpb fpb s.heap.size hp1 hp2) (cwV 1 hts gX4_isFigure_X3_byteAt rfl rfl rfl (by decide +kernel) ⟨Nat.le_of_ble_eq_true rfl, Nat.le_of_ble_eq_true rfl⟩) ⟨fun a U g mk q => by obtain ⟨q0, q1, qP, qK, qD⟩ := q; exact ⟨q0, q1, qP, va_K.moved (u := U) (U := U.calling g mk a) (Vm.Alike.refl U.vm) qK, qD⟩, va_recv (s := s) (q := (RX3, TX3, 3)) hKc hPc (ci := 2) (q0 := 0) rfl rfl, fun U hU hW => ⟨rfl, by rw [hU], by rw [hU]; exact hPc, va_K.moved hW.alike hKc, hDc.weaken (fun _ _ _ _ => trivial)⟩⟩ rfl rfl hl.1 rfl (lv_room (Nat.le_of_ble_eq_true rfl)) dX4_isFigure_5 ⟨Nat.le_of_ble_eq_true rfl, Nat.le_of_ble_eq_true rfl⟩) hS (fun q _ h => hFc q h) hFc (fun r1 u t H1 locs ht hvm hw hB hz1 hk1 hS => ?_)
  obtain ⟨hP1, hK1, hD1⟩ := hB
  rw [ht] at hP1
  have hK1 := va_K.moved hvm.symm hK1
  try dsimp only at hw
  obtain ⟨hP, hD⟩ := J_s (wL := [eO h0 3 [.ref qo, .int op, .int lp, .int fa, .ref jp], eI pn kpn 80 fpn, eO jp 2 [.ref pb, .ref pn, .int ps], eI pb kpb 80 fpb]) hP hD [(1, 2)] [(0, 1), (3, 1)] hCm hNw (by decide +kernel) hk1 hFc hP1 hD1 rfl
  have hK := KJ_s (tys' := [(kpn, .int), (kpb, .int)]) hK hK1 [(1, 1)] rfl
  generalize H1 = H at hP hS ⊢
  have h_r1 := hw
  refine lv_iload_n hx hb dX4_isFigure_8 rfl (lv_at hl 2 rfl) ?_
  refine lv_icmp_lt (tgt := 28) hx hb dX4_isFigure_9 (by decide) (fun c2 => ?_) (fun c2 => ?_)
  · skip
    have f_c2 := i_lt c2
    refine lv_iconst (v := 0) hx hb dX4_isFigure_28 (by decide) ?_
    rw [hQ9]
    exact W.zret (v := 0) hx hb hr (by decide) (fun t ht hW => ⟨⟨0, (), rfl, Or.inr (⟨rfl, by first | trivial | omega⟩), by rw [ht]; exact P_s hP [(0, 1), (2, 2), (1, 1)] rfl, va_K.moved hW.alike (K_s hK [(1, 1), (0, 1)] rfl), D_s hD [(0, 1), (2, 2), (1, 1)] 4 rfl (by decide +kernel) rfl⟩, hS.F ht⟩) hS.2.2 dX4_isFigure_29
  · skip
    have f_c2 := i_nlt c2
    refine lv_aload_n hx hb dX4_isFigure_12 rfl (lv_at hl 0 rfl) ?_
    refine va_get (D := (dC, dI)) (ci := 3) (v := .ref jp) (C := RX4) (T := TX4) (N := 5) hx hb hts (fun w h => List.mem_cons_of_mem _ (inlX4 w h)) hown hK hP 0 rfl rfl 4 (by decide) (hts (.fieldLink RX4 15 "ClearingGates$Reader" "program" "LClearingGates$Program;") (List.mem_cons_of_mem _ mw_177)) (fun _ h9 => h9) rfl dX4_isFigure_13 ?_
    refine lv_iload_n hx hb dX4_isFigure_16 rfl (lv_at hl 1 rfl) ?_
    obtain ⟨hPc, hDc, hFc, hCm, hNw⟩ := C_s (wc := [eO jp 2 [.ref pb, .ref pn, .int ps], eI pb kpb 80 fpb]) hP hD hS hA [(2, 2)] 4 rfl (by decide +kernel) rfl
    have hKc := K_s (tys' := [(kpb, .int)]) hK [(1, 1)] rfl
    refine va_calli (va_runV (As := [.int p0]) (rest := []) ⟨hx, hb, hml, hown, hts⟩ (c_X3_byteAt l dC dI jp p0 pb pn ps kpb fpb H.size hp1 hp2) (cwV 1 hts gX4_isFigure_X3_byteAt rfl rfl rfl (by decide +kernel) ⟨Nat.le_of_ble_eq_true rfl, Nat.le_of_ble_eq_true rfl⟩) ⟨fun a U g mk q => by obtain ⟨q0, q1, qP, qK, qD⟩ := q; exact ⟨q0, q1, qP, va_K.moved (u := U) (U := U.calling g mk a) (Vm.Alike.refl U.vm) qK, qD⟩, va_recv (s := s) (q := (RX3, TX3, 3)) hKc hPc (ci := 2) (q0 := 0) rfl rfl, fun U hU hW => ⟨rfl, by rw [hU], by rw [hU]; exact hPc, va_K.moved hW.alike hKc, hDc.weaken (fun _ _ _ _ => trivial)⟩⟩ rfl rfl hl.1 rfl (lv_room (Nat.le_of_ble_eq_true rfl)) dX4_isFigure_17 ⟨Nat.le_of_ble_eq_true rfl, Nat.le_of_ble_eq_true rfl⟩) hS (fun q _ h => hFc q h) hFc (fun r3 u t H1 locs ht hvm hw hB hz1 hk1 hS => ?_)
    obtain ⟨hP1, hK1, hD1⟩ := hB
    rw [ht] at hP1
    have hK1 := va_K.moved hvm.symm hK1
    try dsimp only at hw
    obtain ⟨hP, hD⟩ := J_s (wL := [eO h0 3 [.ref qo, .int op, .int lp, .int fa, .ref jp], eI pn kpn 80 fpn, eO jp 2 [.ref pb, .ref pn, .int ps], eI pb kpb 80 fpb]) hP hD [(2, 2)] [(0, 2)] hCm hNw (by decide +kernel) hk1 hFc hP1 hD1 rfl
    have hK := KJ_s (tys' := [(kpn, .int), (kpb, .int)]) hK hK1 [(0, 1)] rfl
    generalize H1 = H at hP hS ⊢
    have h_r3 := hw
    refine lv_iload_n hx hb dX4_isFigure_20 rfl (lv_at hl 3 rfl) ?_
    refine lv_icmp_gt (tgt := 28) hx hb dX4_isFigure_21 (by decide) (fun c4 => ?_) (fun c4 => ?_)
    · skip
      have f_c4 := i_lt c4
      refine lv_iconst (v := 0) hx hb dX4_isFigure_28 (by decide) ?_
      rw [hQ9]
      exact W.zret (v := 0) hx hb hr (by decide) (fun t ht hW => ⟨⟨0, (), rfl, Or.inr (⟨rfl, by first | trivial | omega⟩), by rw [ht]; exact P_s hP [(0, 1), (2, 2), (1, 1)] rfl, va_K.moved hW.alike (K_s hK [(1, 1), (0, 1)] rfl), D_s hD [(0, 1), (2, 2), (1, 1)] 4 rfl (by decide +kernel) rfl⟩, hS.F ht⟩) hS.2.2 dX4_isFigure_29
    · skip
      have f_c4 := i_nlt c4
      refine lv_iconst (v := 1) hx hb dX4_isFigure_24 (by decide) ?_
      refine lv_goto (tgt := 29) hx hb dX4_isFigure_25 (by decide) ?_
      rw [hQ9]
      exact W.zret (v := 1) hx hb hr (by decide) (fun t ht hW => ⟨⟨1, (), rfl, Or.inl ⟨rfl, by first | trivial | omega⟩, by rw [ht]; exact P_s hP [(0, 1), (2, 2), (1, 1)] rfl, va_K.moved hW.alike (K_s hK [(1, 1), (0, 1)] rfl), D_s hD [(0, 1), (2, 2), (1, 1)] 4 rfl (by decide +kernel) rfl⟩, hS.F ht⟩) hS.2.2 dX4_isFigure_29

set_option maxRecDepth 100000 in
set_option maxHeartbeats 4000000 in
/-- Reader.ends -/
theorem c_X4_ends (l : Launch) (dC : Nat → ClassId) (dI : Nat → Nat → Nat) (h0 : Nat) (p0 : Int32) (p1 : Int32) (qo : Nat) (op : Int32) (lp : Int32) (fa : Int32) (jp : Nat) (pb : Nat) (pn : Nat) (ps : Int32) (kpb : ClassId) (fpb : Nat → Int32) (kpn : ClassId) (fpn : Nat → Int32) (sz : Nat) (h1 : 0 ≤ p0.toInt) (h2 : p0.toInt < 80) (h3 : 0 ≤ p1.toInt) (h4 : p1.toInt ≤ 80) (hb0 : ∀ k : Nat, 0 ≤ (fpn k).toInt ∧ (fpn k).toInt ≤ 80) : Met l yX4_ends wsX4_ends ({ frames := 0, cells := 0, slots := 0, locals := 0 }) (va_Pc [.ref h0, .int p0, .int p1] (fun U => U.heap.size = sz ∧ va_P (dC, dI) vwCl [eO h0 3 [.ref qo, .int op, .int lp, .int fa, .ref jp], eO jp 2 [.ref pb, .ref pn, .int ps], eI pb kpb 80 fpb, eI pn kpn 80 fpn] U.heap ∧ va_K (dC, dI) vwCl [(kpb, .int), (kpn, .int)] U ∧ va_D (fun _ => True) [eO h0 3 [.ref qo, .int op, .int lp, .int fa, .ref jp], eO jp 2 [.ref pb, .ref pn, .int ps], eI pb kpb 80 fpb, eI pn kpn 80 fpn])) (va_Qi (fun (r : Int32) (_ : Unit) => r = p1) (fun (_ : Unit) (t : State) => ∃ (fpn' : Nat → Int32), (∀ k : Nat, 0 ≤ (fpn' k).toInt ∧ (fpn' k).toInt ≤ 80) ∧ va_P (dC, dI) vwCl [eO h0 3 [.ref qo, .int op, .int lp, .int fa, .ref jp], eO jp 2 [.ref pb, .ref pn, .int ps], eI pb kpb 80 fpb, eI pn kpn 80 (fpn')] t.heap ∧ va_K (dC, dI) vwCl [(kpb, .int), (kpn, .int)] t ∧ va_D (va_A [eO h0 3 [.ref qo, .int op, .int lp, .int fa, .ref jp], eO jp 2 [.ref pb, .ref pn, .int ps], eI pb kpb 80 fpb, eI pn kpn 80 fpn] sz) [eO h0 3 [.ref qo, .int op, .int lp, .int fa, .ref jp], eO jp 2 [.ref pb, .ref pn, .int ps], eI pb kpb 80 fpb, eI pn kpn 80 (fpn')]) (va_A [eO h0 3 [.ref qo, .int op, .int lp, .int fa, .ref jp], eO jp 2 [.ref pb, .ref pn, .int ps], eI pb kpb 80 fpb, eI pn kpn 80 fpn] sz)) 0 0 (va_A [eO h0 3 [.ref qo, .int op, .int lp, .int fa, .ref jp], eO jp 2 [.ref pb, .ref pn, .int ps], eI pb kpb 80 fpb, eI pn kpn 80 fpn] sz) := by
  refine Met.ofW (cc := cX4_ends) (maxL := 3) (ret := (some .int)) (by decide) rfl ?_
  intro p e s m args below meth c s₁ B hml hv
  obtain ⟨rfl, hsz, hP, hK, hD0⟩ := hv
  have hx := B.exec
  have hb := B.bytes
  have hr := B.returns
  have hts := atoms_spec (ws := wsX4_ends) B.pre
  have hown : s.vm.findClass RX4 = some m.cls := findClass_of_methodNamed B.named
  have hlocks := B.notSynchronized
  subst hsz
  have hD := hD0.self (sz := s.heap.size)
  generalize hAe : va_A [eO h0 3 [.ref qo, .int op, .int lp, .int fa, .ref jp], eO jp 2 [.ref pb, .ref pn, .int ps], eI pb kpb 80 fpb, eI pn kpn 80 fpn] s.heap.size = A at hD ⊢
  have hA : ∀ q : Nat, s.heap.size ≤ q → A q := fun q h => by rw [← hAe]; exact Or.inr h
  have hS : va_S A s.heap s.heap [] := va_S.rf
  have hP : va_P (dC, dI) vwCl [eO h0 3 [.ref qo, .int op, .int lp, .int fa, .ref jp], eO jp 2 [.ref pb, .ref pn, .int ps], eI pb kpb 80 fpb, eI pn kpn 80 fpn] s.heap := hP
  have hl := lv_entry ([.ref h0, .int p0, .int p1]) (n := 3) (Nat.le_of_ble_eq_true rfl)
  rw [lg_entry_eq]
  generalize (lg_sl ([.ref h0, .int p0, .int p1]) ++ List.replicate (3 - (lg_sl ([.ref h0, .int p0, .int p1])).length) Slot.unset).toArray = ls at hl ⊢
  have hl : lv_has ls 3 [(0, .ref h0), (1, .int p0), (2, .int p1)] := hl
  suffices key9 : ∀ Q9 : State → Prop, Q9 = (MQ below (va_Qi (fun (r : Int32) (_ : Unit) => r = p1) (fun (_ : Unit) (t : State) => ∃ (fpn' : Nat → Int32), (∀ k : Nat, 0 ≤ (fpn' k).toInt ∧ (fpn' k).toInt ≤ 80) ∧ va_P (dC, dI) vwCl [eO h0 3 [.ref qo, .int op, .int lp, .int fa, .ref jp], eO jp 2 [.ref pb, .ref pn, .int ps], eI pb kpb 80 fpb, eI pn kpn 80 (fpn')] t.heap ∧ va_K (dC, dI) vwCl [(kpb, .int), (kpn, .int)] t ∧ va_D A [eO h0 3 [.ref qo, .int op, .int lp, .int fa, .ref jp], eO jp 2 [.ref pb, .ref pn, .int ps], eI pb kpb 80 fpb, eI pn kpn 80 (fpn')]) A) (([.ref h0, .int p0, .int p1] : List Value).toArray) s 0 0 A) → W p l e ({ frames := 0, cells := 0, slots := 0, locals := 0 }) s m (([.ref h0, .int p0, .int p1] : List Value).toArray) below meth c s.heap [] 0 0 Q9 (F0 m 0 ls []) from key9 _ rfl
  intro Q9 hQ9
  refine lv_aload_n hx hb dX4_ends_0 rfl (lv_at hl 0 rfl) ?_
  refine va_get (D := (dC, dI)) (ci := 3) (v := .ref jp) (C := RX4) (T := TX4) (N := 5) hx hb hts (fun w h => List.mem_cons_of_mem _ (inlX4 w h)) hown hK hP 0 rfl rfl 4 (by decide) (hts (.fieldLink RX4 15 "ClearingGates$Reader" "program" "LClearingGates$Program;") (List.mem_cons_of_mem _ mw_177)) (fun _ h9 => h9) rfl dX4_ends_1 ?_
  refine va_get (D := (dC, dI)) (ci := 2) (v := .ref pn) (C := RX3) (T := TX3) (N := 3) hx hb hts (fun w h => List.mem_cons_of_mem _ (inlX3 w h)) hown hK hP 1 rfl rfl 1 (by decide) (hts (.fieldLink RX4 68 "ClearingGates$Program" "behind" "[I") (List.mem_cons_of_mem _ mw_154)) (fun _ h9 => h9) rfl dX4_ends_4 ?_
  refine lv_iload_n hx hb dX4_ends_7 rfl (lv_at hl 1 rfl) ?_
  refine lv_iload_n hx hb dX4_ends_8 rfl (lv_at hl 2 rfl) ?_
  refine va_iast (D := (dC, dI)) hx hb hK hP hD hS 3 1 rfl rfl (vp_in_iff.mpr ⟨by omega, by omega⟩) dX4_ends_9 (fun H locs hP hD hS => ?_)
  generalize e_g1 : (upd fpn (p0).toNatClampNeg p1) = g1 at hP hD
  obtain ⟨hP, hD⟩ := X_s (ws' := [eO h0 3 [.ref qo, .int op, .int lp, .int fa, .ref jp], eO jp 2 [.ref pb, .ref pn, .int ps], eI pb kpb 80 fpb, eI pn kpn 80 g1]) hP hD rfl
  refine lv_iload_n hx hb dX4_ends_10 rfl (lv_at hl 2 rfl) ?_
  rw [hQ9]
  exact W.iret (v := p1) hx hb hr (fun t ht hW => ⟨⟨p1, (), rfl, rfl, g1, (by rw [← e_g1]; exact up_all ⟨by omega, by omega⟩ hb0), by rw [ht]; exact hP, va_K.moved hW.alike hK, hD⟩, hS.F ht⟩) hS.2.2 dX4_ends_11
