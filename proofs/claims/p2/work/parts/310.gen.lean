set_option maxRecDepth 100000 in
set_option maxHeartbeats 4000000 in
/-- Reader.opening -/
theorem c_X4_opening (l : Launch) (dC : Nat → ClassId) (dI : Nat → Nat → Nat) (h0 : Nat) (p0 : Int32) (qo : Nat) (op : Int32) (lp : Int32) (fa : Int32) (jp : Nat) (ko : ClassId) (fo : Nat → Int32) (pb : Nat) (pn : Nat) (ps : Int32) (kpb : ClassId) (fpb : Nat → Int32) (kpn : ClassId) (fpn : Nat → Int32) (sz : Nat) (hp1 : 0 ≤ ps.toInt) (hp2 : ps.toInt ≤ 80) (h1 : 0 ≤ p0.toInt) (h2 : p0.toInt < ps.toInt) (ho1 : 0 ≤ op.toInt) (ho2 : op.toInt ≤ 8) (ho3 : ∀ k : Nat, (k : Int) < op.toInt → 0 ≤ (fo k).toInt ∧ (fo k).toInt < 80) : Met l yX4_opening wsX4_opening ({ frames := 1, cells := 0, slots := 0, locals := 21 }) (va_Pc [.ref h0, .int p0] (fun U => U.heap.size = sz ∧ va_P (dC, dI) vwCl [eO h0 3 [.ref qo, .int op, .int lp, .int fa, .ref jp], eI qo ko 8 fo, eO jp 2 [.ref pb, .ref pn, .int ps], eI pb kpb 80 fpb, eI pn kpn 80 fpn] U.heap ∧ va_K (dC, dI) vwCl [(ko, .int), (kpb, .int), (kpn, .int)] U ∧ va_D (fun _ => True) [eO h0 3 [.ref qo, .int op, .int lp, .int fa, .ref jp], eI qo ko 8 fo, eO jp 2 [.ref pb, .ref pn, .int ps], eI pb kpb 80 fpb, eI pn kpn 80 fpn])) (va_Qi (fun (r : Int32) (_ : Unit) => r.toInt = p0.toInt + 1) (fun (_ : Unit) (t : State) => ∃ (fo' : Nat → Int32), ∃ (op' : Int32), ∃ (lp' : Int32), ∃ (fa' : Int32), (0 ≤ op'.toInt) ∧ (op'.toInt ≤ 8) ∧ (∀ k : Nat, (k : Int) < op'.toInt → 0 ≤ (fo' k).toInt ∧ (fo' k).toInt < 80) ∧ va_P (dC, dI) vwCl [eO h0 3 [.ref qo, .int op', .int lp', .int fa', .ref jp], eI qo ko 8 (fo'), eO jp 2 [.ref pb, .ref pn, .int ps], eI pb kpb 80 fpb, eI pn kpn 80 fpn] t.heap ∧ va_K (dC, dI) vwCl [(ko, .int), (kpb, .int), (kpn, .int)] t ∧ va_D (va_A [eO h0 3 [.ref qo, .int op, .int lp, .int fa, .ref jp], eI qo ko 8 fo, eO jp 2 [.ref pb, .ref pn, .int ps], eI pb kpb 80 fpb, eI pn kpn 80 fpn] sz) [eO h0 3 [.ref qo, .int op', .int lp', .int fa', .ref jp], eI qo ko 8 (fo'), eO jp 2 [.ref pb, .ref pn, .int ps], eI pb kpb 80 fpb, eI pn kpn 80 fpn]) (va_A [eO h0 3 [.ref qo, .int op, .int lp, .int fa, .ref jp], eI qo ko 8 fo, eO jp 2 [.ref pb, .ref pn, .int ps], eI pb kpb 80 fpb, eI pn kpn 80 fpn] sz)) 0 0 (va_A [eO h0 3 [.ref qo, .int op, .int lp, .int fa, .ref jp], eI qo ko 8 fo, eO jp 2 [.ref pb, .ref pn, .int ps], eI pb kpb 80 fpb, eI pn kpn 80 fpn] sz) := by
  refine Met.ofW (cc := cX4_opening) (maxL := 2) (ret := (some .int)) (by decide) rfl ?_
  intro p e s m args below meth c s₁ B hml hv
  obtain ⟨rfl, hsz, hP, hK, hD0⟩ := hv
  have hx := B.exec
  have hb := B.bytes
  have hr := B.returns
  have hts := atoms_spec (ws := wsX4_opening) B.pre
  have hown : s.vm.findClass RX4 = some m.cls := findClass_of_methodNamed B.named
  have hlocks := B.notSynchronized
  subst hsz
  have hD := hD0.self (sz := s.heap.size)
  generalize hAe : va_A [eO h0 3 [.ref qo, .int op, .int lp, .int fa, .ref jp], eI qo ko 8 fo, eO jp 2 [.ref pb, .ref pn, .int ps], eI pb kpb 80 fpb, eI pn kpn 80 fpn] s.heap.size = A at hD ⊢
  have hA : ∀ q : Nat, s.heap.size ≤ q → A q := fun q h => by rw [← hAe]; exact Or.inr h
  have hS : va_S A s.heap s.heap [] := va_S.rf
  have hP : va_P (dC, dI) vwCl [eO h0 3 [.ref qo, .int op, .int lp, .int fa, .ref jp], eI qo ko 8 fo, eO jp 2 [.ref pb, .ref pn, .int ps], eI pb kpb 80 fpb, eI pn kpn 80 fpn] s.heap := hP
  have hl := lv_entry ([.ref h0, .int p0]) (n := 2) (Nat.le_of_ble_eq_true rfl)
  rw [lg_entry_eq]
  generalize (lg_sl ([.ref h0, .int p0]) ++ List.replicate (2 - (lg_sl ([.ref h0, .int p0])).length) Slot.unset).toArray = ls at hl ⊢
  have hl : lv_has ls 2 [(0, .ref h0), (1, .int p0)] := hl
  suffices key9 : ∀ Q9 : State → Prop, Q9 = (MQ below (va_Qi (fun (r : Int32) (_ : Unit) => r.toInt = p0.toInt + 1) (fun (_ : Unit) (t : State) => ∃ (fo' : Nat → Int32), ∃ (op' : Int32), ∃ (lp' : Int32), ∃ (fa' : Int32), (0 ≤ op'.toInt) ∧ (op'.toInt ≤ 8) ∧ (∀ k : Nat, (k : Int) < op'.toInt → 0 ≤ (fo' k).toInt ∧ (fo' k).toInt < 80) ∧ va_P (dC, dI) vwCl [eO h0 3 [.ref qo, .int op', .int lp', .int fa', .ref jp], eI qo ko 8 (fo'), eO jp 2 [.ref pb, .ref pn, .int ps], eI pb kpb 80 fpb, eI pn kpn 80 fpn] t.heap ∧ va_K (dC, dI) vwCl [(ko, .int), (kpb, .int), (kpn, .int)] t ∧ va_D A [eO h0 3 [.ref qo, .int op', .int lp', .int fa', .ref jp], eI qo ko 8 (fo'), eO jp 2 [.ref pb, .ref pn, .int ps], eI pb kpb 80 fpb, eI pn kpn 80 fpn]) A) (([.ref h0, .int p0] : List Value).toArray) s 0 0 A) → W p l e ({ frames := 1, cells := 0, slots := 0, locals := 21 }) s m (([.ref h0, .int p0] : List Value).toArray) below meth c s.heap [] 0 0 Q9 (F0 m 0 ls []) from key9 _ rfl
  intro Q9 hQ9
  have k_1 : (1 : Int32).toInt = 1 := by decide
  have k_8 : (8 : Int32).toInt = 8 := by decide
  have k_123 : (123 : Int32).toInt = 123 := by decide
  refine lv_aload_n hx hb dX4_opening_0 rfl (lv_at hl 0 rfl) ?_
  refine va_get (D := (dC, dI)) (ci := 3) (v := .int op) (C := RX4) (T := TX4) (N := 5) hx hb hts (fun w h => List.mem_cons_of_mem _ (inlX4 w h)) hown hK hP 0 rfl rfl 1 (by decide) (hts (.fieldLink RX4 19 "ClearingGates$Reader" "open" "I") (List.mem_cons_of_mem _ mw_174)) (fun _ h9 => h9) rfl dX4_opening_1 ?_
  refine lv_bipush (v := 8) hx hb dX4_opening_4 (by decide) ?_
  refine lv_icmp_lt (tgt := 15) hx hb dX4_opening_6 (by decide) (fun c1 => ?_) (fun c1 => ?_)
  · skip
    have f_c1 := i_lt c1
    refine lv_aload_n hx hb dX4_opening_15 rfl (lv_at hl 0 rfl) ?_
    refine va_get (D := (dC, dI)) (ci := 3) (v := .ref qo) (C := RX4) (T := TX4) (N := 5) hx hb hts (fun w h => List.mem_cons_of_mem _ (inlX4 w h)) hown hK hP 0 rfl rfl 0 (by decide) (hts (.fieldLink RX4 9 "ClearingGates$Reader" "opened" "[I") (List.mem_cons_of_mem _ mw_173)) (fun _ h9 => h9) rfl dX4_opening_16 ?_
    refine lv_aload_n hx hb dX4_opening_19 rfl (lv_at hl 0 rfl) ?_
    refine va_get (D := (dC, dI)) (ci := 3) (v := .int op) (C := RX4) (T := TX4) (N := 5) hx hb hts (fun w h => List.mem_cons_of_mem _ (inlX4 w h)) hown hK hP 0 rfl rfl 1 (by decide) (hts (.fieldLink RX4 19 "ClearingGates$Reader" "open" "I") (List.mem_cons_of_mem _ mw_174)) (fun _ h9 => h9) rfl dX4_opening_20 ?_
    refine lv_iload_n hx hb dX4_opening_23 rfl (lv_at hl 1 rfl) ?_
    refine va_iast (D := (dC, dI)) hx hb hK hP hD hS 1 0 rfl rfl (vp_in_iff.mpr ⟨by omega, by omega⟩) dX4_opening_24 (fun H locs hP hD hS => ?_)
    generalize e_g2 : (upd fo (op).toNatClampNeg p0) = g2 at hP hD
    obtain ⟨hP, hD⟩ := X_s (ws' := [eO h0 3 [.ref qo, .int op, .int lp, .int fa, .ref jp], eI qo ko 8 g2, eO jp 2 [.ref pb, .ref pn, .int ps], eI pb kpb 80 fpb, eI pn kpn 80 fpn]) hP hD rfl
    refine lv_aload_n hx hb dX4_opening_25 rfl (lv_at hl 0 rfl) ?_
    refine lv_dup hx hb dX4_opening_26 rfl ?_
    refine va_get (D := (dC, dI)) (ci := 3) (v := .int op) (C := RX4) (T := TX4) (N := 5) hx hb hts (fun w h => List.mem_cons_of_mem _ (inlX4 w h)) hown hK hP 0 rfl rfl 1 (by decide) (hts (.fieldLink RX4 19 "ClearingGates$Reader" "open" "I") (List.mem_cons_of_mem _ mw_174)) (fun _ h9 => h9) rfl dX4_opening_27 ?_
    refine lv_iconst (v := 1) hx hb dX4_opening_30 (by decide) ?_
    refine lv_iadd hx hb dX4_opening_31 ?_
    refine lv_topi (fun z3 e_z3 => ?_)
    have t_z3 := i_add e_z3 (by omega) (by omega)
    refine va_put (D := (dC, dI)) (ci := 3) (v := .int z3) (ty := .int) (C := RX4) (T := TX4) (N := 5) hx hb hts (fun w h => List.mem_cons_of_mem _ (inlX4 w h)) tyX4 tyX4_ok nmX4 hown hK hP hD hS 0 rfl rfl 1 (by decide) (hts (.fieldLink RX4 19 "ClearingGates$Reader" "open" "I") (List.mem_cons_of_mem _ mw_174)) (fun _ h9 => h9) rfl (by decide +kernel) rfl rfl (Nat.le_of_ble_eq_true rfl) dX4_opening_32 (fun H locs hP hD hS => ?_)
    obtain ⟨hP, hD⟩ := X_s (ws' := [eO h0 3 [.ref qo, .int z3, .int lp, .int fa, .ref jp], eI qo ko 8 g2, eO jp 2 [.ref pb, .ref pn, .int ps], eI pb kpb 80 fpb, eI pn kpn 80 fpn]) hP hD rfl
    refine lv_aload_n hx hb dX4_opening_35 rfl (lv_at hl 0 rfl) ?_
    refine va_get (D := (dC, dI)) (ci := 3) (v := .ref jp) (C := RX4) (T := TX4) (N := 5) hx hb hts (fun w h => List.mem_cons_of_mem _ (inlX4 w h)) hown hK hP 0 rfl rfl 4 (by decide) (hts (.fieldLink RX4 15 "ClearingGates$Reader" "program" "LClearingGates$Program;") (List.mem_cons_of_mem _ mw_177)) (fun _ h9 => h9) rfl dX4_opening_36 ?_
    refine lv_iload_n hx hb dX4_opening_39 rfl (lv_at hl 1 rfl) ?_
    obtain ⟨hPc, hDc, hFc, hCm, hNw⟩ := C_s (wc := [eO jp 2 [.ref pb, .ref pn, .int ps], eI pb kpb 80 fpb]) hP hD hS hA [(2, 2)] 5 rfl (by decide +kernel) rfl
    have hKc := K_s (tys' := [(kpb, .int)]) hK [(1, 1)] rfl
    refine va_calli (va_runV (As := [.int p0]) (rest := []) ⟨hx, hb, hml, hown, hts⟩ (c_X3_byteAt l dC dI jp p0 pb pn ps kpb fpb H.size hp1 hp2) (cwV 1 hts gX4_opening_X3_byteAt rfl rfl rfl (by decide +kernel) ⟨Nat.le_of_ble_eq_true rfl, Nat.le_of_ble_eq_true rfl⟩) ⟨fun a U g mk q => by obtain ⟨q0, q1, qP, qK, qD⟩ := q; exact ⟨q0, q1, qP, va_K.moved (u := U) (U := U.calling g mk a) (Vm.Alike.refl U.vm) qK, qD⟩, va_recv (s := s) (q := (RX3, TX3, 3)) hKc hPc (ci := 2) (q0 := 0) rfl rfl, fun U hU hW => ⟨rfl, by rw [hU], by rw [hU]; exact hPc, va_K.moved hW.alike hKc, hDc.weaken (fun _ _ _ _ => trivial)⟩⟩ rfl rfl hl.1 rfl (lv_room (Nat.le_of_ble_eq_true rfl)) dX4_opening_40 ⟨Nat.le_of_ble_eq_true rfl, Nat.le_of_ble_eq_true rfl⟩) hS (fun q _ h => hFc q h) hFc (fun r4 u t H1 locs ht hvm hw hB hz1 hk1 hS => ?_)
    obtain ⟨hP1, hK1, hD1⟩ := hB
    rw [ht] at hP1
    have hK1 := va_K.moved hvm.symm hK1
    try dsimp only at hw
    obtain ⟨hP, hD⟩ := J_s (wL := [eO h0 3 [.ref qo, .int z3, .int lp, .int fa, .ref jp], eI qo ko 8 g2, eI pn kpn 80 fpn, eO jp 2 [.ref pb, .ref pn, .int ps], eI pb kpb 80 fpb]) hP hD [(2, 2)] [(0, 2), (4, 1)] hCm hNw (by decide +kernel) hk1 hFc hP1 hD1 rfl
    have hK := KJ_s (tys' := [(ko, .int), (kpn, .int), (kpb, .int)]) hK hK1 [(0, 1), (2, 1)] rfl
    generalize H1 = H at hP hS ⊢
    have h_r4 := hw
    refine lv_bipush (v := 123) hx hb dX4_opening_43 (by decide) ?_
    refine lv_icmp_ne (tgt := 58) hx hb dX4_opening_45 (by decide) (fun c5 => ?_) (fun c5 => ?_)
    · skip
      have f_c5 := i_ne c5
      refine lv_iload_n hx hb dX4_opening_58 rfl (lv_at hl 1 rfl) ?_
      refine lv_iconst (v := 1) hx hb dX4_opening_59 (by decide) ?_
      refine lv_iadd hx hb dX4_opening_60 ?_
      refine lv_topi (fun z6 e_z6 => ?_)
      have t_z6 := i_add e_z6 (by omega) (by omega)
      rw [hQ9]
      exact W.iret (v := z6) hx hb hr (fun t ht hW => ⟨⟨z6, (), rfl, (by omega), g2, z3, lp, fa, (by first | assumption | omega), (by first | assumption | omega), (by rw [← e_g2]; exact up_push (by omega) (by omega) ⟨by omega, by omega⟩ ho3), by rw [ht]; exact P_s hP [(0, 2), (3, 2), (2, 1)] rfl, va_K.moved hW.alike (K_s hK [(0, 1), (2, 1), (1, 1)] rfl), D_s hD [(0, 2), (3, 2), (2, 1)] 5 rfl (by decide +kernel) rfl⟩, hS.F ht⟩) hS.2.2 dX4_opening_61
    · skip
      have f_c5 := i_eq c5
      refine lv_aload_n hx hb dX4_opening_48 rfl (lv_at hl 0 rfl) ?_
      refine lv_dup hx hb dX4_opening_49 rfl ?_
      refine va_get (D := (dC, dI)) (ci := 3) (v := .int lp) (C := RX4) (T := TX4) (N := 5) hx hb hts (fun w h => List.mem_cons_of_mem _ (inlX4 w h)) hown hK hP 0 rfl rfl 2 (by decide) (hts (.fieldLink RX4 23 "ClearingGates$Reader" "loops" "I") (List.mem_cons_of_mem _ mw_175)) (fun _ h9 => h9) rfl dX4_opening_50 ?_
      refine lv_iconst (v := 1) hx hb dX4_opening_53 (by decide) ?_
      refine lv_iadd hx hb dX4_opening_54 ?_
      refine lv_topi (fun z7 e_z7 => ?_)
      refine va_put (D := (dC, dI)) (ci := 3) (v := .int z7) (ty := .int) (C := RX4) (T := TX4) (N := 5) hx hb hts (fun w h => List.mem_cons_of_mem _ (inlX4 w h)) tyX4 tyX4_ok nmX4 hown hK hP hD hS 0 rfl rfl 2 (by decide) (hts (.fieldLink RX4 23 "ClearingGates$Reader" "loops" "I") (List.mem_cons_of_mem _ mw_175)) (fun _ h9 => h9) rfl (by decide +kernel) rfl rfl (Nat.le_of_ble_eq_true rfl) dX4_opening_55 (fun H locs hP hD hS => ?_)
      obtain ⟨hP, hD⟩ := X_s (ws' := [eO h0 3 [.ref qo, .int z3, .int z7, .int fa, .ref jp], eI qo ko 8 g2, eI pn kpn 80 fpn, eO jp 2 [.ref pb, .ref pn, .int ps], eI pb kpb 80 fpb]) hP hD rfl
      refine lv_iload_n hx hb dX4_opening_58 rfl (lv_at hl 1 rfl) ?_
      refine lv_iconst (v := 1) hx hb dX4_opening_59 (by decide) ?_
      refine lv_iadd hx hb dX4_opening_60 ?_
      refine lv_topi (fun z8 e_z8 => ?_)
      have t_z8 := i_add e_z8 (by omega) (by omega)
      rw [hQ9]
      exact W.iret (v := z8) hx hb hr (fun t ht hW => ⟨⟨z8, (), rfl, (by omega), g2, z3, z7, fa, (by first | assumption | omega), (by first | assumption | omega), (by rw [← e_g2]; exact up_push (by omega) (by omega) ⟨by omega, by omega⟩ ho3), by rw [ht]; exact P_s hP [(0, 2), (3, 2), (2, 1)] rfl, va_K.moved hW.alike (K_s hK [(0, 1), (2, 1), (1, 1)] rfl), D_s hD [(0, 2), (3, 2), (2, 1)] 5 rfl (by decide +kernel) rfl⟩, hS.F ht⟩) hS.2.2 dX4_opening_61
  · skip
    have f_c1 := i_nlt c1
    refine lv_aload_n hx hb dX4_opening_9 rfl (lv_at hl 0 rfl) ?_
    refine lv_iload_n hx hb dX4_opening_10 rfl (lv_at hl 1 rfl) ?_
    obtain ⟨hPc, hDc, hFc, hCm, hNw⟩ := C_s (wc := [eO h0 3 [.ref qo, .int op, .int lp, .int fa, .ref jp]]) hP hD hS hA [(0, 1)] 5 rfl (by decide +kernel) rfl
    have hKc := K_s (tys' := []) hK [] rfl
    refine va_calli (va_runV (As := [.int p0]) (rest := []) ⟨hx, hb, hml, hown, hts⟩ (c_X4_faultAt l dC dI h0 p0 qo op lp fa jp s.heap.size h1 (by first | assumption | omega)) (cwV 1 hts gX4_opening_X4_faultAt rfl rfl rfl (by decide +kernel) ⟨Nat.le_of_ble_eq_true rfl, Nat.le_of_ble_eq_true rfl⟩) ⟨fun a U g mk q => by obtain ⟨q0, q1, qP, qK, qD⟩ := q; exact ⟨q0, q1, qP, va_K.moved (u := U) (U := U.calling g mk a) (Vm.Alike.refl U.vm) qK, qD⟩, va_recv (s := s) (q := (RX4, TX4, 5)) hKc hPc (ci := 3) (q0 := 0) rfl rfl, fun U hU hW => ⟨rfl, by rw [hU], by rw [hU]; exact hPc, va_K.moved hW.alike hKc, hDc.weaken (fun _ _ _ _ => trivial)⟩⟩ rfl rfl hl.1 rfl (lv_room (Nat.le_of_ble_eq_true rfl)) dX4_opening_11 ⟨Nat.le_of_ble_eq_true rfl, Nat.le_of_ble_eq_true rfl⟩) hS (fun q _ h => hFc q h) hFc (fun r9 u t H1 locs ht hvm hw hB hz1 hk1 hS => ?_)
    obtain ⟨hP1, hK1, hD1⟩ := hB
    rw [ht] at hP1
    have hK1 := va_K.moved hvm.symm hK1
    try dsimp only at hw
    obtain ⟨hP, hD⟩ := J_s (wL := [eI qo ko 8 fo, eO jp 2 [.ref pb, .ref pn, .int ps], eI pb kpb 80 fpb, eI pn kpn 80 fpn, eO h0 3 [.ref qo, .int op, .int lp, .int p0, .ref jp]]) hP hD [(0, 1)] [(1, 4)] hCm hNw (by decide +kernel) hk1 hFc hP1 hD1 rfl
    have hK := KJ_s (tys' := [(ko, .int), (kpb, .int), (kpn, .int)]) hK hK1 [(0, 3)] rfl
    generalize H1 = H at hP hS ⊢
    have h_r9 := hw
    rw [hQ9]
    exact W.iret (v := r9) hx hb hr (fun t ht hW => ⟨⟨r9, (), rfl, (by omega), fo, op, lp, p0, (by first | assumption | omega), (by first | assumption | omega), ho3, by rw [ht]; exact P_s hP [(4, 1), (0, 4)] rfl, va_K.moved hW.alike hK, D_s hD [(4, 1), (0, 4)] 5 rfl (by decide +kernel) rfl⟩, hS.F ht⟩) hS.2.2 dX4_opening_14

set_option maxRecDepth 100000 in
set_option maxHeartbeats 4000000 in
/-- Reader.closing -/
theorem c_X4_closing (l : Launch) (dC : Nat → ClassId) (dI : Nat → Nat → Nat) (h0 : Nat) (p0 : Int32) (p1 : Int32) (qo : Nat) (op : Int32) (lp : Int32) (fa : Int32) (jp : Nat) (ko : ClassId) (fo : Nat → Int32) (pb : Nat) (pn : Nat) (ps : Int32) (kpb : ClassId) (fpb : Nat → Int32) (kpn : ClassId) (fpn : Nat → Int32) (sz : Nat) (hp1 : 0 ≤ ps.toInt) (hp2 : ps.toInt ≤ 80) (h1 : 0 ≤ p0.toInt) (h2 : p0.toInt < ps.toInt) (ho1 : 0 ≤ op.toInt) (ho2 : op.toInt ≤ 8) (ho3 : ∀ k : Nat, (k : Int) < op.toInt → 0 ≤ (fo k).toInt ∧ (fo k).toInt < 80) (hb0 : ∀ k : Nat, 0 ≤ (fpn k).toInt ∧ (fpn k).toInt ≤ 80) : Met l yX4_closing wsX4_closing ({ frames := 1, cells := 0, slots := 0, locals := 22 }) (va_Pc [.ref h0, .int p0, .int p1] (fun U => U.heap.size = sz ∧ va_P (dC, dI) vwCl [eO h0 3 [.ref qo, .int op, .int lp, .int fa, .ref jp], eI qo ko 8 fo, eO jp 2 [.ref pb, .ref pn, .int ps], eI pb kpb 80 fpb, eI pn kpn 80 fpn] U.heap ∧ va_K (dC, dI) vwCl [(ko, .int), (kpb, .int), (kpn, .int)] U ∧ va_D (fun _ => True) [eO h0 3 [.ref qo, .int op, .int lp, .int fa, .ref jp], eI qo ko 8 fo, eO jp 2 [.ref pb, .ref pn, .int ps], eI pb kpb 80 fpb, eI pn kpn 80 fpn])) (va_Qi (fun (r : Int32) (_ : Unit) => 0 ≤ r.toInt ∧ r.toInt ≤ 90) (fun (_ : Unit) (t : State) => ∃ (op' : Int32), ∃ (lp' : Int32), ∃ (fa' : Int32), ∃ (fpn' : Nat → Int32), (0 ≤ op'.toInt) ∧ (op'.toInt ≤ 8) ∧ (∀ k : Nat, (k : Int) < op'.toInt → 0 ≤ (fo k).toInt ∧ (fo k).toInt < 80) ∧ (∀ k : Nat, 0 ≤ (fpn' k).toInt ∧ (fpn' k).toInt ≤ 80) ∧ va_P (dC, dI) vwCl [eO h0 3 [.ref qo, .int op', .int lp', .int fa', .ref jp], eI qo ko 8 fo, eO jp 2 [.ref pb, .ref pn, .int ps], eI pb kpb 80 fpb, eI pn kpn 80 (fpn')] t.heap ∧ va_K (dC, dI) vwCl [(ko, .int), (kpb, .int), (kpn, .int)] t ∧ va_D (va_A [eO h0 3 [.ref qo, .int op, .int lp, .int fa, .ref jp], eI qo ko 8 fo, eO jp 2 [.ref pb, .ref pn, .int ps], eI pb kpb 80 fpb, eI pn kpn 80 fpn] sz) [eO h0 3 [.ref qo, .int op', .int lp', .int fa', .ref jp], eI qo ko 8 fo, eO jp 2 [.ref pb, .ref pn, .int ps], eI pb kpb 80 fpb, eI pn kpn 80 (fpn')]) (va_A [eO h0 3 [.ref qo, .int op, .int lp, .int fa, .ref jp], eI qo ko 8 fo, eO jp 2 [.ref pb, .ref pn, .int ps], eI pb kpb 80 fpb, eI pn kpn 80 fpn] sz)) 0 0 (va_A [eO h0 3 [.ref qo, .int op, .int lp, .int fa, .ref jp], eI qo ko 8 fo, eO jp 2 [.ref pb, .ref pn, .int ps], eI pb kpb 80 fpb, eI pn kpn 80 fpn] sz) := by
  refine Met.ofW (cc := cX4_closing) (maxL := 3) (ret := (some .int)) (by decide) rfl ?_
  intro p e s m args below meth c s₁ B hml hv
  obtain ⟨rfl, hsz, hP, hK, hD0⟩ := hv
  have hx := B.exec
  have hb := B.bytes
  have hr := B.returns
  have hts := atoms_spec (ws := wsX4_closing) B.pre
  have hown : s.vm.findClass RX4 = some m.cls := findClass_of_methodNamed B.named
  have hlocks := B.notSynchronized
  subst hsz
  have hD := hD0.self (sz := s.heap.size)
  generalize hAe : va_A [eO h0 3 [.ref qo, .int op, .int lp, .int fa, .ref jp], eI qo ko 8 fo, eO jp 2 [.ref pb, .ref pn, .int ps], eI pb kpb 80 fpb, eI pn kpn 80 fpn] s.heap.size = A at hD ⊢
  have hA : ∀ q : Nat, s.heap.size ≤ q → A q := fun q h => by rw [← hAe]; exact Or.inr h
  have hS : va_S A s.heap s.heap [] := va_S.rf
  have hP : va_P (dC, dI) vwCl [eO h0 3 [.ref qo, .int op, .int lp, .int fa, .ref jp], eI qo ko 8 fo, eO jp 2 [.ref pb, .ref pn, .int ps], eI pb kpb 80 fpb, eI pn kpn 80 fpn] s.heap := hP
  have hl := lv_entry ([.ref h0, .int p0, .int p1]) (n := 3) (Nat.le_of_ble_eq_true rfl)
  rw [lg_entry_eq]
  generalize (lg_sl ([.ref h0, .int p0, .int p1]) ++ List.replicate (3 - (lg_sl ([.ref h0, .int p0, .int p1])).length) Slot.unset).toArray = ls at hl ⊢
  have hl : lv_has ls 3 [(0, .ref h0), (1, .int p0), (2, .int p1)] := hl
  suffices key9 : ∀ Q9 : State → Prop, Q9 = (MQ below (va_Qi (fun (r : Int32) (_ : Unit) => 0 ≤ r.toInt ∧ r.toInt ≤ 90) (fun (_ : Unit) (t : State) => ∃ (op' : Int32), ∃ (lp' : Int32), ∃ (fa' : Int32), ∃ (fpn' : Nat → Int32), (0 ≤ op'.toInt) ∧ (op'.toInt ≤ 8) ∧ (∀ k : Nat, (k : Int) < op'.toInt → 0 ≤ (fo k).toInt ∧ (fo k).toInt < 80) ∧ (∀ k : Nat, 0 ≤ (fpn' k).toInt ∧ (fpn' k).toInt ≤ 80) ∧ va_P (dC, dI) vwCl [eO h0 3 [.ref qo, .int op', .int lp', .int fa', .ref jp], eI qo ko 8 fo, eO jp 2 [.ref pb, .ref pn, .int ps], eI pb kpb 80 fpb, eI pn kpn 80 (fpn')] t.heap ∧ va_K (dC, dI) vwCl [(ko, .int), (kpb, .int), (kpn, .int)] t ∧ va_D A [eO h0 3 [.ref qo, .int op', .int lp', .int fa', .ref jp], eI qo ko 8 fo, eO jp 2 [.ref pb, .ref pn, .int ps], eI pb kpb 80 fpb, eI pn kpn 80 (fpn')]) A) (([.ref h0, .int p0, .int p1] : List Value).toArray) s 0 0 A) → W p l e ({ frames := 1, cells := 0, slots := 0, locals := 22 }) s m (([.ref h0, .int p0, .int p1] : List Value).toArray) below meth c s.heap [] 0 0 Q9 (F0 m 0 ls []) from key9 _ rfl
  intro Q9 hQ9
  have k_0 : (0 : Int32).toInt = 0 := by decide
  have k_1 : (1 : Int32).toInt = 1 := by decide
  have k_123 : (123 : Int32).toInt = 123 := by decide
  refine lv_aload_n hx hb dX4_closing_0 rfl (lv_at hl 0 rfl) ?_
  refine va_get (D := (dC, dI)) (ci := 3) (v := .int op) (C := RX4) (T := TX4) (N := 5) hx hb hts (fun w h => List.mem_cons_of_mem _ (inlX4 w h)) hown hK hP 0 rfl rfl 1 (by decide) (hts (.fieldLink RX4 19 "ClearingGates$Reader" "open" "I") (List.mem_cons_of_mem _ mw_174)) (fun _ h9 => h9) rfl dX4_closing_1 ?_
  refine lv_if_eq (tgt := 29) hx hb dX4_closing_4 (by decide) (fun c1 => ?_) (fun c1 => ?_)
  · skip
    have f_c1 := i_eq c1
    refine lv_aload_n hx hb dX4_closing_29 rfl (lv_at hl 0 rfl) ?_
    refine lv_iload_n hx hb dX4_closing_30 rfl (lv_at hl 1 rfl) ?_
    obtain ⟨hPc, hDc, hFc, hCm, hNw⟩ := C_s (wc := [eO h0 3 [.ref qo, .int op, .int lp, .int fa, .ref jp]]) hP hD hS hA [(0, 1)] 5 rfl (by decide +kernel) rfl
    have hKc := K_s (tys' := []) hK [] rfl
    refine va_calli (va_runV (As := [.int p0]) (rest := []) ⟨hx, hb, hml, hown, hts⟩ (c_X4_faultAt l dC dI h0 p0 qo op lp fa jp s.heap.size h1 (by first | assumption | omega)) (cwV 1 hts gX4_closing_X4_faultAt rfl rfl rfl (by decide +kernel) ⟨Nat.le_of_ble_eq_true rfl, Nat.le_of_ble_eq_true rfl⟩) ⟨fun a U g mk q => by obtain ⟨q0, q1, qP, qK, qD⟩ := q; exact ⟨q0, q1, qP, va_K.moved (u := U) (U := U.calling g mk a) (Vm.Alike.refl U.vm) qK, qD⟩, va_recv (s := s) (q := (RX4, TX4, 5)) hKc hPc (ci := 3) (q0 := 0) rfl rfl, fun U hU hW => ⟨rfl, by rw [hU], by rw [hU]; exact hPc, va_K.moved hW.alike hKc, hDc.weaken (fun _ _ _ _ => trivial)⟩⟩ rfl rfl hl.1 rfl (lv_room (Nat.le_of_ble_eq_true rfl)) dX4_closing_31 ⟨Nat.le_of_ble_eq_true rfl, Nat.le_of_ble_eq_true rfl⟩) hS (fun q _ h => hFc q h) hFc (fun r2 u t H1 locs ht hvm hw hB hz1 hk1 hS => ?_)
    obtain ⟨hP1, hK1, hD1⟩ := hB
    rw [ht] at hP1
    have hK1 := va_K.moved hvm.symm hK1
    try dsimp only at hw
    obtain ⟨hP, hD⟩ := J_s (wL := [eI qo ko 8 fo, eO jp 2 [.ref pb, .ref pn, .int ps], eI pb kpb 80 fpb, eI pn kpn 80 fpn, eO h0 3 [.ref qo, .int op, .int lp, .int p0, .ref jp]]) hP hD [(0, 1)] [(1, 4)] hCm hNw (by decide +kernel) hk1 hFc hP1 hD1 rfl
    have hK := KJ_s (tys' := [(ko, .int), (kpb, .int), (kpn, .int)]) hK hK1 [(0, 3)] rfl
    generalize H1 = H at hP hS ⊢
    have h_r2 := hw
    rw [hQ9]
    exact W.iret (v := r2) hx hb hr (fun t ht hW => ⟨⟨r2, (), rfl, ⟨by omega, by omega⟩, op, lp, p0, fpn, (by first | assumption | omega), (by first | assumption | omega), (fun k hk => ho3 k (by omega)), hb0, by rw [ht]; exact P_s hP [(4, 1), (0, 4)] rfl, va_K.moved hW.alike hK, D_s hD [(4, 1), (0, 4)] 5 rfl (by decide +kernel) rfl⟩, hS.F ht⟩) hS.2.2 dX4_closing_34
  · skip
    have f_c1 := i_ne c1
    refine lv_aload_n hx hb dX4_closing_7 rfl (lv_at hl 0 rfl) ?_
    refine va_get (D := (dC, dI)) (ci := 3) (v := .ref jp) (C := RX4) (T := TX4) (N := 5) hx hb hts (fun w h => List.mem_cons_of_mem _ (inlX4 w h)) hown hK hP 0 rfl rfl 4 (by decide) (hts (.fieldLink RX4 15 "ClearingGates$Reader" "program" "LClearingGates$Program;") (List.mem_cons_of_mem _ mw_177)) (fun _ h9 => h9) rfl dX4_closing_8 ?_
    refine lv_aload_n hx hb dX4_closing_11 rfl (lv_at hl 0 rfl) ?_
    refine va_get (D := (dC, dI)) (ci := 3) (v := .ref qo) (C := RX4) (T := TX4) (N := 5) hx hb hts (fun w h => List.mem_cons_of_mem _ (inlX4 w h)) hown hK hP 0 rfl rfl 0 (by decide) (hts (.fieldLink RX4 9 "ClearingGates$Reader" "opened" "[I") (List.mem_cons_of_mem _ mw_173)) (fun _ h9 => h9) rfl dX4_closing_12 ?_
    refine lv_aload_n hx hb dX4_closing_15 rfl (lv_at hl 0 rfl) ?_
    refine va_get (D := (dC, dI)) (ci := 3) (v := .int op) (C := RX4) (T := TX4) (N := 5) hx hb hts (fun w h => List.mem_cons_of_mem _ (inlX4 w h)) hown hK hP 0 rfl rfl 1 (by decide) (hts (.fieldLink RX4 19 "ClearingGates$Reader" "open" "I") (List.mem_cons_of_mem _ mw_174)) (fun _ h9 => h9) rfl dX4_closing_16 ?_
    refine lv_iconst (v := 1) hx hb dX4_closing_19 (by decide) ?_
    refine lv_isub hx hb dX4_closing_20 ?_
    refine lv_topi (fun z3 e_z3 => ?_)
    have t_z3 := i_sub e_z3 (by omega) (by omega)
    refine va_iald (D := (dC, dI)) hx hb hK hP 1 0 rfl rfl (vp_in_iff.mpr ⟨by omega, by omega⟩) dX4_closing_21 ?_
    refine lv_topi (fun z4 e_z4 => ?_)
    obtain ⟨wa_z4, wb_z4⟩ : 0 ≤ z4.toInt ∧ z4.toInt < 80 := by rw [e_z4]; exact ho3 _ (by rw [i_natZ (by omega)]; omega)
    obtain ⟨hPc, hDc, hFc, hCm, hNw⟩ := C_s (wc := [eO jp 2 [.ref pb, .ref pn, .int ps], eI pb kpb 80 fpb]) hP hD hS hA [(2, 2)] 5 rfl (by decide +kernel) rfl
    have hKc := K_s (tys' := [(kpb, .int)]) hK [(1, 1)] rfl
    refine va_calli (va_runV (As := [.int z4]) (rest := []) ⟨hx, hb, hml, hown, hts⟩ (c_X3_byteAt l dC dI jp z4 pb pn ps kpb fpb s.heap.size hp1 hp2) (cwV 1 hts gX4_closing_X3_byteAt rfl rfl rfl (by decide +kernel) ⟨Nat.le_of_ble_eq_true rfl, Nat.le_of_ble_eq_true rfl⟩) ⟨fun a U g mk q => by obtain ⟨q0, q1, qP, qK, qD⟩ := q; exact ⟨q0, q1, qP, va_K.moved (u := U) (U := U.calling g mk a) (Vm.Alike.refl U.vm) qK, qD⟩, va_recv (s := s) (q := (RX3, TX3, 3)) hKc hPc (ci := 2) (q0 := 0) rfl rfl, fun U hU hW => ⟨rfl, by rw [hU], by rw [hU]; exact hPc, va_K.moved hW.alike hKc, hDc.weaken (fun _ _ _ _ => trivial)⟩⟩ rfl rfl hl.1 rfl (lv_room (Nat.le_of_ble_eq_true rfl)) dX4_closing_22 ⟨Nat.le_of_ble_eq_true rfl, Nat.le_of_ble_eq_true rfl⟩) hS (fun q _ h => hFc q h) hFc (fun r5 u t H1 locs ht hvm hw hB hz1 hk1 hS => ?_)
    obtain ⟨hP1, hK1, hD1⟩ := hB
    rw [ht] at hP1
    have hK1 := va_K.moved hvm.symm hK1
    try dsimp only at hw
    obtain ⟨hP, hD⟩ := J_s (wL := [eO h0 3 [.ref qo, .int op, .int lp, .int fa, .ref jp], eI qo ko 8 fo, eI pn kpn 80 fpn, eO jp 2 [.ref pb, .ref pn, .int ps], eI pb kpb 80 fpb]) hP hD [(2, 2)] [(0, 2), (4, 1)] hCm hNw (by decide +kernel) hk1 hFc hP1 hD1 rfl
    have hK := KJ_s (tys' := [(ko, .int), (kpn, .int), (kpb, .int)]) hK hK1 [(0, 1), (2, 1)] rfl
    generalize H1 = H at hP hS ⊢
    have h_r5 := hw
    refine lv_iload_n hx hb dX4_closing_25 rfl (lv_at hl 2 rfl) ?_
    refine lv_icmp_eq (tgt := 35) hx hb dX4_closing_26 (by decide) (fun c6 => ?_) (fun c6 => ?_)
    · skip
      have f_c6 := i_eq c6
      refine lv_aload_n hx hb dX4_closing_35 rfl (lv_at hl 0 rfl) ?_
      refine lv_dup hx hb dX4_closing_36 rfl ?_
      refine va_get (D := (dC, dI)) (ci := 3) (v := .int op) (C := RX4) (T := TX4) (N := 5) hx hb hts (fun w h => List.mem_cons_of_mem _ (inlX4 w h)) hown hK hP 0 rfl rfl 1 (by decide) (hts (.fieldLink RX4 19 "ClearingGates$Reader" "open" "I") (List.mem_cons_of_mem _ mw_174)) (fun _ h9 => h9) rfl dX4_closing_37 ?_
      refine lv_iconst (v := 1) hx hb dX4_closing_40 (by decide) ?_
      refine lv_isub hx hb dX4_closing_41 ?_
      refine lv_topi (fun z7 e_z7 => ?_)
      have t_z7 := i_sub e_z7 (by omega) (by omega)
      refine va_put (D := (dC, dI)) (ci := 3) (v := .int z7) (ty := .int) (C := RX4) (T := TX4) (N := 5) hx hb hts (fun w h => List.mem_cons_of_mem _ (inlX4 w h)) tyX4 tyX4_ok nmX4 hown hK hP hD hS 0 rfl rfl 1 (by decide) (hts (.fieldLink RX4 19 "ClearingGates$Reader" "open" "I") (List.mem_cons_of_mem _ mw_174)) (fun _ h9 => h9) rfl (by decide +kernel) rfl rfl (Nat.le_of_ble_eq_true rfl) dX4_closing_42 (fun H locs hP hD hS => ?_)
      obtain ⟨hP, hD⟩ := X_s (ws' := [eO h0 3 [.ref qo, .int z7, .int lp, .int fa, .ref jp], eI qo ko 8 fo, eI pn kpn 80 fpn, eO jp 2 [.ref pb, .ref pn, .int ps], eI pb kpb 80 fpb]) hP hD rfl
      refine lv_iload_n hx hb dX4_closing_45 rfl (lv_at hl 2 rfl) ?_
      refine lv_bipush (v := 123) hx hb dX4_closing_46 (by decide) ?_
      refine lv_icmp_ne (tgt := 61) hx hb dX4_closing_48 (by decide) (fun c8 => ?_) (fun c8 => ?_)
      · skip
        have f_c8 := i_ne c8
        refine lv_aload_n hx hb dX4_closing_61 rfl (lv_at hl 0 rfl) ?_
        refine lv_aload_n hx hb dX4_closing_62 rfl (lv_at hl 0 rfl) ?_
        refine va_get (D := (dC, dI)) (ci := 3) (v := .ref qo) (C := RX4) (T := TX4) (N := 5) hx hb hts (fun w h => List.mem_cons_of_mem _ (inlX4 w h)) hown hK hP 0 rfl rfl 0 (by decide) (hts (.fieldLink RX4 9 "ClearingGates$Reader" "opened" "[I") (List.mem_cons_of_mem _ mw_173)) (fun _ h9 => h9) rfl dX4_closing_63 ?_
        refine lv_aload_n hx hb dX4_closing_66 rfl (lv_at hl 0 rfl) ?_
        refine va_get (D := (dC, dI)) (ci := 3) (v := .int z7) (C := RX4) (T := TX4) (N := 5) hx hb hts (fun w h => List.mem_cons_of_mem _ (inlX4 w h)) hown hK hP 0 rfl rfl 1 (by decide) (hts (.fieldLink RX4 19 "ClearingGates$Reader" "open" "I") (List.mem_cons_of_mem _ mw_174)) (fun _ h9 => h9) rfl dX4_closing_67 ?_
        refine va_iald (D := (dC, dI)) hx hb hK hP 1 0 rfl rfl (vp_in_iff.mpr ⟨by omega, by omega⟩) dX4_closing_70 ?_
        refine lv_topi (fun z9 e_z9 => ?_)
        obtain ⟨wa_z9, wb_z9⟩ : 0 ≤ z9.toInt ∧ z9.toInt < 80 := by rw [e_z9]; exact ho3 _ (by rw [i_natZ (by omega)]; omega)
        refine lv_iload_n hx hb dX4_closing_71 rfl (lv_at hl 1 rfl) ?_
        refine lv_iconst (v := 1) hx hb dX4_closing_72 (by decide) ?_
        refine lv_iadd hx hb dX4_closing_73 ?_
        refine lv_topi (fun z10 e_z10 => ?_)
        have t_z10 := i_add e_z10 (by omega) (by omega)
        obtain ⟨hPc, hDc, hFc, hCm, hNw⟩ := C_s (wc := [eO h0 3 [.ref qo, .int z7, .int lp, .int fa, .ref jp], eO jp 2 [.ref pb, .ref pn, .int ps], eI pb kpb 80 fpb, eI pn kpn 80 fpn]) hP hD hS hA [(0, 1), (3, 2), (2, 1)] 5 rfl (by decide +kernel) rfl
        have hKc := K_s (tys' := [(kpb, .int), (kpn, .int)]) hK [(2, 1), (1, 1)] rfl
        refine va_calli (va_runV (As := [.int z9, .int z10]) (rest := []) ⟨hx, hb, hml, hown, hts⟩ (c_X4_ends l dC dI h0 z9 z10 qo z7 lp fa jp pb pn ps kpb fpb kpn fpn H.size (by first | assumption | omega) (by first | assumption | omega) (by first | assumption | omega) (by first | assumption | omega) hb0) (cwV 2 hts gX4_closing_X4_ends rfl rfl rfl (by decide +kernel) ⟨Nat.le_of_ble_eq_true rfl, Nat.le_of_ble_eq_true rfl⟩) ⟨fun a U g mk q => by obtain ⟨q0, q1, qP, qK, qD⟩ := q; exact ⟨q0, q1, qP, va_K.moved (u := U) (U := U.calling g mk a) (Vm.Alike.refl U.vm) qK, qD⟩, va_recv (s := s) (q := (RX4, TX4, 5)) hKc hPc (ci := 3) (q0 := 0) rfl rfl, fun U hU hW => ⟨rfl, by rw [hU], by rw [hU]; exact hPc, va_K.moved hW.alike hKc, hDc.weaken (fun _ _ _ _ => trivial)⟩⟩ rfl rfl hl.1 rfl (lv_room (Nat.le_of_ble_eq_true rfl)) dX4_closing_74 ⟨Nat.le_of_ble_eq_true rfl, Nat.le_of_ble_eq_true rfl⟩) hS (fun q _ h => hFc q h) hFc (fun r11 u t H1 locs ht hvm hw hB hz1 hk1 hS => ?_)
        obtain ⟨q12, xb_r11, hP1, hK1, hD1⟩ := hB
        rw [ht] at hP1
        have hK1 := va_K.moved hvm.symm hK1
        try dsimp only at hw
        obtain ⟨hP, hD⟩ := J_s (wL := [eI qo ko 8 fo, eO h0 3 [.ref qo, .int z7, .int lp, .int fa, .ref jp], eO jp 2 [.ref pb, .ref pn, .int ps], eI pb kpb 80 fpb, eI pn kpn 80 q12]) hP hD [(0, 1), (3, 2), (2, 1)] [(1, 1)] hCm hNw (by decide +kernel) hk1 hFc hP1 hD1 rfl
        have hK := KJ_s (tys' := [(ko, .int), (kpb, .int), (kpn, .int)]) hK hK1 [(0, 1)] rfl
        generalize H1 = H at hP hS ⊢
        have h_r11 := hw
        have t_r11 := i_eq hw
        rw [hQ9]
        exact W.iret (v := r11) hx hb hr (fun t ht hW => ⟨⟨r11, (), rfl, ⟨by omega, by omega⟩, z7, lp, fa, q12, (by first | assumption | omega), (by first | assumption | omega), (fun k hk => ho3 k (by omega)), xb_r11, by rw [ht]; exact P_s hP [(1, 1), (0, 1), (2, 3)] rfl, va_K.moved hW.alike hK, D_s hD [(1, 1), (0, 1), (2, 3)] 5 rfl (by decide +kernel) rfl⟩, hS.F ht⟩) hS.2.2 dX4_closing_77
      · skip
        have f_c8 := i_eq c8
        refine lv_aload_n hx hb dX4_closing_51 rfl (lv_at hl 0 rfl) ?_
        refine lv_dup hx hb dX4_closing_52 rfl ?_
        refine va_get (D := (dC, dI)) (ci := 3) (v := .int lp) (C := RX4) (T := TX4) (N := 5) hx hb hts (fun w h => List.mem_cons_of_mem _ (inlX4 w h)) hown hK hP 0 rfl rfl 2 (by decide) (hts (.fieldLink RX4 23 "ClearingGates$Reader" "loops" "I") (List.mem_cons_of_mem _ mw_175)) (fun _ h9 => h9) rfl dX4_closing_53 ?_
        refine lv_iconst (v := 1) hx hb dX4_closing_56 (by decide) ?_
        refine lv_isub hx hb dX4_closing_57 ?_
        refine lv_topi (fun z13 e_z13 => ?_)
        refine va_put (D := (dC, dI)) (ci := 3) (v := .int z13) (ty := .int) (C := RX4) (T := TX4) (N := 5) hx hb hts (fun w h => List.mem_cons_of_mem _ (inlX4 w h)) tyX4 tyX4_ok nmX4 hown hK hP hD hS 0 rfl rfl 2 (by decide) (hts (.fieldLink RX4 23 "ClearingGates$Reader" "loops" "I") (List.mem_cons_of_mem _ mw_175)) (fun _ h9 => h9) rfl (by decide +kernel) rfl rfl (Nat.le_of_ble_eq_true rfl) dX4_closing_58 (fun H locs hP hD hS => ?_)
        obtain ⟨hP, hD⟩ := X_s (ws' := [eO h0 3 [.ref qo, .int z7, .int z13, .int fa, .ref jp], eI qo ko 8 fo, eI pn kpn 80 fpn, eO jp 2 [.ref pb, .ref pn, .int ps], eI pb kpb 80 fpb]) hP hD rfl
        refine lv_aload_n hx hb dX4_closing_61 rfl (lv_at hl 0 rfl) ?_
        refine lv_aload_n hx hb dX4_closing_62 rfl (lv_at hl 0 rfl) ?_
        refine va_get (D := (dC, dI)) (ci := 3) (v := .ref qo) (C := RX4) (T := TX4) (N := 5) hx hb hts (fun w h => List.mem_cons_of_mem _ (inlX4 w h)) hown hK hP 0 rfl rfl 0 (by decide) (hts (.fieldLink RX4 9 "ClearingGates$Reader" "opened" "[I") (List.mem_cons_of_mem _ mw_173)) (fun _ h9 => h9) rfl dX4_closing_63 ?_
        refine lv_aload_n hx hb dX4_closing_66 rfl (lv_at hl 0 rfl) ?_
        refine va_get (D := (dC, dI)) (ci := 3) (v := .int z7) (C := RX4) (T := TX4) (N := 5) hx hb hts (fun w h => List.mem_cons_of_mem _ (inlX4 w h)) hown hK hP 0 rfl rfl 1 (by decide) (hts (.fieldLink RX4 19 "ClearingGates$Reader" "open" "I") (List.mem_cons_of_mem _ mw_174)) (fun _ h9 => h9) rfl dX4_closing_67 ?_
        refine va_iald (D := (dC, dI)) hx hb hK hP 1 0 rfl rfl (vp_in_iff.mpr ⟨by omega, by omega⟩) dX4_closing_70 ?_
        refine lv_topi (fun z14 e_z14 => ?_)
        obtain ⟨wa_z14, wb_z14⟩ : 0 ≤ z14.toInt ∧ z14.toInt < 80 := by rw [e_z14]; exact ho3 _ (by rw [i_natZ (by omega)]; omega)
        refine lv_iload_n hx hb dX4_closing_71 rfl (lv_at hl 1 rfl) ?_
        refine lv_iconst (v := 1) hx hb dX4_closing_72 (by decide) ?_
        refine lv_iadd hx hb dX4_closing_73 ?_
        refine lv_topi (fun z15 e_z15 => ?_)
        have t_z15 := i_add e_z15 (by omega) (by omega)
        obtain ⟨hPc, hDc, hFc, hCm, hNw⟩ := C_s (wc := [eO h0 3 [.ref qo, .int z7, .int z13, .int fa, .ref jp], eO jp 2 [.ref pb, .ref pn, .int ps], eI pb kpb 80 fpb, eI pn kpn 80 fpn]) hP hD hS hA [(0, 1), (3, 2), (2, 1)] 5 rfl (by decide +kernel) rfl
        have hKc := K_s (tys' := [(kpb, .int), (kpn, .int)]) hK [(2, 1), (1, 1)] rfl
        refine va_calli (va_runV (As := [.int z14, .int z15]) (rest := []) ⟨hx, hb, hml, hown, hts⟩ (c_X4_ends l dC dI h0 z14 z15 qo z7 z13 fa jp pb pn ps kpb fpb kpn fpn H.size (by first | assumption | omega) (by first | assumption | omega) (by first | assumption | omega) (by first | assumption | omega) hb0) (cwV 2 hts gX4_closing_X4_ends rfl rfl rfl (by decide +kernel) ⟨Nat.le_of_ble_eq_true rfl, Nat.le_of_ble_eq_true rfl⟩) ⟨fun a U g mk q => by obtain ⟨q0, q1, qP, qK, qD⟩ := q; exact ⟨q0, q1, qP, va_K.moved (u := U) (U := U.calling g mk a) (Vm.Alike.refl U.vm) qK, qD⟩, va_recv (s := s) (q := (RX4, TX4, 5)) hKc hPc (ci := 3) (q0 := 0) rfl rfl, fun U hU hW => ⟨rfl, by rw [hU], by rw [hU]; exact hPc, va_K.moved hW.alike hKc, hDc.weaken (fun _ _ _ _ => trivial)⟩⟩ rfl rfl hl.1 rfl (lv_room (Nat.le_of_ble_eq_true rfl)) dX4_closing_74 ⟨Nat.le_of_ble_eq_true rfl, Nat.le_of_ble_eq_true rfl⟩) hS (fun q _ h => hFc q h) hFc (fun r16 u t H1 locs ht hvm hw hB hz1 hk1 hS => ?_)
        obtain ⟨q17, xb_r16, hP1, hK1, hD1⟩ := hB
        rw [ht] at hP1
        have hK1 := va_K.moved hvm.symm hK1
        try dsimp only at hw
        obtain ⟨hP, hD⟩ := J_s (wL := [eI qo ko 8 fo, eO h0 3 [.ref qo, .int z7, .int z13, .int fa, .ref jp], eO jp 2 [.ref pb, .ref pn, .int ps], eI pb kpb 80 fpb, eI pn kpn 80 q17]) hP hD [(0, 1), (3, 2), (2, 1)] [(1, 1)] hCm hNw (by decide +kernel) hk1 hFc hP1 hD1 rfl
        have hK := KJ_s (tys' := [(ko, .int), (kpb, .int), (kpn, .int)]) hK hK1 [(0, 1)] rfl
        generalize H1 = H at hP hS ⊢
        have h_r16 := hw
        have t_r16 := i_eq hw
        rw [hQ9]
        exact W.iret (v := r16) hx hb hr (fun t ht hW => ⟨⟨r16, (), rfl, ⟨by omega, by omega⟩, z7, z13, fa, q17, (by first | assumption | omega), (by first | assumption | omega), (fun k hk => ho3 k (by omega)), xb_r16, by rw [ht]; exact P_s hP [(1, 1), (0, 1), (2, 3)] rfl, va_K.moved hW.alike hK, D_s hD [(1, 1), (0, 1), (2, 3)] 5 rfl (by decide +kernel) rfl⟩, hS.F ht⟩) hS.2.2 dX4_closing_77
    · skip
      have f_c6 := i_ne c6
      refine lv_aload_n hx hb dX4_closing_29 rfl (lv_at hl 0 rfl) ?_
      refine lv_iload_n hx hb dX4_closing_30 rfl (lv_at hl 1 rfl) ?_
      obtain ⟨hPc, hDc, hFc, hCm, hNw⟩ := C_s (wc := [eO h0 3 [.ref qo, .int op, .int lp, .int fa, .ref jp]]) hP hD hS hA [(0, 1)] 5 rfl (by decide +kernel) rfl
      have hKc := K_s (tys' := []) hK [] rfl
      refine va_calli (va_runV (As := [.int p0]) (rest := []) ⟨hx, hb, hml, hown, hts⟩ (c_X4_faultAt l dC dI h0 p0 qo op lp fa jp H.size h1 (by first | assumption | omega)) (cwV 1 hts gX4_closing_X4_faultAt rfl rfl rfl (by decide +kernel) ⟨Nat.le_of_ble_eq_true rfl, Nat.le_of_ble_eq_true rfl⟩) ⟨fun a U g mk q => by obtain ⟨q0, q1, qP, qK, qD⟩ := q; exact ⟨q0, q1, qP, va_K.moved (u := U) (U := U.calling g mk a) (Vm.Alike.refl U.vm) qK, qD⟩, va_recv (s := s) (q := (RX4, TX4, 5)) hKc hPc (ci := 3) (q0 := 0) rfl rfl, fun U hU hW => ⟨rfl, by rw [hU], by rw [hU]; exact hPc, va_K.moved hW.alike hKc, hDc.weaken (fun _ _ _ _ => trivial)⟩⟩ rfl rfl hl.1 rfl (lv_room (Nat.le_of_ble_eq_true rfl)) dX4_closing_31 ⟨Nat.le_of_ble_eq_true rfl, Nat.le_of_ble_eq_true rfl⟩) hS (fun q _ h => hFc q h) hFc (fun r18 u t H1 locs ht hvm hw hB hz1 hk1 hS => ?_)
      obtain ⟨hP1, hK1, hD1⟩ := hB
      rw [ht] at hP1
      have hK1 := va_K.moved hvm.symm hK1
      try dsimp only at hw
      obtain ⟨hP, hD⟩ := J_s (wL := [eI qo ko 8 fo, eI pn kpn 80 fpn, eO jp 2 [.ref pb, .ref pn, .int ps], eI pb kpb 80 fpb, eO h0 3 [.ref qo, .int op, .int lp, .int p0, .ref jp]]) hP hD [(0, 1)] [(1, 4)] hCm hNw (by decide +kernel) hk1 hFc hP1 hD1 rfl
      have hK := KJ_s (tys' := [(ko, .int), (kpn, .int), (kpb, .int)]) hK hK1 [(0, 3)] rfl
      generalize H1 = H at hP hS ⊢
      have h_r18 := hw
      rw [hQ9]
      exact W.iret (v := r18) hx hb hr (fun t ht hW => ⟨⟨r18, (), rfl, ⟨by omega, by omega⟩, op, lp, p0, fpn, (by first | assumption | omega), (by first | assumption | omega), (fun k hk => ho3 k (by omega)), hb0, by rw [ht]; exact P_s hP [(4, 1), (0, 1), (2, 2), (1, 1)] rfl, va_K.moved hW.alike (K_s hK [(0, 1), (2, 1), (1, 1)] rfl), D_s hD [(4, 1), (0, 1), (2, 2), (1, 1)] 5 rfl (by decide +kernel) rfl⟩, hS.F ht⟩) hS.2.2 dX4_closing_34

set_option maxRecDepth 100000 in
set_option maxHeartbeats 4000000 in
/-- Reader.bell -/
theorem c_X4_bell (l : Launch) (dC : Nat → ClassId) (dI : Nat → Nat → Nat) (h0 : Nat) (p0 : Int32) (qo : Nat) (op : Int32) (lp : Int32) (fa : Int32) (jp : Nat) (pb : Nat) (pn : Nat) (ps : Int32) (kpb : ClassId) (fpb : Nat → Int32) (kpn : ClassId) (fpn : Nat → Int32) (sz : Nat) (hp1 : 0 ≤ ps.toInt) (hp2 : ps.toInt ≤ 80) (h1 : 0 ≤ p0.toInt) (h2 : p0.toInt < ps.toInt) (hb0 : ∀ k : Nat, 0 ≤ (fpn k).toInt ∧ (fpn k).toInt ≤ 80) : Met l yX4_bell wsX4_bell ({ frames := 2, cells := 0, slots := 0, locals := 44 }) (va_Pc [.ref h0, .int p0] (fun U => U.heap.size = sz ∧ va_P (dC, dI) vwCl [eO h0 3 [.ref qo, .int op, .int lp, .int fa, .ref jp], eO jp 2 [.ref pb, .ref pn, .int ps], eI pb kpb 80 fpb, eI pn kpn 80 fpn] U.heap ∧ va_K (dC, dI) vwCl [(kpb, .int), (kpn, .int)] U ∧ va_D (fun _ => True) [eO h0 3 [.ref qo, .int op, .int lp, .int fa, .ref jp], eO jp 2 [.ref pb, .ref pn, .int ps], eI pb kpb 80 fpb, eI pn kpn 80 fpn])) (va_Qi (fun (r : Int32) (_ : Unit) => 0 ≤ r.toInt ∧ r.toInt ≤ 90) (fun (_ : Unit) (t : State) => ∃ (fa' : Int32), ∃ (fpn' : Nat → Int32), (∀ k : Nat, 0 ≤ (fpn' k).toInt ∧ (fpn' k).toInt ≤ 80) ∧ va_P (dC, dI) vwCl [eO h0 3 [.ref qo, .int op, .int lp, .int fa', .ref jp], eO jp 2 [.ref pb, .ref pn, .int ps], eI pb kpb 80 fpb, eI pn kpn 80 (fpn')] t.heap ∧ va_K (dC, dI) vwCl [(kpb, .int), (kpn, .int)] t ∧ va_D (va_A [eO h0 3 [.ref qo, .int op, .int lp, .int fa, .ref jp], eO jp 2 [.ref pb, .ref pn, .int ps], eI pb kpb 80 fpb, eI pn kpn 80 fpn] sz) [eO h0 3 [.ref qo, .int op, .int lp, .int fa', .ref jp], eO jp 2 [.ref pb, .ref pn, .int ps], eI pb kpb 80 fpb, eI pn kpn 80 (fpn')]) (va_A [eO h0 3 [.ref qo, .int op, .int lp, .int fa, .ref jp], eO jp 2 [.ref pb, .ref pn, .int ps], eI pb kpb 80 fpb, eI pn kpn 80 fpn] sz)) 0 0 (va_A [eO h0 3 [.ref qo, .int op, .int lp, .int fa, .ref jp], eO jp 2 [.ref pb, .ref pn, .int ps], eI pb kpb 80 fpb, eI pn kpn 80 fpn] sz) := by
  refine Met.ofW (cc := cX4_bell) (maxL := 2) (ret := (some .int)) (by decide) rfl ?_
  intro p e s m args below meth c s₁ B hml hv
  obtain ⟨rfl, hsz, hP, hK, hD0⟩ := hv
  have hx := B.exec
  have hb := B.bytes
  have hr := B.returns
  have hts := atoms_spec (ws := wsX4_bell) B.pre
  have hown : s.vm.findClass RX4 = some m.cls := findClass_of_methodNamed B.named
  have hlocks := B.notSynchronized
  subst hsz
  have hD := hD0.self (sz := s.heap.size)
  generalize hAe : va_A [eO h0 3 [.ref qo, .int op, .int lp, .int fa, .ref jp], eO jp 2 [.ref pb, .ref pn, .int ps], eI pb kpb 80 fpb, eI pn kpn 80 fpn] s.heap.size = A at hD ⊢
  have hA : ∀ q : Nat, s.heap.size ≤ q → A q := fun q h => by rw [← hAe]; exact Or.inr h
  have hS : va_S A s.heap s.heap [] := va_S.rf
  have hP : va_P (dC, dI) vwCl [eO h0 3 [.ref qo, .int op, .int lp, .int fa, .ref jp], eO jp 2 [.ref pb, .ref pn, .int ps], eI pb kpb 80 fpb, eI pn kpn 80 fpn] s.heap := hP
  have hl := lv_entry ([.ref h0, .int p0]) (n := 2) (Nat.le_of_ble_eq_true rfl)
  rw [lg_entry_eq]
  generalize (lg_sl ([.ref h0, .int p0]) ++ List.replicate (2 - (lg_sl ([.ref h0, .int p0])).length) Slot.unset).toArray = ls at hl ⊢
  have hl : lv_has ls 2 [(0, .ref h0), (1, .int p0)] := hl
  suffices key9 : ∀ Q9 : State → Prop, Q9 = (MQ below (va_Qi (fun (r : Int32) (_ : Unit) => 0 ≤ r.toInt ∧ r.toInt ≤ 90) (fun (_ : Unit) (t : State) => ∃ (fa' : Int32), ∃ (fpn' : Nat → Int32), (∀ k : Nat, 0 ≤ (fpn' k).toInt ∧ (fpn' k).toInt ≤ 80) ∧ va_P (dC, dI) vwCl [eO h0 3 [.ref qo, .int op, .int lp, .int fa', .ref jp], eO jp 2 [.ref pb, .ref pn, .int ps], eI pb kpb 80 fpb, eI pn kpn 80 (fpn')] t.heap ∧ va_K (dC, dI) vwCl [(kpb, .int), (kpn, .int)] t ∧ va_D A [eO h0 3 [.ref qo, .int op, .int lp, .int fa', .ref jp], eO jp 2 [.ref pb, .ref pn, .int ps], eI pb kpb 80 fpb, eI pn kpn 80 (fpn')]) A) (([.ref h0, .int p0] : List Value).toArray) s 0 0 A) → W p l e ({ frames := 2, cells := 0, slots := 0, locals := 44 }) s m (([.ref h0, .int p0] : List Value).toArray) below meth c s.heap [] 0 0 Q9 (F0 m 0 ls []) from key9 _ rfl
  intro Q9 hQ9
  have k_1 : (1 : Int32).toInt = 1 := by decide
  have k_2 : (2 : Int32).toInt = 2 := by decide
  have k_48 : (48 : Int32).toInt = 48 := by decide
  have k_55 : (55 : Int32).toInt = 55 := by decide
  refine lv_aload_n hx hb dX4_bell_0 rfl (lv_at hl 0 rfl) ?_
  refine lv_iload_n hx hb dX4_bell_1 rfl (lv_at hl 1 rfl) ?_
  refine lv_iconst (v := 1) hx hb dX4_bell_2 (by decide) ?_
  refine lv_iadd hx hb dX4_bell_3 ?_
  refine lv_topi (fun z1 e_z1 => ?_)
  have t_z1 := i_add e_z1 (by omega) (by omega)
  refine lv_bipush (v := 48) hx hb dX4_bell_4 (by decide) ?_
  refine lv_bipush (v := 55) hx hb dX4_bell_6 (by decide) ?_
  obtain ⟨hPc, hDc, hFc, hCm, hNw⟩ := C_s (wc := [eO h0 3 [.ref qo, .int op, .int lp, .int fa, .ref jp], eO jp 2 [.ref pb, .ref pn, .int ps], eI pb kpb 80 fpb, eI pn kpn 80 fpn]) hP hD hS hA [(0, 4)] 4 rfl (by decide +kernel) rfl
  have hKc := K_s (tys' := [(kpb, .int), (kpn, .int)]) hK [(0, 2)] rfl
  refine va_calli (va_runV (As := [.int z1, .int 48, .int 55]) (rest := []) ⟨hx, hb, hml, hown, hts⟩ (c_X4_isFigure l dC dI h0 z1 48 55 qo op lp fa jp pb pn ps kpb fpb kpn fpn s.heap.size hp1 hp2 (by first | assumption | omega)) (cwV 3 hts gX4_bell_X4_isFigure rfl rfl rfl (by decide +kernel) ⟨Nat.le_of_ble_eq_true rfl, Nat.le_of_ble_eq_true rfl⟩) ⟨fun a U g mk q => by obtain ⟨q0, q1, qP, qK, qD⟩ := q; exact ⟨q0, q1, qP, va_K.moved (u := U) (U := U.calling g mk a) (Vm.Alike.refl U.vm) qK, qD⟩, va_recv (s := s) (q := (RX4, TX4, 5)) hKc hPc (ci := 3) (q0 := 0) rfl rfl, fun U hU hW => ⟨rfl, by rw [hU], by rw [hU]; exact hPc, va_K.moved hW.alike hKc, hDc.weaken (fun _ _ _ _ => trivial)⟩⟩ rfl rfl hl.1 rfl (lv_room (Nat.le_of_ble_eq_true rfl)) dX4_bell_8 ⟨Nat.le_of_ble_eq_true rfl, Nat.le_of_ble_eq_true rfl⟩) hS (fun q _ h => hFc q h) hFc (fun r2 u t H1 locs ht hvm hw hB hz1 hk1 hS => ?_)
  obtain ⟨hP1, hK1, hD1⟩ := hB
  rw [ht] at hP1
  have hK1 := va_K.moved hvm.symm hK1
  try dsimp only at hw
  obtain ⟨hP, hD⟩ := J_s (wL := [eO h0 3 [.ref qo, .int op, .int lp, .int fa, .ref jp], eO jp 2 [.ref pb, .ref pn, .int ps], eI pb kpb 80 fpb, eI pn kpn 80 fpn]) hP hD [(0, 4)] [] hCm hNw (by decide +kernel) hk1 hFc hP1 hD1 rfl
  have hK := KJ_s (tys' := [(kpb, .int), (kpn, .int)]) hK hK1 [] rfl
  generalize H1 = H at hP hS ⊢
  rcases hw with ⟨e_r2, f_r2⟩ | ⟨e_r2, f_r2⟩
  · subst e_r2
    refine lv_if_eq (tgt := 25) hx hb dX4_bell_11 (by decide) (fun c3 => absurd c3 (by decide)) (fun c3 => ?_)
    refine lv_aload_n hx hb dX4_bell_14 rfl (lv_at hl 0 rfl) ?_
    refine lv_iload_n hx hb dX4_bell_15 rfl (lv_at hl 1 rfl) ?_
    refine lv_iload_n hx hb dX4_bell_16 rfl (lv_at hl 1 rfl) ?_
    refine lv_iconst (v := 2) hx hb dX4_bell_17 (by decide) ?_
    refine lv_iadd hx hb dX4_bell_18 ?_
    refine lv_topi (fun z4 e_z4 => ?_)
    have t_z4 := i_add e_z4 (by omega) (by omega)
    obtain ⟨hPc, hDc, hFc, hCm, hNw⟩ := C_s (wc := [eO h0 3 [.ref qo, .int op, .int lp, .int fa, .ref jp], eO jp 2 [.ref pb, .ref pn, .int ps], eI pb kpb 80 fpb, eI pn kpn 80 fpn]) hP hD hS hA [(0, 4)] 4 rfl (by decide +kernel) rfl
    have hKc := K_s (tys' := [(kpb, .int), (kpn, .int)]) hK [(0, 2)] rfl
    refine va_calli (va_runV (As := [.int p0, .int z4]) (rest := []) ⟨hx, hb, hml, hown, hts⟩ (c_X4_ends l dC dI h0 p0 z4 qo op lp fa jp pb pn ps kpb fpb kpn fpn H.size h1 (by first | assumption | omega) (by first | assumption | omega) (by first | assumption | omega) hb0) (cwV 2 hts gX4_bell_X4_ends rfl rfl rfl (by decide +kernel) ⟨Nat.le_of_ble_eq_true rfl, Nat.le_of_ble_eq_true rfl⟩) ⟨fun a U g mk q => by obtain ⟨q0, q1, qP, qK, qD⟩ := q; exact ⟨q0, q1, qP, va_K.moved (u := U) (U := U.calling g mk a) (Vm.Alike.refl U.vm) qK, qD⟩, va_recv (s := s) (q := (RX4, TX4, 5)) hKc hPc (ci := 3) (q0 := 0) rfl rfl, fun U hU hW => ⟨rfl, by rw [hU], by rw [hU]; exact hPc, va_K.moved hW.alike hKc, hDc.weaken (fun _ _ _ _ => trivial)⟩⟩ rfl rfl hl.1 rfl (lv_room (Nat.le_of_ble_eq_true rfl)) dX4_bell_19 ⟨Nat.le_of_ble_eq_true rfl, Nat.le_of_ble_eq_true rfl⟩) hS (fun q _ h => hFc q h) hFc (fun r5 u t H1 locs ht hvm hw hB hz1 hk1 hS => ?_)
    obtain ⟨q6, xb_r5, hP1, hK1, hD1⟩ := hB
    rw [ht] at hP1
    have hK1 := va_K.moved hvm.symm hK1
    try dsimp only at hw
    obtain ⟨hP, hD⟩ := J_s (wL := [eO h0 3 [.ref qo, .int op, .int lp, .int fa, .ref jp], eO jp 2 [.ref pb, .ref pn, .int ps], eI pb kpb 80 fpb, eI pn kpn 80 q6]) hP hD [(0, 4)] [] hCm hNw (by decide +kernel) hk1 hFc hP1 hD1 rfl
    have hK := KJ_s (tys' := [(kpb, .int), (kpn, .int)]) hK hK1 [] rfl
    generalize H1 = H at hP hS ⊢
    have h_r5 := hw
    have t_r5 := i_eq hw
    refine lv_goto (tgt := 32) hx hb dX4_bell_22 (by decide) ?_
    rw [hQ9]
    exact W.iret (v := r5) hx hb hr (fun t ht hW => ⟨⟨r5, (), rfl, ⟨by omega, by omega⟩, fa, q6, xb_r5, by rw [ht]; exact hP, va_K.moved hW.alike hK, hD⟩, hS.F ht⟩) hS.2.2 dX4_bell_32
  · subst e_r2
    refine lv_if_eq (tgt := 25) hx hb dX4_bell_11 (by decide) (fun c7 => ?_) (fun c7 => absurd (by decide) c7)
    refine lv_aload_n hx hb dX4_bell_25 rfl (lv_at hl 0 rfl) ?_
    refine lv_iload_n hx hb dX4_bell_26 rfl (lv_at hl 1 rfl) ?_
    refine lv_iconst (v := 1) hx hb dX4_bell_27 (by decide) ?_
    refine lv_iadd hx hb dX4_bell_28 ?_
    refine lv_topi (fun z8 e_z8 => ?_)
    have t_z8 := i_add e_z8 (by omega) (by omega)
    obtain ⟨hPc, hDc, hFc, hCm, hNw⟩ := C_s (wc := [eO h0 3 [.ref qo, .int op, .int lp, .int fa, .ref jp]]) hP hD hS hA [(0, 1)] 4 rfl (by decide +kernel) rfl
    have hKc := K_s (tys' := []) hK [] rfl
    refine va_calli (va_runV (As := [.int z8]) (rest := []) ⟨hx, hb, hml, hown, hts⟩ (c_X4_faultAt l dC dI h0 z8 qo op lp fa jp H.size (by first | assumption | omega) (by first | assumption | omega)) (cwV 1 hts gX4_bell_X4_faultAt rfl rfl rfl (by decide +kernel) ⟨Nat.le_of_ble_eq_true rfl, Nat.le_of_ble_eq_true rfl⟩) ⟨fun a U g mk q => by obtain ⟨q0, q1, qP, qK, qD⟩ := q; exact ⟨q0, q1, qP, va_K.moved (u := U) (U := U.calling g mk a) (Vm.Alike.refl U.vm) qK, qD⟩, va_recv (s := s) (q := (RX4, TX4, 5)) hKc hPc (ci := 3) (q0 := 0) rfl rfl, fun U hU hW => ⟨rfl, by rw [hU], by rw [hU]; exact hPc, va_K.moved hW.alike hKc, hDc.weaken (fun _ _ _ _ => trivial)⟩⟩ rfl rfl hl.1 rfl (lv_room (Nat.le_of_ble_eq_true rfl)) dX4_bell_29 ⟨Nat.le_of_ble_eq_true rfl, Nat.le_of_ble_eq_true rfl⟩) hS (fun q _ h => hFc q h) hFc (fun r9 u t H1 locs ht hvm hw hB hz1 hk1 hS => ?_)
    obtain ⟨hP1, hK1, hD1⟩ := hB
    rw [ht] at hP1
    have hK1 := va_K.moved hvm.symm hK1
    try dsimp only at hw
    obtain ⟨hP, hD⟩ := J_s (wL := [eO jp 2 [.ref pb, .ref pn, .int ps], eI pb kpb 80 fpb, eI pn kpn 80 fpn, eO h0 3 [.ref qo, .int op, .int lp, .int z8, .ref jp]]) hP hD [(0, 1)] [(1, 3)] hCm hNw (by decide +kernel) hk1 hFc hP1 hD1 rfl
    have hK := KJ_s (tys' := [(kpb, .int), (kpn, .int)]) hK hK1 [(0, 2)] rfl
    generalize H1 = H at hP hS ⊢
    have h_r9 := hw
    rw [hQ9]
    exact W.iret (v := r9) hx hb hr (fun t ht hW => ⟨⟨r9, (), rfl, ⟨by omega, by omega⟩, z8, fpn, hb0, by rw [ht]; exact P_s hP [(3, 1), (0, 3)] rfl, va_K.moved hW.alike hK, D_s hD [(3, 1), (0, 3)] 4 rfl (by decide +kernel) rfl⟩, hS.F ht⟩) hS.2.2 dX4_bell_32

set_option maxRecDepth 100000 in
set_option maxHeartbeats 4000000 in
/-- Reader.payment -/
theorem c_X4_payment (l : Launch) (dC : Nat → ClassId) (dI : Nat → Nat → Nat) (h0 : Nat) (p0 : Int32) (qo : Nat) (op : Int32) (lp : Int32) (fa : Int32) (jp : Nat) (pb : Nat) (pn : Nat) (ps : Int32) (kpb : ClassId) (fpb : Nat → Int32) (kpn : ClassId) (fpn : Nat → Int32) (sz : Nat) (hp1 : 0 ≤ ps.toInt) (hp2 : ps.toInt ≤ 80) (h1 : 0 ≤ p0.toInt) (h2 : p0.toInt < ps.toInt) (hb0 : ∀ k : Nat, 0 ≤ (fpn k).toInt ∧ (fpn k).toInt ≤ 80) : Met l yX4_payment wsX4_payment ({ frames := 2, cells := 0, slots := 0, locals := 44 }) (va_Pc [.ref h0, .int p0] (fun U => U.heap.size = sz ∧ va_P (dC, dI) vwCl [eO h0 3 [.ref qo, .int op, .int lp, .int fa, .ref jp], eO jp 2 [.ref pb, .ref pn, .int ps], eI pb kpb 80 fpb, eI pn kpn 80 fpn] U.heap ∧ va_K (dC, dI) vwCl [(kpb, .int), (kpn, .int)] U ∧ va_D (fun _ => True) [eO h0 3 [.ref qo, .int op, .int lp, .int fa, .ref jp], eO jp 2 [.ref pb, .ref pn, .int ps], eI pb kpb 80 fpb, eI pn kpn 80 fpn])) (va_Qi (fun (r : Int32) (_ : Unit) => 0 ≤ r.toInt ∧ r.toInt ≤ 90) (fun (_ : Unit) (t : State) => ∃ (fa' : Int32), ∃ (fpn' : Nat → Int32), (∀ k : Nat, 0 ≤ (fpn' k).toInt ∧ (fpn' k).toInt ≤ 80) ∧ va_P (dC, dI) vwCl [eO h0 3 [.ref qo, .int op, .int lp, .int fa', .ref jp], eO jp 2 [.ref pb, .ref pn, .int ps], eI pb kpb 80 fpb, eI pn kpn 80 (fpn')] t.heap ∧ va_K (dC, dI) vwCl [(kpb, .int), (kpn, .int)] t ∧ va_D (va_A [eO h0 3 [.ref qo, .int op, .int lp, .int fa, .ref jp], eO jp 2 [.ref pb, .ref pn, .int ps], eI pb kpb 80 fpb, eI pn kpn 80 fpn] sz) [eO h0 3 [.ref qo, .int op, .int lp, .int fa', .ref jp], eO jp 2 [.ref pb, .ref pn, .int ps], eI pb kpb 80 fpb, eI pn kpn 80 (fpn')]) (va_A [eO h0 3 [.ref qo, .int op, .int lp, .int fa, .ref jp], eO jp 2 [.ref pb, .ref pn, .int ps], eI pb kpb 80 fpb, eI pn kpn 80 fpn] sz)) 0 0 (va_A [eO h0 3 [.ref qo, .int op, .int lp, .int fa, .ref jp], eO jp 2 [.ref pb, .ref pn, .int ps], eI pb kpb 80 fpb, eI pn kpn 80 fpn] sz) := by
  refine Met.ofW (cc := cX4_payment) (maxL := 4) (ret := (some .int)) (by decide) rfl ?_
  intro p e s m args below meth c s₁ B hml hv
  obtain ⟨rfl, hsz, hP, hK, hD0⟩ := hv
  have hx := B.exec
  have hb := B.bytes
  have hr := B.returns
  have hts := atoms_spec (ws := wsX4_payment) B.pre
  have hown : s.vm.findClass RX4 = some m.cls := findClass_of_methodNamed B.named
  have hlocks := B.notSynchronized
  subst hsz
  have hD := hD0.self (sz := s.heap.size)
  generalize hAe : va_A [eO h0 3 [.ref qo, .int op, .int lp, .int fa, .ref jp], eO jp 2 [.ref pb, .ref pn, .int ps], eI pb kpb 80 fpb, eI pn kpn 80 fpn] s.heap.size = A at hD ⊢
  have hA : ∀ q : Nat, s.heap.size ≤ q → A q := fun q h => by rw [← hAe]; exact Or.inr h
  have hS : va_S A s.heap s.heap [] := va_S.rf
  have hP : va_P (dC, dI) vwCl [eO h0 3 [.ref qo, .int op, .int lp, .int fa, .ref jp], eO jp 2 [.ref pb, .ref pn, .int ps], eI pb kpb 80 fpb, eI pn kpn 80 fpn] s.heap := hP
  have hl := lv_entry ([.ref h0, .int p0]) (n := 4) (Nat.le_of_ble_eq_true rfl)
  rw [lg_entry_eq]
  generalize (lg_sl ([.ref h0, .int p0]) ++ List.replicate (4 - (lg_sl ([.ref h0, .int p0])).length) Slot.unset).toArray = ls at hl ⊢
  have hl : lv_has ls 4 [(0, .ref h0), (1, .int p0)] := hl
  suffices key9 : ∀ Q9 : State → Prop, Q9 = (MQ below (va_Qi (fun (r : Int32) (_ : Unit) => 0 ≤ r.toInt ∧ r.toInt ≤ 90) (fun (_ : Unit) (t : State) => ∃ (fa' : Int32), ∃ (fpn' : Nat → Int32), (∀ k : Nat, 0 ≤ (fpn' k).toInt ∧ (fpn' k).toInt ≤ 80) ∧ va_P (dC, dI) vwCl [eO h0 3 [.ref qo, .int op, .int lp, .int fa', .ref jp], eO jp 2 [.ref pb, .ref pn, .int ps], eI pb kpb 80 fpb, eI pn kpn 80 (fpn')] t.heap ∧ va_K (dC, dI) vwCl [(kpb, .int), (kpn, .int)] t ∧ va_D A [eO h0 3 [.ref qo, .int op, .int lp, .int fa', .ref jp], eO jp 2 [.ref pb, .ref pn, .int ps], eI pb kpb 80 fpb, eI pn kpn 80 (fpn')]) A) (([.ref h0, .int p0] : List Value).toArray) s 0 0 A) → W p l e ({ frames := 2, cells := 0, slots := 0, locals := 44 }) s m (([.ref h0, .int p0] : List Value).toArray) below meth c s.heap [] 0 0 Q9 (F0 m 0 ls []) from key9 _ rfl
  intro Q9 hQ9
  have k_1 : (1 : Int32).toInt = 1 := by decide
  have k_3 : (3 : Int32).toInt = 3 := by decide
  have k_4 : (4 : Int32).toInt = 4 := by decide
  have k_48 : (48 : Int32).toInt = 48 := by decide
  have k_55 : (55 : Int32).toInt = 55 := by decide
  have k_57 : (57 : Int32).toInt = 57 := by decide
  refine lv_iload_n hx hb dX4_payment_0 rfl (lv_at hl 1 rfl) ?_
  refine lv_iconst (v := 3) hx hb dX4_payment_1 (by decide) ?_
  refine lv_iadd hx hb dX4_payment_2 ?_
  refine lv_topi (fun z1 e_z1 => ?_)
  have t_z1 := i_add e_z1 (by omega) (by omega)
  refine lv_istore_n (lv' := [(2, .int z1), (0, .ref h0), (1, .int p0)]) hx hb dX4_payment_3 rfl hl (by decide) rfl (fun ls hl => ?_)
  refine lv_iload_n hx hb dX4_payment_4 rfl (lv_at hl 2 rfl) ?_
  refine lv_iconst (v := 1) hx hb dX4_payment_5 (by decide) ?_
  refine lv_iadd hx hb dX4_payment_6 ?_
  refine lv_topi (fun z2 e_z2 => ?_)
  have t_z2 := i_add e_z2 (by omega) (by omega)
  refine lv_istore_n (lv' := [(3, .int z2), (2, .int z1), (0, .ref h0), (1, .int p0)]) hx hb dX4_payment_7 rfl hl (by decide) rfl (fun ls hl => ?_)
  have loop_8 : ∀ (n : Nat) (x : Int32), (p0.toInt + 1 ≤ x.toInt) → (x.toInt ≤ p0.toInt + 3) → (p0.toInt + 3 - x.toInt) < (n : Int) → ∀ (H : Heap) (locs : List Loc), va_K (dC, dI) vwCl [(kpb, .int), (kpn, .int)] s → va_P (dC, dI) vwCl [eO h0 3 [.ref qo, .int op, .int lp, .int fa, .ref jp], eO jp 2 [.ref pb, .ref pn, .int ps], eI pb kpb 80 fpb, eI pn kpn 80 fpn] H → va_D A [eO h0 3 [.ref qo, .int op, .int lp, .int fa, .ref jp], eO jp 2 [.ref pb, .ref pn, .int ps], eI pb kpb 80 fpb, eI pn kpn 80 fpn] → va_S A s.heap H locs → ∀ (ls : Array Slot), lv_has ls 4 [(3, .int x), (2, .int z1), (0, .ref h0), (1, .int p0)] → W p l e ({ frames := 2, cells := 0, slots := 0, locals := 44 }) s m (([.ref h0, .int p0] : List Value).toArray) below meth c H locs 0 0 Q9 (F0 m 8 ls []) := by
    intro n
    induction n with
    | zero => intro x i1 i2 hM_8; exfalso; omega
    | succ n ih_8 =>
      intro x i1 i2 hM_8 H locs hK hP hD hS ls hl
      refine lv_iload_n hx hb dX4_payment_8 rfl (lv_at hl 0 rfl) ?_
      refine lv_iload_n hx hb dX4_payment_9 rfl (lv_at hl 1 rfl) ?_
      refine lv_icmp_ge (tgt := 37) hx hb dX4_payment_10 (by decide) (fun c3 => ?_) (fun c3 => ?_)
      · skip
        have f_c3 := i_le c3
        refine lv_aload_n hx hb dX4_payment_37 rfl (lv_at hl 2 rfl) ?_
        refine lv_iload_n hx hb dX4_payment_38 rfl (lv_at hl 1 rfl) ?_
        refine lv_bipush (v := 48) hx hb dX4_payment_39 (by decide) ?_
        refine lv_bipush (v := 57) hx hb dX4_payment_41 (by decide) ?_
        obtain ⟨hPc, hDc, hFc, hCm, hNw⟩ := C_s (wc := [eO h0 3 [.ref qo, .int op, .int lp, .int fa, .ref jp], eO jp 2 [.ref pb, .ref pn, .int ps], eI pb kpb 80 fpb, eI pn kpn 80 fpn]) hP hD hS hA [(0, 4)] 4 rfl (by decide +kernel) rfl
        have hKc := K_s (tys' := [(kpb, .int), (kpn, .int)]) hK [(0, 2)] rfl
        refine va_calli (va_runV (As := [.int z1, .int 48, .int 57]) (rest := []) ⟨hx, hb, hml, hown, hts⟩ (c_X4_isFigure l dC dI h0 z1 48 57 qo op lp fa jp pb pn ps kpb fpb kpn fpn H.size hp1 hp2 (by first | assumption | omega)) (cwV 3 hts gX4_payment_X4_isFigure rfl rfl rfl (by decide +kernel) ⟨Nat.le_of_ble_eq_true rfl, Nat.le_of_ble_eq_true rfl⟩) ⟨fun a U g mk q => by obtain ⟨q0, q1, qP, qK, qD⟩ := q; exact ⟨q0, q1, qP, va_K.moved (u := U) (U := U.calling g mk a) (Vm.Alike.refl U.vm) qK, qD⟩, va_recv (s := s) (q := (RX4, TX4, 5)) hKc hPc (ci := 3) (q0 := 0) rfl rfl, fun U hU hW => ⟨rfl, by rw [hU], by rw [hU]; exact hPc, va_K.moved hW.alike hKc, hDc.weaken (fun _ _ _ _ => trivial)⟩⟩ rfl rfl hl.1 rfl (lv_room (Nat.le_of_ble_eq_true rfl)) dX4_payment_43 ⟨Nat.le_of_ble_eq_true rfl, Nat.le_of_ble_eq_true rfl⟩) hS (fun q _ h => hFc q h) hFc (fun r4 u t H1 locs ht hvm hw hB hz1 hk1 hS => ?_)
        obtain ⟨hP1, hK1, hD1⟩ := hB
        rw [ht] at hP1
        have hK1 := va_K.moved hvm.symm hK1
        try dsimp only at hw
        obtain ⟨hP, hD⟩ := J_s (wL := [eO h0 3 [.ref qo, .int op, .int lp, .int fa, .ref jp], eO jp 2 [.ref pb, .ref pn, .int ps], eI pb kpb 80 fpb, eI pn kpn 80 fpn]) hP hD [(0, 4)] [] hCm hNw (by decide +kernel) hk1 hFc hP1 hD1 rfl
        have hK := KJ_s (tys' := [(kpb, .int), (kpn, .int)]) hK hK1 [] rfl
        generalize H1 = H at hP hS ⊢
        rcases hw with ⟨e_r4, f_r4⟩ | ⟨e_r4, f_r4⟩
        · subst e_r4
          refine lv_if_ne (tgt := 55) hx hb dX4_payment_46 (by decide) (fun c5 => ?_) (fun c5 => absurd c5 (by decide))
          refine lv_iload_n hx hb dX4_payment_55 rfl (lv_at hl 1 rfl) ?_
          refine lv_iconst (v := 1) hx hb dX4_payment_56 (by decide) ?_
          refine lv_iadd hx hb dX4_payment_57 ?_
          refine lv_topi (fun z6 e_z6 => ?_)
          have t_z6 := i_add e_z6 (by omega) (by omega)
          refine lv_istore_n (lv' := [(3, .int z6), (2, .int z1), (0, .ref h0), (1, .int p0)]) hx hb dX4_payment_58 rfl hl (by decide) rfl (fun ls hl => ?_)
          have loop_59 : ∀ (n : Nat) (y : Int32), (0 ≤ y.toInt) → (y.toInt ≤ ps.toInt) → (y.toInt ≤ p0.toInt + 7) → (p0.toInt + 7 - y.toInt) < (n : Int) → ∀ (H : Heap) (locs : List Loc), va_K (dC, dI) vwCl [(kpb, .int), (kpn, .int)] s → va_P (dC, dI) vwCl [eO h0 3 [.ref qo, .int op, .int lp, .int fa, .ref jp], eO jp 2 [.ref pb, .ref pn, .int ps], eI pb kpb 80 fpb, eI pn kpn 80 fpn] H → va_D A [eO h0 3 [.ref qo, .int op, .int lp, .int fa, .ref jp], eO jp 2 [.ref pb, .ref pn, .int ps], eI pb kpb 80 fpb, eI pn kpn 80 fpn] → va_S A s.heap H locs → ∀ (ls : Array Slot), lv_has ls 4 [(3, .int y), (2, .int z1), (0, .ref h0), (1, .int p0)] → W p l e ({ frames := 2, cells := 0, slots := 0, locals := 44 }) s m (([.ref h0, .int p0] : List Value).toArray) below meth c H locs 0 0 Q9 (F0 m 59 ls []) := by
            intro n
            induction n with
            | zero => intro y j1 j2 j3 hM_59; exfalso; omega
            | succ n ih_59 =>
              intro y j1 j2 j3 hM_59 H locs hK hP hD hS ls hl
              refine lv_iload_n hx hb dX4_payment_59 rfl (lv_at hl 0 rfl) ?_
              refine lv_iload_n hx hb dX4_payment_60 rfl (lv_at hl 1 rfl) ?_
              refine lv_iconst (v := 4) hx hb dX4_payment_61 (by decide) ?_
              refine lv_iadd hx hb dX4_payment_62 ?_
              refine lv_topi (fun z7 e_z7 => ?_)
              have t_z7 := i_add e_z7 (by omega) (by omega)
              refine lv_icmp_ge (tgt := 84) hx hb dX4_payment_63 (by decide) (fun c8 => ?_) (fun c8 => ?_)
              · skip
                have f_c8 := i_le c8
                refine lv_aload_n hx hb dX4_payment_84 rfl (lv_at hl 2 rfl) ?_
                refine lv_iload_n hx hb dX4_payment_85 rfl (lv_at hl 3 rfl) ?_
                refine lv_iload_n hx hb dX4_payment_86 rfl (lv_at hl 0 rfl) ?_
                obtain ⟨hPc, hDc, hFc, hCm, hNw⟩ := C_s (wc := [eO h0 3 [.ref qo, .int op, .int lp, .int fa, .ref jp], eO jp 2 [.ref pb, .ref pn, .int ps], eI pb kpb 80 fpb, eI pn kpn 80 fpn]) hP hD hS hA [(0, 4)] 4 rfl (by decide +kernel) rfl
                have hKc := K_s (tys' := [(kpb, .int), (kpn, .int)]) hK [(0, 2)] rfl
                refine va_calli (va_runV (As := [.int p0, .int y]) (rest := []) ⟨hx, hb, hml, hown, hts⟩ (c_X4_ends l dC dI h0 p0 y qo op lp fa jp pb pn ps kpb fpb kpn fpn H.size h1 (by first | assumption | omega) (by first | assumption | omega) (by first | assumption | omega) hb0) (cwV 2 hts gX4_payment_X4_ends rfl rfl rfl (by decide +kernel) ⟨Nat.le_of_ble_eq_true rfl, Nat.le_of_ble_eq_true rfl⟩) ⟨fun a U g mk q => by obtain ⟨q0, q1, qP, qK, qD⟩ := q; exact ⟨q0, q1, qP, va_K.moved (u := U) (U := U.calling g mk a) (Vm.Alike.refl U.vm) qK, qD⟩, va_recv (s := s) (q := (RX4, TX4, 5)) hKc hPc (ci := 3) (q0 := 0) rfl rfl, fun U hU hW => ⟨rfl, by rw [hU], by rw [hU]; exact hPc, va_K.moved hW.alike hKc, hDc.weaken (fun _ _ _ _ => trivial)⟩⟩ rfl rfl hl.1 rfl (lv_room (Nat.le_of_ble_eq_true rfl)) dX4_payment_87 ⟨Nat.le_of_ble_eq_true rfl, Nat.le_of_ble_eq_true rfl⟩) hS (fun q _ h => hFc q h) hFc (fun r9 u t H1 locs ht hvm hw hB hz1 hk1 hS => ?_)
                obtain ⟨q10, xb_r9, hP1, hK1, hD1⟩ := hB
                rw [ht] at hP1
                have hK1 := va_K.moved hvm.symm hK1
                try dsimp only at hw
                obtain ⟨hP, hD⟩ := J_s (wL := [eO h0 3 [.ref qo, .int op, .int lp, .int fa, .ref jp], eO jp 2 [.ref pb, .ref pn, .int ps], eI pb kpb 80 fpb, eI pn kpn 80 q10]) hP hD [(0, 4)] [] hCm hNw (by decide +kernel) hk1 hFc hP1 hD1 rfl
                have hK := KJ_s (tys' := [(kpb, .int), (kpn, .int)]) hK hK1 [] rfl
                generalize H1 = H at hP hS ⊢
                have h_r9 := hw
                have t_r9 := i_eq hw
                rw [hQ9]
                exact W.iret (v := r9) hx hb hr (fun t ht hW => ⟨⟨r9, (), rfl, ⟨by omega, by omega⟩, fa, q10, xb_r9, by rw [ht]; exact hP, va_K.moved hW.alike hK, hD⟩, hS.F ht⟩) hS.2.2 dX4_payment_90
              · skip
                have f_c8 := i_nle c8
                refine lv_aload_n hx hb dX4_payment_66 rfl (lv_at hl 2 rfl) ?_
                refine lv_iload_n hx hb dX4_payment_67 rfl (lv_at hl 0 rfl) ?_
                refine lv_bipush (v := 48) hx hb dX4_payment_68 (by decide) ?_
                refine lv_bipush (v := 57) hx hb dX4_payment_70 (by decide) ?_
                obtain ⟨hPc, hDc, hFc, hCm, hNw⟩ := C_s (wc := [eO h0 3 [.ref qo, .int op, .int lp, .int fa, .ref jp], eO jp 2 [.ref pb, .ref pn, .int ps], eI pb kpb 80 fpb, eI pn kpn 80 fpn]) hP hD hS hA [(0, 4)] 4 rfl (by decide +kernel) rfl
                have hKc := K_s (tys' := [(kpb, .int), (kpn, .int)]) hK [(0, 2)] rfl
                refine va_calli (va_runV (As := [.int y, .int 48, .int 57]) (rest := []) ⟨hx, hb, hml, hown, hts⟩ (c_X4_isFigure l dC dI h0 y 48 57 qo op lp fa jp pb pn ps kpb fpb kpn fpn H.size hp1 hp2 (by first | assumption | omega)) (cwV 3 hts gX4_payment_X4_isFigure rfl rfl rfl (by decide +kernel) ⟨Nat.le_of_ble_eq_true rfl, Nat.le_of_ble_eq_true rfl⟩) ⟨fun a U g mk q => by obtain ⟨q0, q1, qP, qK, qD⟩ := q; exact ⟨q0, q1, qP, va_K.moved (u := U) (U := U.calling g mk a) (Vm.Alike.refl U.vm) qK, qD⟩, va_recv (s := s) (q := (RX4, TX4, 5)) hKc hPc (ci := 3) (q0 := 0) rfl rfl, fun U hU hW => ⟨rfl, by rw [hU], by rw [hU]; exact hPc, va_K.moved hW.alike hKc, hDc.weaken (fun _ _ _ _ => trivial)⟩⟩ rfl rfl hl.1 rfl (lv_room (Nat.le_of_ble_eq_true rfl)) dX4_payment_72 ⟨Nat.le_of_ble_eq_true rfl, Nat.le_of_ble_eq_true rfl⟩) hS (fun q _ h => hFc q h) hFc (fun r11 u t H1 locs ht hvm hw hB hz1 hk1 hS => ?_)
                obtain ⟨hP1, hK1, hD1⟩ := hB
                rw [ht] at hP1
                have hK1 := va_K.moved hvm.symm hK1
                try dsimp only at hw
                obtain ⟨hP, hD⟩ := J_s (wL := [eO h0 3 [.ref qo, .int op, .int lp, .int fa, .ref jp], eO jp 2 [.ref pb, .ref pn, .int ps], eI pb kpb 80 fpb, eI pn kpn 80 fpn]) hP hD [(0, 4)] [] hCm hNw (by decide +kernel) hk1 hFc hP1 hD1 rfl
                have hK := KJ_s (tys' := [(kpb, .int), (kpn, .int)]) hK hK1 [] rfl
                generalize H1 = H at hP hS ⊢
                rcases hw with ⟨e_r11, f_r11⟩ | ⟨e_r11, f_r11⟩
                · subst e_r11
                  refine lv_if_eq (tgt := 84) hx hb dX4_payment_75 (by decide) (fun c12 => absurd c12 (by decide)) (fun c12 => ?_)
                  obtain ⟨x13, e_x13⟩ : ∃ yy : Int32, yy = y + 1 := ⟨_, rfl⟩
                  refine lv_iinc (v := x13) (lv' := [(3, .int x13), (2, .int z1), (0, .ref h0), (1, .int p0)]) hx hb dX4_payment_78 hl (k := 0) rfl (by rw [e_x13]; rfl) (by decide) rfl (fun ls hl => ?_)
                  have t_x13 := i_add e_x13 (by omega) (by omega)
                  refine lv_goto (tgt := 59) hx hb dX4_payment_81 (by decide) ?_
                  exact ih_59 x13 (by first | assumption | omega) (by first | assumption | omega) (by first | assumption | omega) (by omega) _ _ (K_s hK [(0, 2)] rfl) (P_s hP [(0, 4)] rfl) (D_s hD [(0, 4)] 4 rfl (by decide +kernel) rfl) hS ls (lv_sub hl [0, 1, 2, 3] rfl)
                · subst e_r11
                  refine lv_if_eq (tgt := 84) hx hb dX4_payment_75 (by decide) (fun c14 => ?_) (fun c14 => absurd (by decide) c14)
                  refine lv_aload_n hx hb dX4_payment_84 rfl (lv_at hl 2 rfl) ?_
                  refine lv_iload_n hx hb dX4_payment_85 rfl (lv_at hl 3 rfl) ?_
                  refine lv_iload_n hx hb dX4_payment_86 rfl (lv_at hl 0 rfl) ?_
                  obtain ⟨hPc, hDc, hFc, hCm, hNw⟩ := C_s (wc := [eO h0 3 [.ref qo, .int op, .int lp, .int fa, .ref jp], eO jp 2 [.ref pb, .ref pn, .int ps], eI pb kpb 80 fpb, eI pn kpn 80 fpn]) hP hD hS hA [(0, 4)] 4 rfl (by decide +kernel) rfl
                  have hKc := K_s (tys' := [(kpb, .int), (kpn, .int)]) hK [(0, 2)] rfl
                  refine va_calli (va_runV (As := [.int p0, .int y]) (rest := []) ⟨hx, hb, hml, hown, hts⟩ (c_X4_ends l dC dI h0 p0 y qo op lp fa jp pb pn ps kpb fpb kpn fpn H.size h1 (by first | assumption | omega) (by first | assumption | omega) (by first | assumption | omega) hb0) (cwV 2 hts gX4_payment_X4_ends rfl rfl rfl (by decide +kernel) ⟨Nat.le_of_ble_eq_true rfl, Nat.le_of_ble_eq_true rfl⟩) ⟨fun a U g mk q => by obtain ⟨q0, q1, qP, qK, qD⟩ := q; exact ⟨q0, q1, qP, va_K.moved (u := U) (U := U.calling g mk a) (Vm.Alike.refl U.vm) qK, qD⟩, va_recv (s := s) (q := (RX4, TX4, 5)) hKc hPc (ci := 3) (q0 := 0) rfl rfl, fun U hU hW => ⟨rfl, by rw [hU], by rw [hU]; exact hPc, va_K.moved hW.alike hKc, hDc.weaken (fun _ _ _ _ => trivial)⟩⟩ rfl rfl hl.1 rfl (lv_room (Nat.le_of_ble_eq_true rfl)) dX4_payment_87 ⟨Nat.le_of_ble_eq_true rfl, Nat.le_of_ble_eq_true rfl⟩) hS (fun q _ h => hFc q h) hFc (fun r15 u t H1 locs ht hvm hw hB hz1 hk1 hS => ?_)
                  obtain ⟨q16, xb_r15, hP1, hK1, hD1⟩ := hB
                  rw [ht] at hP1
                  have hK1 := va_K.moved hvm.symm hK1
                  try dsimp only at hw
                  obtain ⟨hP, hD⟩ := J_s (wL := [eO h0 3 [.ref qo, .int op, .int lp, .int fa, .ref jp], eO jp 2 [.ref pb, .ref pn, .int ps], eI pb kpb 80 fpb, eI pn kpn 80 q16]) hP hD [(0, 4)] [] hCm hNw (by decide +kernel) hk1 hFc hP1 hD1 rfl
                  have hK := KJ_s (tys' := [(kpb, .int), (kpn, .int)]) hK hK1 [] rfl
                  generalize H1 = H at hP hS ⊢
                  have h_r15 := hw
                  have t_r15 := i_eq hw
                  rw [hQ9]
                  exact W.iret (v := r15) hx hb hr (fun t ht hW => ⟨⟨r15, (), rfl, ⟨by omega, by omega⟩, fa, q16, xb_r15, by rw [ht]; exact hP, va_K.moved hW.alike hK, hD⟩, hS.F ht⟩) hS.2.2 dX4_payment_90
          exact loop_59 (1000) z6 (by first | assumption | omega) (by first | assumption | omega) (by first | assumption | omega) (by omega) _ _ hK hP hD hS ls (lv_sub hl [0, 1, 2, 3] rfl)
        · subst e_r4
          refine lv_if_ne (tgt := 55) hx hb dX4_payment_46 (by decide) (fun c17 => absurd (by decide) c17) (fun c17 => ?_)
          refine lv_aload_n hx hb dX4_payment_49 rfl (lv_at hl 2 rfl) ?_
          refine lv_iload_n hx hb dX4_payment_50 rfl (lv_at hl 1 rfl) ?_
          obtain ⟨hPc, hDc, hFc, hCm, hNw⟩ := C_s (wc := [eO h0 3 [.ref qo, .int op, .int lp, .int fa, .ref jp]]) hP hD hS hA [(0, 1)] 4 rfl (by decide +kernel) rfl
          have hKc := K_s (tys' := []) hK [] rfl
          refine va_calli (va_runV (As := [.int z1]) (rest := []) ⟨hx, hb, hml, hown, hts⟩ (c_X4_faultAt l dC dI h0 z1 qo op lp fa jp H.size (by first | assumption | omega) (by first | assumption | omega)) (cwV 1 hts gX4_payment_X4_faultAt rfl rfl rfl (by decide +kernel) ⟨Nat.le_of_ble_eq_true rfl, Nat.le_of_ble_eq_true rfl⟩) ⟨fun a U g mk q => by obtain ⟨q0, q1, qP, qK, qD⟩ := q; exact ⟨q0, q1, qP, va_K.moved (u := U) (U := U.calling g mk a) (Vm.Alike.refl U.vm) qK, qD⟩, va_recv (s := s) (q := (RX4, TX4, 5)) hKc hPc (ci := 3) (q0 := 0) rfl rfl, fun U hU hW => ⟨rfl, by rw [hU], by rw [hU]; exact hPc, va_K.moved hW.alike hKc, hDc.weaken (fun _ _ _ _ => trivial)⟩⟩ rfl rfl hl.1 rfl (lv_room (Nat.le_of_ble_eq_true rfl)) dX4_payment_51 ⟨Nat.le_of_ble_eq_true rfl, Nat.le_of_ble_eq_true rfl⟩) hS (fun q _ h => hFc q h) hFc (fun r18 u t H1 locs ht hvm hw hB hz1 hk1 hS => ?_)
          obtain ⟨hP1, hK1, hD1⟩ := hB
          rw [ht] at hP1
          have hK1 := va_K.moved hvm.symm hK1
          try dsimp only at hw
          obtain ⟨hP, hD⟩ := J_s (wL := [eO jp 2 [.ref pb, .ref pn, .int ps], eI pb kpb 80 fpb, eI pn kpn 80 fpn, eO h0 3 [.ref qo, .int op, .int lp, .int z1, .ref jp]]) hP hD [(0, 1)] [(1, 3)] hCm hNw (by decide +kernel) hk1 hFc hP1 hD1 rfl
          have hK := KJ_s (tys' := [(kpb, .int), (kpn, .int)]) hK hK1 [(0, 2)] rfl
          generalize H1 = H at hP hS ⊢
          have h_r18 := hw
          rw [hQ9]
          exact W.iret (v := r18) hx hb hr (fun t ht hW => ⟨⟨r18, (), rfl, ⟨by omega, by omega⟩, z1, fpn, hb0, by rw [ht]; exact P_s hP [(3, 1), (0, 3)] rfl, va_K.moved hW.alike hK, D_s hD [(3, 1), (0, 3)] 4 rfl (by decide +kernel) rfl⟩, hS.F ht⟩) hS.2.2 dX4_payment_54
      · skip
        have f_c3 := i_nle c3
        refine lv_aload_n hx hb dX4_payment_13 rfl (lv_at hl 2 rfl) ?_
        refine lv_iload_n hx hb dX4_payment_14 rfl (lv_at hl 0 rfl) ?_
        refine lv_bipush (v := 48) hx hb dX4_payment_15 (by decide) ?_
        refine lv_bipush (v := 55) hx hb dX4_payment_17 (by decide) ?_
        obtain ⟨hPc, hDc, hFc, hCm, hNw⟩ := C_s (wc := [eO h0 3 [.ref qo, .int op, .int lp, .int fa, .ref jp], eO jp 2 [.ref pb, .ref pn, .int ps], eI pb kpb 80 fpb, eI pn kpn 80 fpn]) hP hD hS hA [(0, 4)] 4 rfl (by decide +kernel) rfl
        have hKc := K_s (tys' := [(kpb, .int), (kpn, .int)]) hK [(0, 2)] rfl
        refine va_calli (va_runV (As := [.int x, .int 48, .int 55]) (rest := []) ⟨hx, hb, hml, hown, hts⟩ (c_X4_isFigure l dC dI h0 x 48 55 qo op lp fa jp pb pn ps kpb fpb kpn fpn H.size hp1 hp2 (by first | assumption | omega)) (cwV 3 hts gX4_payment_X4_isFigure rfl rfl rfl (by decide +kernel) ⟨Nat.le_of_ble_eq_true rfl, Nat.le_of_ble_eq_true rfl⟩) ⟨fun a U g mk q => by obtain ⟨q0, q1, qP, qK, qD⟩ := q; exact ⟨q0, q1, qP, va_K.moved (u := U) (U := U.calling g mk a) (Vm.Alike.refl U.vm) qK, qD⟩, va_recv (s := s) (q := (RX4, TX4, 5)) hKc hPc (ci := 3) (q0 := 0) rfl rfl, fun U hU hW => ⟨rfl, by rw [hU], by rw [hU]; exact hPc, va_K.moved hW.alike hKc, hDc.weaken (fun _ _ _ _ => trivial)⟩⟩ rfl rfl hl.1 rfl (lv_room (Nat.le_of_ble_eq_true rfl)) dX4_payment_19 ⟨Nat.le_of_ble_eq_true rfl, Nat.le_of_ble_eq_true rfl⟩) hS (fun q _ h => hFc q h) hFc (fun r19 u t H1 locs ht hvm hw hB hz1 hk1 hS => ?_)
        obtain ⟨hP1, hK1, hD1⟩ := hB
        rw [ht] at hP1
        have hK1 := va_K.moved hvm.symm hK1
        try dsimp only at hw
        obtain ⟨hP, hD⟩ := J_s (wL := [eO h0 3 [.ref qo, .int op, .int lp, .int fa, .ref jp], eO jp 2 [.ref pb, .ref pn, .int ps], eI pb kpb 80 fpb, eI pn kpn 80 fpn]) hP hD [(0, 4)] [] hCm hNw (by decide +kernel) hk1 hFc hP1 hD1 rfl
        have hK := KJ_s (tys' := [(kpb, .int), (kpn, .int)]) hK hK1 [] rfl
        generalize H1 = H at hP hS ⊢
        rcases hw with ⟨e_r19, f_r19⟩ | ⟨e_r19, f_r19⟩
        · subst e_r19
          refine lv_if_ne (tgt := 31) hx hb dX4_payment_22 (by decide) (fun c20 => ?_) (fun c20 => absurd c20 (by decide))
          obtain ⟨x21, e_x21⟩ : ∃ yy : Int32, yy = x + 1 := ⟨_, rfl⟩
          refine lv_iinc (v := x21) (lv' := [(3, .int x21), (2, .int z1), (0, .ref h0), (1, .int p0)]) hx hb dX4_payment_31 hl (k := 0) rfl (by rw [e_x21]; rfl) (by decide) rfl (fun ls hl => ?_)
          have t_x21 := i_add e_x21 (by omega) (by omega)
          refine lv_goto (tgt := 8) hx hb dX4_payment_34 (by decide) ?_
          exact ih_8 x21 (by first | assumption | omega) (by first | assumption | omega) (by omega) _ _ (K_s hK [(0, 2)] rfl) (P_s hP [(0, 4)] rfl) (D_s hD [(0, 4)] 4 rfl (by decide +kernel) rfl) hS ls (lv_sub hl [0, 1, 2, 3] rfl)
        · subst e_r19
          refine lv_if_ne (tgt := 31) hx hb dX4_payment_22 (by decide) (fun c22 => absurd (by decide) c22) (fun c22 => ?_)
          refine lv_aload_n hx hb dX4_payment_25 rfl (lv_at hl 2 rfl) ?_
          refine lv_iload_n hx hb dX4_payment_26 rfl (lv_at hl 0 rfl) ?_
          obtain ⟨hPc, hDc, hFc, hCm, hNw⟩ := C_s (wc := [eO h0 3 [.ref qo, .int op, .int lp, .int fa, .ref jp]]) hP hD hS hA [(0, 1)] 4 rfl (by decide +kernel) rfl
          have hKc := K_s (tys' := []) hK [] rfl
          refine va_calli (va_runV (As := [.int x]) (rest := []) ⟨hx, hb, hml, hown, hts⟩ (c_X4_faultAt l dC dI h0 x qo op lp fa jp H.size (by first | assumption | omega) (by first | assumption | omega)) (cwV 1 hts gX4_payment_X4_faultAt rfl rfl rfl (by decide +kernel) ⟨Nat.le_of_ble_eq_true rfl, Nat.le_of_ble_eq_true rfl⟩) ⟨fun a U g mk q => by obtain ⟨q0, q1, qP, qK, qD⟩ := q; exact ⟨q0, q1, qP, va_K.moved (u := U) (U := U.calling g mk a) (Vm.Alike.refl U.vm) qK, qD⟩, va_recv (s := s) (q := (RX4, TX4, 5)) hKc hPc (ci := 3) (q0 := 0) rfl rfl, fun U hU hW => ⟨rfl, by rw [hU], by rw [hU]; exact hPc, va_K.moved hW.alike hKc, hDc.weaken (fun _ _ _ _ => trivial)⟩⟩ rfl rfl hl.1 rfl (lv_room (Nat.le_of_ble_eq_true rfl)) dX4_payment_27 ⟨Nat.le_of_ble_eq_true rfl, Nat.le_of_ble_eq_true rfl⟩) hS (fun q _ h => hFc q h) hFc (fun r23 u t H1 locs ht hvm hw hB hz1 hk1 hS => ?_)
          obtain ⟨hP1, hK1, hD1⟩ := hB
          rw [ht] at hP1
          have hK1 := va_K.moved hvm.symm hK1
          try dsimp only at hw
          obtain ⟨hP, hD⟩ := J_s (wL := [eO jp 2 [.ref pb, .ref pn, .int ps], eI pb kpb 80 fpb, eI pn kpn 80 fpn, eO h0 3 [.ref qo, .int op, .int lp, .int x, .ref jp]]) hP hD [(0, 1)] [(1, 3)] hCm hNw (by decide +kernel) hk1 hFc hP1 hD1 rfl
          have hK := KJ_s (tys' := [(kpb, .int), (kpn, .int)]) hK hK1 [(0, 2)] rfl
          generalize H1 = H at hP hS ⊢
          have h_r23 := hw
          rw [hQ9]
          exact W.iret (v := r23) hx hb hr (fun t ht hW => ⟨⟨r23, (), rfl, ⟨by omega, by omega⟩, x, fpn, hb0, by rw [ht]; exact P_s hP [(3, 1), (0, 3)] rfl, va_K.moved hW.alike hK, D_s hD [(3, 1), (0, 3)] 4 rfl (by decide +kernel) rfl⟩, hS.F ht⟩) hS.2.2 dX4_payment_30
  exact loop_8 (1000) z2 (by first | assumption | omega) (by first | assumption | omega) (by omega) _ _ hK hP hD hS ls (lv_sub hl [0, 1, 2, 3] rfl)

set_option maxRecDepth 100000 in
set_option maxHeartbeats 4000000 in
/-- Reader.openingWithFigure -/
theorem c_X4_openingWithFigure (l : Launch) (dC : Nat → ClassId) (dI : Nat → Nat → Nat) (h0 : Nat) (p0 : Int32) (p1 : Int32) (p2 : Int32) (qo : Nat) (op : Int32) (lp : Int32) (fa : Int32) (jp : Nat) (ko : ClassId) (fo : Nat → Int32) (pb : Nat) (pn : Nat) (ps : Int32) (kpb : ClassId) (fpb : Nat → Int32) (kpn : ClassId) (fpn : Nat → Int32) (sz : Nat) (hp1 : 0 ≤ ps.toInt) (hp2 : ps.toInt ≤ 80) (h1 : 0 ≤ p0.toInt) (h2 : p0.toInt < ps.toInt) (ho1 : 0 ≤ op.toInt) (ho2 : op.toInt ≤ 8) (ho3 : ∀ k : Nat, (k : Int) < op.toInt → 0 ≤ (fo k).toInt ∧ (fo k).toInt < 80) (h3 : 0 ≤ p1.toInt) : Met l yX4_openingWithFigure wsX4_openingWithFigure ({ frames := 2, cells := 0, slots := 0, locals := 44 }) (va_Pc [.ref h0, .int p0, .int p1, .int p2] (fun U => U.heap.size = sz ∧ va_P (dC, dI) vwCl [eO h0 3 [.ref qo, .int op, .int lp, .int fa, .ref jp], eI qo ko 8 fo, eO jp 2 [.ref pb, .ref pn, .int ps], eI pb kpb 80 fpb, eI pn kpn 80 fpn] U.heap ∧ va_K (dC, dI) vwCl [(ko, .int), (kpb, .int), (kpn, .int)] U ∧ va_D (fun _ => True) [eO h0 3 [.ref qo, .int op, .int lp, .int fa, .ref jp], eI qo ko 8 fo, eO jp 2 [.ref pb, .ref pn, .int ps], eI pb kpb 80 fpb, eI pn kpn 80 fpn])) (va_Qi (fun (r : Int32) (_ : Unit) => 0 ≤ r.toInt ∧ r.toInt ≤ 90) (fun (_ : Unit) (t : State) => ∃ (fo' : Nat → Int32), ∃ (op' : Int32), ∃ (lp' : Int32), ∃ (fa' : Int32), (0 ≤ op'.toInt) ∧ (op'.toInt ≤ 8) ∧ (∀ k : Nat, (k : Int) < op'.toInt → 0 ≤ (fo' k).toInt ∧ (fo' k).toInt < 80) ∧ va_P (dC, dI) vwCl [eO h0 3 [.ref qo, .int op', .int lp', .int fa', .ref jp], eI qo ko 8 (fo'), eO jp 2 [.ref pb, .ref pn, .int ps], eI pb kpb 80 fpb, eI pn kpn 80 fpn] t.heap ∧ va_K (dC, dI) vwCl [(ko, .int), (kpb, .int), (kpn, .int)] t ∧ va_D (va_A [eO h0 3 [.ref qo, .int op, .int lp, .int fa, .ref jp], eI qo ko 8 fo, eO jp 2 [.ref pb, .ref pn, .int ps], eI pb kpb 80 fpb, eI pn kpn 80 fpn] sz) [eO h0 3 [.ref qo, .int op', .int lp', .int fa', .ref jp], eI qo ko 8 (fo'), eO jp 2 [.ref pb, .ref pn, .int ps], eI pb kpb 80 fpb, eI pn kpn 80 fpn]) (va_A [eO h0 3 [.ref qo, .int op, .int lp, .int fa, .ref jp], eI qo ko 8 fo, eO jp 2 [.ref pb, .ref pn, .int ps], eI pb kpb 80 fpb, eI pn kpn 80 fpn] sz)) 0 0 (va_A [eO h0 3 [.ref qo, .int op, .int lp, .int fa, .ref jp], eI qo ko 8 fo, eO jp 2 [.ref pb, .ref pn, .int ps], eI pb kpb 80 fpb, eI pn kpn 80 fpn] sz) := by
  refine Met.ofW (cc := cX4_openingWithFigure) (maxL := 5) (ret := (some .int)) (by decide) rfl ?_
  intro p e s m args below meth c s₁ B hml hv
  obtain ⟨rfl, hsz, hP, hK, hD0⟩ := hv
  have hx := B.exec
  have hb := B.bytes
  have hr := B.returns
  have hts := atoms_spec (ws := wsX4_openingWithFigure) B.pre
  have hown : s.vm.findClass RX4 = some m.cls := findClass_of_methodNamed B.named
  have hlocks := B.notSynchronized
  subst hsz
  have hD := hD0.self (sz := s.heap.size)
  generalize hAe : va_A [eO h0 3 [.ref qo, .int op, .int lp, .int fa, .ref jp], eI qo ko 8 fo, eO jp 2 [.ref pb, .ref pn, .int ps], eI pb kpb 80 fpb, eI pn kpn 80 fpn] s.heap.size = A at hD ⊢
  have hA : ∀ q : Nat, s.heap.size ≤ q → A q := fun q h => by rw [← hAe]; exact Or.inr h
  have hS : va_S A s.heap s.heap [] := va_S.rf
  have hP : va_P (dC, dI) vwCl [eO h0 3 [.ref qo, .int op, .int lp, .int fa, .ref jp], eI qo ko 8 fo, eO jp 2 [.ref pb, .ref pn, .int ps], eI pb kpb 80 fpb, eI pn kpn 80 fpn] s.heap := hP
  have hl := lv_entry ([.ref h0, .int p0, .int p1, .int p2]) (n := 5) (Nat.le_of_ble_eq_true rfl)
  rw [lg_entry_eq]
  generalize (lg_sl ([.ref h0, .int p0, .int p1, .int p2]) ++ List.replicate (5 - (lg_sl ([.ref h0, .int p0, .int p1, .int p2])).length) Slot.unset).toArray = ls at hl ⊢
  have hl : lv_has ls 5 [(0, .ref h0), (1, .int p0), (2, .int p1), (3, .int p2)] := hl
  suffices key9 : ∀ Q9 : State → Prop, Q9 = (MQ below (va_Qi (fun (r : Int32) (_ : Unit) => 0 ≤ r.toInt ∧ r.toInt ≤ 90) (fun (_ : Unit) (t : State) => ∃ (fo' : Nat → Int32), ∃ (op' : Int32), ∃ (lp' : Int32), ∃ (fa' : Int32), (0 ≤ op'.toInt) ∧ (op'.toInt ≤ 8) ∧ (∀ k : Nat, (k : Int) < op'.toInt → 0 ≤ (fo' k).toInt ∧ (fo' k).toInt < 80) ∧ va_P (dC, dI) vwCl [eO h0 3 [.ref qo, .int op', .int lp', .int fa', .ref jp], eI qo ko 8 (fo'), eO jp 2 [.ref pb, .ref pn, .int ps], eI pb kpb 80 fpb, eI pn kpn 80 fpn] t.heap ∧ va_K (dC, dI) vwCl [(ko, .int), (kpb, .int), (kpn, .int)] t ∧ va_D A [eO h0 3 [.ref qo, .int op', .int lp', .int fa', .ref jp], eI qo ko 8 (fo'), eO jp 2 [.ref pb, .ref pn, .int ps], eI pb kpb 80 fpb, eI pn kpn 80 fpn]) A) (([.ref h0, .int p0, .int p1, .int p2] : List Value).toArray) s 0 0 A) → W p l e ({ frames := 2, cells := 0, slots := 0, locals := 44 }) s m (([.ref h0, .int p0, .int p1, .int p2] : List Value).toArray) below meth c s.heap [] 0 0 Q9 (F0 m 0 ls []) from key9 _ rfl
  intro Q9 hQ9
  have k_m1 : ((-1) : Int32).toInt = (-1) := by decide
  have k_1 : (1 : Int32).toInt = 1 := by decide
  refine lv_aload_n hx hb dX4_openingWithFigure_0 rfl (lv_at hl 0 rfl) ?_
  refine lv_iload_n hx hb dX4_openingWithFigure_1 rfl (lv_at hl 1 rfl) ?_
  obtain ⟨hPc, hDc, hFc, hCm, hNw⟩ := C_s (wc := [eO h0 3 [.ref qo, .int op, .int lp, .int fa, .ref jp], eI qo ko 8 fo, eO jp 2 [.ref pb, .ref pn, .int ps], eI pb kpb 80 fpb, eI pn kpn 80 fpn]) hP hD hS hA [(0, 5)] 5 rfl (by decide +kernel) rfl
  have hKc := K_s (tys' := [(ko, .int), (kpb, .int), (kpn, .int)]) hK [(0, 3)] rfl
  refine va_calli (va_runV (As := [.int p0]) (rest := []) ⟨hx, hb, hml, hown, hts⟩ (c_X4_opening l dC dI h0 p0 qo op lp fa jp ko fo pb pn ps kpb fpb kpn fpn s.heap.size hp1 hp2 h1 h2 ho1 ho2 ho3) (cwV 1 hts gX4_openingWithFigure_X4_opening rfl rfl rfl (by decide +kernel) ⟨Nat.le_of_ble_eq_true rfl, Nat.le_of_ble_eq_true rfl⟩) ⟨fun a U g mk q => by obtain ⟨q0, q1, qP, qK, qD⟩ := q; exact ⟨q0, q1, qP, va_K.moved (u := U) (U := U.calling g mk a) (Vm.Alike.refl U.vm) qK, qD⟩, va_recv (s := s) (q := (RX4, TX4, 5)) hKc hPc (ci := 3) (q0 := 0) rfl rfl, fun U hU hW => ⟨rfl, by rw [hU], by rw [hU]; exact hPc, va_K.moved hW.alike hKc, hDc.weaken (fun _ _ _ _ => trivial)⟩⟩ rfl rfl hl.1 rfl (lv_room (Nat.le_of_ble_eq_true rfl)) dX4_openingWithFigure_2 ⟨Nat.le_of_ble_eq_true rfl, Nat.le_of_ble_eq_true rfl⟩) hS (fun q _ h => hFc q h) hFc (fun r1 u t H1 locs ht hvm hw hB hz1 hk1 hS => ?_)
  obtain ⟨q2, q3, q4, q5, xo1_r1, xo2_r1, xo3_r1, hP1, hK1, hD1⟩ := hB
  rw [ht] at hP1
  have hK1 := va_K.moved hvm.symm hK1
  try dsimp only at hw
  obtain ⟨hP, hD⟩ := J_s (wL := [eO h0 3 [.ref qo, .int q3, .int q4, .int q5, .ref jp], eI qo ko 8 q2, eO jp 2 [.ref pb, .ref pn, .int ps], eI pb kpb 80 fpb, eI pn kpn 80 fpn]) hP hD [(0, 5)] [] hCm hNw (by decide +kernel) hk1 hFc hP1 hD1 rfl
  have hK := KJ_s (tys' := [(ko, .int), (kpb, .int), (kpn, .int)]) hK hK1 [] rfl
  generalize H1 = H at hP hS ⊢
  have h_r1 := hw
  refine lv_istore (lv' := [(4, .int r1), (0, .ref h0), (1, .int p0), (2, .int p1), (3, .int p2)]) hx hb dX4_openingWithFigure_5 hl (by decide) rfl (fun ls hl => ?_)
  refine lv_aload_n hx hb dX4_openingWithFigure_7 rfl (lv_at hl 1 rfl) ?_
  refine va_get (D := (dC, dI)) (ci := 3) (v := .int q5) (C := RX4) (T := TX4) (N := 5) hx hb hts (fun w h => List.mem_cons_of_mem _ (inlX4 w h)) hown hK hP 0 rfl rfl 3 (by decide) (hts (.fieldLink RX4 26 "ClearingGates$Reader" "fault" "I") (List.mem_cons_of_mem _ mw_176)) (fun _ h9 => h9) rfl dX4_openingWithFigure_8 ?_
  refine lv_iconst (v := -1) hx hb dX4_openingWithFigure_11 (by decide) ?_
  refine lv_icmp_ne (tgt := 33) hx hb dX4_openingWithFigure_12 (by decide) (fun c6 => ?_) (fun c6 => ?_)
  · skip
    have f_c6 := i_ne c6
    refine lv_iload hx hb dX4_openingWithFigure_33 (lv_at hl 0 rfl) ?_
    refine lv_iconst (v := 1) hx hb dX4_openingWithFigure_35 (by decide) ?_
    refine lv_iadd hx hb dX4_openingWithFigure_36 ?_
    refine lv_topi (fun z7 e_z7 => ?_)
    have t_z7 := i_add e_z7 (by omega) (by omega)
    rw [hQ9]
    exact W.iret (v := z7) hx hb hr (fun t ht hW => ⟨⟨z7, (), rfl, ⟨by omega, by omega⟩, q2, q3, q4, q5, xo1_r1, xo2_r1, xo3_r1, by rw [ht]; exact hP, va_K.moved hW.alike hK, hD⟩, hS.F ht⟩) hS.2.2 dX4_openingWithFigure_37
  · skip
    have f_c6 := i_eq c6
    refine lv_aload_n hx hb dX4_openingWithFigure_15 rfl (lv_at hl 1 rfl) ?_
    refine lv_iload hx hb dX4_openingWithFigure_16 (lv_at hl 0 rfl) ?_
    refine lv_iload_n hx hb dX4_openingWithFigure_18 rfl (lv_at hl 3 rfl) ?_
    refine lv_iload_n hx hb dX4_openingWithFigure_19 rfl (lv_at hl 4 rfl) ?_
    obtain ⟨hPc, hDc, hFc, hCm, hNw⟩ := C_s (wc := [eO h0 3 [.ref qo, .int q3, .int q4, .int q5, .ref jp], eO jp 2 [.ref pb, .ref pn, .int ps], eI pb kpb 80 fpb, eI pn kpn 80 fpn]) hP hD hS hA [(0, 1), (2, 3)] 5 rfl (by decide +kernel) rfl
    have hKc := K_s (tys' := [(kpb, .int), (kpn, .int)]) hK [(1, 2)] rfl
    refine va_calli (va_runV (As := [.int r1, .int p1, .int p2]) (rest := []) ⟨hx, hb, hml, hown, hts⟩ (c_X4_isFigure l dC dI h0 r1 p1 p2 qo q3 q4 q5 jp pb pn ps kpb fpb kpn fpn H.size hp1 hp2 h3) (cwV 3 hts gX4_openingWithFigure_X4_isFigure rfl rfl rfl (by decide +kernel) ⟨Nat.le_of_ble_eq_true rfl, Nat.le_of_ble_eq_true rfl⟩) ⟨fun a U g mk q => by obtain ⟨q0, q1, qP, qK, qD⟩ := q; exact ⟨q0, q1, qP, va_K.moved (u := U) (U := U.calling g mk a) (Vm.Alike.refl U.vm) qK, qD⟩, va_recv (s := s) (q := (RX4, TX4, 5)) hKc hPc (ci := 3) (q0 := 0) rfl rfl, fun U hU hW => ⟨rfl, by rw [hU], by rw [hU]; exact hPc, va_K.moved hW.alike hKc, hDc.weaken (fun _ _ _ _ => trivial)⟩⟩ rfl rfl hl.1 rfl (lv_room (Nat.le_of_ble_eq_true rfl)) dX4_openingWithFigure_20 ⟨Nat.le_of_ble_eq_true rfl, Nat.le_of_ble_eq_true rfl⟩) hS (fun q _ h => hFc q h) hFc (fun r8 u t H1 locs ht hvm hw hB hz1 hk1 hS => ?_)
    obtain ⟨hP1, hK1, hD1⟩ := hB
    rw [ht] at hP1
    have hK1 := va_K.moved hvm.symm hK1
    try dsimp only at hw
    obtain ⟨hP, hD⟩ := J_s (wL := [eI qo ko 8 q2, eO h0 3 [.ref qo, .int q3, .int q4, .int q5, .ref jp], eO jp 2 [.ref pb, .ref pn, .int ps], eI pb kpb 80 fpb, eI pn kpn 80 fpn]) hP hD [(0, 1), (2, 3)] [(1, 1)] hCm hNw (by decide +kernel) hk1 hFc hP1 hD1 rfl
    have hK := KJ_s (tys' := [(ko, .int), (kpb, .int), (kpn, .int)]) hK hK1 [(0, 1)] rfl
    generalize H1 = H at hP hS ⊢
    rcases hw with ⟨e_r8, f_r8⟩ | ⟨e_r8, f_r8⟩
    · subst e_r8
      refine lv_if_ne (tgt := 33) hx hb dX4_openingWithFigure_23 (by decide) (fun c9 => ?_) (fun c9 => absurd c9 (by decide))
      refine lv_iload hx hb dX4_openingWithFigure_33 (lv_at hl 0 rfl) ?_
      refine lv_iconst (v := 1) hx hb dX4_openingWithFigure_35 (by decide) ?_
      refine lv_iadd hx hb dX4_openingWithFigure_36 ?_
      refine lv_topi (fun z10 e_z10 => ?_)
      have t_z10 := i_add e_z10 (by omega) (by omega)
      rw [hQ9]
      exact W.iret (v := z10) hx hb hr (fun t ht hW => ⟨⟨z10, (), rfl, ⟨by omega, by omega⟩, q2, q3, q4, q5, xo1_r1, xo2_r1, xo3_r1, by rw [ht]; exact P_s hP [(1, 1), (0, 1), (2, 3)] rfl, va_K.moved hW.alike hK, D_s hD [(1, 1), (0, 1), (2, 3)] 5 rfl (by decide +kernel) rfl⟩, hS.F ht⟩) hS.2.2 dX4_openingWithFigure_37
    · subst e_r8
      refine lv_if_ne (tgt := 33) hx hb dX4_openingWithFigure_23 (by decide) (fun c11 => absurd (by decide) c11) (fun c11 => ?_)
      refine lv_aload_n hx hb dX4_openingWithFigure_26 rfl (lv_at hl 1 rfl) ?_
      refine lv_iload hx hb dX4_openingWithFigure_27 (lv_at hl 0 rfl) ?_
      obtain ⟨hPc, hDc, hFc, hCm, hNw⟩ := C_s (wc := [eO h0 3 [.ref qo, .int q3, .int q4, .int q5, .ref jp]]) hP hD hS hA [(1, 1)] 5 rfl (by decide +kernel) rfl
      have hKc := K_s (tys' := []) hK [] rfl
      refine va_calli (va_runV (As := [.int r1]) (rest := []) ⟨hx, hb, hml, hown, hts⟩ (c_X4_faultAt l dC dI h0 r1 qo q3 q4 q5 jp H.size (by first | assumption | omega) (by first | assumption | omega)) (cwV 1 hts gX4_openingWithFigure_X4_faultAt rfl rfl rfl (by decide +kernel) ⟨Nat.le_of_ble_eq_true rfl, Nat.le_of_ble_eq_true rfl⟩) ⟨fun a U g mk q => by obtain ⟨q0, q1, qP, qK, qD⟩ := q; exact ⟨q0, q1, qP, va_K.moved (u := U) (U := U.calling g mk a) (Vm.Alike.refl U.vm) qK, qD⟩, va_recv (s := s) (q := (RX4, TX4, 5)) hKc hPc (ci := 3) (q0 := 0) rfl rfl, fun U hU hW => ⟨rfl, by rw [hU], by rw [hU]; exact hPc, va_K.moved hW.alike hKc, hDc.weaken (fun _ _ _ _ => trivial)⟩⟩ rfl rfl hl.1 rfl (lv_room (Nat.le_of_ble_eq_true rfl)) dX4_openingWithFigure_29 ⟨Nat.le_of_ble_eq_true rfl, Nat.le_of_ble_eq_true rfl⟩) hS (fun q _ h => hFc q h) hFc (fun r12 u t H1 locs ht hvm hw hB hz1 hk1 hS => ?_)
      obtain ⟨hP1, hK1, hD1⟩ := hB
      rw [ht] at hP1
      have hK1 := va_K.moved hvm.symm hK1
      try dsimp only at hw
      obtain ⟨hP, hD⟩ := J_s (wL := [eI qo ko 8 q2, eO jp 2 [.ref pb, .ref pn, .int ps], eI pb kpb 80 fpb, eI pn kpn 80 fpn, eO h0 3 [.ref qo, .int q3, .int q4, .int r1, .ref jp]]) hP hD [(1, 1)] [(0, 1), (2, 3)] hCm hNw (by decide +kernel) hk1 hFc hP1 hD1 rfl
      have hK := KJ_s (tys' := [(ko, .int), (kpb, .int), (kpn, .int)]) hK hK1 [(0, 3)] rfl
      generalize H1 = H at hP hS ⊢
      have h_r12 := hw
      rw [hQ9]
      exact W.iret (v := r12) hx hb hr (fun t ht hW => ⟨⟨r12, (), rfl, ⟨by omega, by omega⟩, q2, q3, q4, r1, xo1_r1, xo2_r1, xo3_r1, by rw [ht]; exact P_s hP [(4, 1), (0, 4)] rfl, va_K.moved hW.alike hK, D_s hD [(4, 1), (0, 4)] 5 rfl (by decide +kernel) rfl⟩, hS.F ht⟩) hS.2.2 dX4_openingWithFigure_32
