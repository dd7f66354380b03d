set_option maxRecDepth 100000 in
set_option maxHeartbeats 4000000 in
/-- Reader.step -/
theorem c_X4_step (l : Launch) (dC : Nat → ClassId) (dI : Nat → Nat → Nat) (h0 : Nat) (p0 : Int32) (qo : Nat) (op : Int32) (lp : Int32) (fa : Int32) (jp : Nat) (ko : ClassId) (fo : Nat → Int32) (pb : Nat) (pn : Nat) (ps : Int32) (kpb : ClassId) (fpb : Nat → Int32) (kpn : ClassId) (fpn : Nat → Int32) (sz : Nat) (hp1 : 0 ≤ ps.toInt) (hp2 : ps.toInt ≤ 80) (h1 : 0 ≤ p0.toInt) (h2 : p0.toInt < ps.toInt) (ho1 : 0 ≤ op.toInt) (ho2 : op.toInt ≤ 8) (ho3 : ∀ k : Nat, (k : Int) < op.toInt → 0 ≤ (fo k).toInt ∧ (fo k).toInt < 80) (hb0 : ∀ k : Nat, 0 ≤ (fpn k).toInt ∧ (fpn k).toInt ≤ 80) : Met l yX4_step wsX4_step ({ frames := 3, cells := 0, slots := 0, locals := 68 }) (va_Pc [.ref h0, .int p0] (fun U => U.heap.size = sz ∧ va_P (dC, dI) vwCl [eO h0 3 [.ref qo, .int op, .int lp, .int fa, .ref jp], eI qo ko 8 fo, eO jp 2 [.ref pb, .ref pn, .int ps], eI pb kpb 80 fpb, eI pn kpn 80 fpn] U.heap ∧ va_K (dC, dI) vwCl [(ko, .int), (kpb, .int), (kpn, .int)] U ∧ va_D (fun _ => True) [eO h0 3 [.ref qo, .int op, .int lp, .int fa, .ref jp], eI qo ko 8 fo, eO jp 2 [.ref pb, .ref pn, .int ps], eI pb kpb 80 fpb, eI pn kpn 80 fpn])) (va_Qi (fun (r : Int32) (_ : Unit) => 0 ≤ r.toInt ∧ r.toInt ≤ 90) (fun (_ : Unit) (t : State) => ∃ (fo' : Nat → Int32), ∃ (op' : Int32), ∃ (lp' : Int32), ∃ (fa' : Int32), ∃ (fpn' : Nat → Int32), (0 ≤ op'.toInt) ∧ (op'.toInt ≤ 8) ∧ (∀ k : Nat, (k : Int) < op'.toInt → 0 ≤ (fo' k).toInt ∧ (fo' k).toInt < 80) ∧ (∀ k : Nat, 0 ≤ (fpn' k).toInt ∧ (fpn' k).toInt ≤ 80) ∧ va_P (dC, dI) vwCl [eO h0 3 [.ref qo, .int op', .int lp', .int fa', .ref jp], eI qo ko 8 (fo'), eO jp 2 [.ref pb, .ref pn, .int ps], eI pb kpb 80 fpb, eI pn kpn 80 (fpn')] t.heap ∧ va_K (dC, dI) vwCl [(ko, .int), (kpb, .int), (kpn, .int)] t ∧ va_D (va_A [eO h0 3 [.ref qo, .int op, .int lp, .int fa, .ref jp], eI qo ko 8 fo, eO jp 2 [.ref pb, .ref pn, .int ps], eI pb kpb 80 fpb, eI pn kpn 80 fpn] sz) [eO h0 3 [.ref qo, .int op', .int lp', .int fa', .ref jp], eI qo ko 8 (fo'), eO jp 2 [.ref pb, .ref pn, .int ps], eI pb kpb 80 fpb, eI pn kpn 80 (fpn')]) (va_A [eO h0 3 [.ref qo, .int op, .int lp, .int fa, .ref jp], eI qo ko 8 fo, eO jp 2 [.ref pb, .ref pn, .int ps], eI pb kpb 80 fpb, eI pn kpn 80 fpn] sz)) 0 0 (va_A [eO h0 3 [.ref qo, .int op, .int lp, .int fa, .ref jp], eI qo ko 8 fo, eO jp 2 [.ref pb, .ref pn, .int ps], eI pb kpb 80 fpb, eI pn kpn 80 fpn] sz) := by
  refine Met.ofW (cc := cX4_step) (maxL := 2) (ret := (some .int)) (by decide) rfl ?_
  intro p e s m args below meth c s₁ B hml hv
  obtain ⟨rfl, hsz, hP, hK, hD0⟩ := hv
  have hx := B.exec
  have hb := B.bytes
  have hr := B.returns
  have hts := atoms_spec (ws := wsX4_step) B.pre
  have hown : s.vm.findClass RX4 = some m.cls := findClass_of_methodNamed B.named
  have hlocks := B.notSynchronized
  subst hsz
  have hD := hD0.self (sz := s.heap.size)
  generalize hAe : va_A [eO h0 3 [.ref qo, .int op, .int lp, .int fa, .ref jp], eI qo ko 8 fo, eO jp 2 [.ref pb, .ref pn, .int ps], eI pb kpb 80 fpb, eI pn kpn 80 fpn] s.heap.size = A at hD ⊢
  have hA : ∀ q : Nat, s.heap.size ≤ q → A q := fun q h => by rw [← hAe]; exact Or.inr h
  have hS : va_S A s.heap s.heap [] := va_S.rf
  have hP : va_P (dC, dI) vwCl [eO h0 3 [.ref qo, .int op, .int lp, .int fa, .ref jp], eI qo ko 8 fo, eO jp 2 [.ref pb, .ref pn, .int ps], eI pb kpb 80 fpb, eI pn kpn 80 fpn] s.heap := hP
  have hl := lv_entry ([.ref h0, .int p0]) (n := 2) (Nat.le_of_ble_eq_true rfl)
  rw [lg_entry_eq]
  generalize (lg_sl ([.ref h0, .int p0]) ++ List.replicate (2 - (lg_sl ([.ref h0, .int p0])).length) Slot.unset).toArray = ls at hl ⊢
  have hl : lv_has ls 2 [(0, .ref h0), (1, .int p0)] := hl
  suffices key9 : ∀ Q9 : State → Prop, Q9 = (MQ below (va_Qi (fun (r : Int32) (_ : Unit) => 0 ≤ r.toInt ∧ r.toInt ≤ 90) (fun (_ : Unit) (t : State) => ∃ (fo' : Nat → Int32), ∃ (op' : Int32), ∃ (lp' : Int32), ∃ (fa' : Int32), ∃ (fpn' : Nat → Int32), (0 ≤ op'.toInt) ∧ (op'.toInt ≤ 8) ∧ (∀ k : Nat, (k : Int) < op'.toInt → 0 ≤ (fo' k).toInt ∧ (fo' k).toInt < 80) ∧ (∀ k : Nat, 0 ≤ (fpn' k).toInt ∧ (fpn' k).toInt ≤ 80) ∧ va_P (dC, dI) vwCl [eO h0 3 [.ref qo, .int op', .int lp', .int fa', .ref jp], eI qo ko 8 (fo'), eO jp 2 [.ref pb, .ref pn, .int ps], eI pb kpb 80 fpb, eI pn kpn 80 (fpn')] t.heap ∧ va_K (dC, dI) vwCl [(ko, .int), (kpb, .int), (kpn, .int)] t ∧ va_D A [eO h0 3 [.ref qo, .int op', .int lp', .int fa', .ref jp], eI qo ko 8 (fo'), eO jp 2 [.ref pb, .ref pn, .int ps], eI pb kpb 80 fpb, eI pn kpn 80 (fpn')]) A) (([.ref h0, .int p0] : List Value).toArray) s 0 0 A) → W p l e ({ frames := 3, cells := 0, slots := 0, locals := 68 }) s m (([.ref h0, .int p0] : List Value).toArray) below meth c s.heap [] 0 0 Q9 (F0 m 0 ls []) from key9 _ rfl
  intro Q9 hQ9
  have k_0 : (0 : Int32).toInt = 0 := by decide
  have k_1 : (1 : Int32).toInt = 1 := by decide
  have k_40 : (40 : Int32).toInt = 40 := by decide
  have k_41 : (41 : Int32).toInt = 41 := by decide
  have k_48 : (48 : Int32).toInt = 48 := by decide
  have k_49 : (49 : Int32).toInt = 49 := by decide
  have k_55 : (55 : Int32).toInt = 55 := by decide
  have k_57 : (57 : Int32).toInt = 57 := by decide
  have k_60 : (60 : Int32).toInt = 60 := by decide
  have k_62 : (62 : Int32).toInt = 62 := by decide
  have k_91 : (91 : Int32).toInt = 91 := by decide
  have k_93 : (93 : Int32).toInt = 93 := by decide
  have k_97 : (97 : Int32).toInt = 97 := by decide
  have k_98 : (98 : Int32).toInt = 98 := by decide
  have k_99 : (99 : Int32).toInt = 99 := by decide
  have k_110 : (110 : Int32).toInt = 110 := by decide
  have k_112 : (112 : Int32).toInt = 112 := by decide
  have k_120 : (120 : Int32).toInt = 120 := by decide
  have k_123 : (123 : Int32).toInt = 123 := by decide
  have k_125 : (125 : Int32).toInt = 125 := by decide
  refine lv_aload_n hx hb dX4_step_0 rfl (lv_at hl 0 rfl) ?_
  refine va_get (D := (dC, dI)) (ci := 3) (v := .ref jp) (C := RX4) (T := TX4) (N := 5) hx hb hts (fun w h => List.mem_cons_of_mem _ (inlX4 w h)) hown hK hP 0 rfl rfl 4 (by decide) (hts (.fieldLink RX4 15 "ClearingGates$Reader" "program" "LClearingGates$Program;") (List.mem_cons_of_mem _ mw_177)) (fun _ h9 => h9) rfl dX4_step_1 ?_
  refine lv_iload_n hx hb dX4_step_4 rfl (lv_at hl 1 rfl) ?_
  obtain ⟨hPc, hDc, hFc, hCm, hNw⟩ := C_s (wc := [eO jp 2 [.ref pb, .ref pn, .int ps], eI pb kpb 80 fpb]) hP hD hS hA [(2, 2)] 5 rfl (by decide +kernel) rfl
  have hKc := K_s (tys' := [(kpb, .int)]) hK [(1, 1)] rfl
  refine va_calli (va_runV (As := [.int p0]) (rest := []) ⟨hx, hb, hml, hown, hts⟩ (c_X3_byteAt l dC dI jp p0 pb pn ps kpb fpb s.heap.size hp1 hp2) (cwV 1 hts gX4_step_X3_byteAt rfl rfl rfl (by decide +kernel) ⟨Nat.le_of_ble_eq_true rfl, Nat.le_of_ble_eq_true rfl⟩) ⟨fun a U g mk q => by obtain ⟨q0, q1, qP, qK, qD⟩ := q; exact ⟨q0, q1, qP, va_K.moved (u := U) (U := U.calling g mk a) (Vm.Alike.refl U.vm) qK, qD⟩, va_recv (s := s) (q := (RX3, TX3, 3)) hKc hPc (ci := 2) (q0 := 0) rfl rfl, fun U hU hW => ⟨rfl, by rw [hU], by rw [hU]; exact hPc, va_K.moved hW.alike hKc, hDc.weaken (fun _ _ _ _ => trivial)⟩⟩ rfl rfl hl.1 rfl (lv_room (Nat.le_of_ble_eq_true rfl)) dX4_step_5 ⟨Nat.le_of_ble_eq_true rfl, Nat.le_of_ble_eq_true rfl⟩) hS (fun q _ h => hFc q h) hFc (fun r1 u t H1 locs ht hvm hw hB hz1 hk1 hS => ?_)
  obtain ⟨hP1, hK1, hD1⟩ := hB
  rw [ht] at hP1
  have hK1 := va_K.moved hvm.symm hK1
  try dsimp only at hw
  obtain ⟨hP, hD⟩ := J_s (wL := [eO h0 3 [.ref qo, .int op, .int lp, .int fa, .ref jp], eI qo ko 8 fo, eI pn kpn 80 fpn, eO jp 2 [.ref pb, .ref pn, .int ps], eI pb kpb 80 fpb]) hP hD [(2, 2)] [(0, 2), (4, 1)] hCm hNw (by decide +kernel) hk1 hFc hP1 hD1 rfl
  have hK := KJ_s (tys' := [(ko, .int), (kpn, .int), (kpb, .int)]) hK hK1 [(0, 1), (2, 1)] rfl
  generalize H1 = H at hP hS ⊢
  have h_r1 := hw
  rcases Decidable.em (r1 = 40) with c2 | c2
  · refine lv_lookup (off := 124) (tgt := 132) hx hb dX4_step_8 (by decide) (by rw [c2]; decide) (by decide) ?_
    have f_c2 := i_eq c2
    refine lv_aload_n hx hb dX4_step_132 rfl (lv_at hl 0 rfl) ?_
    refine lv_iload_n hx hb dX4_step_133 rfl (lv_at hl 1 rfl) ?_
    refine lv_bipush (v := 48) hx hb dX4_step_134 (by decide) ?_
    refine lv_bipush (v := 55) hx hb dX4_step_136 (by decide) ?_
    obtain ⟨hPc, hDc, hFc, hCm, hNw⟩ := C_s (wc := [eO h0 3 [.ref qo, .int op, .int lp, .int fa, .ref jp], eI qo ko 8 fo, eO jp 2 [.ref pb, .ref pn, .int ps], eI pb kpb 80 fpb, eI pn kpn 80 fpn]) hP hD hS hA [(0, 2), (3, 2), (2, 1)] 5 rfl (by decide +kernel) rfl
    have hKc := K_s (tys' := [(ko, .int), (kpb, .int), (kpn, .int)]) hK [(0, 1), (2, 1), (1, 1)] rfl
    refine va_calli (va_runV (As := [.int p0, .int 48, .int 55]) (rest := []) ⟨hx, hb, hml, hown, hts⟩ (c_X4_openingWithFigure l dC dI h0 p0 48 55 qo op lp fa jp ko fo pb pn ps kpb fpb kpn fpn H.size hp1 hp2 h1 h2 ho1 ho2 ho3 (by first | assumption | omega)) (cwV 3 hts gX4_step_X4_openingWithFigure rfl rfl rfl (by decide +kernel) ⟨Nat.le_of_ble_eq_true rfl, Nat.le_of_ble_eq_true rfl⟩) ⟨fun a U g mk q => by obtain ⟨q0, q1, qP, qK, qD⟩ := q; exact ⟨q0, q1, qP, va_K.moved (u := U) (U := U.calling g mk a) (Vm.Alike.refl U.vm) qK, qD⟩, va_recv (s := s) (q := (RX4, TX4, 5)) hKc hPc (ci := 3) (q0 := 0) rfl rfl, fun U hU hW => ⟨rfl, by rw [hU], by rw [hU]; exact hPc, va_K.moved hW.alike hKc, hDc.weaken (fun _ _ _ _ => trivial)⟩⟩ rfl rfl hl.1 rfl (lv_room (Nat.le_of_ble_eq_true rfl)) dX4_step_138 ⟨Nat.le_of_ble_eq_true rfl, Nat.le_of_ble_eq_true rfl⟩) hS (fun q _ h => hFc q h) hFc (fun r3 u t H1 locs ht hvm hw hB hz1 hk1 hS => ?_)
    obtain ⟨q4, q5, q6, q7, xo1_r3, xo2_r3, xo3_r3, hP1, hK1, hD1⟩ := hB
    rw [ht] at hP1
    have hK1 := va_K.moved hvm.symm hK1
    try dsimp only at hw
    obtain ⟨hP, hD⟩ := J_s (wL := [eO h0 3 [.ref qo, .int q5, .int q6, .int q7, .ref jp], eI qo ko 8 q4, eO jp 2 [.ref pb, .ref pn, .int ps], eI pb kpb 80 fpb, eI pn kpn 80 fpn]) hP hD [(0, 2), (3, 2), (2, 1)] [] hCm hNw (by decide +kernel) hk1 hFc hP1 hD1 rfl
    have hK := KJ_s (tys' := [(ko, .int), (kpb, .int), (kpn, .int)]) hK hK1 [] rfl
    generalize H1 = H at hP hS ⊢
    have h_r3 := hw
    rw [hQ9]
    exact W.iret (v := r3) hx hb hr (fun t ht hW => ⟨⟨r3, (), rfl, ⟨by omega, by omega⟩, q4, q5, q6, q7, fpn, (by first | exact xo1_r3 | omega), (by first | exact xo2_r3 | omega), (by first | exact xo3_r3 | exact ho3), (by first | exact xb_r3 | exact hb0), by rw [ht]; exact hP, va_K.moved hW.alike hK, hD⟩, hS.F ht⟩) hS.2.2 dX4_step_141
  have f_c2 := i_ne c2
  rcases Decidable.em (r1 = 41) with c8 | c8
  · refine lv_lookup (off := 150) (tgt := 158) hx hb dX4_step_8 (by decide) (by rw [c8]; decide) (by decide) ?_
    have f_c8 := i_eq c8
    refine lv_aload_n hx hb dX4_step_158 rfl (lv_at hl 0 rfl) ?_
    refine lv_iload_n hx hb dX4_step_159 rfl (lv_at hl 1 rfl) ?_
    refine lv_bipush (v := 40) hx hb dX4_step_160 (by decide) ?_
    obtain ⟨hPc, hDc, hFc, hCm, hNw⟩ := C_s (wc := [eO h0 3 [.ref qo, .int op, .int lp, .int fa, .ref jp], eI qo ko 8 fo, eO jp 2 [.ref pb, .ref pn, .int ps], eI pb kpb 80 fpb, eI pn kpn 80 fpn]) hP hD hS hA [(0, 2), (3, 2), (2, 1)] 5 rfl (by decide +kernel) rfl
    have hKc := K_s (tys' := [(ko, .int), (kpb, .int), (kpn, .int)]) hK [(0, 1), (2, 1), (1, 1)] rfl
    refine va_calli (va_runV (As := [.int p0, .int 40]) (rest := []) ⟨hx, hb, hml, hown, hts⟩ (c_X4_closing l dC dI h0 p0 40 qo op lp fa jp ko fo pb pn ps kpb fpb kpn fpn H.size hp1 hp2 h1 h2 ho1 ho2 ho3 hb0) (cwV 2 hts gX4_step_X4_closing rfl rfl rfl (by decide +kernel) ⟨Nat.le_of_ble_eq_true rfl, Nat.le_of_ble_eq_true rfl⟩) ⟨fun a U g mk q => by obtain ⟨q0, q1, qP, qK, qD⟩ := q; exact ⟨q0, q1, qP, va_K.moved (u := U) (U := U.calling g mk a) (Vm.Alike.refl U.vm) qK, qD⟩, va_recv (s := s) (q := (RX4, TX4, 5)) hKc hPc (ci := 3) (q0 := 0) rfl rfl, fun U hU hW => ⟨rfl, by rw [hU], by rw [hU]; exact hPc, va_K.moved hW.alike hKc, hDc.weaken (fun _ _ _ _ => trivial)⟩⟩ rfl rfl hl.1 rfl (lv_room (Nat.le_of_ble_eq_true rfl)) dX4_step_162 ⟨Nat.le_of_ble_eq_true rfl, Nat.le_of_ble_eq_true rfl⟩) hS (fun q _ h => hFc q h) hFc (fun r9 u t H1 locs ht hvm hw hB hz1 hk1 hS => ?_)
    obtain ⟨q10, q11, q12, q13, xo1_r9, xo2_r9, xo3_r9, xb_r9, hP1, hK1, hD1⟩ := hB
    rw [ht] at hP1
    have hK1 := va_K.moved hvm.symm hK1
    try dsimp only at hw
    obtain ⟨hP, hD⟩ := J_s (wL := [eO h0 3 [.ref qo, .int q10, .int q11, .int q12, .ref jp], eI qo ko 8 fo, eO jp 2 [.ref pb, .ref pn, .int ps], eI pb kpb 80 fpb, eI pn kpn 80 q13]) hP hD [(0, 2), (3, 2), (2, 1)] [] hCm hNw (by decide +kernel) hk1 hFc hP1 hD1 rfl
    have hK := KJ_s (tys' := [(ko, .int), (kpb, .int), (kpn, .int)]) hK hK1 [] rfl
    generalize H1 = H at hP hS ⊢
    have h_r9 := hw
    rw [hQ9]
    exact W.iret (v := r9) hx hb hr (fun t ht hW => ⟨⟨r9, (), rfl, ⟨by omega, by omega⟩, fo, q10, q11, q12, q13, (by first | exact xo1_r9 | omega), (by first | exact xo2_r9 | omega), (by first | exact xo3_r9 | exact ho3), (by first | exact xb_r9 | exact hb0), by rw [ht]; exact hP, va_K.moved hW.alike hK, hD⟩, hS.F ht⟩) hS.2.2 dX4_step_165
  have f_c8 := i_ne c8
  rcases Decidable.em (r1 = 60) with c14 | c14
  · refine lv_lookup (off := 144) (tgt := 152) hx hb dX4_step_8 (by decide) (by rw [c14]; decide) (by decide) ?_
    have f_c14 := i_eq c14
    refine lv_aload_n hx hb dX4_step_152 rfl (lv_at hl 0 rfl) ?_
    refine lv_iload_n hx hb dX4_step_153 rfl (lv_at hl 1 rfl) ?_
    obtain ⟨hPc, hDc, hFc, hCm, hNw⟩ := C_s (wc := [eO h0 3 [.ref qo, .int op, .int lp, .int fa, .ref jp], eI qo ko 8 fo, eO jp 2 [.ref pb, .ref pn, .int ps], eI pb kpb 80 fpb, eI pn kpn 80 fpn]) hP hD hS hA [(0, 2), (3, 2), (2, 1)] 5 rfl (by decide +kernel) rfl
    have hKc := K_s (tys' := [(ko, .int), (kpb, .int), (kpn, .int)]) hK [(0, 1), (2, 1), (1, 1)] rfl
    refine va_calli (va_runV (As := [.int p0]) (rest := []) ⟨hx, hb, hml, hown, hts⟩ (c_X4_opening l dC dI h0 p0 qo op lp fa jp ko fo pb pn ps kpb fpb kpn fpn H.size hp1 hp2 h1 h2 ho1 ho2 ho3) (cwV 1 hts gX4_step_X4_opening rfl rfl rfl (by decide +kernel) ⟨Nat.le_of_ble_eq_true rfl, Nat.le_of_ble_eq_true rfl⟩) ⟨fun a U g mk q => by obtain ⟨q0, q1, qP, qK, qD⟩ := q; exact ⟨q0, q1, qP, va_K.moved (u := U) (U := U.calling g mk a) (Vm.Alike.refl U.vm) qK, qD⟩, va_recv (s := s) (q := (RX4, TX4, 5)) hKc hPc (ci := 3) (q0 := 0) rfl rfl, fun U hU hW => ⟨rfl, by rw [hU], by rw [hU]; exact hPc, va_K.moved hW.alike hKc, hDc.weaken (fun _ _ _ _ => trivial)⟩⟩ rfl rfl hl.1 rfl (lv_room (Nat.le_of_ble_eq_true rfl)) dX4_step_154 ⟨Nat.le_of_ble_eq_true rfl, Nat.le_of_ble_eq_true rfl⟩) hS (fun q _ h => hFc q h) hFc (fun r15 u t H1 locs ht hvm hw hB hz1 hk1 hS => ?_)
    obtain ⟨q16, q17, q18, q19, xo1_r15, xo2_r15, xo3_r15, hP1, hK1, hD1⟩ := hB
    rw [ht] at hP1
    have hK1 := va_K.moved hvm.symm hK1
    try dsimp only at hw
    obtain ⟨hP, hD⟩ := J_s (wL := [eO h0 3 [.ref qo, .int q17, .int q18, .int q19, .ref jp], eI qo ko 8 q16, eO jp 2 [.ref pb, .ref pn, .int ps], eI pb kpb 80 fpb, eI pn kpn 80 fpn]) hP hD [(0, 2), (3, 2), (2, 1)] [] hCm hNw (by decide +kernel) hk1 hFc hP1 hD1 rfl
    have hK := KJ_s (tys' := [(ko, .int), (kpb, .int), (kpn, .int)]) hK hK1 [] rfl
    generalize H1 = H at hP hS ⊢
    have h_r15 := hw
    rw [hQ9]
    exact W.iret (v := r15) hx hb hr (fun t ht hW => ⟨⟨r15, (), rfl, ⟨by omega, by omega⟩, q16, q17, q18, q19, fpn, (by first | exact xo1_r15 | omega), (by first | exact xo2_r15 | omega), (by first | exact xo3_r15 | exact ho3), (by first | exact xb_r15 | exact hb0), by rw [ht]; exact hP, va_K.moved hW.alike hK, hD⟩, hS.F ht⟩) hS.2.2 dX4_step_157
  have f_c14 := i_ne c14
  rcases Decidable.em (r1 = 62) with c20 | c20
  · refine lv_lookup (off := 174) (tgt := 182) hx hb dX4_step_8 (by decide) (by rw [c20]; decide) (by decide) ?_
    have f_c20 := i_eq c20
    refine lv_aload_n hx hb dX4_step_182 rfl (lv_at hl 0 rfl) ?_
    refine lv_iload_n hx hb dX4_step_183 rfl (lv_at hl 1 rfl) ?_
    refine lv_bipush (v := 60) hx hb dX4_step_184 (by decide) ?_
    obtain ⟨hPc, hDc, hFc, hCm, hNw⟩ := C_s (wc := [eO h0 3 [.ref qo, .int op, .int lp, .int fa, .ref jp], eI qo ko 8 fo, eO jp 2 [.ref pb, .ref pn, .int ps], eI pb kpb 80 fpb, eI pn kpn 80 fpn]) hP hD hS hA [(0, 2), (3, 2), (2, 1)] 5 rfl (by decide +kernel) rfl
    have hKc := K_s (tys' := [(ko, .int), (kpb, .int), (kpn, .int)]) hK [(0, 1), (2, 1), (1, 1)] rfl
    refine va_calli (va_runV (As := [.int p0, .int 60]) (rest := []) ⟨hx, hb, hml, hown, hts⟩ (c_X4_closing l dC dI h0 p0 60 qo op lp fa jp ko fo pb pn ps kpb fpb kpn fpn H.size hp1 hp2 h1 h2 ho1 ho2 ho3 hb0) (cwV 2 hts gX4_step_X4_closing rfl rfl rfl (by decide +kernel) ⟨Nat.le_of_ble_eq_true rfl, Nat.le_of_ble_eq_true rfl⟩) ⟨fun a U g mk q => by obtain ⟨q0, q1, qP, qK, qD⟩ := q; exact ⟨q0, q1, qP, va_K.moved (u := U) (U := U.calling g mk a) (Vm.Alike.refl U.vm) qK, qD⟩, va_recv (s := s) (q := (RX4, TX4, 5)) hKc hPc (ci := 3) (q0 := 0) rfl rfl, fun U hU hW => ⟨rfl, by rw [hU], by rw [hU]; exact hPc, va_K.moved hW.alike hKc, hDc.weaken (fun _ _ _ _ => trivial)⟩⟩ rfl rfl hl.1 rfl (lv_room (Nat.le_of_ble_eq_true rfl)) dX4_step_186 ⟨Nat.le_of_ble_eq_true rfl, Nat.le_of_ble_eq_true rfl⟩) hS (fun q _ h => hFc q h) hFc (fun r21 u t H1 locs ht hvm hw hB hz1 hk1 hS => ?_)
    obtain ⟨q22, q23, q24, q25, xo1_r21, xo2_r21, xo3_r21, xb_r21, hP1, hK1, hD1⟩ := hB
    rw [ht] at hP1
    have hK1 := va_K.moved hvm.symm hK1
    try dsimp only at hw
    obtain ⟨hP, hD⟩ := J_s (wL := [eO h0 3 [.ref qo, .int q22, .int q23, .int q24, .ref jp], eI qo ko 8 fo, eO jp 2 [.ref pb, .ref pn, .int ps], eI pb kpb 80 fpb, eI pn kpn 80 q25]) hP hD [(0, 2), (3, 2), (2, 1)] [] hCm hNw (by decide +kernel) hk1 hFc hP1 hD1 rfl
    have hK := KJ_s (tys' := [(ko, .int), (kpb, .int), (kpn, .int)]) hK hK1 [] rfl
    generalize H1 = H at hP hS ⊢
    have h_r21 := hw
    rw [hQ9]
    exact W.iret (v := r21) hx hb hr (fun t ht hW => ⟨⟨r21, (), rfl, ⟨by omega, by omega⟩, fo, q22, q23, q24, q25, (by first | exact xo1_r21 | omega), (by first | exact xo2_r21 | omega), (by first | exact xo3_r21 | exact ho3), (by first | exact xb_r21 | exact hb0), by rw [ht]; exact hP, va_K.moved hW.alike hK, hD⟩, hS.F ht⟩) hS.2.2 dX4_step_189
  have f_c20 := i_ne c20
  rcases Decidable.em (r1 = 91) with c26 | c26
  · refine lv_lookup (off := 144) (tgt := 152) hx hb dX4_step_8 (by decide) (by rw [c26]; decide) (by decide) ?_
    have f_c26 := i_eq c26
    refine lv_aload_n hx hb dX4_step_152 rfl (lv_at hl 0 rfl) ?_
    refine lv_iload_n hx hb dX4_step_153 rfl (lv_at hl 1 rfl) ?_
    obtain ⟨hPc, hDc, hFc, hCm, hNw⟩ := C_s (wc := [eO h0 3 [.ref qo, .int op, .int lp, .int fa, .ref jp], eI qo ko 8 fo, eO jp 2 [.ref pb, .ref pn, .int ps], eI pb kpb 80 fpb, eI pn kpn 80 fpn]) hP hD hS hA [(0, 2), (3, 2), (2, 1)] 5 rfl (by decide +kernel) rfl
    have hKc := K_s (tys' := [(ko, .int), (kpb, .int), (kpn, .int)]) hK [(0, 1), (2, 1), (1, 1)] rfl
    refine va_calli (va_runV (As := [.int p0]) (rest := []) ⟨hx, hb, hml, hown, hts⟩ (c_X4_opening l dC dI h0 p0 qo op lp fa jp ko fo pb pn ps kpb fpb kpn fpn H.size hp1 hp2 h1 h2 ho1 ho2 ho3) (cwV 1 hts gX4_step_X4_opening rfl rfl rfl (by decide +kernel) ⟨Nat.le_of_ble_eq_true rfl, Nat.le_of_ble_eq_true rfl⟩) ⟨fun a U g mk q => by obtain ⟨q0, q1, qP, qK, qD⟩ := q; exact ⟨q0, q1, qP, va_K.moved (u := U) (U := U.calling g mk a) (Vm.Alike.refl U.vm) qK, qD⟩, va_recv (s := s) (q := (RX4, TX4, 5)) hKc hPc (ci := 3) (q0 := 0) rfl rfl, fun U hU hW => ⟨rfl, by rw [hU], by rw [hU]; exact hPc, va_K.moved hW.alike hKc, hDc.weaken (fun _ _ _ _ => trivial)⟩⟩ rfl rfl hl.1 rfl (lv_room (Nat.le_of_ble_eq_true rfl)) dX4_step_154 ⟨Nat.le_of_ble_eq_true rfl, Nat.le_of_ble_eq_true rfl⟩) hS (fun q _ h => hFc q h) hFc (fun r27 u t H1 locs ht hvm hw hB hz1 hk1 hS => ?_)
    obtain ⟨q28, q29, q30, q31, xo1_r27, xo2_r27, xo3_r27, hP1, hK1, hD1⟩ := hB
    rw [ht] at hP1
    have hK1 := va_K.moved hvm.symm hK1
    try dsimp only at hw
    obtain ⟨hP, hD⟩ := J_s (wL := [eO h0 3 [.ref qo, .int q29, .int q30, .int q31, .ref jp], eI qo ko 8 q28, eO jp 2 [.ref pb, .ref pn, .int ps], eI pb kpb 80 fpb, eI pn kpn 80 fpn]) hP hD [(0, 2), (3, 2), (2, 1)] [] hCm hNw (by decide +kernel) hk1 hFc hP1 hD1 rfl
    have hK := KJ_s (tys' := [(ko, .int), (kpb, .int), (kpn, .int)]) hK hK1 [] rfl
    generalize H1 = H at hP hS ⊢
    have h_r27 := hw
    rw [hQ9]
    exact W.iret (v := r27) hx hb hr (fun t ht hW => ⟨⟨r27, (), rfl, ⟨by omega, by omega⟩, q28, q29, q30, q31, fpn, (by first | exact xo1_r27 | omega), (by first | exact xo2_r27 | omega), (by first | exact xo3_r27 | exact ho3), (by first | exact xb_r27 | exact hb0), by rw [ht]; exact hP, va_K.moved hW.alike hK, hD⟩, hS.F ht⟩) hS.2.2 dX4_step_157
  have f_c26 := i_ne c26
  rcases Decidable.em (r1 = 93) with c32 | c32
  · refine lv_lookup (off := 166) (tgt := 174) hx hb dX4_step_8 (by decide) (by rw [c32]; decide) (by decide) ?_
    have f_c32 := i_eq c32
    refine lv_aload_n hx hb dX4_step_174 rfl (lv_at hl 0 rfl) ?_
    refine lv_iload_n hx hb dX4_step_175 rfl (lv_at hl 1 rfl) ?_
    refine lv_bipush (v := 91) hx hb dX4_step_176 (by decide) ?_
    obtain ⟨hPc, hDc, hFc, hCm, hNw⟩ := C_s (wc := [eO h0 3 [.ref qo, .int op, .int lp, .int fa, .ref jp], eI qo ko 8 fo, eO jp 2 [.ref pb, .ref pn, .int ps], eI pb kpb 80 fpb, eI pn kpn 80 fpn]) hP hD hS hA [(0, 2), (3, 2), (2, 1)] 5 rfl (by decide +kernel) rfl
    have hKc := K_s (tys' := [(ko, .int), (kpb, .int), (kpn, .int)]) hK [(0, 1), (2, 1), (1, 1)] rfl
    refine va_calli (va_runV (As := [.int p0, .int 91]) (rest := []) ⟨hx, hb, hml, hown, hts⟩ (c_X4_closing l dC dI h0 p0 91 qo op lp fa jp ko fo pb pn ps kpb fpb kpn fpn H.size hp1 hp2 h1 h2 ho1 ho2 ho3 hb0) (cwV 2 hts gX4_step_X4_closing rfl rfl rfl (by decide +kernel) ⟨Nat.le_of_ble_eq_true rfl, Nat.le_of_ble_eq_true rfl⟩) ⟨fun a U g mk q => by obtain ⟨q0, q1, qP, qK, qD⟩ := q; exact ⟨q0, q1, qP, va_K.moved (u := U) (U := U.calling g mk a) (Vm.Alike.refl U.vm) qK, qD⟩, va_recv (s := s) (q := (RX4, TX4, 5)) hKc hPc (ci := 3) (q0 := 0) rfl rfl, fun U hU hW => ⟨rfl, by rw [hU], by rw [hU]; exact hPc, va_K.moved hW.alike hKc, hDc.weaken (fun _ _ _ _ => trivial)⟩⟩ rfl rfl hl.1 rfl (lv_room (Nat.le_of_ble_eq_true rfl)) dX4_step_178 ⟨Nat.le_of_ble_eq_true rfl, Nat.le_of_ble_eq_true rfl⟩) hS (fun q _ h => hFc q h) hFc (fun r33 u t H1 locs ht hvm hw hB hz1 hk1 hS => ?_)
    obtain ⟨q34, q35, q36, q37, xo1_r33, xo2_r33, xo3_r33, xb_r33, hP1, hK1, hD1⟩ := hB
    rw [ht] at hP1
    have hK1 := va_K.moved hvm.symm hK1
    try dsimp only at hw
    obtain ⟨hP, hD⟩ := J_s (wL := [eO h0 3 [.ref qo, .int q34, .int q35, .int q36, .ref jp], eI qo ko 8 fo, eO jp 2 [.ref pb, .ref pn, .int ps], eI pb kpb 80 fpb, eI pn kpn 80 q37]) hP hD [(0, 2), (3, 2), (2, 1)] [] hCm hNw (by decide +kernel) hk1 hFc hP1 hD1 rfl
    have hK := KJ_s (tys' := [(ko, .int), (kpb, .int), (kpn, .int)]) hK hK1 [] rfl
    generalize H1 = H at hP hS ⊢
    have h_r33 := hw
    rw [hQ9]
    exact W.iret (v := r33) hx hb hr (fun t ht hW => ⟨⟨r33, (), rfl, ⟨by omega, by omega⟩, fo, q34, q35, q36, q37, (by first | exact xo1_r33 | omega), (by first | exact xo2_r33 | omega), (by first | exact xo3_r33 | exact ho3), (by first | exact xb_r33 | exact hb0), by rw [ht]; exact hP, va_K.moved hW.alike hK, hD⟩, hS.F ht⟩) hS.2.2 dX4_step_181
  have f_c32 := i_ne c32
  rcases Decidable.em (r1 = 97) with c38 | c38
  · refine lv_lookup (off := 188) (tgt := 196) hx hb dX4_step_8 (by decide) (by rw [c38]; decide) (by decide) ?_
    have f_c38 := i_eq c38
    refine lv_aload_n hx hb dX4_step_196 rfl (lv_at hl 0 rfl) ?_
    refine lv_iload_n hx hb dX4_step_197 rfl (lv_at hl 1 rfl) ?_
    obtain ⟨hPc, hDc, hFc, hCm, hNw⟩ := C_s (wc := [eO h0 3 [.ref qo, .int op, .int lp, .int fa, .ref jp], eO jp 2 [.ref pb, .ref pn, .int ps], eI pb kpb 80 fpb, eI pn kpn 80 fpn]) hP hD hS hA [(0, 1), (3, 2), (2, 1)] 5 rfl (by decide +kernel) rfl
    have hKc := K_s (tys' := [(kpb, .int), (kpn, .int)]) hK [(2, 1), (1, 1)] rfl
    refine va_calli (va_runV (As := [.int p0]) (rest := []) ⟨hx, hb, hml, hown, hts⟩ (c_X4_bell l dC dI h0 p0 qo op lp fa jp pb pn ps kpb fpb kpn fpn H.size hp1 hp2 h1 h2 hb0) (cwV 1 hts gX4_step_X4_bell rfl rfl rfl (by decide +kernel) ⟨Nat.le_of_ble_eq_true rfl, Nat.le_of_ble_eq_true rfl⟩) ⟨fun a U g mk q => by obtain ⟨q0, q1, qP, qK, qD⟩ := q; exact ⟨q0, q1, qP, va_K.moved (u := U) (U := U.calling g mk a) (Vm.Alike.refl U.vm) qK, qD⟩, va_recv (s := s) (q := (RX4, TX4, 5)) hKc hPc (ci := 3) (q0 := 0) rfl rfl, fun U hU hW => ⟨rfl, by rw [hU], by rw [hU]; exact hPc, va_K.moved hW.alike hKc, hDc.weaken (fun _ _ _ _ => trivial)⟩⟩ rfl rfl hl.1 rfl (lv_room (Nat.le_of_ble_eq_true rfl)) dX4_step_198 ⟨Nat.le_of_ble_eq_true rfl, Nat.le_of_ble_eq_true rfl⟩) hS (fun q _ h => hFc q h) hFc (fun r39 u t H1 locs ht hvm hw hB hz1 hk1 hS => ?_)
    obtain ⟨q40, q41, xb_r39, hP1, hK1, hD1⟩ := hB
    rw [ht] at hP1
    have hK1 := va_K.moved hvm.symm hK1
    try dsimp only at hw
    obtain ⟨hP, hD⟩ := J_s (wL := [eI qo ko 8 fo, eO h0 3 [.ref qo, .int op, .int lp, .int q40, .ref jp], eO jp 2 [.ref pb, .ref pn, .int ps], eI pb kpb 80 fpb, eI pn kpn 80 q41]) hP hD [(0, 1), (3, 2), (2, 1)] [(1, 1)] hCm hNw (by decide +kernel) hk1 hFc hP1 hD1 rfl
    have hK := KJ_s (tys' := [(ko, .int), (kpb, .int), (kpn, .int)]) hK hK1 [(0, 1)] rfl
    generalize H1 = H at hP hS ⊢
    have h_r39 := hw
    rw [hQ9]
    exact W.iret (v := r39) hx hb hr (fun t ht hW => ⟨⟨r39, (), rfl, ⟨by omega, by omega⟩, fo, op, lp, q40, q41, (by first | exact xo1_r39 | omega), (by first | exact xo2_r39 | omega), (by first | exact xo3_r39 | exact ho3), (by first | exact xb_r39 | exact hb0), by rw [ht]; exact P_s hP [(1, 1), (0, 1), (2, 3)] rfl, va_K.moved hW.alike hK, D_s hD [(1, 1), (0, 1), (2, 3)] 5 rfl (by decide +kernel) rfl⟩, hS.F ht⟩) hS.2.2 dX4_step_201
  have f_c38 := i_ne c38
  rcases Decidable.em (r1 = 98) with c42 | c42
  · refine lv_lookup (off := 194) (tgt := 202) hx hb dX4_step_8 (by decide) (by rw [c42]; decide) (by decide) ?_
    have f_c42 := i_eq c42
    refine lv_aload_n hx hb dX4_step_202 rfl (lv_at hl 0 rfl) ?_
    refine va_get (D := (dC, dI)) (ci := 3) (v := .int lp) (C := RX4) (T := TX4) (N := 5) hx hb hts (fun w h => List.mem_cons_of_mem _ (inlX4 w h)) hown hK hP 0 rfl rfl 2 (by decide) (hts (.fieldLink RX4 23 "ClearingGates$Reader" "loops" "I") (List.mem_cons_of_mem _ mw_175)) (fun _ h9 => h9) rfl dX4_step_203 ?_
    refine lv_if_le (tgt := 220) hx hb dX4_step_206 (by decide) (fun c43 => ?_) (fun c43 => ?_)
    · skip
      have f_c43 := i_le c43
      refine lv_aload_n hx hb dX4_step_220 rfl (lv_at hl 0 rfl) ?_
      refine lv_iload_n hx hb dX4_step_221 rfl (lv_at hl 1 rfl) ?_
      obtain ⟨hPc, hDc, hFc, hCm, hNw⟩ := C_s (wc := [eO h0 3 [.ref qo, .int op, .int lp, .int fa, .ref jp]]) hP hD hS hA [(0, 1)] 5 rfl (by decide +kernel) rfl
      have hKc := K_s (tys' := []) hK [] rfl
      refine va_calli (va_runV (As := [.int p0]) (rest := []) ⟨hx, hb, hml, hown, hts⟩ (c_X4_faultAt l dC dI h0 p0 qo op lp fa jp H.size h1 (by first | assumption | omega)) (cwV 1 hts gX4_step_X4_faultAt rfl rfl rfl (by decide +kernel) ⟨Nat.le_of_ble_eq_true rfl, Nat.le_of_ble_eq_true rfl⟩) ⟨fun a U g mk q => by obtain ⟨q0, q1, qP, qK, qD⟩ := q; exact ⟨q0, q1, qP, va_K.moved (u := U) (U := U.calling g mk a) (Vm.Alike.refl U.vm) qK, qD⟩, va_recv (s := s) (q := (RX4, TX4, 5)) hKc hPc (ci := 3) (q0 := 0) rfl rfl, fun U hU hW => ⟨rfl, by rw [hU], by rw [hU]; exact hPc, va_K.moved hW.alike hKc, hDc.weaken (fun _ _ _ _ => trivial)⟩⟩ rfl rfl hl.1 rfl (lv_room (Nat.le_of_ble_eq_true rfl)) dX4_step_222 ⟨Nat.le_of_ble_eq_true rfl, Nat.le_of_ble_eq_true rfl⟩) hS (fun q _ h => hFc q h) hFc (fun r44 u t H1 locs ht hvm hw hB hz1 hk1 hS => ?_)
      obtain ⟨hP1, hK1, hD1⟩ := hB
      rw [ht] at hP1
      have hK1 := va_K.moved hvm.symm hK1
      try dsimp only at hw
      obtain ⟨hP, hD⟩ := J_s (wL := [eI qo ko 8 fo, eI pn kpn 80 fpn, eO jp 2 [.ref pb, .ref pn, .int ps], eI pb kpb 80 fpb, eO h0 3 [.ref qo, .int op, .int lp, .int p0, .ref jp]]) hP hD [(0, 1)] [(1, 4)] hCm hNw (by decide +kernel) hk1 hFc hP1 hD1 rfl
      have hK := KJ_s (tys' := [(ko, .int), (kpn, .int), (kpb, .int)]) hK hK1 [(0, 3)] rfl
      generalize H1 = H at hP hS ⊢
      have h_r44 := hw
      rw [hQ9]
      exact W.iret (v := r44) hx hb hr (fun t ht hW => ⟨⟨r44, (), rfl, ⟨by omega, by omega⟩, fo, op, lp, p0, fpn, (by first | exact xo1_r44 | omega), (by first | exact xo2_r44 | omega), (by first | exact xo3_r44 | exact ho3), (by first | exact xb_r44 | exact hb0), by rw [ht]; exact P_s hP [(4, 1), (0, 1), (2, 2), (1, 1)] rfl, va_K.moved hW.alike (K_s hK [(0, 1), (2, 1), (1, 1)] rfl), D_s hD [(4, 1), (0, 1), (2, 2), (1, 1)] 5 rfl (by decide +kernel) rfl⟩, hS.F ht⟩) hS.2.2 dX4_step_225
    · skip
      have f_c43 := i_nle c43
      refine lv_aload_n hx hb dX4_step_209 rfl (lv_at hl 0 rfl) ?_
      refine lv_iload_n hx hb dX4_step_210 rfl (lv_at hl 1 rfl) ?_
      refine lv_iload_n hx hb dX4_step_211 rfl (lv_at hl 1 rfl) ?_
      refine lv_iconst (v := 1) hx hb dX4_step_212 (by decide) ?_
      refine lv_iadd hx hb dX4_step_213 ?_
      refine lv_topi (fun z45 e_z45 => ?_)
      have t_z45 := i_add e_z45 (by omega) (by omega)
      obtain ⟨hPc, hDc, hFc, hCm, hNw⟩ := C_s (wc := [eO h0 3 [.ref qo, .int op, .int lp, .int fa, .ref jp], eO jp 2 [.ref pb, .ref pn, .int ps], eI pb kpb 80 fpb, eI pn kpn 80 fpn]) hP hD hS hA [(0, 1), (3, 2), (2, 1)] 5 rfl (by decide +kernel) rfl
      have hKc := K_s (tys' := [(kpb, .int), (kpn, .int)]) hK [(2, 1), (1, 1)] rfl
      refine va_calli (va_runV (As := [.int p0, .int z45]) (rest := []) ⟨hx, hb, hml, hown, hts⟩ (c_X4_ends l dC dI h0 p0 z45 qo op lp fa jp pb pn ps kpb fpb kpn fpn H.size h1 (by first | assumption | omega) (by first | assumption | omega) (by first | assumption | omega) hb0) (cwV 2 hts gX4_step_X4_ends rfl rfl rfl (by decide +kernel) ⟨Nat.le_of_ble_eq_true rfl, Nat.le_of_ble_eq_true rfl⟩) ⟨fun a U g mk q => by obtain ⟨q0, q1, qP, qK, qD⟩ := q; exact ⟨q0, q1, qP, va_K.moved (u := U) (U := U.calling g mk a) (Vm.Alike.refl U.vm) qK, qD⟩, va_recv (s := s) (q := (RX4, TX4, 5)) hKc hPc (ci := 3) (q0 := 0) rfl rfl, fun U hU hW => ⟨rfl, by rw [hU], by rw [hU]; exact hPc, va_K.moved hW.alike hKc, hDc.weaken (fun _ _ _ _ => trivial)⟩⟩ rfl rfl hl.1 rfl (lv_room (Nat.le_of_ble_eq_true rfl)) dX4_step_214 ⟨Nat.le_of_ble_eq_true rfl, Nat.le_of_ble_eq_true rfl⟩) hS (fun q _ h => hFc q h) hFc (fun r46 u t H1 locs ht hvm hw hB hz1 hk1 hS => ?_)
      obtain ⟨q47, xb_r46, hP1, hK1, hD1⟩ := hB
      rw [ht] at hP1
      have hK1 := va_K.moved hvm.symm hK1
      try dsimp only at hw
      obtain ⟨hP, hD⟩ := J_s (wL := [eI qo ko 8 fo, eO h0 3 [.ref qo, .int op, .int lp, .int fa, .ref jp], eO jp 2 [.ref pb, .ref pn, .int ps], eI pb kpb 80 fpb, eI pn kpn 80 q47]) hP hD [(0, 1), (3, 2), (2, 1)] [(1, 1)] hCm hNw (by decide +kernel) hk1 hFc hP1 hD1 rfl
      have hK := KJ_s (tys' := [(ko, .int), (kpb, .int), (kpn, .int)]) hK hK1 [(0, 1)] rfl
      generalize H1 = H at hP hS ⊢
      have h_r46 := hw
      have t_r46 := i_eq hw
      refine lv_goto (tgt := 225) hx hb dX4_step_217 (by decide) ?_
      rw [hQ9]
      exact W.iret (v := r46) hx hb hr (fun t ht hW => ⟨⟨r46, (), rfl, ⟨by omega, by omega⟩, fo, op, lp, fa, q47, (by first | exact xo1_r46 | omega), (by first | exact xo2_r46 | omega), (by first | exact xo3_r46 | exact ho3), (by first | exact xb_r46 | exact hb0), by rw [ht]; exact P_s hP [(1, 1), (0, 1), (2, 3)] rfl, va_K.moved hW.alike hK, D_s hD [(1, 1), (0, 1), (2, 3)] 5 rfl (by decide +kernel) rfl⟩, hS.F ht⟩) hS.2.2 dX4_step_225
  have f_c42 := i_ne c42
  rcases Decidable.em (r1 = 99) with c48 | c48
  · refine lv_lookup (off := 194) (tgt := 202) hx hb dX4_step_8 (by decide) (by rw [c48]; decide) (by decide) ?_
    have f_c48 := i_eq c48
    refine lv_aload_n hx hb dX4_step_202 rfl (lv_at hl 0 rfl) ?_
    refine va_get (D := (dC, dI)) (ci := 3) (v := .int lp) (C := RX4) (T := TX4) (N := 5) hx hb hts (fun w h => List.mem_cons_of_mem _ (inlX4 w h)) hown hK hP 0 rfl rfl 2 (by decide) (hts (.fieldLink RX4 23 "ClearingGates$Reader" "loops" "I") (List.mem_cons_of_mem _ mw_175)) (fun _ h9 => h9) rfl dX4_step_203 ?_
    refine lv_if_le (tgt := 220) hx hb dX4_step_206 (by decide) (fun c49 => ?_) (fun c49 => ?_)
    · skip
      have f_c49 := i_le c49
      refine lv_aload_n hx hb dX4_step_220 rfl (lv_at hl 0 rfl) ?_
      refine lv_iload_n hx hb dX4_step_221 rfl (lv_at hl 1 rfl) ?_
      obtain ⟨hPc, hDc, hFc, hCm, hNw⟩ := C_s (wc := [eO h0 3 [.ref qo, .int op, .int lp, .int fa, .ref jp]]) hP hD hS hA [(0, 1)] 5 rfl (by decide +kernel) rfl
      have hKc := K_s (tys' := []) hK [] rfl
      refine va_calli (va_runV (As := [.int p0]) (rest := []) ⟨hx, hb, hml, hown, hts⟩ (c_X4_faultAt l dC dI h0 p0 qo op lp fa jp H.size h1 (by first | assumption | omega)) (cwV 1 hts gX4_step_X4_faultAt rfl rfl rfl (by decide +kernel) ⟨Nat.le_of_ble_eq_true rfl, Nat.le_of_ble_eq_true rfl⟩) ⟨fun a U g mk q => by obtain ⟨q0, q1, qP, qK, qD⟩ := q; exact ⟨q0, q1, qP, va_K.moved (u := U) (U := U.calling g mk a) (Vm.Alike.refl U.vm) qK, qD⟩, va_recv (s := s) (q := (RX4, TX4, 5)) hKc hPc (ci := 3) (q0 := 0) rfl rfl, fun U hU hW => ⟨rfl, by rw [hU], by rw [hU]; exact hPc, va_K.moved hW.alike hKc, hDc.weaken (fun _ _ _ _ => trivial)⟩⟩ rfl rfl hl.1 rfl (lv_room (Nat.le_of_ble_eq_true rfl)) dX4_step_222 ⟨Nat.le_of_ble_eq_true rfl, Nat.le_of_ble_eq_true rfl⟩) hS (fun q _ h => hFc q h) hFc (fun r50 u t H1 locs ht hvm hw hB hz1 hk1 hS => ?_)
      obtain ⟨hP1, hK1, hD1⟩ := hB
      rw [ht] at hP1
      have hK1 := va_K.moved hvm.symm hK1
      try dsimp only at hw
      obtain ⟨hP, hD⟩ := J_s (wL := [eI qo ko 8 fo, eI pn kpn 80 fpn, eO jp 2 [.ref pb, .ref pn, .int ps], eI pb kpb 80 fpb, eO h0 3 [.ref qo, .int op, .int lp, .int p0, .ref jp]]) hP hD [(0, 1)] [(1, 4)] hCm hNw (by decide +kernel) hk1 hFc hP1 hD1 rfl
      have hK := KJ_s (tys' := [(ko, .int), (kpn, .int), (kpb, .int)]) hK hK1 [(0, 3)] rfl
      generalize H1 = H at hP hS ⊢
      have h_r50 := hw
      rw [hQ9]
      exact W.iret (v := r50) hx hb hr (fun t ht hW => ⟨⟨r50, (), rfl, ⟨by omega, by omega⟩, fo, op, lp, p0, fpn, (by first | exact xo1_r50 | omega), (by first | exact xo2_r50 | omega), (by first | exact xo3_r50 | exact ho3), (by first | exact xb_r50 | exact hb0), by rw [ht]; exact P_s hP [(4, 1), (0, 1), (2, 2), (1, 1)] rfl, va_K.moved hW.alike (K_s hK [(0, 1), (2, 1), (1, 1)] rfl), D_s hD [(4, 1), (0, 1), (2, 2), (1, 1)] 5 rfl (by decide +kernel) rfl⟩, hS.F ht⟩) hS.2.2 dX4_step_225
    · skip
      have f_c49 := i_nle c49
      refine lv_aload_n hx hb dX4_step_209 rfl (lv_at hl 0 rfl) ?_
      refine lv_iload_n hx hb dX4_step_210 rfl (lv_at hl 1 rfl) ?_
      refine lv_iload_n hx hb dX4_step_211 rfl (lv_at hl 1 rfl) ?_
      refine lv_iconst (v := 1) hx hb dX4_step_212 (by decide) ?_
      refine lv_iadd hx hb dX4_step_213 ?_
      refine lv_topi (fun z51 e_z51 => ?_)
      have t_z51 := i_add e_z51 (by omega) (by omega)
      obtain ⟨hPc, hDc, hFc, hCm, hNw⟩ := C_s (wc := [eO h0 3 [.ref qo, .int op, .int lp, .int fa, .ref jp], eO jp 2 [.ref pb, .ref pn, .int ps], eI pb kpb 80 fpb, eI pn kpn 80 fpn]) hP hD hS hA [(0, 1), (3, 2), (2, 1)] 5 rfl (by decide +kernel) rfl
      have hKc := K_s (tys' := [(kpb, .int), (kpn, .int)]) hK [(2, 1), (1, 1)] rfl
      refine va_calli (va_runV (As := [.int p0, .int z51]) (rest := []) ⟨hx, hb, hml, hown, hts⟩ (c_X4_ends l dC dI h0 p0 z51 qo op lp fa jp pb pn ps kpb fpb kpn fpn H.size h1 (by first | assumption | omega) (by first | assumption | omega) (by first | assumption | omega) hb0) (cwV 2 hts gX4_step_X4_ends rfl rfl rfl (by decide +kernel) ⟨Nat.le_of_ble_eq_true rfl, Nat.le_of_ble_eq_true rfl⟩) ⟨fun a U g mk q => by obtain ⟨q0, q1, qP, qK, qD⟩ := q; exact ⟨q0, q1, qP, va_K.moved (u := U) (U := U.calling g mk a) (Vm.Alike.refl U.vm) qK, qD⟩, va_recv (s := s) (q := (RX4, TX4, 5)) hKc hPc (ci := 3) (q0 := 0) rfl rfl, fun U hU hW => ⟨rfl, by rw [hU], by rw [hU]; exact hPc, va_K.moved hW.alike hKc, hDc.weaken (fun _ _ _ _ => trivial)⟩⟩ rfl rfl hl.1 rfl (lv_room (Nat.le_of_ble_eq_true rfl)) dX4_step_214 ⟨Nat.le_of_ble_eq_true rfl, Nat.le_of_ble_eq_true rfl⟩) hS (fun q _ h => hFc q h) hFc (fun r52 u t H1 locs ht hvm hw hB hz1 hk1 hS => ?_)
      obtain ⟨q53, xb_r52, hP1, hK1, hD1⟩ := hB
      rw [ht] at hP1
      have hK1 := va_K.moved hvm.symm hK1
      try dsimp only at hw
      obtain ⟨hP, hD⟩ := J_s (wL := [eI qo ko 8 fo, eO h0 3 [.ref qo, .int op, .int lp, .int fa, .ref jp], eO jp 2 [.ref pb, .ref pn, .int ps], eI pb kpb 80 fpb, eI pn kpn 80 q53]) hP hD [(0, 1), (3, 2), (2, 1)] [(1, 1)] hCm hNw (by decide +kernel) hk1 hFc hP1 hD1 rfl
      have hK := KJ_s (tys' := [(ko, .int), (kpb, .int), (kpn, .int)]) hK hK1 [(0, 1)] rfl
      generalize H1 = H at hP hS ⊢
      have h_r52 := hw
      have t_r52 := i_eq hw
      refine lv_goto (tgt := 225) hx hb dX4_step_217 (by decide) ?_
      rw [hQ9]
      exact W.iret (v := r52) hx hb hr (fun t ht hW => ⟨⟨r52, (), rfl, ⟨by omega, by omega⟩, fo, op, lp, fa, q53, (by first | exact xo1_r52 | omega), (by first | exact xo2_r52 | omega), (by first | exact xo3_r52 | exact ho3), (by first | exact xb_r52 | exact hb0), by rw [ht]; exact P_s hP [(1, 1), (0, 1), (2, 3)] rfl, va_K.moved hW.alike hK, D_s hD [(1, 1), (0, 1), (2, 3)] 5 rfl (by decide +kernel) rfl⟩, hS.F ht⟩) hS.2.2 dX4_step_225
  have f_c48 := i_ne c48
  rcases Decidable.em (r1 = 110) with c54 | c54
  · refine lv_lookup (off := 188) (tgt := 196) hx hb dX4_step_8 (by decide) (by rw [c54]; decide) (by decide) ?_
    have f_c54 := i_eq c54
    refine lv_aload_n hx hb dX4_step_196 rfl (lv_at hl 0 rfl) ?_
    refine lv_iload_n hx hb dX4_step_197 rfl (lv_at hl 1 rfl) ?_
    obtain ⟨hPc, hDc, hFc, hCm, hNw⟩ := C_s (wc := [eO h0 3 [.ref qo, .int op, .int lp, .int fa, .ref jp], eO jp 2 [.ref pb, .ref pn, .int ps], eI pb kpb 80 fpb, eI pn kpn 80 fpn]) hP hD hS hA [(0, 1), (3, 2), (2, 1)] 5 rfl (by decide +kernel) rfl
    have hKc := K_s (tys' := [(kpb, .int), (kpn, .int)]) hK [(2, 1), (1, 1)] rfl
    refine va_calli (va_runV (As := [.int p0]) (rest := []) ⟨hx, hb, hml, hown, hts⟩ (c_X4_bell l dC dI h0 p0 qo op lp fa jp pb pn ps kpb fpb kpn fpn H.size hp1 hp2 h1 h2 hb0) (cwV 1 hts gX4_step_X4_bell rfl rfl rfl (by decide +kernel) ⟨Nat.le_of_ble_eq_true rfl, Nat.le_of_ble_eq_true rfl⟩) ⟨fun a U g mk q => by obtain ⟨q0, q1, qP, qK, qD⟩ := q; exact ⟨q0, q1, qP, va_K.moved (u := U) (U := U.calling g mk a) (Vm.Alike.refl U.vm) qK, qD⟩, va_recv (s := s) (q := (RX4, TX4, 5)) hKc hPc (ci := 3) (q0 := 0) rfl rfl, fun U hU hW => ⟨rfl, by rw [hU], by rw [hU]; exact hPc, va_K.moved hW.alike hKc, hDc.weaken (fun _ _ _ _ => trivial)⟩⟩ rfl rfl hl.1 rfl (lv_room (Nat.le_of_ble_eq_true rfl)) dX4_step_198 ⟨Nat.le_of_ble_eq_true rfl, Nat.le_of_ble_eq_true rfl⟩) hS (fun q _ h => hFc q h) hFc (fun r55 u t H1 locs ht hvm hw hB hz1 hk1 hS => ?_)
    obtain ⟨q56, q57, xb_r55, hP1, hK1, hD1⟩ := hB
    rw [ht] at hP1
    have hK1 := va_K.moved hvm.symm hK1
    try dsimp only at hw
    obtain ⟨hP, hD⟩ := J_s (wL := [eI qo ko 8 fo, eO h0 3 [.ref qo, .int op, .int lp, .int q56, .ref jp], eO jp 2 [.ref pb, .ref pn, .int ps], eI pb kpb 80 fpb, eI pn kpn 80 q57]) hP hD [(0, 1), (3, 2), (2, 1)] [(1, 1)] hCm hNw (by decide +kernel) hk1 hFc hP1 hD1 rfl
    have hK := KJ_s (tys' := [(ko, .int), (kpb, .int), (kpn, .int)]) hK hK1 [(0, 1)] rfl
    generalize H1 = H at hP hS ⊢
    have h_r55 := hw
    rw [hQ9]
    exact W.iret (v := r55) hx hb hr (fun t ht hW => ⟨⟨r55, (), rfl, ⟨by omega, by omega⟩, fo, op, lp, q56, q57, (by first | exact xo1_r55 | omega), (by first | exact xo2_r55 | omega), (by first | exact xo3_r55 | exact ho3), (by first | exact xb_r55 | exact hb0), by rw [ht]; exact P_s hP [(1, 1), (0, 1), (2, 3)] rfl, va_K.moved hW.alike hK, D_s hD [(1, 1), (0, 1), (2, 3)] 5 rfl (by decide +kernel) rfl⟩, hS.F ht⟩) hS.2.2 dX4_step_201
  have f_c54 := i_ne c54
  rcases Decidable.em (r1 = 112) with c58 | c58
  · refine lv_lookup (off := 182) (tgt := 190) hx hb dX4_step_8 (by decide) (by rw [c58]; decide) (by decide) ?_
    have f_c58 := i_eq c58
    refine lv_aload_n hx hb dX4_step_190 rfl (lv_at hl 0 rfl) ?_
    refine lv_iload_n hx hb dX4_step_191 rfl (lv_at hl 1 rfl) ?_
    obtain ⟨hPc, hDc, hFc, hCm, hNw⟩ := C_s (wc := [eO h0 3 [.ref qo, .int op, .int lp, .int fa, .ref jp], eO jp 2 [.ref pb, .ref pn, .int ps], eI pb kpb 80 fpb, eI pn kpn 80 fpn]) hP hD hS hA [(0, 1), (3, 2), (2, 1)] 5 rfl (by decide +kernel) rfl
    have hKc := K_s (tys' := [(kpb, .int), (kpn, .int)]) hK [(2, 1), (1, 1)] rfl
    refine va_calli (va_runV (As := [.int p0]) (rest := []) ⟨hx, hb, hml, hown, hts⟩ (c_X4_payment l dC dI h0 p0 qo op lp fa jp pb pn ps kpb fpb kpn fpn H.size hp1 hp2 h1 h2 hb0) (cwV 1 hts gX4_step_X4_payment rfl rfl rfl (by decide +kernel) ⟨Nat.le_of_ble_eq_true rfl, Nat.le_of_ble_eq_true rfl⟩) ⟨fun a U g mk q => by obtain ⟨q0, q1, qP, qK, qD⟩ := q; exact ⟨q0, q1, qP, va_K.moved (u := U) (U := U.calling g mk a) (Vm.Alike.refl U.vm) qK, qD⟩, va_recv (s := s) (q := (RX4, TX4, 5)) hKc hPc (ci := 3) (q0 := 0) rfl rfl, fun U hU hW => ⟨rfl, by rw [hU], by rw [hU]; exact hPc, va_K.moved hW.alike hKc, hDc.weaken (fun _ _ _ _ => trivial)⟩⟩ rfl rfl hl.1 rfl (lv_room (Nat.le_of_ble_eq_true rfl)) dX4_step_192 ⟨Nat.le_of_ble_eq_true rfl, Nat.le_of_ble_eq_true rfl⟩) hS (fun q _ h => hFc q h) hFc (fun r59 u t H1 locs ht hvm hw hB hz1 hk1 hS => ?_)
    obtain ⟨q60, q61, xb_r59, hP1, hK1, hD1⟩ := hB
    rw [ht] at hP1
    have hK1 := va_K.moved hvm.symm hK1
    try dsimp only at hw
    obtain ⟨hP, hD⟩ := J_s (wL := [eI qo ko 8 fo, eO h0 3 [.ref qo, .int op, .int lp, .int q60, .ref jp], eO jp 2 [.ref pb, .ref pn, .int ps], eI pb kpb 80 fpb, eI pn kpn 80 q61]) hP hD [(0, 1), (3, 2), (2, 1)] [(1, 1)] hCm hNw (by decide +kernel) hk1 hFc hP1 hD1 rfl
    have hK := KJ_s (tys' := [(ko, .int), (kpb, .int), (kpn, .int)]) hK hK1 [(0, 1)] rfl
    generalize H1 = H at hP hS ⊢
    have h_r59 := hw
    rw [hQ9]
    exact W.iret (v := r59) hx hb hr (fun t ht hW => ⟨⟨r59, (), rfl, ⟨by omega, by omega⟩, fo, op, lp, q60, q61, (by first | exact xo1_r59 | omega), (by first | exact xo2_r59 | omega), (by first | exact xo3_r59 | exact ho3), (by first | exact xb_r59 | exact hb0), by rw [ht]; exact P_s hP [(1, 1), (0, 1), (2, 3)] rfl, va_K.moved hW.alike hK, D_s hD [(1, 1), (0, 1), (2, 3)] 5 rfl (by decide +kernel) rfl⟩, hS.F ht⟩) hS.2.2 dX4_step_195
  have f_c58 := i_ne c58
  rcases Decidable.em (r1 = 120) with c62 | c62
  · refine lv_lookup (off := 218) (tgt := 226) hx hb dX4_step_8 (by decide) (by rw [c62]; decide) (by decide) ?_
    have f_c62 := i_eq c62
    refine lv_aload_n hx hb dX4_step_226 rfl (lv_at hl 0 rfl) ?_
    refine lv_iload_n hx hb dX4_step_227 rfl (lv_at hl 1 rfl) ?_
    refine lv_iload_n hx hb dX4_step_228 rfl (lv_at hl 1 rfl) ?_
    refine lv_iconst (v := 1) hx hb dX4_step_229 (by decide) ?_
    refine lv_iadd hx hb dX4_step_230 ?_
    refine lv_topi (fun z63 e_z63 => ?_)
    have t_z63 := i_add e_z63 (by omega) (by omega)
    obtain ⟨hPc, hDc, hFc, hCm, hNw⟩ := C_s (wc := [eO h0 3 [.ref qo, .int op, .int lp, .int fa, .ref jp], eO jp 2 [.ref pb, .ref pn, .int ps], eI pb kpb 80 fpb, eI pn kpn 80 fpn]) hP hD hS hA [(0, 1), (3, 2), (2, 1)] 5 rfl (by decide +kernel) rfl
    have hKc := K_s (tys' := [(kpb, .int), (kpn, .int)]) hK [(2, 1), (1, 1)] rfl
    refine va_calli (va_runV (As := [.int p0, .int z63]) (rest := []) ⟨hx, hb, hml, hown, hts⟩ (c_X4_ends l dC dI h0 p0 z63 qo op lp fa jp pb pn ps kpb fpb kpn fpn H.size h1 (by first | assumption | omega) (by first | assumption | omega) (by first | assumption | omega) hb0) (cwV 2 hts gX4_step_X4_ends rfl rfl rfl (by decide +kernel) ⟨Nat.le_of_ble_eq_true rfl, Nat.le_of_ble_eq_true rfl⟩) ⟨fun a U g mk q => by obtain ⟨q0, q1, qP, qK, qD⟩ := q; exact ⟨q0, q1, qP, va_K.moved (u := U) (U := U.calling g mk a) (Vm.Alike.refl U.vm) qK, qD⟩, va_recv (s := s) (q := (RX4, TX4, 5)) hKc hPc (ci := 3) (q0 := 0) rfl rfl, fun U hU hW => ⟨rfl, by rw [hU], by rw [hU]; exact hPc, va_K.moved hW.alike hKc, hDc.weaken (fun _ _ _ _ => trivial)⟩⟩ rfl rfl hl.1 rfl (lv_room (Nat.le_of_ble_eq_true rfl)) dX4_step_231 ⟨Nat.le_of_ble_eq_true rfl, Nat.le_of_ble_eq_true rfl⟩) hS (fun q _ h => hFc q h) hFc (fun r64 u t H1 locs ht hvm hw hB hz1 hk1 hS => ?_)
    obtain ⟨q65, xb_r64, hP1, hK1, hD1⟩ := hB
    rw [ht] at hP1
    have hK1 := va_K.moved hvm.symm hK1
    try dsimp only at hw
    obtain ⟨hP, hD⟩ := J_s (wL := [eI qo ko 8 fo, eO h0 3 [.ref qo, .int op, .int lp, .int fa, .ref jp], eO jp 2 [.ref pb, .ref pn, .int ps], eI pb kpb 80 fpb, eI pn kpn 80 q65]) hP hD [(0, 1), (3, 2), (2, 1)] [(1, 1)] hCm hNw (by decide +kernel) hk1 hFc hP1 hD1 rfl
    have hK := KJ_s (tys' := [(ko, .int), (kpb, .int), (kpn, .int)]) hK hK1 [(0, 1)] rfl
    generalize H1 = H at hP hS ⊢
    have h_r64 := hw
    have t_r64 := i_eq hw
    rw [hQ9]
    exact W.iret (v := r64) hx hb hr (fun t ht hW => ⟨⟨r64, (), rfl, ⟨by omega, by omega⟩, fo, op, lp, fa, q65, (by first | exact xo1_r64 | omega), (by first | exact xo2_r64 | omega), (by first | exact xo3_r64 | exact ho3), (by first | exact xb_r64 | exact hb0), by rw [ht]; exact P_s hP [(1, 1), (0, 1), (2, 3)] rfl, va_K.moved hW.alike hK, D_s hD [(1, 1), (0, 1), (2, 3)] 5 rfl (by decide +kernel) rfl⟩, hS.F ht⟩) hS.2.2 dX4_step_234
  have f_c62 := i_ne c62
  rcases Decidable.em (r1 = 123) with c66 | c66
  · refine lv_lookup (off := 134) (tgt := 142) hx hb dX4_step_8 (by decide) (by rw [c66]; decide) (by decide) ?_
    have f_c66 := i_eq c66
    refine lv_aload_n hx hb dX4_step_142 rfl (lv_at hl 0 rfl) ?_
    refine lv_iload_n hx hb dX4_step_143 rfl (lv_at hl 1 rfl) ?_
    refine lv_bipush (v := 49) hx hb dX4_step_144 (by decide) ?_
    refine lv_bipush (v := 57) hx hb dX4_step_146 (by decide) ?_
    obtain ⟨hPc, hDc, hFc, hCm, hNw⟩ := C_s (wc := [eO h0 3 [.ref qo, .int op, .int lp, .int fa, .ref jp], eI qo ko 8 fo, eO jp 2 [.ref pb, .ref pn, .int ps], eI pb kpb 80 fpb, eI pn kpn 80 fpn]) hP hD hS hA [(0, 2), (3, 2), (2, 1)] 5 rfl (by decide +kernel) rfl
    have hKc := K_s (tys' := [(ko, .int), (kpb, .int), (kpn, .int)]) hK [(0, 1), (2, 1), (1, 1)] rfl
    refine va_calli (va_runV (As := [.int p0, .int 49, .int 57]) (rest := []) ⟨hx, hb, hml, hown, hts⟩ (c_X4_openingWithFigure l dC dI h0 p0 49 57 qo op lp fa jp ko fo pb pn ps kpb fpb kpn fpn H.size hp1 hp2 h1 h2 ho1 ho2 ho3 (by first | assumption | omega)) (cwV 3 hts gX4_step_X4_openingWithFigure rfl rfl rfl (by decide +kernel) ⟨Nat.le_of_ble_eq_true rfl, Nat.le_of_ble_eq_true rfl⟩) ⟨fun a U g mk q => by obtain ⟨q0, q1, qP, qK, qD⟩ := q; exact ⟨q0, q1, qP, va_K.moved (u := U) (U := U.calling g mk a) (Vm.Alike.refl U.vm) qK, qD⟩, va_recv (s := s) (q := (RX4, TX4, 5)) hKc hPc (ci := 3) (q0 := 0) rfl rfl, fun U hU hW => ⟨rfl, by rw [hU], by rw [hU]; exact hPc, va_K.moved hW.alike hKc, hDc.weaken (fun _ _ _ _ => trivial)⟩⟩ rfl rfl hl.1 rfl (lv_room (Nat.le_of_ble_eq_true rfl)) dX4_step_148 ⟨Nat.le_of_ble_eq_true rfl, Nat.le_of_ble_eq_true rfl⟩) hS (fun q _ h => hFc q h) hFc (fun r67 u t H1 locs ht hvm hw hB hz1 hk1 hS => ?_)
    obtain ⟨q68, q69, q70, q71, xo1_r67, xo2_r67, xo3_r67, hP1, hK1, hD1⟩ := hB
    rw [ht] at hP1
    have hK1 := va_K.moved hvm.symm hK1
    try dsimp only at hw
    obtain ⟨hP, hD⟩ := J_s (wL := [eO h0 3 [.ref qo, .int q69, .int q70, .int q71, .ref jp], eI qo ko 8 q68, eO jp 2 [.ref pb, .ref pn, .int ps], eI pb kpb 80 fpb, eI pn kpn 80 fpn]) hP hD [(0, 2), (3, 2), (2, 1)] [] hCm hNw (by decide +kernel) hk1 hFc hP1 hD1 rfl
    have hK := KJ_s (tys' := [(ko, .int), (kpb, .int), (kpn, .int)]) hK hK1 [] rfl
    generalize H1 = H at hP hS ⊢
    have h_r67 := hw
    rw [hQ9]
    exact W.iret (v := r67) hx hb hr (fun t ht hW => ⟨⟨r67, (), rfl, ⟨by omega, by omega⟩, q68, q69, q70, q71, fpn, (by first | exact xo1_r67 | omega), (by first | exact xo2_r67 | omega), (by first | exact xo3_r67 | exact ho3), (by first | exact xb_r67 | exact hb0), by rw [ht]; exact hP, va_K.moved hW.alike hK, hD⟩, hS.F ht⟩) hS.2.2 dX4_step_151
  have f_c66 := i_ne c66
  rcases Decidable.em (r1 = 125) with c72 | c72
  · refine lv_lookup (off := 158) (tgt := 166) hx hb dX4_step_8 (by decide) (by rw [c72]; decide) (by decide) ?_
    have f_c72 := i_eq c72
    refine lv_aload_n hx hb dX4_step_166 rfl (lv_at hl 0 rfl) ?_
    refine lv_iload_n hx hb dX4_step_167 rfl (lv_at hl 1 rfl) ?_
    refine lv_bipush (v := 123) hx hb dX4_step_168 (by decide) ?_
    obtain ⟨hPc, hDc, hFc, hCm, hNw⟩ := C_s (wc := [eO h0 3 [.ref qo, .int op, .int lp, .int fa, .ref jp], eI qo ko 8 fo, eO jp 2 [.ref pb, .ref pn, .int ps], eI pb kpb 80 fpb, eI pn kpn 80 fpn]) hP hD hS hA [(0, 2), (3, 2), (2, 1)] 5 rfl (by decide +kernel) rfl
    have hKc := K_s (tys' := [(ko, .int), (kpb, .int), (kpn, .int)]) hK [(0, 1), (2, 1), (1, 1)] rfl
    refine va_calli (va_runV (As := [.int p0, .int 123]) (rest := []) ⟨hx, hb, hml, hown, hts⟩ (c_X4_closing l dC dI h0 p0 123 qo op lp fa jp ko fo pb pn ps kpb fpb kpn fpn H.size hp1 hp2 h1 h2 ho1 ho2 ho3 hb0) (cwV 2 hts gX4_step_X4_closing rfl rfl rfl (by decide +kernel) ⟨Nat.le_of_ble_eq_true rfl, Nat.le_of_ble_eq_true rfl⟩) ⟨fun a U g mk q => by obtain ⟨q0, q1, qP, qK, qD⟩ := q; exact ⟨q0, q1, qP, va_K.moved (u := U) (U := U.calling g mk a) (Vm.Alike.refl U.vm) qK, qD⟩, va_recv (s := s) (q := (RX4, TX4, 5)) hKc hPc (ci := 3) (q0 := 0) rfl rfl, fun U hU hW => ⟨rfl, by rw [hU], by rw [hU]; exact hPc, va_K.moved hW.alike hKc, hDc.weaken (fun _ _ _ _ => trivial)⟩⟩ rfl rfl hl.1 rfl (lv_room (Nat.le_of_ble_eq_true rfl)) dX4_step_170 ⟨Nat.le_of_ble_eq_true rfl, Nat.le_of_ble_eq_true rfl⟩) hS (fun q _ h => hFc q h) hFc (fun r73 u t H1 locs ht hvm hw hB hz1 hk1 hS => ?_)
    obtain ⟨q74, q75, q76, q77, xo1_r73, xo2_r73, xo3_r73, xb_r73, hP1, hK1, hD1⟩ := hB
    rw [ht] at hP1
    have hK1 := va_K.moved hvm.symm hK1
    try dsimp only at hw
    obtain ⟨hP, hD⟩ := J_s (wL := [eO h0 3 [.ref qo, .int q74, .int q75, .int q76, .ref jp], eI qo ko 8 fo, eO jp 2 [.ref pb, .ref pn, .int ps], eI pb kpb 80 fpb, eI pn kpn 80 q77]) hP hD [(0, 2), (3, 2), (2, 1)] [] hCm hNw (by decide +kernel) hk1 hFc hP1 hD1 rfl
    have hK := KJ_s (tys' := [(ko, .int), (kpb, .int), (kpn, .int)]) hK hK1 [] rfl
    generalize H1 = H at hP hS ⊢
    have h_r73 := hw
    rw [hQ9]
    exact W.iret (v := r73) hx hb hr (fun t ht hW => ⟨⟨r73, (), rfl, ⟨by omega, by omega⟩, fo, q74, q75, q76, q77, (by first | exact xo1_r73 | omega), (by first | exact xo2_r73 | omega), (by first | exact xo3_r73 | exact ho3), (by first | exact xb_r73 | exact hb0), by rw [ht]; exact hP, va_K.moved hW.alike hK, hD⟩, hS.F ht⟩) hS.2.2 dX4_step_173
  have f_c72 := i_ne c72
  refine lv_lookup (off := 227) (tgt := 235) hx hb dX4_step_8 (by decide) (by rw [lv_osw c2 (by decide), lv_osw c8 (by decide), lv_osw c14 (by decide), lv_osw c20 (by decide), lv_osw c26 (by decide), lv_osw c32 (by decide), lv_osw c38 (by decide), lv_osw c42 (by decide), lv_osw c48 (by decide), lv_osw c54 (by decide), lv_osw c58 (by decide), lv_osw c62 (by decide), lv_osw c66 (by decide), lv_osw c72 (by decide)]; rfl) (by decide) ?_
  refine lv_aload_n hx hb dX4_step_235 rfl (lv_at hl 0 rfl) ?_
  refine lv_iload_n hx hb dX4_step_236 rfl (lv_at hl 1 rfl) ?_
  obtain ⟨hPc, hDc, hFc, hCm, hNw⟩ := C_s (wc := [eO h0 3 [.ref qo, .int op, .int lp, .int fa, .ref jp]]) hP hD hS hA [(0, 1)] 5 rfl (by decide +kernel) rfl
  have hKc := K_s (tys' := []) hK [] rfl
  refine va_calli (va_runV (As := [.int p0]) (rest := []) ⟨hx, hb, hml, hown, hts⟩ (c_X4_faultAt l dC dI h0 p0 qo op lp fa jp H.size h1 (by first | assumption | omega)) (cwV 1 hts gX4_step_X4_faultAt rfl rfl rfl (by decide +kernel) ⟨Nat.le_of_ble_eq_true rfl, Nat.le_of_ble_eq_true rfl⟩) ⟨fun a U g mk q => by obtain ⟨q0, q1, qP, qK, qD⟩ := q; exact ⟨q0, q1, qP, va_K.moved (u := U) (U := U.calling g mk a) (Vm.Alike.refl U.vm) qK, qD⟩, va_recv (s := s) (q := (RX4, TX4, 5)) hKc hPc (ci := 3) (q0 := 0) rfl rfl, fun U hU hW => ⟨rfl, by rw [hU], by rw [hU]; exact hPc, va_K.moved hW.alike hKc, hDc.weaken (fun _ _ _ _ => trivial)⟩⟩ rfl rfl hl.1 rfl (lv_room (Nat.le_of_ble_eq_true rfl)) dX4_step_237 ⟨Nat.le_of_ble_eq_true rfl, Nat.le_of_ble_eq_true rfl⟩) hS (fun q _ h => hFc q h) hFc (fun r78 u t H1 locs ht hvm hw hB hz1 hk1 hS => ?_)
  obtain ⟨hP1, hK1, hD1⟩ := hB
  rw [ht] at hP1
  have hK1 := va_K.moved hvm.symm hK1
  try dsimp only at hw
  obtain ⟨hP, hD⟩ := J_s (wL := [eI qo ko 8 fo, eI pn kpn 80 fpn, eO jp 2 [.ref pb, .ref pn, .int ps], eI pb kpb 80 fpb, eO h0 3 [.ref qo, .int op, .int lp, .int p0, .ref jp]]) hP hD [(0, 1)] [(1, 4)] hCm hNw (by decide +kernel) hk1 hFc hP1 hD1 rfl
  have hK := KJ_s (tys' := [(ko, .int), (kpn, .int), (kpb, .int)]) hK hK1 [(0, 3)] rfl
  generalize H1 = H at hP hS ⊢
  have h_r78 := hw
  rw [hQ9]
  exact W.iret (v := r78) hx hb hr (fun t ht hW => ⟨⟨r78, (), rfl, ⟨by omega, by omega⟩, fo, op, lp, p0, fpn, (by first | exact xo1_r78 | omega), (by first | exact xo2_r78 | omega), (by first | exact xo3_r78 | exact ho3), (by first | exact xb_r78 | exact hb0), by rw [ht]; exact P_s hP [(4, 1), (0, 1), (2, 2), (1, 1)] rfl, va_K.moved hW.alike (K_s hK [(0, 1), (2, 1), (1, 1)] rfl), D_s hD [(4, 1), (0, 1), (2, 2), (1, 1)] 5 rfl (by decide +kernel) rfl⟩, hS.F ht⟩) hS.2.2 dX4_step_240

set_option maxRecDepth 100000 in
set_option maxHeartbeats 4000000 in
/-- Reader.faultOf -/
theorem c_X4_faultOf (l : Launch) (dC : Nat → ClassId) (dI : Nat → Nat → Nat) (h0 : Nat) (h1 : Nat) (qo : Nat) (op : Int32) (lp : Int32) (fa : Int32) (oldp : Value) (ko : ClassId) (fo : Nat → Int32) (pb : Nat) (pn : Nat) (ps : Int32) (kpb : ClassId) (fpb : Nat → Int32) (kpn : ClassId) (fpn : Nat → Int32) (sz : Nat) (hp1 : 0 ≤ ps.toInt) (hp2 : ps.toInt ≤ 80) (hb0 : ∀ k : Nat, 0 ≤ (fpn k).toInt ∧ (fpn k).toInt ≤ 80) : Met l yX4_faultOf wsX4_faultOf ({ frames := 4, cells := 0, slots := 0, locals := 89 }) (va_Pc [.ref h0, .ref h1] (fun U => U.heap.size = sz ∧ va_P (dC, dI) vwCl [eO h0 3 [.ref qo, .int op, .int lp, .int fa, oldp], eI qo ko 8 fo, eO h1 2 [.ref pb, .ref pn, .int ps], eI pb kpb 80 fpb, eI pn kpn 80 fpn] U.heap ∧ va_K (dC, dI) vwCl [(ko, .int), (kpb, .int), (kpn, .int)] U ∧ va_D (fun _ => True) [eO h0 3 [.ref qo, .int op, .int lp, .int fa, oldp], eI qo ko 8 fo, eO h1 2 [.ref pb, .ref pn, .int ps], eI pb kpb 80 fpb, eI pn kpn 80 fpn])) (va_Qi (fun (r : Int32) (_ : Unit) => True) (fun (_ : Unit) (t : State) => ∃ (op' : Int32), ∃ (lp' : Int32), ∃ (fa' : Int32), ∃ (fo' : Nat → Int32), ∃ (fpn' : Nat → Int32), (∀ k : Nat, 0 ≤ (fpn' k).toInt ∧ (fpn' k).toInt ≤ 80) ∧ va_P (dC, dI) vwCl [eO h0 3 [.ref qo, .int op', .int lp', .int fa', .ref h1], eI qo ko 8 (fo'), eO h1 2 [.ref pb, .ref pn, .int ps], eI pb kpb 80 fpb, eI pn kpn 80 (fpn')] t.heap ∧ va_K (dC, dI) vwCl [(ko, .int), (kpb, .int), (kpn, .int)] t ∧ va_D (va_A [eO h0 3 [.ref qo, .int op, .int lp, .int fa, oldp], eI qo ko 8 fo, eO h1 2 [.ref pb, .ref pn, .int ps], eI pb kpb 80 fpb, eI pn kpn 80 fpn] sz) [eO h0 3 [.ref qo, .int op', .int lp', .int fa', .ref h1], eI qo ko 8 (fo'), eO h1 2 [.ref pb, .ref pn, .int ps], eI pb kpb 80 fpb, eI pn kpn 80 (fpn')]) (va_A [eO h0 3 [.ref qo, .int op, .int lp, .int fa, oldp], eI qo ko 8 fo, eO h1 2 [.ref pb, .ref pn, .int ps], eI pb kpb 80 fpb, eI pn kpn 80 fpn] sz)) 0 0 (va_A [eO h0 3 [.ref qo, .int op, .int lp, .int fa, oldp], eI qo ko 8 fo, eO h1 2 [.ref pb, .ref pn, .int ps], eI pb kpb 80 fpb, eI pn kpn 80 fpn] sz) := by
  refine Met.ofW (cc := cX4_faultOf) (maxL := 4) (ret := (some .int)) (by decide) rfl ?_
  intro p e s m args below meth c s₁ B hml hv
  obtain ⟨rfl, hsz, hP, hK, hD0⟩ := hv
  have hx := B.exec
  have hb := B.bytes
  have hr := B.returns
  have hts := atoms_spec (ws := wsX4_faultOf) B.pre
  have hown : s.vm.findClass RX4 = some m.cls := findClass_of_methodNamed B.named
  have hlocks := B.notSynchronized
  subst hsz
  have hD := hD0.self (sz := s.heap.size)
  generalize hAe : va_A [eO h0 3 [.ref qo, .int op, .int lp, .int fa, oldp], eI qo ko 8 fo, eO h1 2 [.ref pb, .ref pn, .int ps], eI pb kpb 80 fpb, eI pn kpn 80 fpn] s.heap.size = A at hD ⊢
  have hA : ∀ q : Nat, s.heap.size ≤ q → A q := fun q h => by rw [← hAe]; exact Or.inr h
  have hS : va_S A s.heap s.heap [] := va_S.rf
  have hP : va_P (dC, dI) vwCl [eO h0 3 [.ref qo, .int op, .int lp, .int fa, oldp], eI qo ko 8 fo, eO h1 2 [.ref pb, .ref pn, .int ps], eI pb kpb 80 fpb, eI pn kpn 80 fpn] s.heap := hP
  have hl := lv_entry ([.ref h0, .ref h1]) (n := 4) (Nat.le_of_ble_eq_true rfl)
  rw [lg_entry_eq]
  generalize (lg_sl ([.ref h0, .ref h1]) ++ List.replicate (4 - (lg_sl ([.ref h0, .ref h1])).length) Slot.unset).toArray = ls at hl ⊢
  have hl : lv_has ls 4 [(0, .ref h0), (1, .ref h1)] := hl
  suffices key9 : ∀ Q9 : State → Prop, Q9 = (MQ below (va_Qi (fun (r : Int32) (_ : Unit) => True) (fun (_ : Unit) (t : State) => ∃ (op' : Int32), ∃ (lp' : Int32), ∃ (fa' : Int32), ∃ (fo' : Nat → Int32), ∃ (fpn' : Nat → Int32), (∀ k : Nat, 0 ≤ (fpn' k).toInt ∧ (fpn' k).toInt ≤ 80) ∧ va_P (dC, dI) vwCl [eO h0 3 [.ref qo, .int op', .int lp', .int fa', .ref h1], eI qo ko 8 (fo'), eO h1 2 [.ref pb, .ref pn, .int ps], eI pb kpb 80 fpb, eI pn kpn 80 (fpn')] t.heap ∧ va_K (dC, dI) vwCl [(ko, .int), (kpb, .int), (kpn, .int)] t ∧ va_D A [eO h0 3 [.ref qo, .int op', .int lp', .int fa', .ref h1], eI qo ko 8 (fo'), eO h1 2 [.ref pb, .ref pn, .int ps], eI pb kpb 80 fpb, eI pn kpn 80 (fpn')]) A) (([.ref h0, .ref h1] : List Value).toArray) s 0 0 A) → W p l e ({ frames := 4, cells := 0, slots := 0, locals := 89 }) s m (([.ref h0, .ref h1] : List Value).toArray) below meth c s.heap [] 0 0 Q9 (F0 m 0 ls []) from key9 _ rfl
  intro Q9 hQ9
  have k_m1 : ((-1) : Int32).toInt = (-1) := by decide
  have k_0 : (0 : Int32).toInt = 0 := by decide
  have k_1 : (1 : Int32).toInt = 1 := by decide
  refine lv_aload_n hx hb dX4_faultOf_0 rfl (lv_at hl 0 rfl) ?_
  refine lv_aload_n hx hb dX4_faultOf_1 rfl (lv_at hl 1 rfl) ?_
  refine va_put (D := (dC, dI)) (ci := 3) (v := .ref h1) (ty := .object "ClearingGates$Program") (C := RX4) (T := TX4) (N := 5) hx hb hts (fun w h => List.mem_cons_of_mem _ (inlX4 w h)) tyX4 tyX4_ok nmX4 hown hK hP hD hS 0 rfl rfl 4 (by decide) (hts (.fieldLink RX4 15 "ClearingGates$Reader" "program" "LClearingGates$Program;") (List.mem_cons_of_mem _ mw_177)) (fun _ h9 => h9) rfl (by decide +kernel) rfl rfl (Nat.le_of_ble_eq_true rfl) dX4_faultOf_2 (fun H locs hP hD hS => ?_)
  obtain ⟨hP, hD⟩ := X_s (ws' := [eO h0 3 [.ref qo, .int op, .int lp, .int fa, .ref h1], eI qo ko 8 fo, eO h1 2 [.ref pb, .ref pn, .int ps], eI pb kpb 80 fpb, eI pn kpn 80 fpn]) hP hD rfl
  refine lv_aload_n hx hb dX4_faultOf_5 rfl (lv_at hl 0 rfl) ?_
  refine lv_iconst (v := 0) hx hb dX4_faultOf_6 (by decide) ?_
  refine va_put (D := (dC, dI)) (ci := 3) (v := .int 0) (ty := .int) (C := RX4) (T := TX4) (N := 5) hx hb hts (fun w h => List.mem_cons_of_mem _ (inlX4 w h)) tyX4 tyX4_ok nmX4 hown hK hP hD hS 0 rfl rfl 1 (by decide) (hts (.fieldLink RX4 19 "ClearingGates$Reader" "open" "I") (List.mem_cons_of_mem _ mw_174)) (fun _ h9 => h9) rfl (by decide +kernel) rfl rfl (Nat.le_of_ble_eq_true rfl) dX4_faultOf_7 (fun H locs hP hD hS => ?_)
  obtain ⟨hP, hD⟩ := X_s (ws' := [eO h0 3 [.ref qo, .int 0, .int lp, .int fa, .ref h1], eI qo ko 8 fo, eO h1 2 [.ref pb, .ref pn, .int ps], eI pb kpb 80 fpb, eI pn kpn 80 fpn]) hP hD rfl
  refine lv_aload_n hx hb dX4_faultOf_10 rfl (lv_at hl 0 rfl) ?_
  refine lv_iconst (v := 0) hx hb dX4_faultOf_11 (by decide) ?_
  refine va_put (D := (dC, dI)) (ci := 3) (v := .int 0) (ty := .int) (C := RX4) (T := TX4) (N := 5) hx hb hts (fun w h => List.mem_cons_of_mem _ (inlX4 w h)) tyX4 tyX4_ok nmX4 hown hK hP hD hS 0 rfl rfl 2 (by decide) (hts (.fieldLink RX4 23 "ClearingGates$Reader" "loops" "I") (List.mem_cons_of_mem _ mw_175)) (fun _ h9 => h9) rfl (by decide +kernel) rfl rfl (Nat.le_of_ble_eq_true rfl) dX4_faultOf_12 (fun H locs hP hD hS => ?_)
  obtain ⟨hP, hD⟩ := X_s (ws' := [eO h0 3 [.ref qo, .int 0, .int 0, .int fa, .ref h1], eI qo ko 8 fo, eO h1 2 [.ref pb, .ref pn, .int ps], eI pb kpb 80 fpb, eI pn kpn 80 fpn]) hP hD rfl
  refine lv_aload_n hx hb dX4_faultOf_15 rfl (lv_at hl 0 rfl) ?_
  refine lv_iconst (v := -1) hx hb dX4_faultOf_16 (by decide) ?_
  refine va_put (D := (dC, dI)) (ci := 3) (v := .int (-1)) (ty := .int) (C := RX4) (T := TX4) (N := 5) hx hb hts (fun w h => List.mem_cons_of_mem _ (inlX4 w h)) tyX4 tyX4_ok nmX4 hown hK hP hD hS 0 rfl rfl 3 (by decide) (hts (.fieldLink RX4 26 "ClearingGates$Reader" "fault" "I") (List.mem_cons_of_mem _ mw_176)) (fun _ h9 => h9) rfl (by decide +kernel) rfl rfl (Nat.le_of_ble_eq_true rfl) dX4_faultOf_17 (fun H locs hP hD hS => ?_)
  obtain ⟨hP, hD⟩ := X_s (ws' := [eO h0 3 [.ref qo, .int 0, .int 0, .int (-1), .ref h1], eI qo ko 8 fo, eO h1 2 [.ref pb, .ref pn, .int ps], eI pb kpb 80 fpb, eI pn kpn 80 fpn]) hP hD rfl
  refine lv_iconst (v := 0) hx hb dX4_faultOf_20 (by decide) ?_
  refine lv_istore_n (lv' := [(2, .int 0), (0, .ref h0), (1, .ref h1)]) hx hb dX4_faultOf_21 rfl hl (by decide) rfl (fun ls hl => ?_)
  refine lv_iconst (v := 0) hx hb dX4_faultOf_22 (by decide) ?_
  refine lv_istore_n (lv' := [(3, .int 0), (2, .int 0), (0, .ref h0), (1, .ref h1)]) hx hb dX4_faultOf_23 rfl hl (by decide) rfl (fun ls hl => ?_)
  have loop_24 : ∀ (n : Nat) (x : Int32) (y : Int32) (go : Nat → Int32) (gp : Int32) (gl : Int32) (gf : Int32) (gn : Nat → Int32), (0 ≤ x.toInt) → (x.toInt ≤ 90) → (0 ≤ y.toInt) → (y.toInt ≤ 80) → (0 ≤ gp.toInt) → (gp.toInt ≤ 8) → (∀ k : Nat, (k : Int) < gp.toInt → 0 ≤ (go k).toInt ∧ (go k).toInt < 80) → (∀ k : Nat, 0 ≤ (gn k).toInt ∧ (gn k).toInt ≤ 80) → (80 - y.toInt) < (n : Int) → ∀ (H : Heap) (locs : List Loc), va_K (dC, dI) vwCl [(ko, .int), (kpb, .int), (kpn, .int)] s → va_P (dC, dI) vwCl [eO h0 3 [.ref qo, .int gp, .int gl, .int gf, .ref h1], eI qo ko 8 go, eO h1 2 [.ref pb, .ref pn, .int ps], eI pb kpb 80 fpb, eI pn kpn 80 gn] H → va_D A [eO h0 3 [.ref qo, .int gp, .int gl, .int gf, .ref h1], eI qo ko 8 go, eO h1 2 [.ref pb, .ref pn, .int ps], eI pb kpb 80 fpb, eI pn kpn 80 gn] → va_S A s.heap H locs → ∀ (ls : Array Slot), lv_has ls 4 [(3, .int y), (2, .int x), (0, .ref h0), (1, .ref h1)] → W p l e ({ frames := 4, cells := 0, slots := 0, locals := 89 }) s m (([.ref h0, .ref h1] : List Value).toArray) below meth c H locs 0 0 Q9 (F0 m 24 ls []) := by
    intro n
    induction n with
    | zero => intro x y go gp gl gf gn i1 i2 i3 i4 i5 i6 i7 i8 hM_24; exfalso; omega
    | succ n ih_24 =>
      intro x y go gp gl gf gn i1 i2 i3 i4 i5 i6 i7 i8 hM_24 H locs hK hP hD hS ls hl
      refine lv_iload_n hx hb dX4_faultOf_24 rfl (lv_at hl 0 rfl) ?_
      refine lv_aload_n hx hb dX4_faultOf_25 rfl (lv_at hl 3 rfl) ?_
      refine va_get (D := (dC, dI)) (ci := 2) (v := .int ps) (C := RX3) (T := TX3) (N := 3) hx hb hts (fun w h => List.mem_cons_of_mem _ (inlX3 w h)) hown hK hP 2 rfl rfl 2 (by decide) (hts (.fieldLink RX4 29 "ClearingGates$Program" "size" "I") (List.mem_cons_of_mem _ mw_156)) (fun _ h9 => h9) rfl dX4_faultOf_26 ?_
      refine lv_icmp_ge (tgt := 60) hx hb dX4_faultOf_29 (by decide) (fun c1 => ?_) (fun c1 => ?_)
      · skip
        have f_c1 := i_le c1
        refine lv_aload_n hx hb dX4_faultOf_60 rfl (lv_at hl 2 rfl) ?_
        refine va_get (D := (dC, dI)) (ci := 3) (v := .int gf) (C := RX4) (T := TX4) (N := 5) hx hb hts (fun w h => List.mem_cons_of_mem _ (inlX4 w h)) hown hK hP 0 rfl rfl 3 (by decide) (hts (.fieldLink RX4 26 "ClearingGates$Reader" "fault" "I") (List.mem_cons_of_mem _ mw_176)) (fun _ h9 => h9) rfl dX4_faultOf_61 ?_
        refine lv_iconst (v := -1) hx hb dX4_faultOf_64 (by decide) ?_
        refine lv_icmp_ne (tgt := 90) hx hb dX4_faultOf_65 (by decide) (fun c2 => ?_) (fun c2 => ?_)
        · skip
          have f_c2 := i_ne c2
          refine lv_aload_n hx hb dX4_faultOf_90 rfl (lv_at hl 2 rfl) ?_
          refine va_get (D := (dC, dI)) (ci := 3) (v := .int gf) (C := RX4) (T := TX4) (N := 5) hx hb hts (fun w h => List.mem_cons_of_mem _ (inlX4 w h)) hown hK hP 0 rfl rfl 3 (by decide) (hts (.fieldLink RX4 26 "ClearingGates$Reader" "fault" "I") (List.mem_cons_of_mem _ mw_176)) (fun _ h9 => h9) rfl dX4_faultOf_91 ?_
          rw [hQ9]
          exact W.iret (v := gf) hx hb hr (fun t ht hW => ⟨⟨gf, (), rfl, (by first | rfl | trivial), gp, gl, gf, go, gn, (by first | assumption | omega), by rw [ht]; exact hP, va_K.moved hW.alike hK, hD⟩, hS.F ht⟩) hS.2.2 dX4_faultOf_94
        · skip
          have f_c2 := i_eq c2
          refine lv_aload_n hx hb dX4_faultOf_68 rfl (lv_at hl 2 rfl) ?_
          refine va_get (D := (dC, dI)) (ci := 3) (v := .int gp) (C := RX4) (T := TX4) (N := 5) hx hb hts (fun w h => List.mem_cons_of_mem _ (inlX4 w h)) hown hK hP 0 rfl rfl 1 (by decide) (hts (.fieldLink RX4 19 "ClearingGates$Reader" "open" "I") (List.mem_cons_of_mem _ mw_174)) (fun _ h9 => h9) rfl dX4_faultOf_69 ?_
          refine lv_if_gt (tgt := 82) hx hb dX4_faultOf_72 (by decide) (fun c3 => ?_) (fun c3 => ?_)
          · skip
            have f_c3 := i_lt c3
            refine lv_aload_n hx hb dX4_faultOf_82 rfl (lv_at hl 2 rfl) ?_
            refine lv_aload_n hx hb dX4_faultOf_83 rfl (lv_at hl 3 rfl) ?_
            refine va_get (D := (dC, dI)) (ci := 2) (v := .int ps) (C := RX3) (T := TX3) (N := 3) hx hb hts (fun w h => List.mem_cons_of_mem _ (inlX3 w h)) hown hK hP 2 rfl rfl 2 (by decide) (hts (.fieldLink RX4 29 "ClearingGates$Program" "size" "I") (List.mem_cons_of_mem _ mw_156)) (fun _ h9 => h9) rfl dX4_faultOf_84 ?_
            refine va_put (D := (dC, dI)) (ci := 3) (v := .int ps) (ty := .int) (C := RX4) (T := TX4) (N := 5) hx hb hts (fun w h => List.mem_cons_of_mem _ (inlX4 w h)) tyX4 tyX4_ok nmX4 hown hK hP hD hS 0 rfl rfl 3 (by decide) (hts (.fieldLink RX4 26 "ClearingGates$Reader" "fault" "I") (List.mem_cons_of_mem _ mw_176)) (fun _ h9 => h9) rfl (by decide +kernel) rfl rfl (Nat.le_of_ble_eq_true rfl) dX4_faultOf_87 (fun H locs hP hD hS => ?_)
            obtain ⟨hP, hD⟩ := X_s (ws' := [eO h0 3 [.ref qo, .int gp, .int gl, .int ps, .ref h1], eI qo ko 8 go, eO h1 2 [.ref pb, .ref pn, .int ps], eI pb kpb 80 fpb, eI pn kpn 80 gn]) hP hD rfl
            refine lv_aload_n hx hb dX4_faultOf_90 rfl (lv_at hl 2 rfl) ?_
            refine va_get (D := (dC, dI)) (ci := 3) (v := .int ps) (C := RX4) (T := TX4) (N := 5) hx hb hts (fun w h => List.mem_cons_of_mem _ (inlX4 w h)) hown hK hP 0 rfl rfl 3 (by decide) (hts (.fieldLink RX4 26 "ClearingGates$Reader" "fault" "I") (List.mem_cons_of_mem _ mw_176)) (fun _ h9 => h9) rfl dX4_faultOf_91 ?_
            rw [hQ9]
            exact W.iret (v := ps) hx hb hr (fun t ht hW => ⟨⟨ps, (), rfl, (by first | rfl | trivial), gp, gl, ps, go, gn, (by first | assumption | omega), by rw [ht]; exact hP, va_K.moved hW.alike hK, hD⟩, hS.F ht⟩) hS.2.2 dX4_faultOf_94
          · skip
            have f_c3 := i_nlt c3
            refine lv_aload_n hx hb dX4_faultOf_75 rfl (lv_at hl 3 rfl) ?_
            refine va_get (D := (dC, dI)) (ci := 2) (v := .int ps) (C := RX3) (T := TX3) (N := 3) hx hb hts (fun w h => List.mem_cons_of_mem _ (inlX3 w h)) hown hK hP 2 rfl rfl 2 (by decide) (hts (.fieldLink RX4 29 "ClearingGates$Program" "size" "I") (List.mem_cons_of_mem _ mw_156)) (fun _ h9 => h9) rfl dX4_faultOf_76 ?_
            refine lv_if_ne (tgt := 90) hx hb dX4_faultOf_79 (by decide) (fun c4 => ?_) (fun c4 => ?_)
            · skip
              have f_c4 := i_ne c4
              refine lv_aload_n hx hb dX4_faultOf_90 rfl (lv_at hl 2 rfl) ?_
              refine va_get (D := (dC, dI)) (ci := 3) (v := .int gf) (C := RX4) (T := TX4) (N := 5) hx hb hts (fun w h => List.mem_cons_of_mem _ (inlX4 w h)) hown hK hP 0 rfl rfl 3 (by decide) (hts (.fieldLink RX4 26 "ClearingGates$Reader" "fault" "I") (List.mem_cons_of_mem _ mw_176)) (fun _ h9 => h9) rfl dX4_faultOf_91 ?_
              rw [hQ9]
              exact W.iret (v := gf) hx hb hr (fun t ht hW => ⟨⟨gf, (), rfl, (by first | rfl | trivial), gp, gl, gf, go, gn, (by first | assumption | omega), by rw [ht]; exact hP, va_K.moved hW.alike hK, hD⟩, hS.F ht⟩) hS.2.2 dX4_faultOf_94
            · skip
              have f_c4 := i_eq c4
              refine lv_aload_n hx hb dX4_faultOf_82 rfl (lv_at hl 2 rfl) ?_
              refine lv_aload_n hx hb dX4_faultOf_83 rfl (lv_at hl 3 rfl) ?_
              refine va_get (D := (dC, dI)) (ci := 2) (v := .int ps) (C := RX3) (T := TX3) (N := 3) hx hb hts (fun w h => List.mem_cons_of_mem _ (inlX3 w h)) hown hK hP 2 rfl rfl 2 (by decide) (hts (.fieldLink RX4 29 "ClearingGates$Program" "size" "I") (List.mem_cons_of_mem _ mw_156)) (fun _ h9 => h9) rfl dX4_faultOf_84 ?_
              refine va_put (D := (dC, dI)) (ci := 3) (v := .int ps) (ty := .int) (C := RX4) (T := TX4) (N := 5) hx hb hts (fun w h => List.mem_cons_of_mem _ (inlX4 w h)) tyX4 tyX4_ok nmX4 hown hK hP hD hS 0 rfl rfl 3 (by decide) (hts (.fieldLink RX4 26 "ClearingGates$Reader" "fault" "I") (List.mem_cons_of_mem _ mw_176)) (fun _ h9 => h9) rfl (by decide +kernel) rfl rfl (Nat.le_of_ble_eq_true rfl) dX4_faultOf_87 (fun H locs hP hD hS => ?_)
              obtain ⟨hP, hD⟩ := X_s (ws' := [eO h0 3 [.ref qo, .int gp, .int gl, .int ps, .ref h1], eI qo ko 8 go, eO h1 2 [.ref pb, .ref pn, .int ps], eI pb kpb 80 fpb, eI pn kpn 80 gn]) hP hD rfl
              refine lv_aload_n hx hb dX4_faultOf_90 rfl (lv_at hl 2 rfl) ?_
              refine va_get (D := (dC, dI)) (ci := 3) (v := .int ps) (C := RX4) (T := TX4) (N := 5) hx hb hts (fun w h => List.mem_cons_of_mem _ (inlX4 w h)) hown hK hP 0 rfl rfl 3 (by decide) (hts (.fieldLink RX4 26 "ClearingGates$Reader" "fault" "I") (List.mem_cons_of_mem _ mw_176)) (fun _ h9 => h9) rfl dX4_faultOf_91 ?_
              rw [hQ9]
              exact W.iret (v := ps) hx hb hr (fun t ht hW => ⟨⟨ps, (), rfl, (by first | rfl | trivial), gp, gl, ps, go, gn, (by first | assumption | omega), by rw [ht]; exact hP, va_K.moved hW.alike hK, hD⟩, hS.F ht⟩) hS.2.2 dX4_faultOf_94
      · skip
        have f_c1 := i_nle c1
        refine lv_iload_n hx hb dX4_faultOf_32 rfl (lv_at hl 1 rfl) ?_
        refine lv_aload_n hx hb dX4_faultOf_33 rfl (lv_at hl 3 rfl) ?_
        refine va_get (D := (dC, dI)) (ci := 2) (v := .int ps) (C := RX3) (T := TX3) (N := 3) hx hb hts (fun w h => List.mem_cons_of_mem _ (inlX3 w h)) hown hK hP 2 rfl rfl 2 (by decide) (hts (.fieldLink RX4 29 "ClearingGates$Program" "size" "I") (List.mem_cons_of_mem _ mw_156)) (fun _ h9 => h9) rfl dX4_faultOf_34 ?_
        refine lv_icmp_ge (tgt := 60) hx hb dX4_faultOf_37 (by decide) (fun c5 => ?_) (fun c5 => ?_)
        · skip
          have f_c5 := i_le c5
          refine lv_aload_n hx hb dX4_faultOf_60 rfl (lv_at hl 2 rfl) ?_
          refine va_get (D := (dC, dI)) (ci := 3) (v := .int gf) (C := RX4) (T := TX4) (N := 5) hx hb hts (fun w h => List.mem_cons_of_mem _ (inlX4 w h)) hown hK hP 0 rfl rfl 3 (by decide) (hts (.fieldLink RX4 26 "ClearingGates$Reader" "fault" "I") (List.mem_cons_of_mem _ mw_176)) (fun _ h9 => h9) rfl dX4_faultOf_61 ?_
          refine lv_iconst (v := -1) hx hb dX4_faultOf_64 (by decide) ?_
          refine lv_icmp_ne (tgt := 90) hx hb dX4_faultOf_65 (by decide) (fun c6 => ?_) (fun c6 => ?_)
          · skip
            have f_c6 := i_ne c6
            refine lv_aload_n hx hb dX4_faultOf_90 rfl (lv_at hl 2 rfl) ?_
            refine va_get (D := (dC, dI)) (ci := 3) (v := .int gf) (C := RX4) (T := TX4) (N := 5) hx hb hts (fun w h => List.mem_cons_of_mem _ (inlX4 w h)) hown hK hP 0 rfl rfl 3 (by decide) (hts (.fieldLink RX4 26 "ClearingGates$Reader" "fault" "I") (List.mem_cons_of_mem _ mw_176)) (fun _ h9 => h9) rfl dX4_faultOf_91 ?_
            rw [hQ9]
            exact W.iret (v := gf) hx hb hr (fun t ht hW => ⟨⟨gf, (), rfl, (by first | rfl | trivial), gp, gl, gf, go, gn, (by first | assumption | omega), by rw [ht]; exact hP, va_K.moved hW.alike hK, hD⟩, hS.F ht⟩) hS.2.2 dX4_faultOf_94
          · skip
            have f_c6 := i_eq c6
            refine lv_aload_n hx hb dX4_faultOf_68 rfl (lv_at hl 2 rfl) ?_
            refine va_get (D := (dC, dI)) (ci := 3) (v := .int gp) (C := RX4) (T := TX4) (N := 5) hx hb hts (fun w h => List.mem_cons_of_mem _ (inlX4 w h)) hown hK hP 0 rfl rfl 1 (by decide) (hts (.fieldLink RX4 19 "ClearingGates$Reader" "open" "I") (List.mem_cons_of_mem _ mw_174)) (fun _ h9 => h9) rfl dX4_faultOf_69 ?_
            refine lv_if_gt (tgt := 82) hx hb dX4_faultOf_72 (by decide) (fun c7 => ?_) (fun c7 => ?_)
            · skip
              have f_c7 := i_lt c7
              refine lv_aload_n hx hb dX4_faultOf_82 rfl (lv_at hl 2 rfl) ?_
              refine lv_aload_n hx hb dX4_faultOf_83 rfl (lv_at hl 3 rfl) ?_
              refine va_get (D := (dC, dI)) (ci := 2) (v := .int ps) (C := RX3) (T := TX3) (N := 3) hx hb hts (fun w h => List.mem_cons_of_mem _ (inlX3 w h)) hown hK hP 2 rfl rfl 2 (by decide) (hts (.fieldLink RX4 29 "ClearingGates$Program" "size" "I") (List.mem_cons_of_mem _ mw_156)) (fun _ h9 => h9) rfl dX4_faultOf_84 ?_
              refine va_put (D := (dC, dI)) (ci := 3) (v := .int ps) (ty := .int) (C := RX4) (T := TX4) (N := 5) hx hb hts (fun w h => List.mem_cons_of_mem _ (inlX4 w h)) tyX4 tyX4_ok nmX4 hown hK hP hD hS 0 rfl rfl 3 (by decide) (hts (.fieldLink RX4 26 "ClearingGates$Reader" "fault" "I") (List.mem_cons_of_mem _ mw_176)) (fun _ h9 => h9) rfl (by decide +kernel) rfl rfl (Nat.le_of_ble_eq_true rfl) dX4_faultOf_87 (fun H locs hP hD hS => ?_)
              obtain ⟨hP, hD⟩ := X_s (ws' := [eO h0 3 [.ref qo, .int gp, .int gl, .int ps, .ref h1], eI qo ko 8 go, eO h1 2 [.ref pb, .ref pn, .int ps], eI pb kpb 80 fpb, eI pn kpn 80 gn]) hP hD rfl
              refine lv_aload_n hx hb dX4_faultOf_90 rfl (lv_at hl 2 rfl) ?_
              refine va_get (D := (dC, dI)) (ci := 3) (v := .int ps) (C := RX4) (T := TX4) (N := 5) hx hb hts (fun w h => List.mem_cons_of_mem _ (inlX4 w h)) hown hK hP 0 rfl rfl 3 (by decide) (hts (.fieldLink RX4 26 "ClearingGates$Reader" "fault" "I") (List.mem_cons_of_mem _ mw_176)) (fun _ h9 => h9) rfl dX4_faultOf_91 ?_
              rw [hQ9]
              exact W.iret (v := ps) hx hb hr (fun t ht hW => ⟨⟨ps, (), rfl, (by first | rfl | trivial), gp, gl, ps, go, gn, (by first | assumption | omega), by rw [ht]; exact hP, va_K.moved hW.alike hK, hD⟩, hS.F ht⟩) hS.2.2 dX4_faultOf_94
            · skip
              have f_c7 := i_nlt c7
              refine lv_aload_n hx hb dX4_faultOf_75 rfl (lv_at hl 3 rfl) ?_
              refine va_get (D := (dC, dI)) (ci := 2) (v := .int ps) (C := RX3) (T := TX3) (N := 3) hx hb hts (fun w h => List.mem_cons_of_mem _ (inlX3 w h)) hown hK hP 2 rfl rfl 2 (by decide) (hts (.fieldLink RX4 29 "ClearingGates$Program" "size" "I") (List.mem_cons_of_mem _ mw_156)) (fun _ h9 => h9) rfl dX4_faultOf_76 ?_
              refine lv_if_ne (tgt := 90) hx hb dX4_faultOf_79 (by decide) (fun c8 => ?_) (fun c8 => ?_)
              · skip
                have f_c8 := i_ne c8
                refine lv_aload_n hx hb dX4_faultOf_90 rfl (lv_at hl 2 rfl) ?_
                refine va_get (D := (dC, dI)) (ci := 3) (v := .int gf) (C := RX4) (T := TX4) (N := 5) hx hb hts (fun w h => List.mem_cons_of_mem _ (inlX4 w h)) hown hK hP 0 rfl rfl 3 (by decide) (hts (.fieldLink RX4 26 "ClearingGates$Reader" "fault" "I") (List.mem_cons_of_mem _ mw_176)) (fun _ h9 => h9) rfl dX4_faultOf_91 ?_
                rw [hQ9]
                exact W.iret (v := gf) hx hb hr (fun t ht hW => ⟨⟨gf, (), rfl, (by first | rfl | trivial), gp, gl, gf, go, gn, (by first | assumption | omega), by rw [ht]; exact hP, va_K.moved hW.alike hK, hD⟩, hS.F ht⟩) hS.2.2 dX4_faultOf_94
              · skip
                have f_c8 := i_eq c8
                refine lv_aload_n hx hb dX4_faultOf_82 rfl (lv_at hl 2 rfl) ?_
                refine lv_aload_n hx hb dX4_faultOf_83 rfl (lv_at hl 3 rfl) ?_
                refine va_get (D := (dC, dI)) (ci := 2) (v := .int ps) (C := RX3) (T := TX3) (N := 3) hx hb hts (fun w h => List.mem_cons_of_mem _ (inlX3 w h)) hown hK hP 2 rfl rfl 2 (by decide) (hts (.fieldLink RX4 29 "ClearingGates$Program" "size" "I") (List.mem_cons_of_mem _ mw_156)) (fun _ h9 => h9) rfl dX4_faultOf_84 ?_
                refine va_put (D := (dC, dI)) (ci := 3) (v := .int ps) (ty := .int) (C := RX4) (T := TX4) (N := 5) hx hb hts (fun w h => List.mem_cons_of_mem _ (inlX4 w h)) tyX4 tyX4_ok nmX4 hown hK hP hD hS 0 rfl rfl 3 (by decide) (hts (.fieldLink RX4 26 "ClearingGates$Reader" "fault" "I") (List.mem_cons_of_mem _ mw_176)) (fun _ h9 => h9) rfl (by decide +kernel) rfl rfl (Nat.le_of_ble_eq_true rfl) dX4_faultOf_87 (fun H locs hP hD hS => ?_)
                obtain ⟨hP, hD⟩ := X_s (ws' := [eO h0 3 [.ref qo, .int gp, .int gl, .int ps, .ref h1], eI qo ko 8 go, eO h1 2 [.ref pb, .ref pn, .int ps], eI pb kpb 80 fpb, eI pn kpn 80 gn]) hP hD rfl
                refine lv_aload_n hx hb dX4_faultOf_90 rfl (lv_at hl 2 rfl) ?_
                refine va_get (D := (dC, dI)) (ci := 3) (v := .int ps) (C := RX4) (T := TX4) (N := 5) hx hb hts (fun w h => List.mem_cons_of_mem _ (inlX4 w h)) hown hK hP 0 rfl rfl 3 (by decide) (hts (.fieldLink RX4 26 "ClearingGates$Reader" "fault" "I") (List.mem_cons_of_mem _ mw_176)) (fun _ h9 => h9) rfl dX4_faultOf_91 ?_
                rw [hQ9]
                exact W.iret (v := ps) hx hb hr (fun t ht hW => ⟨⟨ps, (), rfl, (by first | rfl | trivial), gp, gl, ps, go, gn, (by first | assumption | omega), by rw [ht]; exact hP, va_K.moved hW.alike hK, hD⟩, hS.F ht⟩) hS.2.2 dX4_faultOf_94
        · skip
          have f_c5 := i_nle c5
          refine lv_aload_n hx hb dX4_faultOf_40 rfl (lv_at hl 2 rfl) ?_
          refine va_get (D := (dC, dI)) (ci := 3) (v := .int gf) (C := RX4) (T := TX4) (N := 5) hx hb hts (fun w h => List.mem_cons_of_mem _ (inlX4 w h)) hown hK hP 0 rfl rfl 3 (by decide) (hts (.fieldLink RX4 26 "ClearingGates$Reader" "fault" "I") (List.mem_cons_of_mem _ mw_176)) (fun _ h9 => h9) rfl dX4_faultOf_41 ?_
          refine lv_iconst (v := -1) hx hb dX4_faultOf_44 (by decide) ?_
          refine lv_icmp_ne (tgt := 60) hx hb dX4_faultOf_45 (by decide) (fun c9 => ?_) (fun c9 => ?_)
          · skip
            have f_c9 := i_ne c9
            refine lv_aload_n hx hb dX4_faultOf_60 rfl (lv_at hl 2 rfl) ?_
            refine va_get (D := (dC, dI)) (ci := 3) (v := .int gf) (C := RX4) (T := TX4) (N := 5) hx hb hts (fun w h => List.mem_cons_of_mem _ (inlX4 w h)) hown hK hP 0 rfl rfl 3 (by decide) (hts (.fieldLink RX4 26 "ClearingGates$Reader" "fault" "I") (List.mem_cons_of_mem _ mw_176)) (fun _ h9 => h9) rfl dX4_faultOf_61 ?_
            refine lv_iconst (v := -1) hx hb dX4_faultOf_64 (by decide) ?_
            refine lv_icmp_ne (tgt := 90) hx hb dX4_faultOf_65 (by decide) (fun c10 => ?_) (fun c10 => ?_)
            · skip
              have f_c10 := i_ne c10
              refine lv_aload_n hx hb dX4_faultOf_90 rfl (lv_at hl 2 rfl) ?_
              refine va_get (D := (dC, dI)) (ci := 3) (v := .int gf) (C := RX4) (T := TX4) (N := 5) hx hb hts (fun w h => List.mem_cons_of_mem _ (inlX4 w h)) hown hK hP 0 rfl rfl 3 (by decide) (hts (.fieldLink RX4 26 "ClearingGates$Reader" "fault" "I") (List.mem_cons_of_mem _ mw_176)) (fun _ h9 => h9) rfl dX4_faultOf_91 ?_
              rw [hQ9]
              exact W.iret (v := gf) hx hb hr (fun t ht hW => ⟨⟨gf, (), rfl, (by first | rfl | trivial), gp, gl, gf, go, gn, (by first | assumption | omega), by rw [ht]; exact hP, va_K.moved hW.alike hK, hD⟩, hS.F ht⟩) hS.2.2 dX4_faultOf_94
            · skip
              have f_c10 := i_eq c10
              exfalso; omega
          · skip
            have f_c9 := i_eq c9
            refine lv_aload_n hx hb dX4_faultOf_48 rfl (lv_at hl 2 rfl) ?_
            refine lv_iload_n hx hb dX4_faultOf_49 rfl (lv_at hl 1 rfl) ?_
            obtain ⟨hPc, hDc, hFc, hCm, hNw⟩ := C_s (wc := [eO h0 3 [.ref qo, .int gp, .int gl, .int gf, .ref h1], eI qo ko 8 go, eO h1 2 [.ref pb, .ref pn, .int ps], eI pb kpb 80 fpb, eI pn kpn 80 gn]) hP hD hS hA [(0, 5)] 5 rfl (by decide +kernel) rfl
            have hKc := K_s (tys' := [(ko, .int), (kpb, .int), (kpn, .int)]) hK [(0, 3)] rfl
            refine va_calli (va_runV (As := [.int x]) (rest := []) ⟨hx, hb, hml, hown, hts⟩ (c_X4_step l dC dI h0 x qo gp gl gf h1 ko go pb pn ps kpb fpb kpn gn H.size hp1 hp2 (by first | assumption | omega) (by first | assumption | omega) (by first | assumption | omega) (by first | assumption | omega) (by first | assumption | omega) (by first | assumption | omega)) (cwV 1 hts gX4_faultOf_X4_step rfl rfl rfl (by decide +kernel) ⟨Nat.le_of_ble_eq_true rfl, Nat.le_of_ble_eq_true rfl⟩) ⟨fun a U g mk q => by obtain ⟨q0, q1, qP, qK, qD⟩ := q; exact ⟨q0, q1, qP, va_K.moved (u := U) (U := U.calling g mk a) (Vm.Alike.refl U.vm) qK, qD⟩, va_recv (s := s) (q := (RX4, TX4, 5)) hKc hPc (ci := 3) (q0 := 0) rfl rfl, fun U hU hW => ⟨rfl, by rw [hU], by rw [hU]; exact hPc, va_K.moved hW.alike hKc, hDc.weaken (fun _ _ _ _ => trivial)⟩⟩ rfl rfl hl.1 rfl (lv_room (Nat.le_of_ble_eq_true rfl)) dX4_faultOf_50 ⟨Nat.le_of_ble_eq_true rfl, Nat.le_of_ble_eq_true rfl⟩) hS (fun q _ h => hFc q h) hFc (fun r11 u t H1 locs ht hvm hw hB hz1 hk1 hS => ?_)
            obtain ⟨q12, q13, q14, q15, q16, xo1_r11, xo2_r11, xo3_r11, xb_r11, hP1, hK1, hD1⟩ := hB
            rw [ht] at hP1
            have hK1 := va_K.moved hvm.symm hK1
            try dsimp only at hw
            obtain ⟨hP, hD⟩ := J_s (wL := [eO h0 3 [.ref qo, .int q13, .int q14, .int q15, .ref h1], eI qo ko 8 q12, eO h1 2 [.ref pb, .ref pn, .int ps], eI pb kpb 80 fpb, eI pn kpn 80 q16]) hP hD [(0, 5)] [] hCm hNw (by decide +kernel) hk1 hFc hP1 hD1 rfl
            have hK := KJ_s (tys' := [(ko, .int), (kpb, .int), (kpn, .int)]) hK hK1 [] rfl
            generalize H1 = H at hP hS ⊢
            have hpr_r11 := hw
            have h_r11 := hw
            refine lv_istore_n (lv' := [(2, .int r11), (3, .int y), (0, .ref h0), (1, .ref h1)]) hx hb dX4_faultOf_53 rfl hl (by decide) rfl (fun ls hl => ?_)
            obtain ⟨x17, e_x17⟩ : ∃ yy : Int32, yy = y + 1 := ⟨_, rfl⟩
            refine lv_iinc (v := x17) (lv' := [(3, .int x17), (2, .int r11), (0, .ref h0), (1, .ref h1)]) hx hb dX4_faultOf_54 hl (k := 1) rfl (by rw [e_x17]; rfl) (by decide) rfl (fun ls hl => ?_)
            have t_x17 := i_add e_x17 (by omega) (by omega)
            refine lv_goto (tgt := 24) hx hb dX4_faultOf_57 (by decide) ?_
            exact ih_24 r11 x17 q12 q13 q14 q15 q16 (by first | assumption | omega) (by first | assumption | omega) (by first | assumption | omega) (by first | assumption | omega) (by first | assumption | omega) (by first | assumption | omega) (by first | assumption | omega) (by first | assumption | omega) (by omega) _ _ (K_s hK [(0, 3)] rfl) (P_s hP [(0, 5)] rfl) (D_s hD [(0, 5)] 5 rfl (by decide +kernel) rfl) hS ls (lv_sub hl [0, 1, 2, 3] rfl)
  exact loop_24 (1000) 0 0 fo 0 0 (-1) fpn (by omega) (by omega) (by omega) (by omega) (by omega) (by omega) (fun k hk => absurd hk (by omega)) hb0 (by omega) _ _ hK hP hD hS ls (lv_sub hl [0, 1, 2, 3] rfl)
