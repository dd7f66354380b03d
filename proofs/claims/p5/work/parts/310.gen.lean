set_option maxRecDepth 100000 in
set_option maxHeartbeats 4000000 in
/-- Reader.opening -/
theorem c_X4_opening (l : Launch) (dC : Nat → ClassId) (dI : Nat → Nat → Nat) (h0 : Nat) (p0 : Int32) (qo : Nat) (op : Int32) (lp : Int32) (fa : Int32) (jp : Nat) (ko : ClassId) (fo : Nat → Int32) (pb : Nat) (pn : Nat) (ps : Int32) (kpb : ClassId) (fpb : Nat → Int32) (kpn : ClassId) (fpn : Nat → Int32) (kk : Nat) (n9 : Nat) (sz : Nat) (hkk : p0.toInt = (kk : Int)) (hn9 : ps.toInt = (n9 : Int)) (hn80 : n9 ≤ 80) (hkn : kk < n9) (ho1 : 0 ≤ op.toInt) (hl1 : 0 ≤ lp.toInt) (hl2 : lp.toInt ≤ op.toInt) : Met l yX4_opening wsX4_opening ({ frames := 1, cells := 0, slots := 0, locals := 21 }) (va_Pc [.ref h0, .int p0] (fun U => U.heap.size = sz ∧ va_P (dC, dI) vwCl [eO h0 3 [.ref qo, .int op, .int lp, .int fa, .ref jp], eI qo ko 8 fo, eO jp 2 [.ref pb, .ref pn, .int ps], eI pb kpb 80 fpb, eI pn kpn 80 fpn] U.heap ∧ va_K (dC, dI) vwCl [(ko, .int), (kpb, .int), (kpn, .int)] U ∧ va_D (fun _ => True) [eO h0 3 [.ref qo, .int op, .int lp, .int fa, .ref jp], eI qo ko 8 fo, eO jp 2 [.ref pb, .ref pn, .int ps], eI pb kpb 80 fpb, eI pn kpn 80 fpn])) (va_Qi (fun (r : Int32) (u : (Int32) × (Int32) × (Int32) × (Nat → Int32)) => match u with | (op2, lp2, fa2, fo2) => OP fpb kk op lp fo p0 r fa op2 lp2 fa2 fo2) (fun (u : (Int32) × (Int32) × (Int32) × (Nat → Int32)) (t : State) => match u with | (op2, lp2, fa2, fo2) => va_P (dC, dI) vwCl [eO h0 3 [.ref qo, .int op2, .int lp2, .int fa2, .ref jp], eI qo ko 8 fo2, eO jp 2 [.ref pb, .ref pn, .int ps], eI pb kpb 80 fpb, eI pn kpn 80 fpn] t.heap ∧ va_K (dC, dI) vwCl [(ko, .int), (kpb, .int), (kpn, .int)] t ∧ va_D (va_A [eO h0 3 [.ref qo, .int op, .int lp, .int fa, .ref jp], eI qo ko 8 fo, eO jp 2 [.ref pb, .ref pn, .int ps], eI pb kpb 80 fpb, eI pn kpn 80 fpn] sz) [eO h0 3 [.ref qo, .int op2, .int lp2, .int fa2, .ref jp], eI qo ko 8 fo2, eO jp 2 [.ref pb, .ref pn, .int ps], eI pb kpb 80 fpb, eI pn kpn 80 fpn]) (va_A [eO h0 3 [.ref qo, .int op, .int lp, .int fa, .ref jp], eI qo ko 8 fo, eO jp 2 [.ref pb, .ref pn, .int ps], eI pb kpb 80 fpb, eI pn kpn 80 fpn] sz)) 0 0 (va_A [eO h0 3 [.ref qo, .int op, .int lp, .int fa, .ref jp], eI qo ko 8 fo, eO jp 2 [.ref pb, .ref pn, .int ps], eI pb kpb 80 fpb, eI pn kpn 80 fpn] sz) := by
  refine Met.ofW (cc := cX4_opening) (maxL := 2) (ret := (some .int)) (by decide) rfl ?_
  intro p e s m args below meth c s₁ B hml hv
  obtain ⟨rfl, hsz, hP, hK, hD0⟩ := hv
  have hx := B.exec
  have hb := B.bytes
  have hr := B.returns
  have hts := atoms_spec (ws := wsX4_opening) B.pre
  have hown : s.vm.findClass RX4 = some m.cls := findClass_of_methodNamed B.named
  have hlocks := B.notSynchronized
  subst hsz
  have hD := hD0.self (sz := s.heap.size)
  generalize hAe : va_A [eO h0 3 [.ref qo, .int op, .int lp, .int fa, .ref jp], eI qo ko 8 fo, eO jp 2 [.ref pb, .ref pn, .int ps], eI pb kpb 80 fpb, eI pn kpn 80 fpn] s.heap.size = A at hD ⊢
  have hA : ∀ q : Nat, s.heap.size ≤ q → A q := fun q h => by rw [← hAe]; exact Or.inr h
  have hS : va_S A s.heap s.heap [] := va_S.rf
  have hP : va_P (dC, dI) vwCl [eO h0 3 [.ref qo, .int op, .int lp, .int fa, .ref jp], eI qo ko 8 fo, eO jp 2 [.ref pb, .ref pn, .int ps], eI pb kpb 80 fpb, eI pn kpn 80 fpn] s.heap := hP
  have hl := lv_entry ([.ref h0, .int p0]) (n := 2) (Nat.le_of_ble_eq_true rfl)
  rw [lg_entry_eq]
  generalize (lg_sl ([.ref h0, .int p0]) ++ List.replicate (2 - (lg_sl ([.ref h0, .int p0])).length) Slot.unset).toArray = ls at hl ⊢
  have hl : lv_has ls 2 [(0, .ref h0), (1, .int p0)] := hl
  suffices key9 : ∀ Q9 : State → Prop, Q9 = (MQ below (va_Qi (fun (r : Int32) (u : (Int32) × (Int32) × (Int32) × (Nat → Int32)) => match u with | (op2, lp2, fa2, fo2) => OP fpb kk op lp fo p0 r fa op2 lp2 fa2 fo2) (fun (u : (Int32) × (Int32) × (Int32) × (Nat → Int32)) (t : State) => match u with | (op2, lp2, fa2, fo2) => va_P (dC, dI) vwCl [eO h0 3 [.ref qo, .int op2, .int lp2, .int fa2, .ref jp], eI qo ko 8 fo2, eO jp 2 [.ref pb, .ref pn, .int ps], eI pb kpb 80 fpb, eI pn kpn 80 fpn] t.heap ∧ va_K (dC, dI) vwCl [(ko, .int), (kpb, .int), (kpn, .int)] t ∧ va_D A [eO h0 3 [.ref qo, .int op2, .int lp2, .int fa2, .ref jp], eI qo ko 8 fo2, eO jp 2 [.ref pb, .ref pn, .int ps], eI pb kpb 80 fpb, eI pn kpn 80 fpn]) A) (([.ref h0, .int p0] : List Value).toArray) s 0 0 A) → W p l e ({ frames := 1, cells := 0, slots := 0, locals := 21 }) s m (([.ref h0, .int p0] : List Value).toArray) below meth c s.heap [] 0 0 Q9 (F0 m 0 ls []) from key9 _ rfl
  intro Q9 hQ9
  have k_1 : (1 : Int32).toInt = 1 := by decide
  have k_8 : (8 : Int32).toInt = 8 := by decide
  have k_123 : (123 : Int32).toInt = 123 := by decide
  refine lv_aload_n hx hb dX4_opening_0 rfl (lv_at hl 0 rfl) ?_
  refine va_get (D := (dC, dI)) (ci := 3) (v := .int op) (C := RX4) (T := TX4) (N := 5) hx hb hts (fun w h => List.mem_cons_of_mem _ (inlX4 w h)) hown hK hP 0 rfl rfl 1 (by decide) (hts (.fieldLink RX4 19 "ClearingGates$Reader" "open" "I") (List.mem_cons_of_mem _ mw_174)) (fun _ h9 => h9) rfl dX4_opening_1 ?_
  refine lv_bipush (v := 8) hx hb dX4_opening_4 (by decide) ?_
  refine lv_icmp_lt (tgt := 15) hx hb dX4_opening_6 (by decide) (fun c1 => ?_) (fun c1 => ?_)
  · skip
    have f_c1 := i_lt c1
    refine lv_aload_n hx hb dX4_opening_15 rfl (lv_at hl 0 rfl) ?_
    refine va_get (D := (dC, dI)) (ci := 3) (v := .ref qo) (C := RX4) (T := TX4) (N := 5) hx hb hts (fun w h => List.mem_cons_of_mem _ (inlX4 w h)) hown hK hP 0 rfl rfl 0 (by decide) (hts (.fieldLink RX4 9 "ClearingGates$Reader" "opened" "[I") (List.mem_cons_of_mem _ mw_173)) (fun _ h9 => h9) rfl dX4_opening_16 ?_
    refine lv_aload_n hx hb dX4_opening_19 rfl (lv_at hl 0 rfl) ?_
    refine va_get (D := (dC, dI)) (ci := 3) (v := .int op) (C := RX4) (T := TX4) (N := 5) hx hb hts (fun w h => List.mem_cons_of_mem _ (inlX4 w h)) hown hK hP 0 rfl rfl 1 (by decide) (hts (.fieldLink RX4 19 "ClearingGates$Reader" "open" "I") (List.mem_cons_of_mem _ mw_174)) (fun _ h9 => h9) rfl dX4_opening_20 ?_
    refine lv_iload_n hx hb dX4_opening_23 rfl (lv_at hl 1 rfl) ?_
    refine va_iast (D := (dC, dI)) hx hb hK hP hD hS 1 0 rfl rfl (vp_in_iff.mpr ⟨by omega, by omega⟩) dX4_opening_24 (fun H locs hP hD hS => ?_)
    generalize e_g2 : (upd fo (op).toNatClampNeg p0) = g2 at hP hD
    obtain ⟨hP, hD⟩ := X_s (ws' := [eO h0 3 [.ref qo, .int op, .int lp, .int fa, .ref jp], eI qo ko 8 g2, eO jp 2 [.ref pb, .ref pn, .int ps], eI pb kpb 80 fpb, eI pn kpn 80 fpn]) hP hD rfl
    refine lv_aload_n hx hb dX4_opening_25 rfl (lv_at hl 0 rfl) ?_
    refine lv_dup hx hb dX4_opening_26 rfl ?_
    refine va_get (D := (dC, dI)) (ci := 3) (v := .int op) (C := RX4) (T := TX4) (N := 5) hx hb hts (fun w h => List.mem_cons_of_mem _ (inlX4 w h)) hown hK hP 0 rfl rfl 1 (by decide) (hts (.fieldLink RX4 19 "ClearingGates$Reader" "open" "I") (List.mem_cons_of_mem _ mw_174)) (fun _ h9 => h9) rfl dX4_opening_27 ?_
    refine lv_iconst (v := 1) hx hb dX4_opening_30 (by decide) ?_
    refine lv_iadd hx hb dX4_opening_31 ?_
    refine lv_topi (fun z3 e_z3 => ?_)
    have t_z3 := i_add e_z3 (by omega) (by omega)
    refine va_put (D := (dC, dI)) (ci := 3) (v := .int z3) (ty := .int) (C := RX4) (T := TX4) (N := 5) hx hb hts (fun w h => List.mem_cons_of_mem _ (inlX4 w h)) tyX4 tyX4_ok nmX4 hown hK hP hD hS 0 rfl rfl 1 (by decide) (hts (.fieldLink RX4 19 "ClearingGates$Reader" "open" "I") (List.mem_cons_of_mem _ mw_174)) (fun _ h9 => h9) rfl (by decide +kernel) rfl rfl (Nat.le_of_ble_eq_true rfl) dX4_opening_32 (fun H locs hP hD hS => ?_)
    obtain ⟨hP, hD⟩ := X_s (ws' := [eO h0 3 [.ref qo, .int z3, .int lp, .int fa, .ref jp], eI qo ko 8 g2, eO jp 2 [.ref pb, .ref pn, .int ps], eI pb kpb 80 fpb, eI pn kpn 80 fpn]) hP hD rfl
    refine lv_aload_n hx hb dX4_opening_35 rfl (lv_at hl 0 rfl) ?_
    refine va_get (D := (dC, dI)) (ci := 3) (v := .ref jp) (C := RX4) (T := TX4) (N := 5) hx hb hts (fun w h => List.mem_cons_of_mem _ (inlX4 w h)) hown hK hP 0 rfl rfl 4 (by decide) (hts (.fieldLink RX4 15 "ClearingGates$Reader" "program" "LClearingGates$Program;") (List.mem_cons_of_mem _ mw_177)) (fun _ h9 => h9) rfl dX4_opening_36 ?_
    refine lv_iload_n hx hb dX4_opening_39 rfl (lv_at hl 1 rfl) ?_
    obtain ⟨hPc, hDc, hFc, hCm, hNw⟩ := C_s (wc := [eO jp 2 [.ref pb, .ref pn, .int ps], eI pb kpb 80 fpb]) hP hD hS hA [(2, 2)] 5 rfl (by decide +kernel) rfl
    have hKc := K_s (tys' := [(kpb, .int)]) hK [(1, 1)] rfl
    refine va_calli (va_runV (As := [.int p0]) (rest := []) ⟨hx, hb, hml, hown, hts⟩ (c_X3_byteAtK l dC dI jp p0 pb pn ps kpb fpb kk n9 H.size hkk hn9 hn80) (cwV 1 hts gX4_opening_X3_byteAt rfl rfl rfl (by decide +kernel) ⟨Nat.le_of_ble_eq_true rfl, Nat.le_of_ble_eq_true rfl⟩) ⟨fun a U g mk q => by obtain ⟨q0, q1, qP, qK, qD⟩ := q; exact ⟨q0, q1, qP, va_K.moved (u := U) (U := U.calling g mk a) (Vm.Alike.refl U.vm) qK, qD⟩, va_recv (s := s) (q := (RX3, TX3, 3)) hKc hPc (ci := 2) (q0 := 0) rfl rfl, fun U hU hW => ⟨rfl, by rw [hU], by rw [hU]; exact hPc, va_K.moved hW.alike hKc, hDc.weaken (fun _ _ _ _ => trivial)⟩⟩ rfl rfl hl.1 rfl (lv_room (Nat.le_of_ble_eq_true rfl)) dX4_opening_40 ⟨Nat.le_of_ble_eq_true rfl, Nat.le_of_ble_eq_true rfl⟩) hS (fun q _ h => hFc q h) hFc (fun r4 u t H1 locs ht hvm hw hB hz1 hk1 hS => ?_)
    obtain ⟨hP1, hK1, hD1⟩ := hB
    rw [ht] at hP1
    have hK1 := va_K.moved hvm.symm hK1
    try dsimp only at hw
    obtain ⟨hP, hD⟩ := J_s (wL := [eO h0 3 [.ref qo, .int z3, .int lp, .int fa, .ref jp], eI qo ko 8 g2, eI pn kpn 80 fpn, eO jp 2 [.ref pb, .ref pn, .int ps], eI pb kpb 80 fpb]) hP hD [(2, 2)] [(0, 2), (4, 1)] hCm hNw (by decide +kernel) hk1 hFc hP1 hD1 rfl
    have hK := KJ_s (tys' := [(ko, .int), (kpn, .int), (kpb, .int)]) hK hK1 [(0, 1), (2, 1)] rfl
    generalize H1 = H at hP hS ⊢
    have h_r4 := hw
    refine lv_bipush (v := 123) hx hb dX4_opening_43 (by decide) ?_
    refine lv_icmp_ne (tgt := 58) hx hb dX4_opening_45 (by decide) (fun c5 => ?_) (fun c5 => ?_)
    · skip
      have f_c5 := i_ne c5
      refine lv_iload_n hx hb dX4_opening_58 rfl (lv_at hl 1 rfl) ?_
      refine lv_iconst (v := 1) hx hb dX4_opening_59 (by decide) ?_
      refine lv_iadd hx hb dX4_opening_60 ?_
      refine lv_topi (fun z6 e_z6 => ?_)
      have t_z6 := i_add e_z6 (by omega) (by omega)
      rw [hQ9]
      exact W.iret (v := z6) hx hb hr (fun t ht hW => ⟨⟨z6, (z3, lp, fa, g2), rfl, ⟨by omega, Or.inr ⟨by omega, rfl, by rw [← e_g2]; rfl, by omega, fun q => absurd q (by omega), fun _ => rfl⟩⟩, by rw [ht]; exact P_s hP [(0, 2), (3, 2), (2, 1)] rfl, va_K.moved hW.alike (K_s hK [(0, 1), (2, 1), (1, 1)] rfl), D_s hD [(0, 2), (3, 2), (2, 1)] 5 rfl (by decide +kernel) rfl⟩, hS.F ht⟩) hS.2.2 dX4_opening_61
    · skip
      have f_c5 := i_eq c5
      refine lv_aload_n hx hb dX4_opening_48 rfl (lv_at hl 0 rfl) ?_
      refine lv_dup hx hb dX4_opening_49 rfl ?_
      refine va_get (D := (dC, dI)) (ci := 3) (v := .int lp) (C := RX4) (T := TX4) (N := 5) hx hb hts (fun w h => List.mem_cons_of_mem _ (inlX4 w h)) hown hK hP 0 rfl rfl 2 (by decide) (hts (.fieldLink RX4 23 "ClearingGates$Reader" "loops" "I") (List.mem_cons_of_mem _ mw_175)) (fun _ h9 => h9) rfl dX4_opening_50 ?_
      refine lv_iconst (v := 1) hx hb dX4_opening_53 (by decide) ?_
      refine lv_iadd hx hb dX4_opening_54 ?_
      refine lv_topi (fun z7 e_z7 => ?_)
      have t_z7 := i_add e_z7 (by omega) (by omega)
      refine va_put (D := (dC, dI)) (ci := 3) (v := .int z7) (ty := .int) (C := RX4) (T := TX4) (N := 5) hx hb hts (fun w h => List.mem_cons_of_mem _ (inlX4 w h)) tyX4 tyX4_ok nmX4 hown hK hP hD hS 0 rfl rfl 2 (by decide) (hts (.fieldLink RX4 23 "ClearingGates$Reader" "loops" "I") (List.mem_cons_of_mem _ mw_175)) (fun _ h9 => h9) rfl (by decide +kernel) rfl rfl (Nat.le_of_ble_eq_true rfl) dX4_opening_55 (fun H locs hP hD hS => ?_)
      obtain ⟨hP, hD⟩ := X_s (ws' := [eO h0 3 [.ref qo, .int z3, .int z7, .int fa, .ref jp], eI qo ko 8 g2, eI pn kpn 80 fpn, eO jp 2 [.ref pb, .ref pn, .int ps], eI pb kpb 80 fpb]) hP hD rfl
      refine lv_iload_n hx hb dX4_opening_58 rfl (lv_at hl 1 rfl) ?_
      refine lv_iconst (v := 1) hx hb dX4_opening_59 (by decide) ?_
      refine lv_iadd hx hb dX4_opening_60 ?_
      refine lv_topi (fun z8 e_z8 => ?_)
      have t_z8 := i_add e_z8 (by omega) (by omega)
      rw [hQ9]
      exact W.iret (v := z8) hx hb hr (fun t ht hW => ⟨⟨z8, (z3, z7, fa, g2), rfl, ⟨by omega, Or.inr ⟨by omega, rfl, by rw [← e_g2]; rfl, by omega, fun _ => by omega, fun q => absurd (by omega) q⟩⟩, by rw [ht]; exact P_s hP [(0, 2), (3, 2), (2, 1)] rfl, va_K.moved hW.alike (K_s hK [(0, 1), (2, 1), (1, 1)] rfl), D_s hD [(0, 2), (3, 2), (2, 1)] 5 rfl (by decide +kernel) rfl⟩, hS.F ht⟩) hS.2.2 dX4_opening_61
  · skip
    have f_c1 := i_nlt c1
    refine lv_aload_n hx hb dX4_opening_9 rfl (lv_at hl 0 rfl) ?_
    refine lv_iload_n hx hb dX4_opening_10 rfl (lv_at hl 1 rfl) ?_
    obtain ⟨hPc, hDc, hFc, hCm, hNw⟩ := C_s (wc := [eO h0 3 [.ref qo, .int op, .int lp, .int fa, .ref jp]]) hP hD hS hA [(0, 1)] 5 rfl (by decide +kernel) rfl
    have hKc := K_s (tys' := []) hK [] rfl
    refine va_calli (va_runV (As := [.int p0]) (rest := []) ⟨hx, hb, hml, hown, hts⟩ (c_X4_faultAt l dC dI h0 p0 qo op lp fa jp s.heap.size (by first | assumption | omega) (by first | assumption | omega)) (cwV 1 hts gX4_opening_X4_faultAt rfl rfl rfl (by decide +kernel) ⟨Nat.le_of_ble_eq_true rfl, Nat.le_of_ble_eq_true rfl⟩) ⟨fun a U g mk q => by obtain ⟨q0, q1, qP, qK, qD⟩ := q; exact ⟨q0, q1, qP, va_K.moved (u := U) (U := U.calling g mk a) (Vm.Alike.refl U.vm) qK, qD⟩, va_recv (s := s) (q := (RX4, TX4, 5)) hKc hPc (ci := 3) (q0 := 0) rfl rfl, fun U hU hW => ⟨rfl, by rw [hU], by rw [hU]; exact hPc, va_K.moved hW.alike hKc, hDc.weaken (fun _ _ _ _ => trivial)⟩⟩ rfl rfl hl.1 rfl (lv_room (Nat.le_of_ble_eq_true rfl)) dX4_opening_11 ⟨Nat.le_of_ble_eq_true rfl, Nat.le_of_ble_eq_true rfl⟩) hS (fun q _ h => hFc q h) hFc (fun r9 u t H1 locs ht hvm hw hB hz1 hk1 hS => ?_)
    obtain ⟨hP1, hK1, hD1⟩ := hB
    rw [ht] at hP1
    have hK1 := va_K.moved hvm.symm hK1
    try dsimp only at hw
    obtain ⟨hP, hD⟩ := J_s (wL := [eI qo ko 8 fo, eO jp 2 [.ref pb, .ref pn, .int ps], eI pb kpb 80 fpb, eI pn kpn 80 fpn, eO h0 3 [.ref qo, .int op, .int lp, .int p0, .ref jp]]) hP hD [(0, 1)] [(1, 4)] hCm hNw (by decide +kernel) hk1 hFc hP1 hD1 rfl
    have hK := KJ_s (tys' := [(ko, .int), (kpb, .int), (kpn, .int)]) hK hK1 [(0, 3)] rfl
    generalize H1 = H at hP hS ⊢
    have h_r9 := hw
    rw [hQ9]
    exact W.iret (v := r9) hx hb hr (fun t ht hW => ⟨⟨r9, (op, lp, p0, fo), rfl, ⟨by omega, Or.inl ⟨by omega, rfl, rfl, rfl, rfl⟩⟩, by rw [ht]; exact P_s hP [(4, 1), (0, 4)] rfl, va_K.moved hW.alike hK, D_s hD [(4, 1), (0, 4)] 5 rfl (by decide +kernel) rfl⟩, hS.F ht⟩) hS.2.2 dX4_opening_14

set_option maxRecDepth 100000 in
set_option maxHeartbeats 4000000 in
/-- Reader.openingWithFigure -/
theorem c_X4_openingWithFigure (l : Launch) (dC : Nat → ClassId) (dI : Nat → Nat → Nat) (h0 : Nat) (p0 : Int32) (p1 : Int32) (p2 : Int32) (qo : Nat) (op : Int32) (lp : Int32) (fa : Int32) (jp : Nat) (ko : ClassId) (fo : Nat → Int32) (pb : Nat) (pn : Nat) (ps : Int32) (kpb : ClassId) (fpb : Nat → Int32) (kpn : ClassId) (fpn : Nat → Int32) (kk : Nat) (n9 : Nat) (lo : Int) (hi : Int) (sz : Nat) (hkk : p0.toInt = (kk : Int)) (hn9 : ps.toInt = (n9 : Int)) (hn80 : n9 ≤ 80) (hkn : kk < n9) (ho1 : 0 ≤ op.toInt) (hl1 : 0 ≤ lp.toInt) (hl2 : lp.toInt ≤ op.toInt) (hfa : fa.toInt = -1) (hlo : p1.toInt = lo) (hhi : p2.toInt = hi) (hl0 : 0 ≤ lo) : Met l yX4_openingWithFigure wsX4_openingWithFigure ({ frames := 2, cells := 0, slots := 0, locals := 44 }) (va_Pc [.ref h0, .int p0, .int p1, .int p2] (fun U => U.heap.size = sz ∧ va_P (dC, dI) vwCl [eO h0 3 [.ref qo, .int op, .int lp, .int fa, .ref jp], eI qo ko 8 fo, eO jp 2 [.ref pb, .ref pn, .int ps], eI pb kpb 80 fpb, eI pn kpn 80 fpn] U.heap ∧ va_K (dC, dI) vwCl [(ko, .int), (kpb, .int), (kpn, .int)] U ∧ va_D (fun _ => True) [eO h0 3 [.ref qo, .int op, .int lp, .int fa, .ref jp], eI qo ko 8 fo, eO jp 2 [.ref pb, .ref pn, .int ps], eI pb kpb 80 fpb, eI pn kpn 80 fpn])) (va_Qi (fun (r : Int32) (u : (Int32) × (Int32) × (Int32) × (Nat → Int32)) => match u with | (op2, lp2, fa2, fo2) => (0 ≤ r.toInt ∧ r.toInt ≤ 90) ∧ OW fpb n9 kk op lp fo p0 lo hi r op2 lp2 fa2 fo2) (fun (u : (Int32) × (Int32) × (Int32) × (Nat → Int32)) (t : State) => match u with | (op2, lp2, fa2, fo2) => va_P (dC, dI) vwCl [eO h0 3 [.ref qo, .int op2, .int lp2, .int fa2, .ref jp], eI qo ko 8 fo2, eO jp 2 [.ref pb, .ref pn, .int ps], eI pb kpb 80 fpb, eI pn kpn 80 fpn] t.heap ∧ va_K (dC, dI) vwCl [(ko, .int), (kpb, .int), (kpn, .int)] t ∧ va_D (va_A [eO h0 3 [.ref qo, .int op, .int lp, .int fa, .ref jp], eI qo ko 8 fo, eO jp 2 [.ref pb, .ref pn, .int ps], eI pb kpb 80 fpb, eI pn kpn 80 fpn] sz) [eO h0 3 [.ref qo, .int op2, .int lp2, .int fa2, .ref jp], eI qo ko 8 fo2, eO jp 2 [.ref pb, .ref pn, .int ps], eI pb kpb 80 fpb, eI pn kpn 80 fpn]) (va_A [eO h0 3 [.ref qo, .int op, .int lp, .int fa, .ref jp], eI qo ko 8 fo, eO jp 2 [.ref pb, .ref pn, .int ps], eI pb kpb 80 fpb, eI pn kpn 80 fpn] sz)) 0 0 (va_A [eO h0 3 [.ref qo, .int op, .int lp, .int fa, .ref jp], eI qo ko 8 fo, eO jp 2 [.ref pb, .ref pn, .int ps], eI pb kpb 80 fpb, eI pn kpn 80 fpn] sz) := by
  refine Met.ofW (cc := cX4_openingWithFigure) (maxL := 5) (ret := (some .int)) (by decide) rfl ?_
  intro p e s m args below meth c s₁ B hml hv
  obtain ⟨rfl, hsz, hP, hK, hD0⟩ := hv
  have hx := B.exec
  have hb := B.bytes
  have hr := B.returns
  have hts := atoms_spec (ws := wsX4_openingWithFigure) B.pre
  have hown : s.vm.findClass RX4 = some m.cls := findClass_of_methodNamed B.named
  have hlocks := B.notSynchronized
  subst hsz
  have hD := hD0.self (sz := s.heap.size)
  generalize hAe : va_A [eO h0 3 [.ref qo, .int op, .int lp, .int fa, .ref jp], eI qo ko 8 fo, eO jp 2 [.ref pb, .ref pn, .int ps], eI pb kpb 80 fpb, eI pn kpn 80 fpn] s.heap.size = A at hD ⊢
  have hA : ∀ q : Nat, s.heap.size ≤ q → A q := fun q h => by rw [← hAe]; exact Or.inr h
  have hS : va_S A s.heap s.heap [] := va_S.rf
  have hP : va_P (dC, dI) vwCl [eO h0 3 [.ref qo, .int op, .int lp, .int fa, .ref jp], eI qo ko 8 fo, eO jp 2 [.ref pb, .ref pn, .int ps], eI pb kpb 80 fpb, eI pn kpn 80 fpn] s.heap := hP
  have hl := lv_entry ([.ref h0, .int p0, .int p1, .int p2]) (n := 5) (Nat.le_of_ble_eq_true rfl)
  rw [lg_entry_eq]
  generalize (lg_sl ([.ref h0, .int p0, .int p1, .int p2]) ++ List.replicate (5 - (lg_sl ([.ref h0, .int p0, .int p1, .int p2])).length) Slot.unset).toArray = ls at hl ⊢
  have hl : lv_has ls 5 [(0, .ref h0), (1, .int p0), (2, .int p1), (3, .int p2)] := hl
  suffices key9 : ∀ Q9 : State → Prop, Q9 = (MQ below (va_Qi (fun (r : Int32) (u : (Int32) × (Int32) × (Int32) × (Nat → Int32)) => match u with | (op2, lp2, fa2, fo2) => (0 ≤ r.toInt ∧ r.toInt ≤ 90) ∧ OW fpb n9 kk op lp fo p0 lo hi r op2 lp2 fa2 fo2) (fun (u : (Int32) × (Int32) × (Int32) × (Nat → Int32)) (t : State) => match u with | (op2, lp2, fa2, fo2) => va_P (dC, dI) vwCl [eO h0 3 [.ref qo, .int op2, .int lp2, .int fa2, .ref jp], eI qo ko 8 fo2, eO jp 2 [.ref pb, .ref pn, .int ps], eI pb kpb 80 fpb, eI pn kpn 80 fpn] t.heap ∧ va_K (dC, dI) vwCl [(ko, .int), (kpb, .int), (kpn, .int)] t ∧ va_D A [eO h0 3 [.ref qo, .int op2, .int lp2, .int fa2, .ref jp], eI qo ko 8 fo2, eO jp 2 [.ref pb, .ref pn, .int ps], eI pb kpb 80 fpb, eI pn kpn 80 fpn]) A) (([.ref h0, .int p0, .int p1, .int p2] : List Value).toArray) s 0 0 A) → W p l e ({ frames := 2, cells := 0, slots := 0, locals := 44 }) s m (([.ref h0, .int p0, .int p1, .int p2] : List Value).toArray) below meth c s.heap [] 0 0 Q9 (F0 m 0 ls []) from key9 _ rfl
  intro Q9 hQ9
  have k_m1 : ((-1) : Int32).toInt = (-1) := by decide
  have k_1 : (1 : Int32).toInt = 1 := by decide
  refine lv_aload_n hx hb dX4_openingWithFigure_0 rfl (lv_at hl 0 rfl) ?_
  refine lv_iload_n hx hb dX4_openingWithFigure_1 rfl (lv_at hl 1 rfl) ?_
  obtain ⟨hPc, hDc, hFc, hCm, hNw⟩ := C_s (wc := [eO h0 3 [.ref qo, .int op, .int lp, .int fa, .ref jp], eI qo ko 8 fo, eO jp 2 [.ref pb, .ref pn, .int ps], eI pb kpb 80 fpb, eI pn kpn 80 fpn]) hP hD hS hA [(0, 5)] 5 rfl (by decide +kernel) rfl
  have hKc := K_s (tys' := [(ko, .int), (kpb, .int), (kpn, .int)]) hK [(0, 3)] rfl
  refine va_calli (va_runV (As := [.int p0]) (rest := []) ⟨hx, hb, hml, hown, hts⟩ (c_X4_opening l dC dI h0 p0 qo op lp fa jp ko fo pb pn ps kpb fpb kpn fpn kk n9 s.heap.size hkk hn9 hn80 hkn ho1 hl1 hl2) (cwV 1 hts gX4_openingWithFigure_X4_opening rfl rfl rfl (by decide +kernel) ⟨Nat.le_of_ble_eq_true rfl, Nat.le_of_ble_eq_true rfl⟩) ⟨fun a U g mk q => by obtain ⟨q0, q1, qP, qK, qD⟩ := q; exact ⟨q0, q1, qP, va_K.moved (u := U) (U := U.calling g mk a) (Vm.Alike.refl U.vm) qK, qD⟩, va_recv (s := s) (q := (RX4, TX4, 5)) hKc hPc (ci := 3) (q0 := 0) rfl rfl, fun U hU hW => ⟨rfl, by rw [hU], by rw [hU]; exact hPc, va_K.moved hW.alike hKc, hDc.weaken (fun _ _ _ _ => trivial)⟩⟩ rfl rfl hl.1 rfl (lv_room (Nat.le_of_ble_eq_true rfl)) dX4_openingWithFigure_2 ⟨Nat.le_of_ble_eq_true rfl, Nat.le_of_ble_eq_true rfl⟩) hS (fun q _ h => hFc q h) hFc (fun r1 u t H1 locs ht hvm hw hB hz1 hk1 hS => ?_)
  obtain ⟨u2, u3, u4, u5⟩ := u
  obtain ⟨hP1, hK1, hD1⟩ := hB
  rw [ht] at hP1
  have hK1 := va_K.moved hvm.symm hK1
  try dsimp only at hw
  obtain ⟨hP, hD⟩ := J_s (wL := [eO h0 3 [.ref qo, .int u2, .int u3, .int u4, .ref jp], eI qo ko 8 u5, eO jp 2 [.ref pb, .ref pn, .int ps], eI pb kpb 80 fpb, eI pn kpn 80 fpn]) hP hD [(0, 5)] [] hCm hNw (by decide +kernel) hk1 hFc hP1 hD1 rfl
  have hK := KJ_s (tys' := [(ko, .int), (kpb, .int), (kpn, .int)]) hK hK1 [] rfl
  generalize H1 = H at hP hS ⊢
  have h_r1 := hw
  refine lv_istore (lv' := [(4, .int r1), (0, .ref h0), (1, .int p0), (2, .int p1), (3, .int p2)]) hx hb dX4_openingWithFigure_5 hl (by decide) rfl (fun ls hl => ?_)
  obtain ⟨o0_r1, o1_r1⟩ := id h_r1
  rcases o1_r1 with ⟨q1, q2, q3, q4, q5⟩ | ⟨q1, q2, q3, q4, q5, q6⟩
  · have q7 := i_eq q2
    refine lv_aload_n hx hb dX4_openingWithFigure_7 rfl (lv_at hl 1 rfl) ?_
    refine va_get (D := (dC, dI)) (ci := 3) (v := .int u4) (C := RX4) (T := TX4) (N := 5) hx hb hts (fun w h => List.mem_cons_of_mem _ (inlX4 w h)) hown hK hP 0 rfl rfl 3 (by decide) (hts (.fieldLink RX4 26 "ClearingGates$Reader" "fault" "I") (List.mem_cons_of_mem _ mw_176)) (fun _ h9 => h9) rfl dX4_openingWithFigure_8 ?_
    refine lv_iconst (v := -1) hx hb dX4_openingWithFigure_11 (by decide) ?_
    refine lv_icmp_ne (tgt := 33) hx hb dX4_openingWithFigure_12 (by decide) (fun c6 => ?_) (fun c6 => ?_)
    · skip
      have f_c6 := i_ne c6
      refine lv_iload hx hb dX4_openingWithFigure_33 (lv_at hl 0 rfl) ?_
      refine lv_iconst (v := 1) hx hb dX4_openingWithFigure_35 (by decide) ?_
      refine lv_iadd hx hb dX4_openingWithFigure_36 ?_
      refine lv_topi (fun z7 e_z7 => ?_)
      have t_z7 := i_add e_z7 (by omega) (by omega)
      rw [hQ9]
      exact W.iret (v := z7) hx hb hr (fun t ht hW => ⟨⟨z7, (u2, u3, u4, u5), rfl, ⟨⟨by omega, by omega⟩, Or.inl ⟨by omega, by omega⟩⟩, by rw [ht]; exact hP, va_K.moved hW.alike hK, hD⟩, hS.F ht⟩) hS.2.2 dX4_openingWithFigure_37
    · skip
      have f_c6 := i_eq c6
      exfalso; omega
  · have q7 := i_eq q2
    refine lv_aload_n hx hb dX4_openingWithFigure_7 rfl (lv_at hl 1 rfl) ?_
    refine va_get (D := (dC, dI)) (ci := 3) (v := .int u4) (C := RX4) (T := TX4) (N := 5) hx hb hts (fun w h => List.mem_cons_of_mem _ (inlX4 w h)) hown hK hP 0 rfl rfl 3 (by decide) (hts (.fieldLink RX4 26 "ClearingGates$Reader" "fault" "I") (List.mem_cons_of_mem _ mw_176)) (fun _ h9 => h9) rfl dX4_openingWithFigure_8 ?_
    refine lv_iconst (v := -1) hx hb dX4_openingWithFigure_11 (by decide) ?_
    refine lv_icmp_ne (tgt := 33) hx hb dX4_openingWithFigure_12 (by decide) (fun c8 => ?_) (fun c8 => ?_)
    · skip
      have f_c8 := i_ne c8
      exfalso; omega
    · skip
      have f_c8 := i_eq c8
      refine lv_aload_n hx hb dX4_openingWithFigure_15 rfl (lv_at hl 1 rfl) ?_
      refine lv_iload hx hb dX4_openingWithFigure_16 (lv_at hl 0 rfl) ?_
      refine lv_iload_n hx hb dX4_openingWithFigure_18 rfl (lv_at hl 3 rfl) ?_
      refine lv_iload_n hx hb dX4_openingWithFigure_19 rfl (lv_at hl 4 rfl) ?_
      obtain ⟨hPc, hDc, hFc, hCm, hNw⟩ := C_s (wc := [eO h0 3 [.ref qo, .int u2, .int u3, .int u4, .ref jp], eO jp 2 [.ref pb, .ref pn, .int ps], eI pb kpb 80 fpb, eI pn kpn 80 fpn]) hP hD hS hA [(0, 1), (2, 3)] 5 rfl (by decide +kernel) rfl
      have hKc := K_s (tys' := [(kpb, .int), (kpn, .int)]) hK [(1, 2)] rfl
      refine va_calli (va_runV (As := [.int r1, .int p1, .int p2]) (rest := []) ⟨hx, hb, hml, hown, hts⟩ (c_X4_isFigure l dC dI h0 r1 p1 p2 qo u2 u3 u4 jp pb pn ps kpb fpb kpn fpn (kk + 1) n9 lo hi H.size (by first | assumption | omega) hn9 hn80 hlo hhi hl0) (cwV 3 hts gX4_openingWithFigure_X4_isFigure rfl rfl rfl (by decide +kernel) ⟨Nat.le_of_ble_eq_true rfl, Nat.le_of_ble_eq_true rfl⟩) ⟨fun a U g mk q => by obtain ⟨q0, q1, qP, qK, qD⟩ := q; exact ⟨q0, q1, qP, va_K.moved (u := U) (U := U.calling g mk a) (Vm.Alike.refl U.vm) qK, qD⟩, va_recv (s := s) (q := (RX4, TX4, 5)) hKc hPc (ci := 3) (q0 := 0) rfl rfl, fun U hU hW => ⟨rfl, by rw [hU], by rw [hU]; exact hPc, va_K.moved hW.alike hKc, hDc.weaken (fun _ _ _ _ => trivial)⟩⟩ rfl rfl hl.1 rfl (lv_room (Nat.le_of_ble_eq_true rfl)) dX4_openingWithFigure_20 ⟨Nat.le_of_ble_eq_true rfl, Nat.le_of_ble_eq_true rfl⟩) hS (fun q _ h => hFc q h) hFc (fun r9 u t H1 locs ht hvm hw hB hz1 hk1 hS => ?_)
      obtain ⟨hP1, hK1, hD1⟩ := hB
      rw [ht] at hP1
      have hK1 := va_K.moved hvm.symm hK1
      try dsimp only at hw
      obtain ⟨hP, hD⟩ := J_s (wL := [eI qo ko 8 u5, eO h0 3 [.ref qo, .int u2, .int u3, .int u4, .ref jp], eO jp 2 [.ref pb, .ref pn, .int ps], eI pb kpb 80 fpb, eI pn kpn 80 fpn]) hP hD [(0, 1), (2, 3)] [(1, 1)] hCm hNw (by decide +kernel) hk1 hFc hP1 hD1 rfl
      have hK := KJ_s (tys' := [(ko, .int), (kpb, .int), (kpn, .int)]) hK hK1 [(0, 1)] rfl
      generalize H1 = H at hP hS ⊢
      rcases hw with ⟨e_r9, f_r9⟩ | ⟨e_r9, f_r9⟩
      · subst e_r9
        refine lv_if_ne (tgt := 33) hx hb dX4_openingWithFigure_23 (by decide) (fun c10 => ?_) (fun c10 => absurd c10 (by decide))
        refine lv_iload hx hb dX4_openingWithFigure_33 (lv_at hl 0 rfl) ?_
        refine lv_iconst (v := 1) hx hb dX4_openingWithFigure_35 (by decide) ?_
        refine lv_iadd hx hb dX4_openingWithFigure_36 ?_
        refine lv_topi (fun z11 e_z11 => ?_)
        have t_z11 := i_add e_z11 (by omega) (by omega)
        rw [hQ9]
        exact W.iret (v := z11) hx hb hr (fun t ht hW => ⟨⟨z11, (u2, u3, u4, u5), rfl, ⟨⟨by omega, by omega⟩, Or.inr (Or.inr ⟨by omega, f_r9, by omega, q3, q4, q5, q6, by omega⟩)⟩, by rw [ht]; exact P_s hP [(1, 1), (0, 1), (2, 3)] rfl, va_K.moved hW.alike hK, D_s hD [(1, 1), (0, 1), (2, 3)] 5 rfl (by decide +kernel) rfl⟩, hS.F ht⟩) hS.2.2 dX4_openingWithFigure_37
      · subst e_r9
        refine lv_if_ne (tgt := 33) hx hb dX4_openingWithFigure_23 (by decide) (fun c12 => absurd (by decide) c12) (fun c12 => ?_)
        refine lv_aload_n hx hb dX4_openingWithFigure_26 rfl (lv_at hl 1 rfl) ?_
        refine lv_iload hx hb dX4_openingWithFigure_27 (lv_at hl 0 rfl) ?_
        obtain ⟨hPc, hDc, hFc, hCm, hNw⟩ := C_s (wc := [eO h0 3 [.ref qo, .int u2, .int u3, .int u4, .ref jp]]) hP hD hS hA [(1, 1)] 5 rfl (by decide +kernel) rfl
        have hKc := K_s (tys' := []) hK [] rfl
        refine va_calli (va_runV (As := [.int r1]) (rest := []) ⟨hx, hb, hml, hown, hts⟩ (c_X4_faultAt l dC dI h0 r1 qo u2 u3 u4 jp H.size (by first | assumption | omega) (by first | assumption | omega)) (cwV 1 hts gX4_openingWithFigure_X4_faultAt rfl rfl rfl (by decide +kernel) ⟨Nat.le_of_ble_eq_true rfl, Nat.le_of_ble_eq_true rfl⟩) ⟨fun a U g mk q => by obtain ⟨q0, q1, qP, qK, qD⟩ := q; exact ⟨q0, q1, qP, va_K.moved (u := U) (U := U.calling g mk a) (Vm.Alike.refl U.vm) qK, qD⟩, va_recv (s := s) (q := (RX4, TX4, 5)) hKc hPc (ci := 3) (q0 := 0) rfl rfl, fun U hU hW => ⟨rfl, by rw [hU], by rw [hU]; exact hPc, va_K.moved hW.alike hKc, hDc.weaken (fun _ _ _ _ => trivial)⟩⟩ rfl rfl hl.1 rfl (lv_room (Nat.le_of_ble_eq_true rfl)) dX4_openingWithFigure_29 ⟨Nat.le_of_ble_eq_true rfl, Nat.le_of_ble_eq_true rfl⟩) hS (fun q _ h => hFc q h) hFc (fun r13 u t H1 locs ht hvm hw hB hz1 hk1 hS => ?_)
        obtain ⟨hP1, hK1, hD1⟩ := hB
        rw [ht] at hP1
        have hK1 := va_K.moved hvm.symm hK1
        try dsimp only at hw
        obtain ⟨hP, hD⟩ := J_s (wL := [eI qo ko 8 u5, eO jp 2 [.ref pb, .ref pn, .int ps], eI pb kpb 80 fpb, eI pn kpn 80 fpn, eO h0 3 [.ref qo, .int u2, .int u3, .int r1, .ref jp]]) hP hD [(1, 1)] [(0, 1), (2, 3)] hCm hNw (by decide +kernel) hk1 hFc hP1 hD1 rfl
        have hK := KJ_s (tys' := [(ko, .int), (kpb, .int), (kpn, .int)]) hK hK1 [(0, 3)] rfl
        generalize H1 = H at hP hS ⊢
        have h_r13 := hw
        rw [hQ9]
        exact W.iret (v := r13) hx hb hr (fun t ht hW => ⟨⟨r13, (u2, u3, r1, u5), rfl, ⟨⟨by omega, by omega⟩, Or.inr (Or.inl ⟨by omega, f_r9, by omega⟩)⟩, by rw [ht]; exact P_s hP [(4, 1), (0, 4)] rfl, va_K.moved hW.alike hK, D_s hD [(4, 1), (0, 4)] 5 rfl (by decide +kernel) rfl⟩, hS.F ht⟩) hS.2.2 dX4_openingWithFigure_32

set_option maxRecDepth 100000 in
set_option maxHeartbeats 4000000 in
/-- Reader.closing -/
theorem c_X4_closing (l : Launch) (dC : Nat → ClassId) (dI : Nat → Nat → Nat) (h0 : Nat) (p0 : Int32) (p1 : Int32) (qo : Nat) (op : Int32) (lp : Int32) (fa : Int32) (jp : Nat) (ko : ClassId) (fo : Nat → Int32) (pb : Nat) (pn : Nat) (ps : Int32) (kpb : ClassId) (fpb : Nat → Int32) (kpn : ClassId) (fpn : Nat → Int32) (kk : Nat) (n9 : Nat) (bb : Nat) (sz : Nat) (hkk : p0.toInt = (kk : Int)) (hn9 : ps.toInt = (n9 : Int)) (hn80 : n9 ≤ 80) (hkn : kk < n9) (ho1 : 0 ≤ op.toInt) (hl1 : 0 ≤ lp.toInt) (hl2 : lp.toInt ≤ op.toInt) (ho2 : op.toInt ≤ 8) (htp : Tp fo op n9 bb) (hbl : 0 < op.toInt → (fpb bb).toInt = 123 → 1 ≤ lp.toInt) (hb0 : ∀ k : Nat, 0 ≤ (fpn k).toInt ∧ (fpn k).toInt ≤ 80) : Met l yX4_closing wsX4_closing ({ frames := 1, cells := 0, slots := 0, locals := 22 }) (va_Pc [.ref h0, .int p0, .int p1] (fun U => U.heap.size = sz ∧ va_P (dC, dI) vwCl [eO h0 3 [.ref qo, .int op, .int lp, .int fa, .ref jp], eI qo ko 8 fo, eO jp 2 [.ref pb, .ref pn, .int ps], eI pb kpb 80 fpb, eI pn kpn 80 fpn] U.heap ∧ va_K (dC, dI) vwCl [(ko, .int), (kpb, .int), (kpn, .int)] U ∧ va_D (fun _ => True) [eO h0 3 [.ref qo, .int op, .int lp, .int fa, .ref jp], eI qo ko 8 fo, eO jp 2 [.ref pb, .ref pn, .int ps], eI pb kpb 80 fpb, eI pn kpn 80 fpn])) (va_Qi (fun (r : Int32) (u : (Int32) × (Int32) × (Int32) × (Nat → Int32)) => match u with | (op2, lp2, fa2, fpn2) => (0 ≤ r.toInt ∧ r.toInt ≤ 90) ∧ CLp fpb kk bb op lp fa p1 r op2 lp2 fa2 fpn fpn2 ∧ (∀ k : Nat, 0 ≤ (fpn2 k).toInt ∧ (fpn2 k).toInt ≤ 80)) (fun (u : (Int32) × (Int32) × (Int32) × (Nat → Int32)) (t : State) => match u with | (op2, lp2, fa2, fpn2) => va_P (dC, dI) vwCl [eO h0 3 [.ref qo, .int op2, .int lp2, .int fa2, .ref jp], eI qo ko 8 fo, eO jp 2 [.ref pb, .ref pn, .int ps], eI pb kpb 80 fpb, eI pn kpn 80 fpn2] t.heap ∧ va_K (dC, dI) vwCl [(ko, .int), (kpb, .int), (kpn, .int)] t ∧ va_D (va_A [eO h0 3 [.ref qo, .int op, .int lp, .int fa, .ref jp], eI qo ko 8 fo, eO jp 2 [.ref pb, .ref pn, .int ps], eI pb kpb 80 fpb, eI pn kpn 80 fpn] sz) [eO h0 3 [.ref qo, .int op2, .int lp2, .int fa2, .ref jp], eI qo ko 8 fo, eO jp 2 [.ref pb, .ref pn, .int ps], eI pb kpb 80 fpb, eI pn kpn 80 fpn2]) (va_A [eO h0 3 [.ref qo, .int op, .int lp, .int fa, .ref jp], eI qo ko 8 fo, eO jp 2 [.ref pb, .ref pn, .int ps], eI pb kpb 80 fpb, eI pn kpn 80 fpn] sz)) 0 0 (va_A [eO h0 3 [.ref qo, .int op, .int lp, .int fa, .ref jp], eI qo ko 8 fo, eO jp 2 [.ref pb, .ref pn, .int ps], eI pb kpb 80 fpb, eI pn kpn 80 fpn] sz) := by
  refine Met.ofW (cc := cX4_closing) (maxL := 3) (ret := (some .int)) (by decide) rfl ?_
  intro p e s m args below meth c s₁ B hml hv
  obtain ⟨rfl, hsz, hP, hK, hD0⟩ := hv
  have hx := B.exec
  have hb := B.bytes
  have hr := B.returns
  have hts := atoms_spec (ws := wsX4_closing) B.pre
  have hown : s.vm.findClass RX4 = some m.cls := findClass_of_methodNamed B.named
  have hlocks := B.notSynchronized
  subst hsz
  have hD := hD0.self (sz := s.heap.size)
  generalize hAe : va_A [eO h0 3 [.ref qo, .int op, .int lp, .int fa, .ref jp], eI qo ko 8 fo, eO jp 2 [.ref pb, .ref pn, .int ps], eI pb kpb 80 fpb, eI pn kpn 80 fpn] s.heap.size = A at hD ⊢
  have hA : ∀ q : Nat, s.heap.size ≤ q → A q := fun q h => by rw [← hAe]; exact Or.inr h
  have hS : va_S A s.heap s.heap [] := va_S.rf
  have hP : va_P (dC, dI) vwCl [eO h0 3 [.ref qo, .int op, .int lp, .int fa, .ref jp], eI qo ko 8 fo, eO jp 2 [.ref pb, .ref pn, .int ps], eI pb kpb 80 fpb, eI pn kpn 80 fpn] s.heap := hP
  have hl := lv_entry ([.ref h0, .int p0, .int p1]) (n := 3) (Nat.le_of_ble_eq_true rfl)
  rw [lg_entry_eq]
  generalize (lg_sl ([.ref h0, .int p0, .int p1]) ++ List.replicate (3 - (lg_sl ([.ref h0, .int p0, .int p1])).length) Slot.unset).toArray = ls at hl ⊢
  have hl : lv_has ls 3 [(0, .ref h0), (1, .int p0), (2, .int p1)] := hl
  suffices key9 : ∀ Q9 : State → Prop, Q9 = (MQ below (va_Qi (fun (r : Int32) (u : (Int32) × (Int32) × (Int32) × (Nat → Int32)) => match u with | (op2, lp2, fa2, fpn2) => (0 ≤ r.toInt ∧ r.toInt ≤ 90) ∧ CLp fpb kk bb op lp fa p1 r op2 lp2 fa2 fpn fpn2 ∧ (∀ k : Nat, 0 ≤ (fpn2 k).toInt ∧ (fpn2 k).toInt ≤ 80)) (fun (u : (Int32) × (Int32) × (Int32) × (Nat → Int32)) (t : State) => match u with | (op2, lp2, fa2, fpn2) => va_P (dC, dI) vwCl [eO h0 3 [.ref qo, .int op2, .int lp2, .int fa2, .ref jp], eI qo ko 8 fo, eO jp 2 [.ref pb, .ref pn, .int ps], eI pb kpb 80 fpb, eI pn kpn 80 fpn2] t.heap ∧ va_K (dC, dI) vwCl [(ko, .int), (kpb, .int), (kpn, .int)] t ∧ va_D A [eO h0 3 [.ref qo, .int op2, .int lp2, .int fa2, .ref jp], eI qo ko 8 fo, eO jp 2 [.ref pb, .ref pn, .int ps], eI pb kpb 80 fpb, eI pn kpn 80 fpn2]) A) (([.ref h0, .int p0, .int p1] : List Value).toArray) s 0 0 A) → W p l e ({ frames := 1, cells := 0, slots := 0, locals := 22 }) s m (([.ref h0, .int p0, .int p1] : List Value).toArray) below meth c s.heap [] 0 0 Q9 (F0 m 0 ls []) from key9 _ rfl
  intro Q9 hQ9
  have k_0 : (0 : Int32).toInt = 0 := by decide
  have k_1 : (1 : Int32).toInt = 1 := by decide
  have k_123 : (123 : Int32).toInt = 123 := by decide
  refine lv_aload_n hx hb dX4_closing_0 rfl (lv_at hl 0 rfl) ?_
  refine va_get (D := (dC, dI)) (ci := 3) (v := .int op) (C := RX4) (T := TX4) (N := 5) hx hb hts (fun w h => List.mem_cons_of_mem _ (inlX4 w h)) hown hK hP 0 rfl rfl 1 (by decide) (hts (.fieldLink RX4 19 "ClearingGates$Reader" "open" "I") (List.mem_cons_of_mem _ mw_174)) (fun _ h9 => h9) rfl dX4_closing_1 ?_
  refine lv_if_eq (tgt := 29) hx hb dX4_closing_4 (by decide) (fun c1 => ?_) (fun c1 => ?_)
  · skip
    have f_c1 := i_eq c1
    refine lv_aload_n hx hb dX4_closing_29 rfl (lv_at hl 0 rfl) ?_
    refine lv_iload_n hx hb dX4_closing_30 rfl (lv_at hl 1 rfl) ?_
    obtain ⟨hPc, hDc, hFc, hCm, hNw⟩ := C_s (wc := [eO h0 3 [.ref qo, .int op, .int lp, .int fa, .ref jp]]) hP hD hS hA [(0, 1)] 5 rfl (by decide +kernel) rfl
    have hKc := K_s (tys' := []) hK [] rfl
    refine va_calli (va_runV (As := [.int p0]) (rest := []) ⟨hx, hb, hml, hown, hts⟩ (c_X4_faultAt l dC dI h0 p0 qo op lp fa jp s.heap.size (by first | assumption | omega) (by first | assumption | omega)) (cwV 1 hts gX4_closing_X4_faultAt rfl rfl rfl (by decide +kernel) ⟨Nat.le_of_ble_eq_true rfl, Nat.le_of_ble_eq_true rfl⟩) ⟨fun a U g mk q => by obtain ⟨q0, q1, qP, qK, qD⟩ := q; exact ⟨q0, q1, qP, va_K.moved (u := U) (U := U.calling g mk a) (Vm.Alike.refl U.vm) qK, qD⟩, va_recv (s := s) (q := (RX4, TX4, 5)) hKc hPc (ci := 3) (q0 := 0) rfl rfl, fun U hU hW => ⟨rfl, by rw [hU], by rw [hU]; exact hPc, va_K.moved hW.alike hKc, hDc.weaken (fun _ _ _ _ => trivial)⟩⟩ rfl rfl hl.1 rfl (lv_room (Nat.le_of_ble_eq_true rfl)) dX4_closing_31 ⟨Nat.le_of_ble_eq_true rfl, Nat.le_of_ble_eq_true rfl⟩) hS (fun q _ h => hFc q h) hFc (fun r2 u t H1 locs ht hvm hw hB hz1 hk1 hS => ?_)
    obtain ⟨hP1, hK1, hD1⟩ := hB
    rw [ht] at hP1
    have hK1 := va_K.moved hvm.symm hK1
    try dsimp only at hw
    obtain ⟨hP, hD⟩ := J_s (wL := [eI qo ko 8 fo, eO jp 2 [.ref pb, .ref pn, .int ps], eI pb kpb 80 fpb, eI pn kpn 80 fpn, eO h0 3 [.ref qo, .int op, .int lp, .int p0, .ref jp]]) hP hD [(0, 1)] [(1, 4)] hCm hNw (by decide +kernel) hk1 hFc hP1 hD1 rfl
    have hK := KJ_s (tys' := [(ko, .int), (kpb, .int), (kpn, .int)]) hK hK1 [(0, 3)] rfl
    generalize H1 = H at hP hS ⊢
    have h_r2 := hw
    rw [hQ9]
    exact W.iret (v := r2) hx hb hr (fun t ht hW => ⟨⟨r2, (op, lp, p0, fpn), rfl, ⟨⟨by omega, by omega⟩, Or.inr ⟨by omega, by omega⟩, hb0⟩, by rw [ht]; exact P_s hP [(4, 1), (0, 4)] rfl, va_K.moved hW.alike hK, D_s hD [(4, 1), (0, 4)] 5 rfl (by decide +kernel) rfl⟩, hS.F ht⟩) hS.2.2 dX4_closing_34
  · skip
    have f_c1 := i_ne c1
    refine lv_aload_n hx hb dX4_closing_7 rfl (lv_at hl 0 rfl) ?_
    refine va_get (D := (dC, dI)) (ci := 3) (v := .ref jp) (C := RX4) (T := TX4) (N := 5) hx hb hts (fun w h => List.mem_cons_of_mem _ (inlX4 w h)) hown hK hP 0 rfl rfl 4 (by decide) (hts (.fieldLink RX4 15 "ClearingGates$Reader" "program" "LClearingGates$Program;") (List.mem_cons_of_mem _ mw_177)) (fun _ h9 => h9) rfl dX4_closing_8 ?_
    refine lv_aload_n hx hb dX4_closing_11 rfl (lv_at hl 0 rfl) ?_
    refine va_get (D := (dC, dI)) (ci := 3) (v := .ref qo) (C := RX4) (T := TX4) (N := 5) hx hb hts (fun w h => List.mem_cons_of_mem _ (inlX4 w h)) hown hK hP 0 rfl rfl 0 (by decide) (hts (.fieldLink RX4 9 "ClearingGates$Reader" "opened" "[I") (List.mem_cons_of_mem _ mw_173)) (fun _ h9 => h9) rfl dX4_closing_12 ?_
    refine lv_aload_n hx hb dX4_closing_15 rfl (lv_at hl 0 rfl) ?_
    refine va_get (D := (dC, dI)) (ci := 3) (v := .int op) (C := RX4) (T := TX4) (N := 5) hx hb hts (fun w h => List.mem_cons_of_mem _ (inlX4 w h)) hown hK hP 0 rfl rfl 1 (by decide) (hts (.fieldLink RX4 19 "ClearingGates$Reader" "open" "I") (List.mem_cons_of_mem _ mw_174)) (fun _ h9 => h9) rfl dX4_closing_16 ?_
    refine lv_iconst (v := 1) hx hb dX4_closing_19 (by decide) ?_
    refine lv_isub hx hb dX4_closing_20 ?_
    refine lv_topi (fun z3 e_z3 => ?_)
    have t_z3 := i_sub e_z3 (by omega) (by omega)
    refine va_iald (D := (dC, dI)) hx hb hK hP 1 0 rfl rfl (vp_in_iff.mpr ⟨by omega, by omega⟩) dX4_closing_21 ?_
    refine lv_topi (fun z4 e_z4 => ?_)
    obtain ⟨tb1, tb2⟩ : (fo (op.toInt.toNat - 1)).toInt = (bb : Int) ∧ bb < n9 := by
      rcases htp with q | ⟨q1, q2, q3⟩
      · exact absurd q (by omega)
      · exact ⟨q2, q3⟩
    have b_z4 : z4.toInt = (bb : Int) := by rw [e_z4, i_nat (x := z3) (k := op.toInt.toNat - 1) (by omega)]; exact tb1
    obtain ⟨hPc, hDc, hFc, hCm, hNw⟩ := C_s (wc := [eO jp 2 [.ref pb, .ref pn, .int ps], eI pb kpb 80 fpb]) hP hD hS hA [(2, 2)] 5 rfl (by decide +kernel) rfl
    have hKc := K_s (tys' := [(kpb, .int)]) hK [(1, 1)] rfl
    refine va_calli (va_runV (As := [.int z4]) (rest := []) ⟨hx, hb, hml, hown, hts⟩ (c_X3_byteAtK l dC dI jp z4 pb pn ps kpb fpb bb n9 s.heap.size (by first | assumption | omega) hn9 hn80) (cwV 1 hts gX4_closing_X3_byteAt rfl rfl rfl (by decide +kernel) ⟨Nat.le_of_ble_eq_true rfl, Nat.le_of_ble_eq_true rfl⟩) ⟨fun a U g mk q => by obtain ⟨q0, q1, qP, qK, qD⟩ := q; exact ⟨q0, q1, qP, va_K.moved (u := U) (U := U.calling g mk a) (Vm.Alike.refl U.vm) qK, qD⟩, va_recv (s := s) (q := (RX3, TX3, 3)) hKc hPc (ci := 2) (q0 := 0) rfl rfl, fun U hU hW => ⟨rfl, by rw [hU], by rw [hU]; exact hPc, va_K.moved hW.alike hKc, hDc.weaken (fun _ _ _ _ => trivial)⟩⟩ rfl rfl hl.1 rfl (lv_room (Nat.le_of_ble_eq_true rfl)) dX4_closing_22 ⟨Nat.le_of_ble_eq_true rfl, Nat.le_of_ble_eq_true rfl⟩) hS (fun q _ h => hFc q h) hFc (fun r5 u t H1 locs ht hvm hw hB hz1 hk1 hS => ?_)
    obtain ⟨hP1, hK1, hD1⟩ := hB
    rw [ht] at hP1
    have hK1 := va_K.moved hvm.symm hK1
    try dsimp only at hw
    obtain ⟨hP, hD⟩ := J_s (wL := [eO h0 3 [.ref qo, .int op, .int lp, .int fa, .ref jp], eI qo ko 8 fo, eI pn kpn 80 fpn, eO jp 2 [.ref pb, .ref pn, .int ps], eI pb kpb 80 fpb]) hP hD [(2, 2)] [(0, 2), (4, 1)] hCm hNw (by decide +kernel) hk1 hFc hP1 hD1 rfl
    have hK := KJ_s (tys' := [(ko, .int), (kpn, .int), (kpb, .int)]) hK hK1 [(0, 1), (2, 1)] rfl
    generalize H1 = H at hP hS ⊢
    have h_r5 := hw
    refine lv_iload_n hx hb dX4_closing_25 rfl (lv_at hl 2 rfl) ?_
    refine lv_icmp_eq (tgt := 35) hx hb dX4_closing_26 (by decide) (fun c6 => ?_) (fun c6 => ?_)
    · skip
      have f_c6 := i_eq c6
      refine lv_aload_n hx hb dX4_closing_35 rfl (lv_at hl 0 rfl) ?_
      refine lv_dup hx hb dX4_closing_36 rfl ?_
      refine va_get (D := (dC, dI)) (ci := 3) (v := .int op) (C := RX4) (T := TX4) (N := 5) hx hb hts (fun w h => List.mem_cons_of_mem _ (inlX4 w h)) hown hK hP 0 rfl rfl 1 (by decide) (hts (.fieldLink RX4 19 "ClearingGates$Reader" "open" "I") (List.mem_cons_of_mem _ mw_174)) (fun _ h9 => h9) rfl dX4_closing_37 ?_
      refine lv_iconst (v := 1) hx hb dX4_closing_40 (by decide) ?_
      refine lv_isub hx hb dX4_closing_41 ?_
      refine lv_topi (fun z7 e_z7 => ?_)
      have t_z7 := i_sub e_z7 (by omega) (by omega)
      refine va_put (D := (dC, dI)) (ci := 3) (v := .int z7) (ty := .int) (C := RX4) (T := TX4) (N := 5) hx hb hts (fun w h => List.mem_cons_of_mem _ (inlX4 w h)) tyX4 tyX4_ok nmX4 hown hK hP hD hS 0 rfl rfl 1 (by decide) (hts (.fieldLink RX4 19 "ClearingGates$Reader" "open" "I") (List.mem_cons_of_mem _ mw_174)) (fun _ h9 => h9) rfl (by decide +kernel) rfl rfl (Nat.le_of_ble_eq_true rfl) dX4_closing_42 (fun H locs hP hD hS => ?_)
      obtain ⟨hP, hD⟩ := X_s (ws' := [eO h0 3 [.ref qo, .int z7, .int lp, .int fa, .ref jp], eI qo ko 8 fo, eI pn kpn 80 fpn, eO jp 2 [.ref pb, .ref pn, .int ps], eI pb kpb 80 fpb]) hP hD rfl
      refine lv_iload_n hx hb dX4_closing_45 rfl (lv_at hl 2 rfl) ?_
      refine lv_bipush (v := 123) hx hb dX4_closing_46 (by decide) ?_
      refine lv_icmp_ne (tgt := 61) hx hb dX4_closing_48 (by decide) (fun c8 => ?_) (fun c8 => ?_)
      · skip
        have f_c8 := i_ne c8
        refine lv_aload_n hx hb dX4_closing_61 rfl (lv_at hl 0 rfl) ?_
        refine lv_aload_n hx hb dX4_closing_62 rfl (lv_at hl 0 rfl) ?_
        refine va_get (D := (dC, dI)) (ci := 3) (v := .ref qo) (C := RX4) (T := TX4) (N := 5) hx hb hts (fun w h => List.mem_cons_of_mem _ (inlX4 w h)) hown hK hP 0 rfl rfl 0 (by decide) (hts (.fieldLink RX4 9 "ClearingGates$Reader" "opened" "[I") (List.mem_cons_of_mem _ mw_173)) (fun _ h9 => h9) rfl dX4_closing_63 ?_
        refine lv_aload_n hx hb dX4_closing_66 rfl (lv_at hl 0 rfl) ?_
        refine va_get (D := (dC, dI)) (ci := 3) (v := .int z7) (C := RX4) (T := TX4) (N := 5) hx hb hts (fun w h => List.mem_cons_of_mem _ (inlX4 w h)) hown hK hP 0 rfl rfl 1 (by decide) (hts (.fieldLink RX4 19 "ClearingGates$Reader" "open" "I") (List.mem_cons_of_mem _ mw_174)) (fun _ h9 => h9) rfl dX4_closing_67 ?_
        refine va_iald (D := (dC, dI)) hx hb hK hP 1 0 rfl rfl (vp_in_iff.mpr ⟨by omega, by omega⟩) dX4_closing_70 ?_
        refine lv_topi (fun z9 e_z9 => ?_)
        have b_z9 : z9.toInt = (bb : Int) := by rw [e_z9, i_nat (x := z7) (k := op.toInt.toNat - 1) (by omega)]; exact tb1
        refine lv_iload_n hx hb dX4_closing_71 rfl (lv_at hl 1 rfl) ?_
        refine lv_iconst (v := 1) hx hb dX4_closing_72 (by decide) ?_
        refine lv_iadd hx hb dX4_closing_73 ?_
        refine lv_topi (fun z10 e_z10 => ?_)
        have t_z10 := i_add e_z10 (by omega) (by omega)
        obtain ⟨hPc, hDc, hFc, hCm, hNw⟩ := C_s (wc := [eO h0 3 [.ref qo, .int z7, .int lp, .int fa, .ref jp], eO jp 2 [.ref pb, .ref pn, .int ps], eI pb kpb 80 fpb, eI pn kpn 80 fpn]) hP hD hS hA [(0, 1), (3, 2), (2, 1)] 5 rfl (by decide +kernel) rfl
        have hKc := K_s (tys' := [(kpb, .int), (kpn, .int)]) hK [(2, 1), (1, 1)] rfl
        refine va_calli (va_runV (As := [.int z9, .int z10]) (rest := []) ⟨hx, hb, hml, hown, hts⟩ (c_X4_ends l dC dI h0 z9 z10 qo z7 lp fa jp pb pn ps kpb fpb kpn fpn bb H.size (by first | assumption | omega) (by first | assumption | omega) (by first | assumption | omega) (by first | assumption | omega) hb0) (cwV 2 hts gX4_closing_X4_ends rfl rfl rfl (by decide +kernel) ⟨Nat.le_of_ble_eq_true rfl, Nat.le_of_ble_eq_true rfl⟩) ⟨fun a U g mk q => by obtain ⟨q0, q1, qP, qK, qD⟩ := q; exact ⟨q0, q1, qP, va_K.moved (u := U) (U := U.calling g mk a) (Vm.Alike.refl U.vm) qK, qD⟩, va_recv (s := s) (q := (RX4, TX4, 5)) hKc hPc (ci := 3) (q0 := 0) rfl rfl, fun U hU hW => ⟨rfl, by rw [hU], by rw [hU]; exact hPc, va_K.moved hW.alike hKc, hDc.weaken (fun _ _ _ _ => trivial)⟩⟩ rfl rfl hl.1 rfl (lv_room (Nat.le_of_ble_eq_true rfl)) dX4_closing_74 ⟨Nat.le_of_ble_eq_true rfl, Nat.le_of_ble_eq_true rfl⟩) hS (fun q _ h => hFc q h) hFc (fun r11 u t H1 locs ht hvm hw hB hz1 hk1 hS => ?_)
        obtain ⟨q12, xb_r11, xe_r11, hP1, hK1, hD1⟩ := hB
        rw [ht] at hP1
        have hK1 := va_K.moved hvm.symm hK1
        try dsimp only at hw
        obtain ⟨hP, hD⟩ := J_s (wL := [eI qo ko 8 fo, eO h0 3 [.ref qo, .int z7, .int lp, .int fa, .ref jp], eO jp 2 [.ref pb, .ref pn, .int ps], eI pb kpb 80 fpb, eI pn kpn 80 q12]) hP hD [(0, 1), (3, 2), (2, 1)] [(1, 1)] hCm hNw (by decide +kernel) hk1 hFc hP1 hD1 rfl
        have hK := KJ_s (tys' := [(ko, .int), (kpb, .int), (kpn, .int)]) hK hK1 [(0, 1)] rfl
        generalize H1 = H at hP hS ⊢
        have h_r11 := hw
        have t_r11 := i_eq hw
        rw [hQ9]
        exact W.iret (v := r11) hx hb hr (fun t ht hW => ⟨⟨r11, (z7, lp, fa, q12), rfl, ⟨⟨by omega, by omega⟩, Or.inl ⟨rfl, by omega, by omega, by omega, fun q => absurd q (by omega), fun _ => rfl, by rw [h_r11]; exact xe_r11, by omega⟩, xb_r11⟩, by rw [ht]; exact P_s hP [(1, 1), (0, 1), (2, 3)] rfl, va_K.moved hW.alike hK, D_s hD [(1, 1), (0, 1), (2, 3)] 5 rfl (by decide +kernel) rfl⟩, hS.F ht⟩) hS.2.2 dX4_closing_77
      · skip
        have f_c8 := i_eq c8
        refine lv_aload_n hx hb dX4_closing_51 rfl (lv_at hl 0 rfl) ?_
        refine lv_dup hx hb dX4_closing_52 rfl ?_
        refine va_get (D := (dC, dI)) (ci := 3) (v := .int lp) (C := RX4) (T := TX4) (N := 5) hx hb hts (fun w h => List.mem_cons_of_mem _ (inlX4 w h)) hown hK hP 0 rfl rfl 2 (by decide) (hts (.fieldLink RX4 23 "ClearingGates$Reader" "loops" "I") (List.mem_cons_of_mem _ mw_175)) (fun _ h9 => h9) rfl dX4_closing_53 ?_
        refine lv_iconst (v := 1) hx hb dX4_closing_56 (by decide) ?_
        refine lv_isub hx hb dX4_closing_57 ?_
        refine lv_topi (fun z13 e_z13 => ?_)
        have t_z13 := i_sub e_z13 (by omega) (by omega)
        refine va_put (D := (dC, dI)) (ci := 3) (v := .int z13) (ty := .int) (C := RX4) (T := TX4) (N := 5) hx hb hts (fun w h => List.mem_cons_of_mem _ (inlX4 w h)) tyX4 tyX4_ok nmX4 hown hK hP hD hS 0 rfl rfl 2 (by decide) (hts (.fieldLink RX4 23 "ClearingGates$Reader" "loops" "I") (List.mem_cons_of_mem _ mw_175)) (fun _ h9 => h9) rfl (by decide +kernel) rfl rfl (Nat.le_of_ble_eq_true rfl) dX4_closing_58 (fun H locs hP hD hS => ?_)
        obtain ⟨hP, hD⟩ := X_s (ws' := [eO h0 3 [.ref qo, .int z7, .int z13, .int fa, .ref jp], eI qo ko 8 fo, eI pn kpn 80 fpn, eO jp 2 [.ref pb, .ref pn, .int ps], eI pb kpb 80 fpb]) hP hD rfl
        refine lv_aload_n hx hb dX4_closing_61 rfl (lv_at hl 0 rfl) ?_
        refine lv_aload_n hx hb dX4_closing_62 rfl (lv_at hl 0 rfl) ?_
        refine va_get (D := (dC, dI)) (ci := 3) (v := .ref qo) (C := RX4) (T := TX4) (N := 5) hx hb hts (fun w h => List.mem_cons_of_mem _ (inlX4 w h)) hown hK hP 0 rfl rfl 0 (by decide) (hts (.fieldLink RX4 9 "ClearingGates$Reader" "opened" "[I") (List.mem_cons_of_mem _ mw_173)) (fun _ h9 => h9) rfl dX4_closing_63 ?_
        refine lv_aload_n hx hb dX4_closing_66 rfl (lv_at hl 0 rfl) ?_
        refine va_get (D := (dC, dI)) (ci := 3) (v := .int z7) (C := RX4) (T := TX4) (N := 5) hx hb hts (fun w h => List.mem_cons_of_mem _ (inlX4 w h)) hown hK hP 0 rfl rfl 1 (by decide) (hts (.fieldLink RX4 19 "ClearingGates$Reader" "open" "I") (List.mem_cons_of_mem _ mw_174)) (fun _ h9 => h9) rfl dX4_closing_67 ?_
        refine va_iald (D := (dC, dI)) hx hb hK hP 1 0 rfl rfl (vp_in_iff.mpr ⟨by omega, by omega⟩) dX4_closing_70 ?_
        refine lv_topi (fun z14 e_z14 => ?_)
        have b_z14 : z14.toInt = (bb : Int) := by rw [e_z14, i_nat (x := z7) (k := op.toInt.toNat - 1) (by omega)]; exact tb1
        refine lv_iload_n hx hb dX4_closing_71 rfl (lv_at hl 1 rfl) ?_
        refine lv_iconst (v := 1) hx hb dX4_closing_72 (by decide) ?_
        refine lv_iadd hx hb dX4_closing_73 ?_
        refine lv_topi (fun z15 e_z15 => ?_)
        have t_z15 := i_add e_z15 (by omega) (by omega)
        obtain ⟨hPc, hDc, hFc, hCm, hNw⟩ := C_s (wc := [eO h0 3 [.ref qo, .int z7, .int z13, .int fa, .ref jp], eO jp 2 [.ref pb, .ref pn, .int ps], eI pb kpb 80 fpb, eI pn kpn 80 fpn]) hP hD hS hA [(0, 1), (3, 2), (2, 1)] 5 rfl (by decide +kernel) rfl
        have hKc := K_s (tys' := [(kpb, .int), (kpn, .int)]) hK [(2, 1), (1, 1)] rfl
        refine va_calli (va_runV (As := [.int z14, .int z15]) (rest := []) ⟨hx, hb, hml, hown, hts⟩ (c_X4_ends l dC dI h0 z14 z15 qo z7 z13 fa jp pb pn ps kpb fpb kpn fpn bb H.size (by first | assumption | omega) (by first | assumption | omega) (by first | assumption | omega) (by first | assumption | omega) hb0) (cwV 2 hts gX4_closing_X4_ends rfl rfl rfl (by decide +kernel) ⟨Nat.le_of_ble_eq_true rfl, Nat.le_of_ble_eq_true rfl⟩) ⟨fun a U g mk q => by obtain ⟨q0, q1, qP, qK, qD⟩ := q; exact ⟨q0, q1, qP, va_K.moved (u := U) (U := U.calling g mk a) (Vm.Alike.refl U.vm) qK, qD⟩, va_recv (s := s) (q := (RX4, TX4, 5)) hKc hPc (ci := 3) (q0 := 0) rfl rfl, fun U hU hW => ⟨rfl, by rw [hU], by rw [hU]; exact hPc, va_K.moved hW.alike hKc, hDc.weaken (fun _ _ _ _ => trivial)⟩⟩ rfl rfl hl.1 rfl (lv_room (Nat.le_of_ble_eq_true rfl)) dX4_closing_74 ⟨Nat.le_of_ble_eq_true rfl, Nat.le_of_ble_eq_true rfl⟩) hS (fun q _ h => hFc q h) hFc (fun r16 u t H1 locs ht hvm hw hB hz1 hk1 hS => ?_)
        obtain ⟨q17, xb_r16, xe_r16, hP1, hK1, hD1⟩ := hB
        rw [ht] at hP1
        have hK1 := va_K.moved hvm.symm hK1
        try dsimp only at hw
        obtain ⟨hP, hD⟩ := J_s (wL := [eI qo ko 8 fo, eO h0 3 [.ref qo, .int z7, .int z13, .int fa, .ref jp], eO jp 2 [.ref pb, .ref pn, .int ps], eI pb kpb 80 fpb, eI pn kpn 80 q17]) hP hD [(0, 1), (3, 2), (2, 1)] [(1, 1)] hCm hNw (by decide +kernel) hk1 hFc hP1 hD1 rfl
        have hK := KJ_s (tys' := [(ko, .int), (kpb, .int), (kpn, .int)]) hK hK1 [(0, 1)] rfl
        generalize H1 = H at hP hS ⊢
        have h_r16 := hw
        have t_r16 := i_eq hw
        rw [hQ9]
        exact W.iret (v := r16) hx hb hr (fun t ht hW => ⟨⟨r16, (z7, z13, fa, q17), rfl, ⟨⟨by omega, by omega⟩, Or.inl ⟨rfl, by omega, by omega, by omega, fun _ => by omega, fun q => absurd (by omega) q, by rw [h_r16]; exact xe_r16, by omega⟩, xb_r16⟩, by rw [ht]; exact P_s hP [(1, 1), (0, 1), (2, 3)] rfl, va_K.moved hW.alike hK, D_s hD [(1, 1), (0, 1), (2, 3)] 5 rfl (by decide +kernel) rfl⟩, hS.F ht⟩) hS.2.2 dX4_closing_77
    · skip
      have f_c6 := i_ne c6
      refine lv_aload_n hx hb dX4_closing_29 rfl (lv_at hl 0 rfl) ?_
      refine lv_iload_n hx hb dX4_closing_30 rfl (lv_at hl 1 rfl) ?_
      obtain ⟨hPc, hDc, hFc, hCm, hNw⟩ := C_s (wc := [eO h0 3 [.ref qo, .int op, .int lp, .int fa, .ref jp]]) hP hD hS hA [(0, 1)] 5 rfl (by decide +kernel) rfl
      have hKc := K_s (tys' := []) hK [] rfl
      refine va_calli (va_runV (As := [.int p0]) (rest := []) ⟨hx, hb, hml, hown, hts⟩ (c_X4_faultAt l dC dI h0 p0 qo op lp fa jp H.size (by first | assumption | omega) (by first | assumption | omega)) (cwV 1 hts gX4_closing_X4_faultAt rfl rfl rfl (by decide +kernel) ⟨Nat.le_of_ble_eq_true rfl, Nat.le_of_ble_eq_true rfl⟩) ⟨fun a U g mk q => by obtain ⟨q0, q1, qP, qK, qD⟩ := q; exact ⟨q0, q1, qP, va_K.moved (u := U) (U := U.calling g mk a) (Vm.Alike.refl U.vm) qK, qD⟩, va_recv (s := s) (q := (RX4, TX4, 5)) hKc hPc (ci := 3) (q0 := 0) rfl rfl, fun U hU hW => ⟨rfl, by rw [hU], by rw [hU]; exact hPc, va_K.moved hW.alike hKc, hDc.weaken (fun _ _ _ _ => trivial)⟩⟩ rfl rfl hl.1 rfl (lv_room (Nat.le_of_ble_eq_true rfl)) dX4_closing_31 ⟨Nat.le_of_ble_eq_true rfl, Nat.le_of_ble_eq_true rfl⟩) hS (fun q _ h => hFc q h) hFc (fun r18 u t H1 locs ht hvm hw hB hz1 hk1 hS => ?_)
      obtain ⟨hP1, hK1, hD1⟩ := hB
      rw [ht] at hP1
      have hK1 := va_K.moved hvm.symm hK1
      try dsimp only at hw
      obtain ⟨hP, hD⟩ := J_s (wL := [eI qo ko 8 fo, eI pn kpn 80 fpn, eO jp 2 [.ref pb, .ref pn, .int ps], eI pb kpb 80 fpb, eO h0 3 [.ref qo, .int op, .int lp, .int p0, .ref jp]]) hP hD [(0, 1)] [(1, 4)] hCm hNw (by decide +kernel) hk1 hFc hP1 hD1 rfl
      have hK := KJ_s (tys' := [(ko, .int), (kpn, .int), (kpb, .int)]) hK hK1 [(0, 3)] rfl
      generalize H1 = H at hP hS ⊢
      have h_r18 := hw
      rw [hQ9]
      exact W.iret (v := r18) hx hb hr (fun t ht hW => ⟨⟨r18, (op, lp, p0, fpn), rfl, ⟨⟨by omega, by omega⟩, Or.inr ⟨by omega, by omega⟩, hb0⟩, by rw [ht]; exact P_s hP [(4, 1), (0, 1), (2, 2), (1, 1)] rfl, va_K.moved hW.alike (K_s hK [(0, 1), (2, 1), (1, 1)] rfl), D_s hD [(4, 1), (0, 1), (2, 2), (1, 1)] 5 rfl (by decide +kernel) rfl⟩, hS.F ht⟩) hS.2.2 dX4_closing_34

set_option maxRecDepth 100000 in
set_option maxHeartbeats 4000000 in
/-- Reader.bell -/
theorem c_X4_bell (l : Launch) (dC : Nat → ClassId) (dI : Nat → Nat → Nat) (h0 : Nat) (p0 : Int32) (qo : Nat) (op : Int32) (lp : Int32) (fa : Int32) (jp : Nat) (pb : Nat) (pn : Nat) (ps : Int32) (kpb : ClassId) (fpb : Nat → Int32) (kpn : ClassId) (fpn : Nat → Int32) (kk : Nat) (n9 : Nat) (sz : Nat) (hkk : p0.toInt = (kk : Int)) (hn9 : ps.toInt = (n9 : Int)) (hn80 : n9 ≤ 80) (hkn : kk < n9) (hfa : fa.toInt = -1) (hb0 : ∀ k : Nat, 0 ≤ (fpn k).toInt ∧ (fpn k).toInt ≤ 80) : Met l yX4_bell wsX4_bell ({ frames := 2, cells := 0, slots := 0, locals := 44 }) (va_Pc [.ref h0, .int p0] (fun U => U.heap.size = sz ∧ va_P (dC, dI) vwCl [eO h0 3 [.ref qo, .int op, .int lp, .int fa, .ref jp], eO jp 2 [.ref pb, .ref pn, .int ps], eI pb kpb 80 fpb, eI pn kpn 80 fpn] U.heap ∧ va_K (dC, dI) vwCl [(kpb, .int), (kpn, .int)] U ∧ va_D (fun _ => True) [eO h0 3 [.ref qo, .int op, .int lp, .int fa, .ref jp], eO jp 2 [.ref pb, .ref pn, .int ps], eI pb kpb 80 fpb, eI pn kpn 80 fpn])) (va_Qi (fun (r : Int32) (u : (Int32) × (Nat → Int32)) => match u with | (fa2, fpn2) => (0 ≤ r.toInt ∧ r.toInt ≤ 90) ∧ BLp fpb n9 kk r fa2 fpn fpn2 ∧ (∀ k : Nat, 0 ≤ (fpn2 k).toInt ∧ (fpn2 k).toInt ≤ 80)) (fun (u : (Int32) × (Nat → Int32)) (t : State) => match u with | (fa2, fpn2) => va_P (dC, dI) vwCl [eO h0 3 [.ref qo, .int op, .int lp, .int fa2, .ref jp], eO jp 2 [.ref pb, .ref pn, .int ps], eI pb kpb 80 fpb, eI pn kpn 80 fpn2] t.heap ∧ va_K (dC, dI) vwCl [(kpb, .int), (kpn, .int)] t ∧ va_D (va_A [eO h0 3 [.ref qo, .int op, .int lp, .int fa, .ref jp], eO jp 2 [.ref pb, .ref pn, .int ps], eI pb kpb 80 fpb, eI pn kpn 80 fpn] sz) [eO h0 3 [.ref qo, .int op, .int lp, .int fa2, .ref jp], eO jp 2 [.ref pb, .ref pn, .int ps], eI pb kpb 80 fpb, eI pn kpn 80 fpn2]) (va_A [eO h0 3 [.ref qo, .int op, .int lp, .int fa, .ref jp], eO jp 2 [.ref pb, .ref pn, .int ps], eI pb kpb 80 fpb, eI pn kpn 80 fpn] sz)) 0 0 (va_A [eO h0 3 [.ref qo, .int op, .int lp, .int fa, .ref jp], eO jp 2 [.ref pb, .ref pn, .int ps], eI pb kpb 80 fpb, eI pn kpn 80 fpn] sz) := by
  refine Met.ofW (cc := cX4_bell) (maxL := 2) (ret := (some .int)) (by decide) rfl ?_
  intro p e s m args below meth c s₁ B hml hv
  obtain ⟨rfl, hsz, hP, hK, hD0⟩ := hv
  have hx := B.exec
  have hb := B.bytes
  have hr := B.returns
  have hts := atoms_spec (ws := wsX4_bell) B.pre
  have hown : s.vm.findClass RX4 = some m.cls := findClass_of_methodNamed B.named
  have hlocks := B.notSynchronized
  subst hsz
  have hD := hD0.self (sz := s.heap.size)
  generalize hAe : va_A [eO h0 3 [.ref qo, .int op, .int lp, .int fa, .ref jp], eO jp 2 [.ref pb, .ref pn, .int ps], eI pb kpb 80 fpb, eI pn kpn 80 fpn] s.heap.size = A at hD ⊢
  have hA : ∀ q : Nat, s.heap.size ≤ q → A q := fun q h => by rw [← hAe]; exact Or.inr h
  have hS : va_S A s.heap s.heap [] := va_S.rf
  have hP : va_P (dC, dI) vwCl [eO h0 3 [.ref qo, .int op, .int lp, .int fa, .ref jp], eO jp 2 [.ref pb, .ref pn, .int ps], eI pb kpb 80 fpb, eI pn kpn 80 fpn] s.heap := hP
  have hl := lv_entry ([.ref h0, .int p0]) (n := 2) (Nat.le_of_ble_eq_true rfl)
  rw [lg_entry_eq]
  generalize (lg_sl ([.ref h0, .int p0]) ++ List.replicate (2 - (lg_sl ([.ref h0, .int p0])).length) Slot.unset).toArray = ls at hl ⊢
  have hl : lv_has ls 2 [(0, .ref h0), (1, .int p0)] := hl
  suffices key9 : ∀ Q9 : State → Prop, Q9 = (MQ below (va_Qi (fun (r : Int32) (u : (Int32) × (Nat → Int32)) => match u with | (fa2, fpn2) => (0 ≤ r.toInt ∧ r.toInt ≤ 90) ∧ BLp fpb n9 kk r fa2 fpn fpn2 ∧ (∀ k : Nat, 0 ≤ (fpn2 k).toInt ∧ (fpn2 k).toInt ≤ 80)) (fun (u : (Int32) × (Nat → Int32)) (t : State) => match u with | (fa2, fpn2) => va_P (dC, dI) vwCl [eO h0 3 [.ref qo, .int op, .int lp, .int fa2, .ref jp], eO jp 2 [.ref pb, .ref pn, .int ps], eI pb kpb 80 fpb, eI pn kpn 80 fpn2] t.heap ∧ va_K (dC, dI) vwCl [(kpb, .int), (kpn, .int)] t ∧ va_D A [eO h0 3 [.ref qo, .int op, .int lp, .int fa2, .ref jp], eO jp 2 [.ref pb, .ref pn, .int ps], eI pb kpb 80 fpb, eI pn kpn 80 fpn2]) A) (([.ref h0, .int p0] : List Value).toArray) s 0 0 A) → W p l e ({ frames := 2, cells := 0, slots := 0, locals := 44 }) s m (([.ref h0, .int p0] : List Value).toArray) below meth c s.heap [] 0 0 Q9 (F0 m 0 ls []) from key9 _ rfl
  intro Q9 hQ9
  have k_1 : (1 : Int32).toInt = 1 := by decide
  have k_2 : (2 : Int32).toInt = 2 := by decide
  have k_48 : (48 : Int32).toInt = 48 := by decide
  have k_55 : (55 : Int32).toInt = 55 := by decide
  refine lv_aload_n hx hb dX4_bell_0 rfl (lv_at hl 0 rfl) ?_
  refine lv_iload_n hx hb dX4_bell_1 rfl (lv_at hl 1 rfl) ?_
  refine lv_iconst (v := 1) hx hb dX4_bell_2 (by decide) ?_
  refine lv_iadd hx hb dX4_bell_3 ?_
  refine lv_topi (fun z1 e_z1 => ?_)
  have t_z1 := i_add e_z1 (by omega) (by omega)
  refine lv_bipush (v := 48) hx hb dX4_bell_4 (by decide) ?_
  refine lv_bipush (v := 55) hx hb dX4_bell_6 (by decide) ?_
  obtain ⟨hPc, hDc, hFc, hCm, hNw⟩ := C_s (wc := [eO h0 3 [.ref qo, .int op, .int lp, .int fa, .ref jp], eO jp 2 [.ref pb, .ref pn, .int ps], eI pb kpb 80 fpb, eI pn kpn 80 fpn]) hP hD hS hA [(0, 4)] 4 rfl (by decide +kernel) rfl
  have hKc := K_s (tys' := [(kpb, .int), (kpn, .int)]) hK [(0, 2)] rfl
  refine va_calli (va_runV (As := [.int z1, .int 48, .int 55]) (rest := []) ⟨hx, hb, hml, hown, hts⟩ (c_X4_isFigure l dC dI h0 z1 48 55 qo op lp fa jp pb pn ps kpb fpb kpn fpn (kk + 1) n9 48 55 s.heap.size (by first | assumption | omega) hn9 hn80 (by first | assumption | omega) (by first | assumption | omega) (by first | assumption | omega)) (cwV 3 hts gX4_bell_X4_isFigure rfl rfl rfl (by decide +kernel) ⟨Nat.le_of_ble_eq_true rfl, Nat.le_of_ble_eq_true rfl⟩) ⟨fun a U g mk q => by obtain ⟨q0, q1, qP, qK, qD⟩ := q; exact ⟨q0, q1, qP, va_K.moved (u := U) (U := U.calling g mk a) (Vm.Alike.refl U.vm) qK, qD⟩, va_recv (s := s) (q := (RX4, TX4, 5)) hKc hPc (ci := 3) (q0 := 0) rfl rfl, fun U hU hW => ⟨rfl, by rw [hU], by rw [hU]; exact hPc, va_K.moved hW.alike hKc, hDc.weaken (fun _ _ _ _ => trivial)⟩⟩ rfl rfl hl.1 rfl (lv_room (Nat.le_of_ble_eq_true rfl)) dX4_bell_8 ⟨Nat.le_of_ble_eq_true rfl, Nat.le_of_ble_eq_true rfl⟩) hS (fun q _ h => hFc q h) hFc (fun r2 u t H1 locs ht hvm hw hB hz1 hk1 hS => ?_)
  obtain ⟨hP1, hK1, hD1⟩ := hB
  rw [ht] at hP1
  have hK1 := va_K.moved hvm.symm hK1
  try dsimp only at hw
  obtain ⟨hP, hD⟩ := J_s (wL := [eO h0 3 [.ref qo, .int op, .int lp, .int fa, .ref jp], eO jp 2 [.ref pb, .ref pn, .int ps], eI pb kpb 80 fpb, eI pn kpn 80 fpn]) hP hD [(0, 4)] [] hCm hNw (by decide +kernel) hk1 hFc hP1 hD1 rfl
  have hK := KJ_s (tys' := [(kpb, .int), (kpn, .int)]) hK hK1 [] rfl
  generalize H1 = H at hP hS ⊢
  rcases hw with ⟨e_r2, f_r2⟩ | ⟨e_r2, f_r2⟩
  · subst e_r2
    refine lv_if_eq (tgt := 25) hx hb dX4_bell_11 (by decide) (fun c3 => absurd c3 (by decide)) (fun c3 => ?_)
    obtain ⟨fgk, -, -⟩ := id f_r2
    refine lv_aload_n hx hb dX4_bell_14 rfl (lv_at hl 0 rfl) ?_
    refine lv_iload_n hx hb dX4_bell_15 rfl (lv_at hl 1 rfl) ?_
    refine lv_iload_n hx hb dX4_bell_16 rfl (lv_at hl 1 rfl) ?_
    refine lv_iconst (v := 2) hx hb dX4_bell_17 (by decide) ?_
    refine lv_iadd hx hb dX4_bell_18 ?_
    refine lv_topi (fun z4 e_z4 => ?_)
    have t_z4 := i_add e_z4 (by omega) (by omega)
    obtain ⟨hPc, hDc, hFc, hCm, hNw⟩ := C_s (wc := [eO h0 3 [.ref qo, .int op, .int lp, .int fa, .ref jp], eO jp 2 [.ref pb, .ref pn, .int ps], eI pb kpb 80 fpb, eI pn kpn 80 fpn]) hP hD hS hA [(0, 4)] 4 rfl (by decide +kernel) rfl
    have hKc := K_s (tys' := [(kpb, .int), (kpn, .int)]) hK [(0, 2)] rfl
    refine va_calli (va_runV (As := [.int p0, .int z4]) (rest := []) ⟨hx, hb, hml, hown, hts⟩ (c_X4_ends l dC dI h0 p0 z4 qo op lp fa jp pb pn ps kpb fpb kpn fpn kk H.size hkk (by first | assumption | omega) (by first | assumption | omega) (by first | assumption | omega) hb0) (cwV 2 hts gX4_bell_X4_ends rfl rfl rfl (by decide +kernel) ⟨Nat.le_of_ble_eq_true rfl, Nat.le_of_ble_eq_true rfl⟩) ⟨fun a U g mk q => by obtain ⟨q0, q1, qP, qK, qD⟩ := q; exact ⟨q0, q1, qP, va_K.moved (u := U) (U := U.calling g mk a) (Vm.Alike.refl U.vm) qK, qD⟩, va_recv (s := s) (q := (RX4, TX4, 5)) hKc hPc (ci := 3) (q0 := 0) rfl rfl, fun U hU hW => ⟨rfl, by rw [hU], by rw [hU]; exact hPc, va_K.moved hW.alike hKc, hDc.weaken (fun _ _ _ _ => trivial)⟩⟩ rfl rfl hl.1 rfl (lv_room (Nat.le_of_ble_eq_true rfl)) dX4_bell_19 ⟨Nat.le_of_ble_eq_true rfl, Nat.le_of_ble_eq_true rfl⟩) hS (fun q _ h => hFc q h) hFc (fun r5 u t H1 locs ht hvm hw hB hz1 hk1 hS => ?_)
    obtain ⟨q6, xb_r5, xe_r5, hP1, hK1, hD1⟩ := hB
    rw [ht] at hP1
    have hK1 := va_K.moved hvm.symm hK1
    try dsimp only at hw
    obtain ⟨hP, hD⟩ := J_s (wL := [eO h0 3 [.ref qo, .int op, .int lp, .int fa, .ref jp], eO jp 2 [.ref pb, .ref pn, .int ps], eI pb kpb 80 fpb, eI pn kpn 80 q6]) hP hD [(0, 4)] [] hCm hNw (by decide +kernel) hk1 hFc hP1 hD1 rfl
    have hK := KJ_s (tys' := [(kpb, .int), (kpn, .int)]) hK hK1 [] rfl
    generalize H1 = H at hP hS ⊢
    have h_r5 := hw
    have t_r5 := i_eq hw
    refine lv_goto (tgt := 32) hx hb dX4_bell_22 (by decide) ?_
    rw [hQ9]
    exact W.iret (v := r5) hx hb hr (fun t ht hW => ⟨⟨r5, (fa, q6), rfl, ⟨⟨by omega, by omega⟩, Or.inl ⟨by omega, f_r2, by rw [h_r5]; exact xe_r5, by omega⟩, xb_r5⟩, by rw [ht]; exact hP, va_K.moved hW.alike hK, hD⟩, hS.F ht⟩) hS.2.2 dX4_bell_32
  · subst e_r2
    refine lv_if_eq (tgt := 25) hx hb dX4_bell_11 (by decide) (fun c7 => ?_) (fun c7 => absurd (by decide) c7)
    refine lv_aload_n hx hb dX4_bell_25 rfl (lv_at hl 0 rfl) ?_
    refine lv_iload_n hx hb dX4_bell_26 rfl (lv_at hl 1 rfl) ?_
    refine lv_iconst (v := 1) hx hb dX4_bell_27 (by decide) ?_
    refine lv_iadd hx hb dX4_bell_28 ?_
    refine lv_topi (fun z8 e_z8 => ?_)
    have t_z8 := i_add e_z8 (by omega) (by omega)
    obtain ⟨hPc, hDc, hFc, hCm, hNw⟩ := C_s (wc := [eO h0 3 [.ref qo, .int op, .int lp, .int fa, .ref jp]]) hP hD hS hA [(0, 1)] 4 rfl (by decide +kernel) rfl
    have hKc := K_s (tys' := []) hK [] rfl
    refine va_calli (va_runV (As := [.int z8]) (rest := []) ⟨hx, hb, hml, hown, hts⟩ (c_X4_faultAt l dC dI h0 z8 qo op lp fa jp H.size (by first | assumption | omega) (by first | assumption | omega)) (cwV 1 hts gX4_bell_X4_faultAt rfl rfl rfl (by decide +kernel) ⟨Nat.le_of_ble_eq_true rfl, Nat.le_of_ble_eq_true rfl⟩) ⟨fun a U g mk q => by obtain ⟨q0, q1, qP, qK, qD⟩ := q; exact ⟨q0, q1, qP, va_K.moved (u := U) (U := U.calling g mk a) (Vm.Alike.refl U.vm) qK, qD⟩, va_recv (s := s) (q := (RX4, TX4, 5)) hKc hPc (ci := 3) (q0 := 0) rfl rfl, fun U hU hW => ⟨rfl, by rw [hU], by rw [hU]; exact hPc, va_K.moved hW.alike hKc, hDc.weaken (fun _ _ _ _ => trivial)⟩⟩ rfl rfl hl.1 rfl (lv_room (Nat.le_of_ble_eq_true rfl)) dX4_bell_29 ⟨Nat.le_of_ble_eq_true rfl, Nat.le_of_ble_eq_true rfl⟩) hS (fun q _ h => hFc q h) hFc (fun r9 u t H1 locs ht hvm hw hB hz1 hk1 hS => ?_)
    obtain ⟨hP1, hK1, hD1⟩ := hB
    rw [ht] at hP1
    have hK1 := va_K.moved hvm.symm hK1
    try dsimp only at hw
    obtain ⟨hP, hD⟩ := J_s (wL := [eO jp 2 [.ref pb, .ref pn, .int ps], eI pb kpb 80 fpb, eI pn kpn 80 fpn, eO h0 3 [.ref qo, .int op, .int lp, .int z8, .ref jp]]) hP hD [(0, 1)] [(1, 3)] hCm hNw (by decide +kernel) hk1 hFc hP1 hD1 rfl
    have hK := KJ_s (tys' := [(kpb, .int), (kpn, .int)]) hK hK1 [(0, 2)] rfl
    generalize H1 = H at hP hS ⊢
    have h_r9 := hw
    rw [hQ9]
    exact W.iret (v := r9) hx hb hr (fun t ht hW => ⟨⟨r9, (z8, fpn), rfl, ⟨⟨by omega, by omega⟩, Or.inr ⟨f_r2, by omega⟩, hb0⟩, by rw [ht]; exact P_s hP [(3, 1), (0, 3)] rfl, va_K.moved hW.alike hK, D_s hD [(3, 1), (0, 3)] 4 rfl (by decide +kernel) rfl⟩, hS.F ht⟩) hS.2.2 dX4_bell_32

set_option maxRecDepth 100000 in
set_option maxHeartbeats 4000000 in
/-- Reader.payment -/
theorem c_X4_payment (l : Launch) (dC : Nat → ClassId) (dI : Nat → Nat → Nat) (h0 : Nat) (p0 : Int32) (qo : Nat) (op : Int32) (lp : Int32) (fa : Int32) (jp : Nat) (pb : Nat) (pn : Nat) (ps : Int32) (kpb : ClassId) (fpb : Nat → Int32) (kpn : ClassId) (fpn : Nat → Int32) (kk : Nat) (n9 : Nat) (sz : Nat) (hkk : p0.toInt = (kk : Int)) (hn9 : ps.toInt = (n9 : Int)) (hn80 : n9 ≤ 80) (hkn : kk < n9) (hfa : fa.toInt = -1) (hc : (fpb kk).toInt = 112) (hb0 : ∀ k : Nat, 0 ≤ (fpn k).toInt ∧ (fpn k).toInt ≤ 80) : Met l yX4_payment wsX4_payment ({ frames := 2, cells := 0, slots := 0, locals := 44 }) (va_Pc [.ref h0, .int p0] (fun U => U.heap.size = sz ∧ va_P (dC, dI) vwCl [eO h0 3 [.ref qo, .int op, .int lp, .int fa, .ref jp], eO jp 2 [.ref pb, .ref pn, .int ps], eI pb kpb 80 fpb, eI pn kpn 80 fpn] U.heap ∧ va_K (dC, dI) vwCl [(kpb, .int), (kpn, .int)] U ∧ va_D (fun _ => True) [eO h0 3 [.ref qo, .int op, .int lp, .int fa, .ref jp], eO jp 2 [.ref pb, .ref pn, .int ps], eI pb kpb 80 fpb, eI pn kpn 80 fpn])) (va_Qi (fun (r : Int32) (u : (Int32) × (Nat → Int32)) => match u with | (fa2, fpn2) => (0 ≤ r.toInt ∧ r.toInt ≤ 90) ∧ PYp fpb n9 kk r fa2 fpn fpn2 ∧ (∀ k : Nat, 0 ≤ (fpn2 k).toInt ∧ (fpn2 k).toInt ≤ 80)) (fun (u : (Int32) × (Nat → Int32)) (t : State) => match u with | (fa2, fpn2) => va_P (dC, dI) vwCl [eO h0 3 [.ref qo, .int op, .int lp, .int fa2, .ref jp], eO jp 2 [.ref pb, .ref pn, .int ps], eI pb kpb 80 fpb, eI pn kpn 80 fpn2] t.heap ∧ va_K (dC, dI) vwCl [(kpb, .int), (kpn, .int)] t ∧ va_D (va_A [eO h0 3 [.ref qo, .int op, .int lp, .int fa, .ref jp], eO jp 2 [.ref pb, .ref pn, .int ps], eI pb kpb 80 fpb, eI pn kpn 80 fpn] sz) [eO h0 3 [.ref qo, .int op, .int lp, .int fa2, .ref jp], eO jp 2 [.ref pb, .ref pn, .int ps], eI pb kpb 80 fpb, eI pn kpn 80 fpn2]) (va_A [eO h0 3 [.ref qo, .int op, .int lp, .int fa, .ref jp], eO jp 2 [.ref pb, .ref pn, .int ps], eI pb kpb 80 fpb, eI pn kpn 80 fpn] sz)) 0 0 (va_A [eO h0 3 [.ref qo, .int op, .int lp, .int fa, .ref jp], eO jp 2 [.ref pb, .ref pn, .int ps], eI pb kpb 80 fpb, eI pn kpn 80 fpn] sz) := by
  refine Met.ofW (cc := cX4_payment) (maxL := 4) (ret := (some .int)) (by decide) rfl ?_
  intro p e s m args below meth c s₁ B hml hv
  obtain ⟨rfl, hsz, hP, hK, hD0⟩ := hv
  have hx := B.exec
  have hb := B.bytes
  have hr := B.returns
  have hts := atoms_spec (ws := wsX4_payment) B.pre
  have hown : s.vm.findClass RX4 = some m.cls := findClass_of_methodNamed B.named
  have hlocks := B.notSynchronized
  subst hsz
  have hD := hD0.self (sz := s.heap.size)
  generalize hAe : va_A [eO h0 3 [.ref qo, .int op, .int lp, .int fa, .ref jp], eO jp 2 [.ref pb, .ref pn, .int ps], eI pb kpb 80 fpb, eI pn kpn 80 fpn] s.heap.size = A at hD ⊢
  have hA : ∀ q : Nat, s.heap.size ≤ q → A q := fun q h => by rw [← hAe]; exact Or.inr h
  have hS : va_S A s.heap s.heap [] := va_S.rf
  have hP : va_P (dC, dI) vwCl [eO h0 3 [.ref qo, .int op, .int lp, .int fa, .ref jp], eO jp 2 [.ref pb, .ref pn, .int ps], eI pb kpb 80 fpb, eI pn kpn 80 fpn] s.heap := hP
  have hl := lv_entry ([.ref h0, .int p0]) (n := 4) (Nat.le_of_ble_eq_true rfl)
  rw [lg_entry_eq]
  generalize (lg_sl ([.ref h0, .int p0]) ++ List.replicate (4 - (lg_sl ([.ref h0, .int p0])).length) Slot.unset).toArray = ls at hl ⊢
  have hl : lv_has ls 4 [(0, .ref h0), (1, .int p0)] := hl
  suffices key9 : ∀ Q9 : State → Prop, Q9 = (MQ below (va_Qi (fun (r : Int32) (u : (Int32) × (Nat → Int32)) => match u with | (fa2, fpn2) => (0 ≤ r.toInt ∧ r.toInt ≤ 90) ∧ PYp fpb n9 kk r fa2 fpn fpn2 ∧ (∀ k : Nat, 0 ≤ (fpn2 k).toInt ∧ (fpn2 k).toInt ≤ 80)) (fun (u : (Int32) × (Nat → Int32)) (t : State) => match u with | (fa2, fpn2) => va_P (dC, dI) vwCl [eO h0 3 [.ref qo, .int op, .int lp, .int fa2, .ref jp], eO jp 2 [.ref pb, .ref pn, .int ps], eI pb kpb 80 fpb, eI pn kpn 80 fpn2] t.heap ∧ va_K (dC, dI) vwCl [(kpb, .int), (kpn, .int)] t ∧ va_D A [eO h0 3 [.ref qo, .int op, .int lp, .int fa2, .ref jp], eO jp 2 [.ref pb, .ref pn, .int ps], eI pb kpb 80 fpb, eI pn kpn 80 fpn2]) A) (([.ref h0, .int p0] : List Value).toArray) s 0 0 A) → W p l e ({ frames := 2, cells := 0, slots := 0, locals := 44 }) s m (([.ref h0, .int p0] : List Value).toArray) below meth c s.heap [] 0 0 Q9 (F0 m 0 ls []) from key9 _ rfl
  intro Q9 hQ9
  have k_1 : (1 : Int32).toInt = 1 := by decide
  have k_3 : (3 : Int32).toInt = 3 := by decide
  have k_4 : (4 : Int32).toInt = 4 := by decide
  have k_48 : (48 : Int32).toInt = 48 := by decide
  have k_55 : (55 : Int32).toInt = 55 := by decide
  have k_57 : (57 : Int32).toInt = 57 := by decide
  refine lv_iload_n hx hb dX4_payment_0 rfl (lv_at hl 1 rfl) ?_
  refine lv_iconst (v := 3) hx hb dX4_payment_1 (by decide) ?_
  refine lv_iadd hx hb dX4_payment_2 ?_
  refine lv_topi (fun z1 e_z1 => ?_)
  have t_z1 := i_add e_z1 (by omega) (by omega)
  refine lv_istore_n (lv' := [(2, .int z1), (0, .ref h0), (1, .int p0)]) hx hb dX4_payment_3 rfl hl (by decide) rfl (fun ls hl => ?_)
  refine lv_iload_n hx hb dX4_payment_4 rfl (lv_at hl 2 rfl) ?_
  refine lv_iconst (v := 1) hx hb dX4_payment_5 (by decide) ?_
  refine lv_iadd hx hb dX4_payment_6 ?_
  refine lv_topi (fun z2 e_z2 => ?_)
  have t_z2 := i_add e_z2 (by omega) (by omega)
  refine lv_istore_n (lv' := [(3, .int z2), (2, .int z1), (0, .ref h0), (1, .int p0)]) hx hb dX4_payment_7 rfl hl (by decide) rfl (fun ls hl => ?_)
  refine lv_iload_n hx hb dX4_payment_8 rfl (lv_at hl 0 rfl) ?_
  refine lv_iload_n hx hb dX4_payment_9 rfl (lv_at hl 1 rfl) ?_
  refine lv_icmp_ge (tgt := 37) hx hb dX4_payment_10 (by decide) (fun c3 => ?_) (fun c3 => ?_)
  · skip
    have f_c3 := i_le c3
    exfalso; omega
  · skip
    have f_c3 := i_nle c3
    refine lv_aload_n hx hb dX4_payment_13 rfl (lv_at hl 2 rfl) ?_
    refine lv_iload_n hx hb dX4_payment_14 rfl (lv_at hl 0 rfl) ?_
    refine lv_bipush (v := 48) hx hb dX4_payment_15 (by decide) ?_
    refine lv_bipush (v := 55) hx hb dX4_payment_17 (by decide) ?_
    obtain ⟨hPc, hDc, hFc, hCm, hNw⟩ := C_s (wc := [eO h0 3 [.ref qo, .int op, .int lp, .int fa, .ref jp], eO jp 2 [.ref pb, .ref pn, .int ps], eI pb kpb 80 fpb, eI pn kpn 80 fpn]) hP hD hS hA [(0, 4)] 4 rfl (by decide +kernel) rfl
    have hKc := K_s (tys' := [(kpb, .int), (kpn, .int)]) hK [(0, 2)] rfl
    refine va_calli (va_runV (As := [.int z2, .int 48, .int 55]) (rest := []) ⟨hx, hb, hml, hown, hts⟩ (c_X4_isFigure l dC dI h0 z2 48 55 qo op lp fa jp pb pn ps kpb fpb kpn fpn (kk + 1) n9 48 55 s.heap.size (by first | assumption | omega) hn9 hn80 (by first | assumption | omega) (by first | assumption | omega) (by first | assumption | omega)) (cwV 3 hts gX4_payment_X4_isFigure rfl rfl rfl (by decide +kernel) ⟨Nat.le_of_ble_eq_true rfl, Nat.le_of_ble_eq_true rfl⟩) ⟨fun a U g mk q => by obtain ⟨q0, q1, qP, qK, qD⟩ := q; exact ⟨q0, q1, qP, va_K.moved (u := U) (U := U.calling g mk a) (Vm.Alike.refl U.vm) qK, qD⟩, va_recv (s := s) (q := (RX4, TX4, 5)) hKc hPc (ci := 3) (q0 := 0) rfl rfl, fun U hU hW => ⟨rfl, by rw [hU], by rw [hU]; exact hPc, va_K.moved hW.alike hKc, hDc.weaken (fun _ _ _ _ => trivial)⟩⟩ rfl rfl hl.1 rfl (lv_room (Nat.le_of_ble_eq_true rfl)) dX4_payment_19 ⟨Nat.le_of_ble_eq_true rfl, Nat.le_of_ble_eq_true rfl⟩) hS (fun q _ h => hFc q h) hFc (fun r4 u t H1 locs ht hvm hw hB hz1 hk1 hS => ?_)
    obtain ⟨hP1, hK1, hD1⟩ := hB
    rw [ht] at hP1
    have hK1 := va_K.moved hvm.symm hK1
    try dsimp only at hw
    obtain ⟨hP, hD⟩ := J_s (wL := [eO h0 3 [.ref qo, .int op, .int lp, .int fa, .ref jp], eO jp 2 [.ref pb, .ref pn, .int ps], eI pb kpb 80 fpb, eI pn kpn 80 fpn]) hP hD [(0, 4)] [] hCm hNw (by decide +kernel) hk1 hFc hP1 hD1 rfl
    have hK := KJ_s (tys' := [(kpb, .int), (kpn, .int)]) hK hK1 [] rfl
    generalize H1 = H at hP hS ⊢
    rcases hw with ⟨e_r4, f_r4⟩ | ⟨e_r4, f_r4⟩
    · subst e_r4
      refine lv_if_ne (tgt := 31) hx hb dX4_payment_22 (by decide) (fun c5 => ?_) (fun c5 => absurd c5 (by decide))
      obtain ⟨x6, e_x6⟩ : ∃ yy : Int32, yy = z2 + 1 := ⟨_, rfl⟩
      refine lv_iinc (v := x6) (lv' := [(3, .int x6), (2, .int z1), (0, .ref h0), (1, .int p0)]) hx hb dX4_payment_31 hl (k := 0) rfl (by rw [e_x6]; rfl) (by decide) rfl (fun ls hl => ?_)
      have t_x6 := i_add e_x6 (by omega) (by omega)
      refine lv_goto (tgt := 8) hx hb dX4_payment_34 (by decide) ?_
      refine lv_iload_n hx hb dX4_payment_8 rfl (lv_at hl 0 rfl) ?_
      refine lv_iload_n hx hb dX4_payment_9 rfl (lv_at hl 1 rfl) ?_
      refine lv_icmp_ge (tgt := 37) hx hb dX4_payment_10 (by decide) (fun c7 => ?_) (fun c7 => ?_)
      · skip
        have f_c7 := i_le c7
        exfalso; omega
      · skip
        have f_c7 := i_nle c7
        refine lv_aload_n hx hb dX4_payment_13 rfl (lv_at hl 2 rfl) ?_
        refine lv_iload_n hx hb dX4_payment_14 rfl (lv_at hl 0 rfl) ?_
        refine lv_bipush (v := 48) hx hb dX4_payment_15 (by decide) ?_
        refine lv_bipush (v := 55) hx hb dX4_payment_17 (by decide) ?_
        obtain ⟨hPc, hDc, hFc, hCm, hNw⟩ := C_s (wc := [eO h0 3 [.ref qo, .int op, .int lp, .int fa, .ref jp], eO jp 2 [.ref pb, .ref pn, .int ps], eI pb kpb 80 fpb, eI pn kpn 80 fpn]) hP hD hS hA [(0, 4)] 4 rfl (by decide +kernel) rfl
        have hKc := K_s (tys' := [(kpb, .int), (kpn, .int)]) hK [(0, 2)] rfl
        refine va_calli (va_runV (As := [.int x6, .int 48, .int 55]) (rest := []) ⟨hx, hb, hml, hown, hts⟩ (c_X4_isFigure l dC dI h0 x6 48 55 qo op lp fa jp pb pn ps kpb fpb kpn fpn (kk + 2) n9 48 55 H.size (by first | assumption | omega) hn9 hn80 (by first | assumption | omega) (by first | assumption | omega) (by first | assumption | omega)) (cwV 3 hts gX4_payment_X4_isFigure rfl rfl rfl (by decide +kernel) ⟨Nat.le_of_ble_eq_true rfl, Nat.le_of_ble_eq_true rfl⟩) ⟨fun a U g mk q => by obtain ⟨q0, q1, qP, qK, qD⟩ := q; exact ⟨q0, q1, qP, va_K.moved (u := U) (U := U.calling g mk a) (Vm.Alike.refl U.vm) qK, qD⟩, va_recv (s := s) (q := (RX4, TX4, 5)) hKc hPc (ci := 3) (q0 := 0) rfl rfl, fun U hU hW => ⟨rfl, by rw [hU], by rw [hU]; exact hPc, va_K.moved hW.alike hKc, hDc.weaken (fun _ _ _ _ => trivial)⟩⟩ rfl rfl hl.1 rfl (lv_room (Nat.le_of_ble_eq_true rfl)) dX4_payment_19 ⟨Nat.le_of_ble_eq_true rfl, Nat.le_of_ble_eq_true rfl⟩) hS (fun q _ h => hFc q h) hFc (fun r8 u t H1 locs ht hvm hw hB hz1 hk1 hS => ?_)
        obtain ⟨hP1, hK1, hD1⟩ := hB
        rw [ht] at hP1
        have hK1 := va_K.moved hvm.symm hK1
        try dsimp only at hw
        obtain ⟨hP, hD⟩ := J_s (wL := [eO h0 3 [.ref qo, .int op, .int lp, .int fa, .ref jp], eO jp 2 [.ref pb, .ref pn, .int ps], eI pb kpb 80 fpb, eI pn kpn 80 fpn]) hP hD [(0, 4)] [] hCm hNw (by decide +kernel) hk1 hFc hP1 hD1 rfl
        have hK := KJ_s (tys' := [(kpb, .int), (kpn, .int)]) hK hK1 [] rfl
        generalize H1 = H at hP hS ⊢
        rcases hw with ⟨e_r8, f_r8⟩ | ⟨e_r8, f_r8⟩
        · subst e_r8
          refine lv_if_ne (tgt := 31) hx hb dX4_payment_22 (by decide) (fun c9 => ?_) (fun c9 => absurd c9 (by decide))
          obtain ⟨x10, e_x10⟩ : ∃ yy : Int32, yy = x6 + 1 := ⟨_, rfl⟩
          refine lv_iinc (v := x10) (lv' := [(3, .int x10), (2, .int z1), (0, .ref h0), (1, .int p0)]) hx hb dX4_payment_31 hl (k := 0) rfl (by rw [e_x10]; rfl) (by decide) rfl (fun ls hl => ?_)
          have t_x10 := i_add e_x10 (by omega) (by omega)
          refine lv_goto (tgt := 8) hx hb dX4_payment_34 (by decide) ?_
          refine lv_iload_n hx hb dX4_payment_8 rfl (lv_at hl 0 rfl) ?_
          refine lv_iload_n hx hb dX4_payment_9 rfl (lv_at hl 1 rfl) ?_
          refine lv_icmp_ge (tgt := 37) hx hb dX4_payment_10 (by decide) (fun c11 => ?_) (fun c11 => ?_)
          · skip
            have f_c11 := i_le c11
            refine lv_aload_n hx hb dX4_payment_37 rfl (lv_at hl 2 rfl) ?_
            refine lv_iload_n hx hb dX4_payment_38 rfl (lv_at hl 1 rfl) ?_
            refine lv_bipush (v := 48) hx hb dX4_payment_39 (by decide) ?_
            refine lv_bipush (v := 57) hx hb dX4_payment_41 (by decide) ?_
            obtain ⟨hPc, hDc, hFc, hCm, hNw⟩ := C_s (wc := [eO h0 3 [.ref qo, .int op, .int lp, .int fa, .ref jp], eO jp 2 [.ref pb, .ref pn, .int ps], eI pb kpb 80 fpb, eI pn kpn 80 fpn]) hP hD hS hA [(0, 4)] 4 rfl (by decide +kernel) rfl
            have hKc := K_s (tys' := [(kpb, .int), (kpn, .int)]) hK [(0, 2)] rfl
            refine va_calli (va_runV (As := [.int z1, .int 48, .int 57]) (rest := []) ⟨hx, hb, hml, hown, hts⟩ (c_X4_isFigure l dC dI h0 z1 48 57 qo op lp fa jp pb pn ps kpb fpb kpn fpn (kk + 3) n9 48 57 H.size (by first | assumption | omega) hn9 hn80 (by first | assumption | omega) (by first | assumption | omega) (by first | assumption | omega)) (cwV 3 hts gX4_payment_X4_isFigure rfl rfl rfl (by decide +kernel) ⟨Nat.le_of_ble_eq_true rfl, Nat.le_of_ble_eq_true rfl⟩) ⟨fun a U g mk q => by obtain ⟨q0, q1, qP, qK, qD⟩ := q; exact ⟨q0, q1, qP, va_K.moved (u := U) (U := U.calling g mk a) (Vm.Alike.refl U.vm) qK, qD⟩, va_recv (s := s) (q := (RX4, TX4, 5)) hKc hPc (ci := 3) (q0 := 0) rfl rfl, fun U hU hW => ⟨rfl, by rw [hU], by rw [hU]; exact hPc, va_K.moved hW.alike hKc, hDc.weaken (fun _ _ _ _ => trivial)⟩⟩ rfl rfl hl.1 rfl (lv_room (Nat.le_of_ble_eq_true rfl)) dX4_payment_43 ⟨Nat.le_of_ble_eq_true rfl, Nat.le_of_ble_eq_true rfl⟩) hS (fun q _ h => hFc q h) hFc (fun r12 u t H1 locs ht hvm hw hB hz1 hk1 hS => ?_)
            obtain ⟨hP1, hK1, hD1⟩ := hB
            rw [ht] at hP1
            have hK1 := va_K.moved hvm.symm hK1
            try dsimp only at hw
            obtain ⟨hP, hD⟩ := J_s (wL := [eO h0 3 [.ref qo, .int op, .int lp, .int fa, .ref jp], eO jp 2 [.ref pb, .ref pn, .int ps], eI pb kpb 80 fpb, eI pn kpn 80 fpn]) hP hD [(0, 4)] [] hCm hNw (by decide +kernel) hk1 hFc hP1 hD1 rfl
            have hK := KJ_s (tys' := [(kpb, .int), (kpn, .int)]) hK hK1 [] rfl
            generalize H1 = H at hP hS ⊢
            rcases hw with ⟨e_r12, f_r12⟩ | ⟨e_r12, f_r12⟩
            · subst e_r12
              refine lv_if_ne (tgt := 55) hx hb dX4_payment_46 (by decide) (fun c13 => ?_) (fun c13 => absurd c13 (by decide))
              refine lv_iload_n hx hb dX4_payment_55 rfl (lv_at hl 1 rfl) ?_
              refine lv_iconst (v := 1) hx hb dX4_payment_56 (by decide) ?_
              refine lv_iadd hx hb dX4_payment_57 ?_
              refine lv_topi (fun z14 e_z14 => ?_)
              have t_z14 := i_add e_z14 (by omega) (by omega)
              refine lv_istore_n (lv' := [(3, .int z14), (2, .int z1), (0, .ref h0), (1, .int p0)]) hx hb dX4_payment_58 rfl hl (by decide) rfl (fun ls hl => ?_)
              have loop_59 : ∀ (n : Nat) (y : Int32), (∃ jx : Nat, y.toInt = (jx : Int) ∧ kk + 4 ≤ jx ∧ jx ≤ kk + 7 ∧ jx ≤ n9 ∧ ∀ i, kk + 3 ≤ i → i < jx → isF (fpb i)) → (p0.toInt + 7 - y.toInt) < (n : Int) → ∀ (H : Heap) (locs : List Loc), va_K (dC, dI) vwCl [(kpb, .int), (kpn, .int)] s → va_P (dC, dI) vwCl [eO h0 3 [.ref qo, .int op, .int lp, .int fa, .ref jp], eO jp 2 [.ref pb, .ref pn, .int ps], eI pb kpb 80 fpb, eI pn kpn 80 fpn] H → va_D A [eO h0 3 [.ref qo, .int op, .int lp, .int fa, .ref jp], eO jp 2 [.ref pb, .ref pn, .int ps], eI pb kpb 80 fpb, eI pn kpn 80 fpn] → va_S A s.heap H locs → ∀ (ls : Array Slot), lv_has ls 4 [(3, .int y), (2, .int z1), (0, .ref h0), (1, .int p0)] → W p l e ({ frames := 2, cells := 0, slots := 0, locals := 44 }) s m (([.ref h0, .int p0] : List Value).toArray) below meth c H locs 0 0 Q9 (F0 m 59 ls []) := by
                intro n
                induction n with
                | zero => intro y j2 hM_59; exfalso; omega
                | succ n ih_59 =>
                  intro y j2 hM_59 H locs hK hP hD hS ls hl
                  obtain ⟨jx, hjx, hj4, hj7, hjn, hfg⟩ := j2
                  refine lv_iload_n hx hb dX4_payment_59 rfl (lv_at hl 0 rfl) ?_
                  refine lv_iload_n hx hb dX4_payment_60 rfl (lv_at hl 1 rfl) ?_
                  refine lv_iconst (v := 4) hx hb dX4_payment_61 (by decide) ?_
                  refine lv_iadd hx hb dX4_payment_62 ?_
                  refine lv_topi (fun z15 e_z15 => ?_)
                  have t_z15 := i_add e_z15 (by omega) (by omega)
                  refine lv_icmp_ge (tgt := 84) hx hb dX4_payment_63 (by decide) (fun c16 => ?_) (fun c16 => ?_)
                  · skip
                    have f_c16 := i_le c16
                    refine lv_aload_n hx hb dX4_payment_84 rfl (lv_at hl 2 rfl) ?_
                    refine lv_iload_n hx hb dX4_payment_85 rfl (lv_at hl 3 rfl) ?_
                    refine lv_iload_n hx hb dX4_payment_86 rfl (lv_at hl 0 rfl) ?_
                    obtain ⟨hPc, hDc, hFc, hCm, hNw⟩ := C_s (wc := [eO h0 3 [.ref qo, .int op, .int lp, .int fa, .ref jp], eO jp 2 [.ref pb, .ref pn, .int ps], eI pb kpb 80 fpb, eI pn kpn 80 fpn]) hP hD hS hA [(0, 4)] 4 rfl (by decide +kernel) rfl
                    have hKc := K_s (tys' := [(kpb, .int), (kpn, .int)]) hK [(0, 2)] rfl
                    refine va_calli (va_runV (As := [.int p0, .int y]) (rest := []) ⟨hx, hb, hml, hown, hts⟩ (c_X4_ends l dC dI h0 p0 y qo op lp fa jp pb pn ps kpb fpb kpn fpn kk H.size hkk (by first | assumption | omega) (by first | assumption | omega) (by first | assumption | omega) hb0) (cwV 2 hts gX4_payment_X4_ends rfl rfl rfl (by decide +kernel) ⟨Nat.le_of_ble_eq_true rfl, Nat.le_of_ble_eq_true rfl⟩) ⟨fun a U g mk q => by obtain ⟨q0, q1, qP, qK, qD⟩ := q; exact ⟨q0, q1, qP, va_K.moved (u := U) (U := U.calling g mk a) (Vm.Alike.refl U.vm) qK, qD⟩, va_recv (s := s) (q := (RX4, TX4, 5)) hKc hPc (ci := 3) (q0 := 0) rfl rfl, fun U hU hW => ⟨rfl, by rw [hU], by rw [hU]; exact hPc, va_K.moved hW.alike hKc, hDc.weaken (fun _ _ _ _ => trivial)⟩⟩ rfl rfl hl.1 rfl (lv_room (Nat.le_of_ble_eq_true rfl)) dX4_payment_87 ⟨Nat.le_of_ble_eq_true rfl, Nat.le_of_ble_eq_true rfl⟩) hS (fun q _ h => hFc q h) hFc (fun r17 u t H1 locs ht hvm hw hB hz1 hk1 hS => ?_)
                    obtain ⟨q18, xb_r17, xe_r17, hP1, hK1, hD1⟩ := hB
                    rw [ht] at hP1
                    have hK1 := va_K.moved hvm.symm hK1
                    try dsimp only at hw
                    obtain ⟨hP, hD⟩ := J_s (wL := [eO h0 3 [.ref qo, .int op, .int lp, .int fa, .ref jp], eO jp 2 [.ref pb, .ref pn, .int ps], eI pb kpb 80 fpb, eI pn kpn 80 q18]) hP hD [(0, 4)] [] hCm hNw (by decide +kernel) hk1 hFc hP1 hD1 rfl
                    have hK := KJ_s (tys' := [(kpb, .int), (kpn, .int)]) hK hK1 [] rfl
                    generalize H1 = H at hP hS ⊢
                    have h_r17 := hw
                    have t_r17 := i_eq hw
                    rw [hQ9]
                    exact W.iret (v := r17) hx hb hr (fun t ht hW => ⟨⟨r17, (fa, q18), rfl, ⟨⟨by omega, by omega⟩, Or.inl ⟨by omega, jx, by omega, by rw [h_r17]; exact xe_r17, f_r4, f_r8, leaf_p hc (by omega) (by omega) (by omega) hfg (by omega)⟩, xb_r17⟩, by rw [ht]; exact hP, va_K.moved hW.alike hK, hD⟩, hS.F ht⟩) hS.2.2 dX4_payment_90
                  · skip
                    have f_c16 := i_nle c16
                    refine lv_aload_n hx hb dX4_payment_66 rfl (lv_at hl 2 rfl) ?_
                    refine lv_iload_n hx hb dX4_payment_67 rfl (lv_at hl 0 rfl) ?_
                    refine lv_bipush (v := 48) hx hb dX4_payment_68 (by decide) ?_
                    refine lv_bipush (v := 57) hx hb dX4_payment_70 (by decide) ?_
                    obtain ⟨hPc, hDc, hFc, hCm, hNw⟩ := C_s (wc := [eO h0 3 [.ref qo, .int op, .int lp, .int fa, .ref jp], eO jp 2 [.ref pb, .ref pn, .int ps], eI pb kpb 80 fpb, eI pn kpn 80 fpn]) hP hD hS hA [(0, 4)] 4 rfl (by decide +kernel) rfl
                    have hKc := K_s (tys' := [(kpb, .int), (kpn, .int)]) hK [(0, 2)] rfl
                    refine va_calli (va_runV (As := [.int y, .int 48, .int 57]) (rest := []) ⟨hx, hb, hml, hown, hts⟩ (c_X4_isFigure l dC dI h0 y 48 57 qo op lp fa jp pb pn ps kpb fpb kpn fpn jx n9 48 57 H.size (by first | assumption | omega) hn9 hn80 (by first | assumption | omega) (by first | assumption | omega) (by first | assumption | omega)) (cwV 3 hts gX4_payment_X4_isFigure rfl rfl rfl (by decide +kernel) ⟨Nat.le_of_ble_eq_true rfl, Nat.le_of_ble_eq_true rfl⟩) ⟨fun a U g mk q => by obtain ⟨q0, q1, qP, qK, qD⟩ := q; exact ⟨q0, q1, qP, va_K.moved (u := U) (U := U.calling g mk a) (Vm.Alike.refl U.vm) qK, qD⟩, va_recv (s := s) (q := (RX4, TX4, 5)) hKc hPc (ci := 3) (q0 := 0) rfl rfl, fun U hU hW => ⟨rfl, by rw [hU], by rw [hU]; exact hPc, va_K.moved hW.alike hKc, hDc.weaken (fun _ _ _ _ => trivial)⟩⟩ rfl rfl hl.1 rfl (lv_room (Nat.le_of_ble_eq_true rfl)) dX4_payment_72 ⟨Nat.le_of_ble_eq_true rfl, Nat.le_of_ble_eq_true rfl⟩) hS (fun q _ h => hFc q h) hFc (fun r19 u t H1 locs ht hvm hw hB hz1 hk1 hS => ?_)
                    obtain ⟨hP1, hK1, hD1⟩ := hB
                    rw [ht] at hP1
                    have hK1 := va_K.moved hvm.symm hK1
                    try dsimp only at hw
                    obtain ⟨hP, hD⟩ := J_s (wL := [eO h0 3 [.ref qo, .int op, .int lp, .int fa, .ref jp], eO jp 2 [.ref pb, .ref pn, .int ps], eI pb kpb 80 fpb, eI pn kpn 80 fpn]) hP hD [(0, 4)] [] hCm hNw (by decide +kernel) hk1 hFc hP1 hD1 rfl
                    have hK := KJ_s (tys' := [(kpb, .int), (kpn, .int)]) hK hK1 [] rfl
                    generalize H1 = H at hP hS ⊢
                    rcases hw with ⟨e_r19, f_r19⟩ | ⟨e_r19, f_r19⟩
                    · subst e_r19
                      refine lv_if_eq (tgt := 84) hx hb dX4_payment_75 (by decide) (fun c20 => absurd c20 (by decide)) (fun c20 => ?_)
                      obtain ⟨x21, e_x21⟩ : ∃ yy : Int32, yy = y + 1 := ⟨_, rfl⟩
                      refine lv_iinc (v := x21) (lv' := [(3, .int x21), (2, .int z1), (0, .ref h0), (1, .int p0)]) hx hb dX4_payment_78 hl (k := 0) rfl (by rw [e_x21]; rfl) (by decide) rfl (fun ls hl => ?_)
                      have t_x21 := i_add e_x21 (by omega) (by omega)
                      refine lv_goto (tgt := 59) hx hb dX4_payment_81 (by decide) ?_
                      exact ih_59 x21 ⟨jx + 1, by omega, by omega, by omega, by obtain ⟨u1, u2, u3⟩ := f_r19; omega, fun i h1 h2 => by rcases Nat.lt_or_ge i jx with w | w; exact hfg i h1 w; obtain rfl : i = jx := (by omega); exact ⟨f_r19.2.1, f_r19.2.2⟩⟩ (by omega) _ _ (K_s hK [(0, 2)] rfl) (P_s hP [(0, 4)] rfl) (D_s hD [(0, 4)] 4 rfl (by decide +kernel) rfl) hS ls (lv_sub hl [0, 1, 2, 3] rfl)
                    · subst e_r19
                      refine lv_if_eq (tgt := 84) hx hb dX4_payment_75 (by decide) (fun c22 => ?_) (fun c22 => absurd (by decide) c22)
                      refine lv_aload_n hx hb dX4_payment_84 rfl (lv_at hl 2 rfl) ?_
                      refine lv_iload_n hx hb dX4_payment_85 rfl (lv_at hl 3 rfl) ?_
                      refine lv_iload_n hx hb dX4_payment_86 rfl (lv_at hl 0 rfl) ?_
                      obtain ⟨hPc, hDc, hFc, hCm, hNw⟩ := C_s (wc := [eO h0 3 [.ref qo, .int op, .int lp, .int fa, .ref jp], eO jp 2 [.ref pb, .ref pn, .int ps], eI pb kpb 80 fpb, eI pn kpn 80 fpn]) hP hD hS hA [(0, 4)] 4 rfl (by decide +kernel) rfl
                      have hKc := K_s (tys' := [(kpb, .int), (kpn, .int)]) hK [(0, 2)] rfl
                      refine va_calli (va_runV (As := [.int p0, .int y]) (rest := []) ⟨hx, hb, hml, hown, hts⟩ (c_X4_ends l dC dI h0 p0 y qo op lp fa jp pb pn ps kpb fpb kpn fpn kk H.size hkk (by first | assumption | omega) (by first | assumption | omega) (by first | assumption | omega) hb0) (cwV 2 hts gX4_payment_X4_ends rfl rfl rfl (by decide +kernel) ⟨Nat.le_of_ble_eq_true rfl, Nat.le_of_ble_eq_true rfl⟩) ⟨fun a U g mk q => by obtain ⟨q0, q1, qP, qK, qD⟩ := q; exact ⟨q0, q1, qP, va_K.moved (u := U) (U := U.calling g mk a) (Vm.Alike.refl U.vm) qK, qD⟩, va_recv (s := s) (q := (RX4, TX4, 5)) hKc hPc (ci := 3) (q0 := 0) rfl rfl, fun U hU hW => ⟨rfl, by rw [hU], by rw [hU]; exact hPc, va_K.moved hW.alike hKc, hDc.weaken (fun _ _ _ _ => trivial)⟩⟩ rfl rfl hl.1 rfl (lv_room (Nat.le_of_ble_eq_true rfl)) dX4_payment_87 ⟨Nat.le_of_ble_eq_true rfl, Nat.le_of_ble_eq_true rfl⟩) hS (fun q _ h => hFc q h) hFc (fun r23 u t H1 locs ht hvm hw hB hz1 hk1 hS => ?_)
                      obtain ⟨q24, xb_r23, xe_r23, hP1, hK1, hD1⟩ := hB
                      rw [ht] at hP1
                      have hK1 := va_K.moved hvm.symm hK1
                      try dsimp only at hw
                      obtain ⟨hP, hD⟩ := J_s (wL := [eO h0 3 [.ref qo, .int op, .int lp, .int fa, .ref jp], eO jp 2 [.ref pb, .ref pn, .int ps], eI pb kpb 80 fpb, eI pn kpn 80 q24]) hP hD [(0, 4)] [] hCm hNw (by decide +kernel) hk1 hFc hP1 hD1 rfl
                      have hK := KJ_s (tys' := [(kpb, .int), (kpn, .int)]) hK hK1 [] rfl
                      generalize H1 = H at hP hS ⊢
                      have h_r23 := hw
                      have t_r23 := i_eq hw
                      rw [hQ9]
                      exact W.iret (v := r23) hx hb hr (fun t ht hW => ⟨⟨r23, (fa, q24), rfl, ⟨⟨by omega, by omega⟩, Or.inl ⟨by omega, jx, by omega, by rw [h_r23]; exact xe_r23, f_r4, f_r8, leaf_p hc (by omega) (by omega) (by omega) hfg (by unfold fg at f_r19; omega)⟩, xb_r23⟩, by rw [ht]; exact hP, va_K.moved hW.alike hK, hD⟩, hS.F ht⟩) hS.2.2 dX4_payment_90
              exact loop_59 (1000) z14 ⟨kk + 4, by omega, by omega, by omega, by obtain ⟨u1, u2, u3⟩ := f_r12; omega, fun i h1 h2 => by obtain rfl : i = kk + 3 := (by omega); exact ⟨f_r12.2.1, f_r12.2.2⟩⟩ (by omega) _ _ hK hP hD hS ls (lv_sub hl [0, 1, 2, 3] rfl)
            · subst e_r12
              refine lv_if_ne (tgt := 55) hx hb dX4_payment_46 (by decide) (fun c25 => absurd (by decide) c25) (fun c25 => ?_)
              refine lv_aload_n hx hb dX4_payment_49 rfl (lv_at hl 2 rfl) ?_
              refine lv_iload_n hx hb dX4_payment_50 rfl (lv_at hl 1 rfl) ?_
              obtain ⟨hPc, hDc, hFc, hCm, hNw⟩ := C_s (wc := [eO h0 3 [.ref qo, .int op, .int lp, .int fa, .ref jp]]) hP hD hS hA [(0, 1)] 4 rfl (by decide +kernel) rfl
              have hKc := K_s (tys' := []) hK [] rfl
              refine va_calli (va_runV (As := [.int z1]) (rest := []) ⟨hx, hb, hml, hown, hts⟩ (c_X4_faultAt l dC dI h0 z1 qo op lp fa jp H.size (by first | assumption | omega) (by first | assumption | omega)) (cwV 1 hts gX4_payment_X4_faultAt rfl rfl rfl (by decide +kernel) ⟨Nat.le_of_ble_eq_true rfl, Nat.le_of_ble_eq_true rfl⟩) ⟨fun a U g mk q => by obtain ⟨q0, q1, qP, qK, qD⟩ := q; exact ⟨q0, q1, qP, va_K.moved (u := U) (U := U.calling g mk a) (Vm.Alike.refl U.vm) qK, qD⟩, va_recv (s := s) (q := (RX4, TX4, 5)) hKc hPc (ci := 3) (q0 := 0) rfl rfl, fun U hU hW => ⟨rfl, by rw [hU], by rw [hU]; exact hPc, va_K.moved hW.alike hKc, hDc.weaken (fun _ _ _ _ => trivial)⟩⟩ rfl rfl hl.1 rfl (lv_room (Nat.le_of_ble_eq_true rfl)) dX4_payment_51 ⟨Nat.le_of_ble_eq_true rfl, Nat.le_of_ble_eq_true rfl⟩) hS (fun q _ h => hFc q h) hFc (fun r26 u t H1 locs ht hvm hw hB hz1 hk1 hS => ?_)
              obtain ⟨hP1, hK1, hD1⟩ := hB
              rw [ht] at hP1
              have hK1 := va_K.moved hvm.symm hK1
              try dsimp only at hw
              obtain ⟨hP, hD⟩ := J_s (wL := [eO jp 2 [.ref pb, .ref pn, .int ps], eI pb kpb 80 fpb, eI pn kpn 80 fpn, eO h0 3 [.ref qo, .int op, .int lp, .int z1, .ref jp]]) hP hD [(0, 1)] [(1, 3)] hCm hNw (by decide +kernel) hk1 hFc hP1 hD1 rfl
              have hK := KJ_s (tys' := [(kpb, .int), (kpn, .int)]) hK hK1 [(0, 2)] rfl
              generalize H1 = H at hP hS ⊢
              have h_r26 := hw
              rw [hQ9]
              exact W.iret (v := r26) hx hb hr (fun t ht hW => ⟨⟨r26, (z1, fpn), rfl, ⟨⟨by omega, by omega⟩, Or.inr ⟨kk + 3, by omega, Or.inr (Or.inr ⟨f_r4, f_r8, f_r12, rfl⟩)⟩, hb0⟩, by rw [ht]; exact P_s hP [(3, 1), (0, 3)] rfl, va_K.moved hW.alike hK, D_s hD [(3, 1), (0, 3)] 4 rfl (by decide +kernel) rfl⟩, hS.F ht⟩) hS.2.2 dX4_payment_54
          · skip
            have f_c11 := i_nle c11
            exfalso; omega
        · subst e_r8
          refine lv_if_ne (tgt := 31) hx hb dX4_payment_22 (by decide) (fun c27 => absurd (by decide) c27) (fun c27 => ?_)
          refine lv_aload_n hx hb dX4_payment_25 rfl (lv_at hl 2 rfl) ?_
          refine lv_iload_n hx hb dX4_payment_26 rfl (lv_at hl 0 rfl) ?_
          obtain ⟨hPc, hDc, hFc, hCm, hNw⟩ := C_s (wc := [eO h0 3 [.ref qo, .int op, .int lp, .int fa, .ref jp]]) hP hD hS hA [(0, 1)] 4 rfl (by decide +kernel) rfl
          have hKc := K_s (tys' := []) hK [] rfl
          refine va_calli (va_runV (As := [.int x6]) (rest := []) ⟨hx, hb, hml, hown, hts⟩ (c_X4_faultAt l dC dI h0 x6 qo op lp fa jp H.size (by first | assumption | omega) (by first | assumption | omega)) (cwV 1 hts gX4_payment_X4_faultAt rfl rfl rfl (by decide +kernel) ⟨Nat.le_of_ble_eq_true rfl, Nat.le_of_ble_eq_true rfl⟩) ⟨fun a U g mk q => by obtain ⟨q0, q1, qP, qK, qD⟩ := q; exact ⟨q0, q1, qP, va_K.moved (u := U) (U := U.calling g mk a) (Vm.Alike.refl U.vm) qK, qD⟩, va_recv (s := s) (q := (RX4, TX4, 5)) hKc hPc (ci := 3) (q0 := 0) rfl rfl, fun U hU hW => ⟨rfl, by rw [hU], by rw [hU]; exact hPc, va_K.moved hW.alike hKc, hDc.weaken (fun _ _ _ _ => trivial)⟩⟩ rfl rfl hl.1 rfl (lv_room (Nat.le_of_ble_eq_true rfl)) dX4_payment_27 ⟨Nat.le_of_ble_eq_true rfl, Nat.le_of_ble_eq_true rfl⟩) hS (fun q _ h => hFc q h) hFc (fun r28 u t H1 locs ht hvm hw hB hz1 hk1 hS => ?_)
          obtain ⟨hP1, hK1, hD1⟩ := hB
          rw [ht] at hP1
          have hK1 := va_K.moved hvm.symm hK1
          try dsimp only at hw
          obtain ⟨hP, hD⟩ := J_s (wL := [eO jp 2 [.ref pb, .ref pn, .int ps], eI pb kpb 80 fpb, eI pn kpn 80 fpn, eO h0 3 [.ref qo, .int op, .int lp, .int x6, .ref jp]]) hP hD [(0, 1)] [(1, 3)] hCm hNw (by decide +kernel) hk1 hFc hP1 hD1 rfl
          have hK := KJ_s (tys' := [(kpb, .int), (kpn, .int)]) hK hK1 [(0, 2)] rfl
          generalize H1 = H at hP hS ⊢
          have h_r28 := hw
          rw [hQ9]
          exact W.iret (v := r28) hx hb hr (fun t ht hW => ⟨⟨r28, (x6, fpn), rfl, ⟨⟨by omega, by omega⟩, Or.inr ⟨kk + 2, by omega, Or.inr (Or.inl ⟨f_r4, f_r8, rfl⟩)⟩, hb0⟩, by rw [ht]; exact P_s hP [(3, 1), (0, 3)] rfl, va_K.moved hW.alike hK, D_s hD [(3, 1), (0, 3)] 4 rfl (by decide +kernel) rfl⟩, hS.F ht⟩) hS.2.2 dX4_payment_30
    · subst e_r4
      refine lv_if_ne (tgt := 31) hx hb dX4_payment_22 (by decide) (fun c29 => absurd (by decide) c29) (fun c29 => ?_)
      refine lv_aload_n hx hb dX4_payment_25 rfl (lv_at hl 2 rfl) ?_
      refine lv_iload_n hx hb dX4_payment_26 rfl (lv_at hl 0 rfl) ?_
      obtain ⟨hPc, hDc, hFc, hCm, hNw⟩ := C_s (wc := [eO h0 3 [.ref qo, .int op, .int lp, .int fa, .ref jp]]) hP hD hS hA [(0, 1)] 4 rfl (by decide +kernel) rfl
      have hKc := K_s (tys' := []) hK [] rfl
      refine va_calli (va_runV (As := [.int z2]) (rest := []) ⟨hx, hb, hml, hown, hts⟩ (c_X4_faultAt l dC dI h0 z2 qo op lp fa jp H.size (by first | assumption | omega) (by first | assumption | omega)) (cwV 1 hts gX4_payment_X4_faultAt rfl rfl rfl (by decide +kernel) ⟨Nat.le_of_ble_eq_true rfl, Nat.le_of_ble_eq_true rfl⟩) ⟨fun a U g mk q => by obtain ⟨q0, q1, qP, qK, qD⟩ := q; exact ⟨q0, q1, qP, va_K.moved (u := U) (U := U.calling g mk a) (Vm.Alike.refl U.vm) qK, qD⟩, va_recv (s := s) (q := (RX4, TX4, 5)) hKc hPc (ci := 3) (q0 := 0) rfl rfl, fun U hU hW => ⟨rfl, by rw [hU], by rw [hU]; exact hPc, va_K.moved hW.alike hKc, hDc.weaken (fun _ _ _ _ => trivial)⟩⟩ rfl rfl hl.1 rfl (lv_room (Nat.le_of_ble_eq_true rfl)) dX4_payment_27 ⟨Nat.le_of_ble_eq_true rfl, Nat.le_of_ble_eq_true rfl⟩) hS (fun q _ h => hFc q h) hFc (fun r30 u t H1 locs ht hvm hw hB hz1 hk1 hS => ?_)
      obtain ⟨hP1, hK1, hD1⟩ := hB
      rw [ht] at hP1
      have hK1 := va_K.moved hvm.symm hK1
      try dsimp only at hw
      obtain ⟨hP, hD⟩ := J_s (wL := [eO jp 2 [.ref pb, .ref pn, .int ps], eI pb kpb 80 fpb, eI pn kpn 80 fpn, eO h0 3 [.ref qo, .int op, .int lp, .int z2, .ref jp]]) hP hD [(0, 1)] [(1, 3)] hCm hNw (by decide +kernel) hk1 hFc hP1 hD1 rfl
      have hK := KJ_s (tys' := [(kpb, .int), (kpn, .int)]) hK hK1 [(0, 2)] rfl
      generalize H1 = H at hP hS ⊢
      have h_r30 := hw
      rw [hQ9]
      exact W.iret (v := r30) hx hb hr (fun t ht hW => ⟨⟨r30, (z2, fpn), rfl, ⟨⟨by omega, by omega⟩, Or.inr ⟨kk + 1, by omega, Or.inl ⟨f_r4, rfl⟩⟩, hb0⟩, by rw [ht]; exact P_s hP [(3, 1), (0, 3)] rfl, va_K.moved hW.alike hK, D_s hD [(3, 1), (0, 3)] 4 rfl (by decide +kernel) rfl⟩, hS.F ht⟩) hS.2.2 dX4_payment_30
