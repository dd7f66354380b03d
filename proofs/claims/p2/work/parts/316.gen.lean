set_option maxRecDepth 100000 in
set_option maxHeartbeats 4000000 in
/-- isProgram -/
theorem c_X9_isProgram (l : Launch) (dC : Nat → ClassId) (dI : Nat → Nat → Nat) (h0 : Nat) (p0 : Int32) (jb : Nat) (ji : Nat) (jd : Nat) (je : Nat) (jg : Nat) (qpa : Nat) (pcn : Int32) (ipn : Int32) (jt : Nat) (jr : Nat) (j1 : Nat) (j2 : Nat) (qsa : Nat) (sz : Nat) : Met l yX9_isProgram wsX9_isProgram ({ frames := 0, cells := 0, slots := 0, locals := 0 }) (va_Pc [.ref h0, .int p0] (fun U => U.heap.size = sz ∧ va_P (dC, dI) vwCl [eO h0 8 [.ref jb, .ref ji, .ref jd, .ref je, .ref jg, .ref qpa, .int pcn, .int ipn, .ref jt, .ref jr, .ref j1, .ref j2, .ref qsa]] U.heap ∧ va_K (dC, dI) vwCl [] U ∧ va_D (fun _ => True) [eO h0 8 [.ref jb, .ref ji, .ref jd, .ref je, .ref jg, .ref qpa, .int pcn, .int ipn, .ref jt, .ref jr, .ref j1, .ref j2, .ref qsa]])) (va_Qi (fun (r : Int32) (_ : Unit) => (r = 1 ∧ 0 ≤ p0.toInt ∧ p0.toInt < pcn.toInt) ∨ (r = 0 ∧ ¬(0 ≤ p0.toInt ∧ p0.toInt < pcn.toInt))) (fun (_ : Unit) (t : State) => va_P (dC, dI) vwCl [eO h0 8 [.ref jb, .ref ji, .ref jd, .ref je, .ref jg, .ref qpa, .int pcn, .int ipn, .ref jt, .ref jr, .ref j1, .ref j2, .ref qsa]] t.heap ∧ va_K (dC, dI) vwCl [] t ∧ va_D (va_A [eO h0 8 [.ref jb, .ref ji, .ref jd, .ref je, .ref jg, .ref qpa, .int pcn, .int ipn, .ref jt, .ref jr, .ref j1, .ref j2, .ref qsa]] sz) [eO h0 8 [.ref jb, .ref ji, .ref jd, .ref je, .ref jg, .ref qpa, .int pcn, .int ipn, .ref jt, .ref jr, .ref j1, .ref j2, .ref qsa]]) (va_A [eO h0 8 [.ref jb, .ref ji, .ref jd, .ref je, .ref jg, .ref qpa, .int pcn, .int ipn, .ref jt, .ref jr, .ref j1, .ref j2, .ref qsa]] sz)) 0 0 (va_A [eO h0 8 [.ref jb, .ref ji, .ref jd, .ref je, .ref jg, .ref qpa, .int pcn, .int ipn, .ref jt, .ref jr, .ref j1, .ref j2, .ref qsa]] sz) := by
  refine Met.ofW (cc := cX9_isProgram) (maxL := 2) (ret := (some .boolean)) (by decide) rfl ?_
  intro p e s m args below meth c s₁ B hml hv
  obtain ⟨rfl, hsz, hP, hK, hD0⟩ := hv
  have hx := B.exec
  have hb := B.bytes
  have hr := B.returns
  have hts := atoms_spec (ws := wsX9_isProgram) B.pre
  have hown : s.vm.findClass RX9 = some m.cls := findClass_of_methodNamed B.named
  have hlocks := B.notSynchronized
  subst hsz
  have hD := hD0.self (sz := s.heap.size)
  generalize hAe : va_A [eO h0 8 [.ref jb, .ref ji, .ref jd, .ref je, .ref jg, .ref qpa, .int pcn, .int ipn, .ref jt, .ref jr, .ref j1, .ref j2, .ref qsa]] s.heap.size = A at hD ⊢
  have hA : ∀ q : Nat, s.heap.size ≤ q → A q := fun q h => by rw [← hAe]; exact Or.inr h
  have hS : va_S A s.heap s.heap [] := va_S.rf
  have hP : va_P (dC, dI) vwCl [eO h0 8 [.ref jb, .ref ji, .ref jd, .ref je, .ref jg, .ref qpa, .int pcn, .int ipn, .ref jt, .ref jr, .ref j1, .ref j2, .ref qsa]] s.heap := hP
  have hl := lv_entry ([.ref h0, .int p0]) (n := 2) (Nat.le_of_ble_eq_true rfl)
  rw [lg_entry_eq]
  generalize (lg_sl ([.ref h0, .int p0]) ++ List.replicate (2 - (lg_sl ([.ref h0, .int p0])).length) Slot.unset).toArray = ls at hl ⊢
  have hl : lv_has ls 2 [(0, .ref h0), (1, .int p0)] := hl
  suffices key9 : ∀ Q9 : State → Prop, Q9 = (MQ below (va_Qi (fun (r : Int32) (_ : Unit) => (r = 1 ∧ 0 ≤ p0.toInt ∧ p0.toInt < pcn.toInt) ∨ (r = 0 ∧ ¬(0 ≤ p0.toInt ∧ p0.toInt < pcn.toInt))) (fun (_ : Unit) (t : State) => va_P (dC, dI) vwCl [eO h0 8 [.ref jb, .ref ji, .ref jd, .ref je, .ref jg, .ref qpa, .int pcn, .int ipn, .ref jt, .ref jr, .ref j1, .ref j2, .ref qsa]] t.heap ∧ va_K (dC, dI) vwCl [] t ∧ va_D A [eO h0 8 [.ref jb, .ref ji, .ref jd, .ref je, .ref jg, .ref qpa, .int pcn, .int ipn, .ref jt, .ref jr, .ref j1, .ref j2, .ref qsa]]) A) (([.ref h0, .int p0] : List Value).toArray) s 0 0 A) → W p l e ({ frames := 0, cells := 0, slots := 0, locals := 0 }) s m (([.ref h0, .int p0] : List Value).toArray) below meth c s.heap [] 0 0 Q9 (F0 m 0 ls []) from key9 _ rfl
  intro Q9 hQ9
  have k_0 : (0 : Int32).toInt = 0 := by decide
  have k_1 : (1 : Int32).toInt = 1 := by decide
  refine lv_iload_n hx hb dX9_isProgram_0 rfl (lv_at hl 1 rfl) ?_
  refine lv_if_lt (tgt := 16) hx hb dX9_isProgram_1 (by decide) (fun c1 => ?_) (fun c1 => ?_)
  · skip
    have f_c1 := i_lt c1
    refine lv_iconst (v := 0) hx hb dX9_isProgram_16 (by decide) ?_
    rw [hQ9]
    exact W.zret (v := 0) hx hb hr (by decide) (fun t ht hW => ⟨⟨0, (), rfl, Or.inr (⟨rfl, by first | trivial | omega⟩), by rw [ht]; exact hP, va_K.moved hW.alike hK, hD⟩, hS.F ht⟩) hS.2.2 dX9_isProgram_17
  · skip
    have f_c1 := i_nlt c1
    refine lv_iload_n hx hb dX9_isProgram_4 rfl (lv_at hl 1 rfl) ?_
    refine lv_aload_n hx hb dX9_isProgram_5 rfl (lv_at hl 0 rfl) ?_
    refine va_get (D := (dC, dI)) (ci := 8) (v := .int pcn) (C := RX9) (T := TX9) (N := 13) hx hb hts (fun w h => List.mem_cons_of_mem _ (inlX9 w h)) hown hK hP 0 rfl rfl 6 (by decide) (hts (.fieldLink RX9 141 "ClearingGates" "programCount" "I") (List.mem_cons_of_mem _ mw_214)) (fun _ h9 => h9) rfl dX9_isProgram_6 ?_
    refine lv_icmp_ge (tgt := 16) hx hb dX9_isProgram_9 (by decide) (fun c2 => ?_) (fun c2 => ?_)
    · skip
      have f_c2 := i_le c2
      refine lv_iconst (v := 0) hx hb dX9_isProgram_16 (by decide) ?_
      rw [hQ9]
      exact W.zret (v := 0) hx hb hr (by decide) (fun t ht hW => ⟨⟨0, (), rfl, Or.inr (⟨rfl, by first | trivial | omega⟩), by rw [ht]; exact hP, va_K.moved hW.alike hK, hD⟩, hS.F ht⟩) hS.2.2 dX9_isProgram_17
    · skip
      have f_c2 := i_nle c2
      refine lv_iconst (v := 1) hx hb dX9_isProgram_12 (by decide) ?_
      refine lv_goto (tgt := 17) hx hb dX9_isProgram_13 (by decide) ?_
      rw [hQ9]
      exact W.zret (v := 1) hx hb hr (by decide) (fun t ht hW => ⟨⟨1, (), rfl, Or.inl ⟨rfl, by first | trivial | omega⟩, by rw [ht]; exact hP, va_K.moved hW.alike hK, hD⟩, hS.F ht⟩) hS.2.2 dX9_isProgram_17

set_option maxRecDepth 100000 in
set_option maxHeartbeats 4000000 in
/-- isPair -/
theorem c_X9_isPair (l : Launch) (dC : Nat → ClassId) (dI : Nat → Nat → Nat) (h0 : Nat) (p0 : Int32) (p1 : Int32) (jb : Nat) (ji : Nat) (jd : Nat) (je : Nat) (jg : Nat) (qpa : Nat) (pcn : Int32) (ipn : Int32) (jt : Nat) (jr : Nat) (j1 : Nat) (j2 : Nat) (qsa : Nat) (aq0 : Nat) (aq1 : Nat) (aq2 : Nat) (aq3 : Nat) (aq4 : Nat) (aq5 : Nat) (aq6 : Nat) (aacc : Int32) (afees : Int64) (amis : Int32) (abel : Int32) (aref : Int32) (acau : Int32) (sz : Nat) : Met l yX9_isPair wsX9_isPair ({ frames := 1, cells := 0, slots := 0, locals := 21 }) (va_Pc [.ref h0, .int p0, .int p1] (fun U => U.heap.size = sz ∧ va_P (dC, dI) vwCl [eO h0 8 [.ref jb, .ref ji, .ref jd, .ref je, .ref jg, .ref qpa, .int pcn, .int ipn, .ref jt, .ref jr, .ref j1, .ref j2, .ref qsa], eO jb 0 [.ref aq0, .ref aq1, .ref aq2, .ref aq3, .ref aq4, .ref aq5, .ref aq6, .int aacc, .long afees, .int amis, .int abel, .int aref, .int acau]] U.heap ∧ va_K (dC, dI) vwCl [] U ∧ va_D (fun _ => True) [eO h0 8 [.ref jb, .ref ji, .ref jd, .ref je, .ref jg, .ref qpa, .int pcn, .int ipn, .ref jt, .ref jr, .ref j1, .ref j2, .ref qsa], eO jb 0 [.ref aq0, .ref aq1, .ref aq2, .ref aq3, .ref aq4, .ref aq5, .ref aq6, .int aacc, .long afees, .int amis, .int abel, .int aref, .int acau]])) (va_Qi (fun (r : Int32) (_ : Unit) => (r = 1 ∧ 0 ≤ p0.toInt ∧ p0.toInt < aacc.toInt ∧ 0 ≤ p1.toInt ∧ p1.toInt < aacc.toInt) ∨ (r = 0 ∧ (0 : Int) ≤ 0)) (fun (_ : Unit) (t : State) => va_P (dC, dI) vwCl [eO h0 8 [.ref jb, .ref ji, .ref jd, .ref je, .ref jg, .ref qpa, .int pcn, .int ipn, .ref jt, .ref jr, .ref j1, .ref j2, .ref qsa], eO jb 0 [.ref aq0, .ref aq1, .ref aq2, .ref aq3, .ref aq4, .ref aq5, .ref aq6, .int aacc, .long afees, .int amis, .int abel, .int aref, .int acau]] t.heap ∧ va_K (dC, dI) vwCl [] t ∧ va_D (va_A [eO h0 8 [.ref jb, .ref ji, .ref jd, .ref je, .ref jg, .ref qpa, .int pcn, .int ipn, .ref jt, .ref jr, .ref j1, .ref j2, .ref qsa], eO jb 0 [.ref aq0, .ref aq1, .ref aq2, .ref aq3, .ref aq4, .ref aq5, .ref aq6, .int aacc, .long afees, .int amis, .int abel, .int aref, .int acau]] sz) [eO h0 8 [.ref jb, .ref ji, .ref jd, .ref je, .ref jg, .ref qpa, .int pcn, .int ipn, .ref jt, .ref jr, .ref j1, .ref j2, .ref qsa], eO jb 0 [.ref aq0, .ref aq1, .ref aq2, .ref aq3, .ref aq4, .ref aq5, .ref aq6, .int aacc, .long afees, .int amis, .int abel, .int aref, .int acau]]) (va_A [eO h0 8 [.ref jb, .ref ji, .ref jd, .ref je, .ref jg, .ref qpa, .int pcn, .int ipn, .ref jt, .ref jr, .ref j1, .ref j2, .ref qsa], eO jb 0 [.ref aq0, .ref aq1, .ref aq2, .ref aq3, .ref aq4, .ref aq5, .ref aq6, .int aacc, .long afees, .int amis, .int abel, .int aref, .int acau]] sz)) 0 0 (va_A [eO h0 8 [.ref jb, .ref ji, .ref jd, .ref je, .ref jg, .ref qpa, .int pcn, .int ipn, .ref jt, .ref jr, .ref j1, .ref j2, .ref qsa], eO jb 0 [.ref aq0, .ref aq1, .ref aq2, .ref aq3, .ref aq4, .ref aq5, .ref aq6, .int aacc, .long afees, .int amis, .int abel, .int aref, .int acau]] sz) := by
  refine Met.ofW (cc := cX9_isPair) (maxL := 3) (ret := (some .boolean)) (by decide) rfl ?_
  intro p e s m args below meth c s₁ B hml hv
  obtain ⟨rfl, hsz, hP, hK, hD0⟩ := hv
  have hx := B.exec
  have hb := B.bytes
  have hr := B.returns
  have hts := atoms_spec (ws := wsX9_isPair) B.pre
  have hown : s.vm.findClass RX9 = some m.cls := findClass_of_methodNamed B.named
  have hlocks := B.notSynchronized
  subst hsz
  have hD := hD0.self (sz := s.heap.size)
  generalize hAe : va_A [eO h0 8 [.ref jb, .ref ji, .ref jd, .ref je, .ref jg, .ref qpa, .int pcn, .int ipn, .ref jt, .ref jr, .ref j1, .ref j2, .ref qsa], eO jb 0 [.ref aq0, .ref aq1, .ref aq2, .ref aq3, .ref aq4, .ref aq5, .ref aq6, .int aacc, .long afees, .int amis, .int abel, .int aref, .int acau]] s.heap.size = A at hD ⊢
  have hA : ∀ q : Nat, s.heap.size ≤ q → A q := fun q h => by rw [← hAe]; exact Or.inr h
  have hS : va_S A s.heap s.heap [] := va_S.rf
  have hP : va_P (dC, dI) vwCl [eO h0 8 [.ref jb, .ref ji, .ref jd, .ref je, .ref jg, .ref qpa, .int pcn, .int ipn, .ref jt, .ref jr, .ref j1, .ref j2, .ref qsa], eO jb 0 [.ref aq0, .ref aq1, .ref aq2, .ref aq3, .ref aq4, .ref aq5, .ref aq6, .int aacc, .long afees, .int amis, .int abel, .int aref, .int acau]] s.heap := hP
  have hl := lv_entry ([.ref h0, .int p0, .int p1]) (n := 3) (Nat.le_of_ble_eq_true rfl)
  rw [lg_entry_eq]
  generalize (lg_sl ([.ref h0, .int p0, .int p1]) ++ List.replicate (3 - (lg_sl ([.ref h0, .int p0, .int p1])).length) Slot.unset).toArray = ls at hl ⊢
  have hl : lv_has ls 3 [(0, .ref h0), (1, .int p0), (2, .int p1)] := hl
  suffices key9 : ∀ Q9 : State → Prop, Q9 = (MQ below (va_Qi (fun (r : Int32) (_ : Unit) => (r = 1 ∧ 0 ≤ p0.toInt ∧ p0.toInt < aacc.toInt ∧ 0 ≤ p1.toInt ∧ p1.toInt < aacc.toInt) ∨ (r = 0 ∧ (0 : Int) ≤ 0)) (fun (_ : Unit) (t : State) => va_P (dC, dI) vwCl [eO h0 8 [.ref jb, .ref ji, .ref jd, .ref je, .ref jg, .ref qpa, .int pcn, .int ipn, .ref jt, .ref jr, .ref j1, .ref j2, .ref qsa], eO jb 0 [.ref aq0, .ref aq1, .ref aq2, .ref aq3, .ref aq4, .ref aq5, .ref aq6, .int aacc, .long afees, .int amis, .int abel, .int aref, .int acau]] t.heap ∧ va_K (dC, dI) vwCl [] t ∧ va_D A [eO h0 8 [.ref jb, .ref ji, .ref jd, .ref je, .ref jg, .ref qpa, .int pcn, .int ipn, .ref jt, .ref jr, .ref j1, .ref j2, .ref qsa], eO jb 0 [.ref aq0, .ref aq1, .ref aq2, .ref aq3, .ref aq4, .ref aq5, .ref aq6, .int aacc, .long afees, .int amis, .int abel, .int aref, .int acau]]) A) (([.ref h0, .int p0, .int p1] : List Value).toArray) s 0 0 A) → W p l e ({ frames := 1, cells := 0, slots := 0, locals := 21 }) s m (([.ref h0, .int p0, .int p1] : List Value).toArray) below meth c s.heap [] 0 0 Q9 (F0 m 0 ls []) from key9 _ rfl
  intro Q9 hQ9
  have k_0 : (0 : Int32).toInt = 0 := by decide
  have k_1 : (1 : Int32).toInt = 1 := by decide
  refine lv_aload_n hx hb dX9_isPair_0 rfl (lv_at hl 0 rfl) ?_
  refine va_get (D := (dC, dI)) (ci := 8) (v := .ref jb) (C := RX9) (T := TX9) (N := 13) hx hb hts (fun w h => List.mem_cons_of_mem _ (inlX9 w h)) hown hK hP 0 rfl rfl 0 (by decide) (hts (.fieldLink RX9 12 "ClearingGates" "books" "LClearingGates$Books;") (List.mem_cons_of_mem _ mw_208)) (fun _ h9 => h9) rfl dX9_isPair_1 ?_
  refine lv_iload_n hx hb dX9_isPair_4 rfl (lv_at hl 1 rfl) ?_
  obtain ⟨hPc, hDc, hFc, hCm, hNw⟩ := C_s (wc := [eO jb 0 [.ref aq0, .ref aq1, .ref aq2, .ref aq3, .ref aq4, .ref aq5, .ref aq6, .int aacc, .long afees, .int amis, .int abel, .int aref, .int acau]]) hP hD hS hA [(1, 1)] 2 rfl (by decide +kernel) rfl
  have hKc := K_s (tys' := []) hK [] rfl
  refine va_calli (va_runV (As := [.int p0]) (rest := []) ⟨hx, hb, hml, hown, hts⟩ (c_X0_has l dC dI jb p0 (.ref aq0) (.ref aq1) (.ref aq2) (.ref aq3) (.ref aq4) (.ref aq5) (.ref aq6) aacc (.long afees) (.int amis) (.int abel) (.int aref) (.int acau) s.heap.size) (cwV 1 hts gX9_isPair_X0_has rfl rfl rfl (by decide +kernel) ⟨Nat.le_of_ble_eq_true rfl, Nat.le_of_ble_eq_true rfl⟩) ⟨fun a U g mk q => by obtain ⟨q0, q1, qP, qK, qD⟩ := q; exact ⟨q0, q1, qP, va_K.moved (u := U) (U := U.calling g mk a) (Vm.Alike.refl U.vm) qK, qD⟩, va_recv (s := s) (q := (RX0, TX0, 13)) hKc hPc (ci := 0) (q0 := 0) rfl rfl, fun U hU hW => ⟨rfl, by rw [hU], by rw [hU]; exact hPc, va_K.moved hW.alike hKc, hDc.weaken (fun _ _ _ _ => trivial)⟩⟩ rfl rfl hl.1 rfl (lv_room (Nat.le_of_ble_eq_true rfl)) dX9_isPair_5 ⟨Nat.le_of_ble_eq_true rfl, Nat.le_of_ble_eq_true rfl⟩) hS (fun q _ h => hFc q h) hFc (fun r1 u t H1 locs ht hvm hw hB hz1 hk1 hS => ?_)
  obtain ⟨hP1, hK1, hD1⟩ := hB
  rw [ht] at hP1
  have hK1 := va_K.moved hvm.symm hK1
  try dsimp only at hw
  obtain ⟨hP, hD⟩ := J_s (wL := [eO h0 8 [.ref jb, .ref ji, .ref jd, .ref je, .ref jg, .ref qpa, .int pcn, .int ipn, .ref jt, .ref jr, .ref j1, .ref j2, .ref qsa], eO jb 0 [.ref aq0, .ref aq1, .ref aq2, .ref aq3, .ref aq4, .ref aq5, .ref aq6, .int aacc, .long afees, .int amis, .int abel, .int aref, .int acau]]) hP hD [(1, 1)] [(0, 1)] hCm hNw (by decide +kernel) hk1 hFc hP1 hD1 rfl
  have hK := KJ_s (tys' := []) hK hK1 [] rfl
  generalize H1 = H at hP hS ⊢
  rcases hw with ⟨e_r1, f_r1⟩ | ⟨e_r1, f_r1⟩
  · subst e_r1
    refine lv_if_eq (tgt := 31) hx hb dX9_isPair_8 (by decide) (fun c2 => absurd c2 (by decide)) (fun c2 => ?_)
    refine lv_aload_n hx hb dX9_isPair_11 rfl (lv_at hl 0 rfl) ?_
    refine va_get (D := (dC, dI)) (ci := 8) (v := .ref jb) (C := RX9) (T := TX9) (N := 13) hx hb hts (fun w h => List.mem_cons_of_mem _ (inlX9 w h)) hown hK hP 0 rfl rfl 0 (by decide) (hts (.fieldLink RX9 12 "ClearingGates" "books" "LClearingGates$Books;") (List.mem_cons_of_mem _ mw_208)) (fun _ h9 => h9) rfl dX9_isPair_12 ?_
    refine lv_iload_n hx hb dX9_isPair_15 rfl (lv_at hl 2 rfl) ?_
    obtain ⟨hPc, hDc, hFc, hCm, hNw⟩ := C_s (wc := [eO jb 0 [.ref aq0, .ref aq1, .ref aq2, .ref aq3, .ref aq4, .ref aq5, .ref aq6, .int aacc, .long afees, .int amis, .int abel, .int aref, .int acau]]) hP hD hS hA [(1, 1)] 2 rfl (by decide +kernel) rfl
    have hKc := K_s (tys' := []) hK [] rfl
    refine va_calli (va_runV (As := [.int p1]) (rest := []) ⟨hx, hb, hml, hown, hts⟩ (c_X0_has l dC dI jb p1 (.ref aq0) (.ref aq1) (.ref aq2) (.ref aq3) (.ref aq4) (.ref aq5) (.ref aq6) aacc (.long afees) (.int amis) (.int abel) (.int aref) (.int acau) H.size) (cwV 1 hts gX9_isPair_X0_has rfl rfl rfl (by decide +kernel) ⟨Nat.le_of_ble_eq_true rfl, Nat.le_of_ble_eq_true rfl⟩) ⟨fun a U g mk q => by obtain ⟨q0, q1, qP, qK, qD⟩ := q; exact ⟨q0, q1, qP, va_K.moved (u := U) (U := U.calling g mk a) (Vm.Alike.refl U.vm) qK, qD⟩, va_recv (s := s) (q := (RX0, TX0, 13)) hKc hPc (ci := 0) (q0 := 0) rfl rfl, fun U hU hW => ⟨rfl, by rw [hU], by rw [hU]; exact hPc, va_K.moved hW.alike hKc, hDc.weaken (fun _ _ _ _ => trivial)⟩⟩ rfl rfl hl.1 rfl (lv_room (Nat.le_of_ble_eq_true rfl)) dX9_isPair_16 ⟨Nat.le_of_ble_eq_true rfl, Nat.le_of_ble_eq_true rfl⟩) hS (fun q _ h => hFc q h) hFc (fun r3 u t H1 locs ht hvm hw hB hz1 hk1 hS => ?_)
    obtain ⟨hP1, hK1, hD1⟩ := hB
    rw [ht] at hP1
    have hK1 := va_K.moved hvm.symm hK1
    try dsimp only at hw
    obtain ⟨hP, hD⟩ := J_s (wL := [eO h0 8 [.ref jb, .ref ji, .ref jd, .ref je, .ref jg, .ref qpa, .int pcn, .int ipn, .ref jt, .ref jr, .ref j1, .ref j2, .ref qsa], eO jb 0 [.ref aq0, .ref aq1, .ref aq2, .ref aq3, .ref aq4, .ref aq5, .ref aq6, .int aacc, .long afees, .int amis, .int abel, .int aref, .int acau]]) hP hD [(1, 1)] [(0, 1)] hCm hNw (by decide +kernel) hk1 hFc hP1 hD1 rfl
    have hK := KJ_s (tys' := []) hK hK1 [] rfl
    generalize H1 = H at hP hS ⊢
    rcases hw with ⟨e_r3, f_r3⟩ | ⟨e_r3, f_r3⟩
    · subst e_r3
      refine lv_if_eq (tgt := 31) hx hb dX9_isPair_19 (by decide) (fun c4 => absurd c4 (by decide)) (fun c4 => ?_)
      refine lv_iload_n hx hb dX9_isPair_22 rfl (lv_at hl 1 rfl) ?_
      refine lv_iload_n hx hb dX9_isPair_23 rfl (lv_at hl 2 rfl) ?_
      refine lv_icmp_eq (tgt := 31) hx hb dX9_isPair_24 (by decide) (fun c5 => ?_) (fun c5 => ?_)
      · skip
        have f_c5 := i_eq c5
        refine lv_iconst (v := 0) hx hb dX9_isPair_31 (by decide) ?_
        rw [hQ9]
        exact W.zret (v := 0) hx hb hr (by decide) (fun t ht hW => ⟨⟨0, (), rfl, Or.inr (⟨rfl, by first | trivial | omega⟩), by rw [ht]; exact hP, va_K.moved hW.alike hK, hD⟩, hS.F ht⟩) hS.2.2 dX9_isPair_32
      · skip
        have f_c5 := i_ne c5
        refine lv_iconst (v := 1) hx hb dX9_isPair_27 (by decide) ?_
        refine lv_goto (tgt := 32) hx hb dX9_isPair_28 (by decide) ?_
        rw [hQ9]
        exact W.zret (v := 1) hx hb hr (by decide) (fun t ht hW => ⟨⟨1, (), rfl, Or.inl ⟨rfl, by first | trivial | omega⟩, by rw [ht]; exact hP, va_K.moved hW.alike hK, hD⟩, hS.F ht⟩) hS.2.2 dX9_isPair_32
    · subst e_r3
      refine lv_if_eq (tgt := 31) hx hb dX9_isPair_19 (by decide) (fun c6 => ?_) (fun c6 => absurd (by decide) c6)
      refine lv_iconst (v := 0) hx hb dX9_isPair_31 (by decide) ?_
      rw [hQ9]
      exact W.zret (v := 0) hx hb hr (by decide) (fun t ht hW => ⟨⟨0, (), rfl, Or.inr (⟨rfl, by first | trivial | omega⟩), by rw [ht]; exact hP, va_K.moved hW.alike hK, hD⟩, hS.F ht⟩) hS.2.2 dX9_isPair_32
  · subst e_r1
    refine lv_if_eq (tgt := 31) hx hb dX9_isPair_8 (by decide) (fun c7 => ?_) (fun c7 => absurd (by decide) c7)
    refine lv_iconst (v := 0) hx hb dX9_isPair_31 (by decide) ?_
    rw [hQ9]
    exact W.zret (v := 0) hx hb hr (by decide) (fun t ht hW => ⟨⟨0, (), rfl, Or.inr (⟨rfl, by first | trivial | omega⟩), by rw [ht]; exact hP, va_K.moved hW.alike hK, hD⟩, hS.F ht⟩) hS.2.2 dX9_isPair_32

set_option maxRecDepth 100000 in
set_option maxHeartbeats 4000000 in
/-- isOfWould -/
theorem c_X9_isOfWould (l : Launch) (dC : Nat → ClassId) (dI : Nat → Nat → Nat) (h0 : Nat) (p0 : Int32) (jb : Nat) (ji : Nat) (jd : Nat) (je : Nat) (jg : Nat) (qpa : Nat) (pcn : Int32) (ipn : Int32) (jt : Nat) (jr : Nat) (j1 : Nat) (j2 : Nat) (qsa : Nat) (aq0 : Nat) (aq1 : Nat) (aq2 : Nat) (aq3 : Nat) (aq4 : Nat) (aq5 : Nat) (aq6 : Nat) (aacc : Int32) (afees : Int64) (amis : Int32) (abel : Int32) (aref : Int32) (acau : Int32) (sz : Nat) (va1 : 0 ≤ aacc.toInt) (va2 : aacc.toInt ≤ 8) : Met l yX9_isOfWould wsX9_isOfWould ({ frames := 1, cells := 0, slots := 0, locals := 21 }) (va_Pc [.ref h0, .int p0] (fun U => U.heap.size = sz ∧ va_P (dC, dI) vwCl [eO h0 8 [.ref jb, .ref ji, .ref jd, .ref je, .ref jg, .ref qpa, .int pcn, .int ipn, .ref jt, .ref jr, .ref j1, .ref j2, .ref qsa], eO jb 0 [.ref aq0, .ref aq1, .ref aq2, .ref aq3, .ref aq4, .ref aq5, .ref aq6, .int aacc, .long afees, .int amis, .int abel, .int aref, .int acau]] U.heap ∧ va_K (dC, dI) vwCl [] U ∧ va_D (fun _ => True) [eO h0 8 [.ref jb, .ref ji, .ref jd, .ref je, .ref jg, .ref qpa, .int pcn, .int ipn, .ref jt, .ref jr, .ref j1, .ref j2, .ref qsa], eO jb 0 [.ref aq0, .ref aq1, .ref aq2, .ref aq3, .ref aq4, .ref aq5, .ref aq6, .int aacc, .long afees, .int amis, .int abel, .int aref, .int acau]])) (va_Qi (fun (r : Int32) (_ : Unit) => (r = 1 ∧ 0 ≤ p0.toInt ∧ (p0.toInt ≤ 3 ∨ (10 ≤ p0.toInt ∧ p0.toInt < 10 + aacc.toInt))) ∨ (r = 0 ∧ (0 : Int) ≤ 0)) (fun (_ : Unit) (t : State) => va_P (dC, dI) vwCl [eO h0 8 [.ref jb, .ref ji, .ref jd, .ref je, .ref jg, .ref qpa, .int pcn, .int ipn, .ref jt, .ref jr, .ref j1, .ref j2, .ref qsa], eO jb 0 [.ref aq0, .ref aq1, .ref aq2, .ref aq3, .ref aq4, .ref aq5, .ref aq6, .int aacc, .long afees, .int amis, .int abel, .int aref, .int acau]] t.heap ∧ va_K (dC, dI) vwCl [] t ∧ va_D (va_A [eO h0 8 [.ref jb, .ref ji, .ref jd, .ref je, .ref jg, .ref qpa, .int pcn, .int ipn, .ref jt, .ref jr, .ref j1, .ref j2, .ref qsa], eO jb 0 [.ref aq0, .ref aq1, .ref aq2, .ref aq3, .ref aq4, .ref aq5, .ref aq6, .int aacc, .long afees, .int amis, .int abel, .int aref, .int acau]] sz) [eO h0 8 [.ref jb, .ref ji, .ref jd, .ref je, .ref jg, .ref qpa, .int pcn, .int ipn, .ref jt, .ref jr, .ref j1, .ref j2, .ref qsa], eO jb 0 [.ref aq0, .ref aq1, .ref aq2, .ref aq3, .ref aq4, .ref aq5, .ref aq6, .int aacc, .long afees, .int amis, .int abel, .int aref, .int acau]]) (va_A [eO h0 8 [.ref jb, .ref ji, .ref jd, .ref je, .ref jg, .ref qpa, .int pcn, .int ipn, .ref jt, .ref jr, .ref j1, .ref j2, .ref qsa], eO jb 0 [.ref aq0, .ref aq1, .ref aq2, .ref aq3, .ref aq4, .ref aq5, .ref aq6, .int aacc, .long afees, .int amis, .int abel, .int aref, .int acau]] sz)) 0 0 (va_A [eO h0 8 [.ref jb, .ref ji, .ref jd, .ref je, .ref jg, .ref qpa, .int pcn, .int ipn, .ref jt, .ref jr, .ref j1, .ref j2, .ref qsa], eO jb 0 [.ref aq0, .ref aq1, .ref aq2, .ref aq3, .ref aq4, .ref aq5, .ref aq6, .int aacc, .long afees, .int amis, .int abel, .int aref, .int acau]] sz) := by
  refine Met.ofW (cc := cX9_isOfWould) (maxL := 2) (ret := (some .boolean)) (by decide) rfl ?_
  intro p e s m args below meth c s₁ B hml hv
  obtain ⟨rfl, hsz, hP, hK, hD0⟩ := hv
  have hx := B.exec
  have hb := B.bytes
  have hr := B.returns
  have hts := atoms_spec (ws := wsX9_isOfWould) B.pre
  have hown : s.vm.findClass RX9 = some m.cls := findClass_of_methodNamed B.named
  have hlocks := B.notSynchronized
  subst hsz
  have hD := hD0.self (sz := s.heap.size)
  generalize hAe : va_A [eO h0 8 [.ref jb, .ref ji, .ref jd, .ref je, .ref jg, .ref qpa, .int pcn, .int ipn, .ref jt, .ref jr, .ref j1, .ref j2, .ref qsa], eO jb 0 [.ref aq0, .ref aq1, .ref aq2, .ref aq3, .ref aq4, .ref aq5, .ref aq6, .int aacc, .long afees, .int amis, .int abel, .int aref, .int acau]] s.heap.size = A at hD ⊢
  have hA : ∀ q : Nat, s.heap.size ≤ q → A q := fun q h => by rw [← hAe]; exact Or.inr h
  have hS : va_S A s.heap s.heap [] := va_S.rf
  have hP : va_P (dC, dI) vwCl [eO h0 8 [.ref jb, .ref ji, .ref jd, .ref je, .ref jg, .ref qpa, .int pcn, .int ipn, .ref jt, .ref jr, .ref j1, .ref j2, .ref qsa], eO jb 0 [.ref aq0, .ref aq1, .ref aq2, .ref aq3, .ref aq4, .ref aq5, .ref aq6, .int aacc, .long afees, .int amis, .int abel, .int aref, .int acau]] s.heap := hP
  have hl := lv_entry ([.ref h0, .int p0]) (n := 2) (Nat.le_of_ble_eq_true rfl)
  rw [lg_entry_eq]
  generalize (lg_sl ([.ref h0, .int p0]) ++ List.replicate (2 - (lg_sl ([.ref h0, .int p0])).length) Slot.unset).toArray = ls at hl ⊢
  have hl : lv_has ls 2 [(0, .ref h0), (1, .int p0)] := hl
  suffices key9 : ∀ Q9 : State → Prop, Q9 = (MQ below (va_Qi (fun (r : Int32) (_ : Unit) => (r = 1 ∧ 0 ≤ p0.toInt ∧ (p0.toInt ≤ 3 ∨ (10 ≤ p0.toInt ∧ p0.toInt < 10 + aacc.toInt))) ∨ (r = 0 ∧ (0 : Int) ≤ 0)) (fun (_ : Unit) (t : State) => va_P (dC, dI) vwCl [eO h0 8 [.ref jb, .ref ji, .ref jd, .ref je, .ref jg, .ref qpa, .int pcn, .int ipn, .ref jt, .ref jr, .ref j1, .ref j2, .ref qsa], eO jb 0 [.ref aq0, .ref aq1, .ref aq2, .ref aq3, .ref aq4, .ref aq5, .ref aq6, .int aacc, .long afees, .int amis, .int abel, .int aref, .int acau]] t.heap ∧ va_K (dC, dI) vwCl [] t ∧ va_D A [eO h0 8 [.ref jb, .ref ji, .ref jd, .ref je, .ref jg, .ref qpa, .int pcn, .int ipn, .ref jt, .ref jr, .ref j1, .ref j2, .ref qsa], eO jb 0 [.ref aq0, .ref aq1, .ref aq2, .ref aq3, .ref aq4, .ref aq5, .ref aq6, .int aacc, .long afees, .int amis, .int abel, .int aref, .int acau]]) A) (([.ref h0, .int p0] : List Value).toArray) s 0 0 A) → W p l e ({ frames := 1, cells := 0, slots := 0, locals := 21 }) s m (([.ref h0, .int p0] : List Value).toArray) below meth c s.heap [] 0 0 Q9 (F0 m 0 ls []) from key9 _ rfl
  intro Q9 hQ9
  have k_0 : (0 : Int32).toInt = 0 := by decide
  have k_1 : (1 : Int32).toInt = 1 := by decide
  have k_3 : (3 : Int32).toInt = 3 := by decide
  have k_10 : (10 : Int32).toInt = 10 := by decide
  have b_p0 : p0.toInt ≤ 2147483647 := by have := Int32.toInt_lt p0; omega
  refine lv_iload_n hx hb dX9_isOfWould_0 rfl (lv_at hl 1 rfl) ?_
  refine lv_bipush (v := 10) hx hb dX9_isOfWould_1 (by decide) ?_
  refine lv_icmp_lt (tgt := 18) hx hb dX9_isOfWould_3 (by decide) (fun c1 => ?_) (fun c1 => ?_)
  · skip
    have f_c1 := i_lt c1
    refine lv_iload_n hx hb dX9_isOfWould_18 rfl (lv_at hl 1 rfl) ?_
    refine lv_iconst (v := 3) hx hb dX9_isOfWould_19 (by decide) ?_
    obtain ⟨hPc, hDc, hFc, hCm, hNw⟩ := C_s (wc := []) hP hD hS hA [] 2 rfl (by decide +kernel) rfl
    have hKc := K_s (tys' := []) hK [] rfl
    refine va_calli (va_runS (As := [.int p0, .int 3]) (rest := []) ⟨hx, hb, hml, hown, hts⟩ (c_X9_isWithin l dC dI p0 3 s.heap.size) (va_cwS 2 hts gX9_isOfWould_X9_isWithin rfl rfl rfl (by decide +kernel) ⟨Nat.le_of_ble_eq_true rfl, Nat.le_of_ble_eq_true rfl⟩) ⟨fun a U g mk q => by obtain ⟨q0, q1, qP, qK, qD⟩ := q; exact ⟨q0, q1, qP, va_K.moved (u := U) (U := U.calling g mk a) (Vm.Alike.refl U.vm) qK, qD⟩, fun U hU hW => ⟨rfl, by rw [hU], by rw [hU]; exact hPc, va_K.moved hW.alike hKc, hDc.weaken (fun _ _ _ _ => trivial)⟩⟩ rfl rfl hl.1 rfl (lv_room (Nat.le_of_ble_eq_true rfl)) dX9_isOfWould_20 ⟨Nat.le_of_ble_eq_true rfl, Nat.le_of_ble_eq_true rfl⟩) hS (fun q _ h => hFc q h) hFc (fun r2 u t H1 locs ht hvm hw hB hz1 hk1 hS => ?_)
    obtain ⟨hP1, hK1, hD1⟩ := hB
    rw [ht] at hP1
    have hK1 := va_K.moved hvm.symm hK1
    try dsimp only at hw
    obtain ⟨hP, hD⟩ := J_s (wL := [eO h0 8 [.ref jb, .ref ji, .ref jd, .ref je, .ref jg, .ref qpa, .int pcn, .int ipn, .ref jt, .ref jr, .ref j1, .ref j2, .ref qsa], eO jb 0 [.ref aq0, .ref aq1, .ref aq2, .ref aq3, .ref aq4, .ref aq5, .ref aq6, .int aacc, .long afees, .int amis, .int abel, .int aref, .int acau]]) hP hD [] [(0, 2)] hCm hNw (by decide +kernel) hk1 hFc hP1 hD1 rfl
    have hK := KJ_s (tys' := []) hK hK1 [] rfl
    generalize H1 = H at hP hS ⊢
    rcases hw with ⟨e_r2, f_r2⟩ | ⟨e_r2, f_r2⟩
    · subst e_r2
      rw [hQ9]
      exact W.zret (v := 1) hx hb hr (by decide) (fun t ht hW => ⟨⟨1, (), rfl, Or.inl ⟨rfl, by first | trivial | omega⟩, by rw [ht]; exact hP, va_K.moved hW.alike hK, hD⟩, hS.F ht⟩) hS.2.2 dX9_isOfWould_23
    · subst e_r2
      rw [hQ9]
      exact W.zret (v := 0) hx hb hr (by decide) (fun t ht hW => ⟨⟨0, (), rfl, Or.inr (⟨rfl, by first | trivial | omega⟩), by rw [ht]; exact hP, va_K.moved hW.alike hK, hD⟩, hS.F ht⟩) hS.2.2 dX9_isOfWould_23
  · skip
    have f_c1 := i_nlt c1
    refine lv_aload_n hx hb dX9_isOfWould_6 rfl (lv_at hl 0 rfl) ?_
    refine va_get (D := (dC, dI)) (ci := 8) (v := .ref jb) (C := RX9) (T := TX9) (N := 13) hx hb hts (fun w h => List.mem_cons_of_mem _ (inlX9 w h)) hown hK hP 0 rfl rfl 0 (by decide) (hts (.fieldLink RX9 12 "ClearingGates" "books" "LClearingGates$Books;") (List.mem_cons_of_mem _ mw_208)) (fun _ h9 => h9) rfl dX9_isOfWould_7 ?_
    refine lv_iload_n hx hb dX9_isOfWould_10 rfl (lv_at hl 1 rfl) ?_
    refine lv_bipush (v := 10) hx hb dX9_isOfWould_11 (by decide) ?_
    refine lv_isub hx hb dX9_isOfWould_13 ?_
    refine lv_topi (fun z3 e_z3 => ?_)
    (first | have t_z3 := i_sub e_z3 (by omega) (by omega) | skip)
    obtain ⟨hPc, hDc, hFc, hCm, hNw⟩ := C_s (wc := [eO jb 0 [.ref aq0, .ref aq1, .ref aq2, .ref aq3, .ref aq4, .ref aq5, .ref aq6, .int aacc, .long afees, .int amis, .int abel, .int aref, .int acau]]) hP hD hS hA [(1, 1)] 2 rfl (by decide +kernel) rfl
    have hKc := K_s (tys' := []) hK [] rfl
    refine va_calli (va_runV (As := [.int z3]) (rest := []) ⟨hx, hb, hml, hown, hts⟩ (c_X0_has l dC dI jb z3 (.ref aq0) (.ref aq1) (.ref aq2) (.ref aq3) (.ref aq4) (.ref aq5) (.ref aq6) aacc (.long afees) (.int amis) (.int abel) (.int aref) (.int acau) s.heap.size) (cwV 1 hts gX9_isOfWould_X0_has rfl rfl rfl (by decide +kernel) ⟨Nat.le_of_ble_eq_true rfl, Nat.le_of_ble_eq_true rfl⟩) ⟨fun a U g mk q => by obtain ⟨q0, q1, qP, qK, qD⟩ := q; exact ⟨q0, q1, qP, va_K.moved (u := U) (U := U.calling g mk a) (Vm.Alike.refl U.vm) qK, qD⟩, va_recv (s := s) (q := (RX0, TX0, 13)) hKc hPc (ci := 0) (q0 := 0) rfl rfl, fun U hU hW => ⟨rfl, by rw [hU], by rw [hU]; exact hPc, va_K.moved hW.alike hKc, hDc.weaken (fun _ _ _ _ => trivial)⟩⟩ rfl rfl hl.1 rfl (lv_room (Nat.le_of_ble_eq_true rfl)) dX9_isOfWould_14 ⟨Nat.le_of_ble_eq_true rfl, Nat.le_of_ble_eq_true rfl⟩) hS (fun q _ h => hFc q h) hFc (fun r4 u t H1 locs ht hvm hw hB hz1 hk1 hS => ?_)
    obtain ⟨hP1, hK1, hD1⟩ := hB
    rw [ht] at hP1
    have hK1 := va_K.moved hvm.symm hK1
    try dsimp only at hw
    obtain ⟨hP, hD⟩ := J_s (wL := [eO h0 8 [.ref jb, .ref ji, .ref jd, .ref je, .ref jg, .ref qpa, .int pcn, .int ipn, .ref jt, .ref jr, .ref j1, .ref j2, .ref qsa], eO jb 0 [.ref aq0, .ref aq1, .ref aq2, .ref aq3, .ref aq4, .ref aq5, .ref aq6, .int aacc, .long afees, .int amis, .int abel, .int aref, .int acau]]) hP hD [(1, 1)] [(0, 1)] hCm hNw (by decide +kernel) hk1 hFc hP1 hD1 rfl
    have hK := KJ_s (tys' := []) hK hK1 [] rfl
    generalize H1 = H at hP hS ⊢
    rcases hw with ⟨e_r4, f_r4⟩ | ⟨e_r4, f_r4⟩
    · subst e_r4
      rw [hQ9]
      exact W.zret (v := 1) hx hb hr (by decide) (fun t ht hW => ⟨⟨1, (), rfl, Or.inl ⟨rfl, by first | trivial | omega⟩, by rw [ht]; exact hP, va_K.moved hW.alike hK, hD⟩, hS.F ht⟩) hS.2.2 dX9_isOfWould_17
    · subst e_r4
      rw [hQ9]
      exact W.zret (v := 0) hx hb hr (by decide) (fun t ht hW => ⟨⟨0, (), rfl, Or.inr (⟨rfl, by first | trivial | omega⟩), by rw [ht]; exact hP, va_K.moved hW.alike hK, hD⟩, hS.F ht⟩) hS.2.2 dX9_isOfWould_17

set_option maxRecDepth 100000 in
set_option maxHeartbeats 4000000 in
/-- account -/
theorem c_X9_account (l : Launch) (dC : Nat → ClassId) (dI : Nat → Nat → Nat) (h0 : Nat) (p0 : Int32) (p1 : Int32) (jb : Nat) (ji : Nat) (jd : Nat) (je : Nat) (jg : Nat) (qpa : Nat) (pcn : Int32) (ipn : Int32) (jt : Nat) (jr : Nat) (j1 : Nat) (j2 : Nat) (qsa : Nat) (aq0 : Nat) (aq1 : Nat) (aq2 : Nat) (aq3 : Nat) (aq4 : Nat) (aq5 : Nat) (aq6 : Nat) (aacc : Int32) (afees : Int64) (amis : Int32) (abel : Int32) (aref : Int32) (acau : Int32) (ak0 : ClassId) (ag0 : Nat → Int32) (ak1 : ClassId) (ag1 : Nat → Int32) (ak2 : ClassId) (ag2 : Nat → Int32) (ak3 : ClassId) (ag3 : Nat → Int32) (ak4 : ClassId) (ag4 : Nat → Int32) (ak5 : ClassId) (ag5 : Nat → Int32) (ak6 : ClassId) (ag6 : Nat → Int32) (sp : Nat → Int32) (sz : Nat) (va1 : 0 ≤ aacc.toInt) (va2 : aacc.toInt ≤ 8) (hbs : Bs sp ag0 ag2 ag3 aacc) : Met l yX9_account wsX9_account ({ frames := 1, cells := 0, slots := 0, locals := 23 }) (va_Pc [.ref h0, .int p0, .int p1] (fun U => U.heap.size = sz ∧ va_P (dC, dI) vwCl [eO h0 8 [.ref jb, .ref ji, .ref jd, .ref je, .ref jg, .ref qpa, .int pcn, .int ipn, .ref jt, .ref jr, .ref j1, .ref j2, .ref qsa], eO jb 0 [.ref aq0, .ref aq1, .ref aq2, .ref aq3, .ref aq4, .ref aq5, .ref aq6, .int aacc, .long afees, .int amis, .int abel, .int aref, .int acau], eI aq0 ak0 8 ag0, eI aq1 ak1 8 ag1, eI aq2 ak2 8 ag2, eI aq3 ak3 8 ag3, eI aq4 ak4 8 ag4, eI aq5 ak5 8 ag5, eI aq6 ak6 8 ag6] U.heap ∧ va_K (dC, dI) vwCl [(ak0, .int), (ak1, .int), (ak2, .int), (ak3, .boolean), (ak4, .int), (ak5, .int), (ak6, .int)] U ∧ va_D (fun _ => True) [eO h0 8 [.ref jb, .ref ji, .ref jd, .ref je, .ref jg, .ref qpa, .int pcn, .int ipn, .ref jt, .ref jr, .ref j1, .ref j2, .ref qsa], eO jb 0 [.ref aq0, .ref aq1, .ref aq2, .ref aq3, .ref aq4, .ref aq5, .ref aq6, .int aacc, .long afees, .int amis, .int abel, .int aref, .int acau], eI aq0 ak0 8 ag0, eI aq1 ak1 8 ag1, eI aq2 ak2 8 ag2, eI aq3 ak3 8 ag3, eI aq4 ak4 8 ag4, eI aq5 ak5 8 ag5, eI aq6 ak6 8 ag6])) (va_Qi (fun (r : Int32) (_ : Unit) => (r.toInt = -2 ∧ ¬(0 ≤ p0.toInt ∧ p0.toInt < 5 ∧ 0 ≤ p1.toInt ∧ p1.toInt ≤ 1000000000)) ∨ ((0 ≤ p0.toInt ∧ p0.toInt < 5 ∧ 0 ≤ p1.toInt ∧ p1.toInt ≤ 1000000000) ∧ r.toInt = -4 ∧ aacc.toInt = 8) ∨ ((0 ≤ p0.toInt ∧ p0.toInt < 5 ∧ 0 ≤ p1.toInt ∧ p1.toInt ≤ 1000000000) ∧ r.toInt = aacc.toInt ∧ aacc.toInt < 8)) (fun (_ : Unit) (t : State) => ∃ (ag0' : Nat → Int32), ∃ (ag1' : Nat → Int32), ∃ (ag2' : Nat → Int32), ∃ (ag3' : Nat → Int32), ∃ (ag4' : Nat → Int32), ∃ (ag5' : Nat → Int32), ∃ (ag6' : Nat → Int32), ∃ (aacc' : Int32), (0 ≤ aacc'.toInt) ∧ (aacc'.toInt ≤ 8) ∧ (((0 ≤ p0.toInt ∧ p0.toInt < 5 ∧ 0 ≤ p1.toInt ∧ p1.toInt ≤ 1000000000) ∧ aacc.toInt < 8 ∧ aacc'.toInt = aacc.toInt + 1) ∨ (¬((0 ≤ p0.toInt ∧ p0.toInt < 5 ∧ 0 ≤ p1.toInt ∧ p1.toInt ≤ 1000000000) ∧ aacc.toInt < 8) ∧ aacc'.toInt = aacc.toInt)) ∧ (Bs (pacc sp p0 p1) ag0' ag2' ag3' aacc') ∧ va_P (dC, dI) vwCl [eO h0 8 [.ref jb, .ref ji, .ref jd, .ref je, .ref jg, .ref qpa, .int pcn, .int ipn, .ref jt, .ref jr, .ref j1, .ref j2, .ref qsa], eO jb 0 [.ref aq0, .ref aq1, .ref aq2, .ref aq3, .ref aq4, .ref aq5, .ref aq6, .int aacc', .long afees, .int amis, .int abel, .int aref, .int acau], eI aq0 ak0 8 (ag0'), eI aq1 ak1 8 (ag1'), eI aq2 ak2 8 (ag2'), eI aq3 ak3 8 (ag3'), eI aq4 ak4 8 (ag4'), eI aq5 ak5 8 (ag5'), eI aq6 ak6 8 (ag6')] t.heap ∧ va_K (dC, dI) vwCl [(ak0, .int), (ak1, .int), (ak2, .int), (ak3, .boolean), (ak4, .int), (ak5, .int), (ak6, .int)] t ∧ va_D (va_A [eO h0 8 [.ref jb, .ref ji, .ref jd, .ref je, .ref jg, .ref qpa, .int pcn, .int ipn, .ref jt, .ref jr, .ref j1, .ref j2, .ref qsa], eO jb 0 [.ref aq0, .ref aq1, .ref aq2, .ref aq3, .ref aq4, .ref aq5, .ref aq6, .int aacc, .long afees, .int amis, .int abel, .int aref, .int acau], eI aq0 ak0 8 ag0, eI aq1 ak1 8 ag1, eI aq2 ak2 8 ag2, eI aq3 ak3 8 ag3, eI aq4 ak4 8 ag4, eI aq5 ak5 8 ag5, eI aq6 ak6 8 ag6] sz) [eO h0 8 [.ref jb, .ref ji, .ref jd, .ref je, .ref jg, .ref qpa, .int pcn, .int ipn, .ref jt, .ref jr, .ref j1, .ref j2, .ref qsa], eO jb 0 [.ref aq0, .ref aq1, .ref aq2, .ref aq3, .ref aq4, .ref aq5, .ref aq6, .int aacc', .long afees, .int amis, .int abel, .int aref, .int acau], eI aq0 ak0 8 (ag0'), eI aq1 ak1 8 (ag1'), eI aq2 ak2 8 (ag2'), eI aq3 ak3 8 (ag3'), eI aq4 ak4 8 (ag4'), eI aq5 ak5 8 (ag5'), eI aq6 ak6 8 (ag6')]) (va_A [eO h0 8 [.ref jb, .ref ji, .ref jd, .ref je, .ref jg, .ref qpa, .int pcn, .int ipn, .ref jt, .ref jr, .ref j1, .ref j2, .ref qsa], eO jb 0 [.ref aq0, .ref aq1, .ref aq2, .ref aq3, .ref aq4, .ref aq5, .ref aq6, .int aacc, .long afees, .int amis, .int abel, .int aref, .int acau], eI aq0 ak0 8 ag0, eI aq1 ak1 8 ag1, eI aq2 ak2 8 ag2, eI aq3 ak3 8 ag3, eI aq4 ak4 8 ag4, eI aq5 ak5 8 ag5, eI aq6 ak6 8 ag6] sz)) 0 0 (va_A [eO h0 8 [.ref jb, .ref ji, .ref jd, .ref je, .ref jg, .ref qpa, .int pcn, .int ipn, .ref jt, .ref jr, .ref j1, .ref j2, .ref qsa], eO jb 0 [.ref aq0, .ref aq1, .ref aq2, .ref aq3, .ref aq4, .ref aq5, .ref aq6, .int aacc, .long afees, .int amis, .int abel, .int aref, .int acau], eI aq0 ak0 8 ag0, eI aq1 ak1 8 ag1, eI aq2 ak2 8 ag2, eI aq3 ak3 8 ag3, eI aq4 ak4 8 ag4, eI aq5 ak5 8 ag5, eI aq6 ak6 8 ag6] sz) := by
  refine Met.ofW (cc := cX9_account) (maxL := 3) (ret := (some .int)) (by decide) rfl ?_
  intro p e s m args below meth c s₁ B hml hv
  obtain ⟨rfl, hsz, hP, hK, hD0⟩ := hv
  have hx := B.exec
  have hb := B.bytes
  have hr := B.returns
  have hts := atoms_spec (ws := wsX9_account) B.pre
  have hown : s.vm.findClass RX9 = some m.cls := findClass_of_methodNamed B.named
  have hlocks := B.notSynchronized
  subst hsz
  have hD := hD0.self (sz := s.heap.size)
  generalize hAe : va_A [eO h0 8 [.ref jb, .ref ji, .ref jd, .ref je, .ref jg, .ref qpa, .int pcn, .int ipn, .ref jt, .ref jr, .ref j1, .ref j2, .ref qsa], eO jb 0 [.ref aq0, .ref aq1, .ref aq2, .ref aq3, .ref aq4, .ref aq5, .ref aq6, .int aacc, .long afees, .int amis, .int abel, .int aref, .int acau], eI aq0 ak0 8 ag0, eI aq1 ak1 8 ag1, eI aq2 ak2 8 ag2, eI aq3 ak3 8 ag3, eI aq4 ak4 8 ag4, eI aq5 ak5 8 ag5, eI aq6 ak6 8 ag6] s.heap.size = A at hD ⊢
  have hA : ∀ q : Nat, s.heap.size ≤ q → A q := fun q h => by rw [← hAe]; exact Or.inr h
  have hS : va_S A s.heap s.heap [] := va_S.rf
  have hP : va_P (dC, dI) vwCl [eO h0 8 [.ref jb, .ref ji, .ref jd, .ref je, .ref jg, .ref qpa, .int pcn, .int ipn, .ref jt, .ref jr, .ref j1, .ref j2, .ref qsa], eO jb 0 [.ref aq0, .ref aq1, .ref aq2, .ref aq3, .ref aq4, .ref aq5, .ref aq6, .int aacc, .long afees, .int amis, .int abel, .int aref, .int acau], eI aq0 ak0 8 ag0, eI aq1 ak1 8 ag1, eI aq2 ak2 8 ag2, eI aq3 ak3 8 ag3, eI aq4 ak4 8 ag4, eI aq5 ak5 8 ag5, eI aq6 ak6 8 ag6] s.heap := hP
  have hl := lv_entry ([.ref h0, .int p0, .int p1]) (n := 3) (Nat.le_of_ble_eq_true rfl)
  rw [lg_entry_eq]
  generalize (lg_sl ([.ref h0, .int p0, .int p1]) ++ List.replicate (3 - (lg_sl ([.ref h0, .int p0, .int p1])).length) Slot.unset).toArray = ls at hl ⊢
  have hl : lv_has ls 3 [(0, .ref h0), (1, .int p0), (2, .int p1)] := hl
  suffices key9 : ∀ Q9 : State → Prop, Q9 = (MQ below (va_Qi (fun (r : Int32) (_ : Unit) => (r.toInt = -2 ∧ ¬(0 ≤ p0.toInt ∧ p0.toInt < 5 ∧ 0 ≤ p1.toInt ∧ p1.toInt ≤ 1000000000)) ∨ ((0 ≤ p0.toInt ∧ p0.toInt < 5 ∧ 0 ≤ p1.toInt ∧ p1.toInt ≤ 1000000000) ∧ r.toInt = -4 ∧ aacc.toInt = 8) ∨ ((0 ≤ p0.toInt ∧ p0.toInt < 5 ∧ 0 ≤ p1.toInt ∧ p1.toInt ≤ 1000000000) ∧ r.toInt = aacc.toInt ∧ aacc.toInt < 8)) (fun (_ : Unit) (t : State) => ∃ (ag0' : Nat → Int32), ∃ (ag1' : Nat → Int32), ∃ (ag2' : Nat → Int32), ∃ (ag3' : Nat → Int32), ∃ (ag4' : Nat → Int32), ∃ (ag5' : Nat → Int32), ∃ (ag6' : Nat → Int32), ∃ (aacc' : Int32), (0 ≤ aacc'.toInt) ∧ (aacc'.toInt ≤ 8) ∧ (((0 ≤ p0.toInt ∧ p0.toInt < 5 ∧ 0 ≤ p1.toInt ∧ p1.toInt ≤ 1000000000) ∧ aacc.toInt < 8 ∧ aacc'.toInt = aacc.toInt + 1) ∨ (¬((0 ≤ p0.toInt ∧ p0.toInt < 5 ∧ 0 ≤ p1.toInt ∧ p1.toInt ≤ 1000000000) ∧ aacc.toInt < 8) ∧ aacc'.toInt = aacc.toInt)) ∧ (Bs (pacc sp p0 p1) ag0' ag2' ag3' aacc') ∧ va_P (dC, dI) vwCl [eO h0 8 [.ref jb, .ref ji, .ref jd, .ref je, .ref jg, .ref qpa, .int pcn, .int ipn, .ref jt, .ref jr, .ref j1, .ref j2, .ref qsa], eO jb 0 [.ref aq0, .ref aq1, .ref aq2, .ref aq3, .ref aq4, .ref aq5, .ref aq6, .int aacc', .long afees, .int amis, .int abel, .int aref, .int acau], eI aq0 ak0 8 (ag0'), eI aq1 ak1 8 (ag1'), eI aq2 ak2 8 (ag2'), eI aq3 ak3 8 (ag3'), eI aq4 ak4 8 (ag4'), eI aq5 ak5 8 (ag5'), eI aq6 ak6 8 (ag6')] t.heap ∧ va_K (dC, dI) vwCl [(ak0, .int), (ak1, .int), (ak2, .int), (ak3, .boolean), (ak4, .int), (ak5, .int), (ak6, .int)] t ∧ va_D A [eO h0 8 [.ref jb, .ref ji, .ref jd, .ref je, .ref jg, .ref qpa, .int pcn, .int ipn, .ref jt, .ref jr, .ref j1, .ref j2, .ref qsa], eO jb 0 [.ref aq0, .ref aq1, .ref aq2, .ref aq3, .ref aq4, .ref aq5, .ref aq6, .int aacc', .long afees, .int amis, .int abel, .int aref, .int acau], eI aq0 ak0 8 (ag0'), eI aq1 ak1 8 (ag1'), eI aq2 ak2 8 (ag2'), eI aq3 ak3 8 (ag3'), eI aq4 ak4 8 (ag4'), eI aq5 ak5 8 (ag5'), eI aq6 ak6 8 (ag6')]) A) (([.ref h0, .int p0, .int p1] : List Value).toArray) s 0 0 A) → W p l e ({ frames := 1, cells := 0, slots := 0, locals := 23 }) s m (([.ref h0, .int p0, .int p1] : List Value).toArray) below meth c s.heap [] 0 0 Q9 (F0 m 0 ls []) from key9 _ rfl
  intro Q9 hQ9
  have k_m4 : ((-4) : Int32).toInt = (-4) := by decide
  have k_m2 : ((-2) : Int32).toInt = (-2) := by decide
  have k_8 : (8 : Int32).toInt = 8 := by decide
  have k_1000000000 : (1000000000 : Int32).toInt = 1000000000 := by decide
  refine lv_iload_n hx hb dX9_account_0 rfl (lv_at hl 1 rfl) ?_
  obtain ⟨hPc, hDc, hFc, hCm, hNw⟩ := C_s (wc := []) hP hD hS hA [] 9 rfl (by decide +kernel) rfl
  have hKc := K_s (tys' := []) hK [] rfl
  refine va_calli (va_runS (As := [.int p0]) (rest := []) ⟨hx, hb, hml, hown, hts⟩ (c_X2_isKind l dC dI p0 s.heap.size) (va_cwS 1 hts gX9_account_X2_isKind rfl rfl rfl (by decide +kernel) ⟨Nat.le_of_ble_eq_true rfl, Nat.le_of_ble_eq_true rfl⟩) ⟨fun a U g mk q => by obtain ⟨q0, q1, qP, qK, qD⟩ := q; exact ⟨q0, q1, qP, va_K.moved (u := U) (U := U.calling g mk a) (Vm.Alike.refl U.vm) qK, qD⟩, fun U hU hW => ⟨rfl, by rw [hU], by rw [hU]; exact hPc, va_K.moved hW.alike hKc, hDc.weaken (fun _ _ _ _ => trivial)⟩⟩ rfl rfl hl.1 rfl (lv_room (Nat.le_of_ble_eq_true rfl)) dX9_account_1 ⟨Nat.le_of_ble_eq_true rfl, Nat.le_of_ble_eq_true rfl⟩) hS (fun q _ h => hFc q h) hFc (fun r1 u t H1 locs ht hvm hw hB hz1 hk1 hS => ?_)
  obtain ⟨hP1, hK1, hD1⟩ := hB
  rw [ht] at hP1
  have hK1 := va_K.moved hvm.symm hK1
  try dsimp only at hw
  obtain ⟨hP, hD⟩ := J_s (wL := [eO h0 8 [.ref jb, .ref ji, .ref jd, .ref je, .ref jg, .ref qpa, .int pcn, .int ipn, .ref jt, .ref jr, .ref j1, .ref j2, .ref qsa], eO jb 0 [.ref aq0, .ref aq1, .ref aq2, .ref aq3, .ref aq4, .ref aq5, .ref aq6, .int aacc, .long afees, .int amis, .int abel, .int aref, .int acau], eI aq0 ak0 8 ag0, eI aq1 ak1 8 ag1, eI aq2 ak2 8 ag2, eI aq3 ak3 8 ag3, eI aq4 ak4 8 ag4, eI aq5 ak5 8 ag5, eI aq6 ak6 8 ag6]) hP hD [] [(0, 9)] hCm hNw (by decide +kernel) hk1 hFc hP1 hD1 rfl
  have hK := KJ_s (tys' := [(ak0, .int), (ak1, .int), (ak2, .int), (ak3, .boolean), (ak4, .int), (ak5, .int), (ak6, .int)]) hK hK1 [(0, 7)] rfl
  generalize H1 = H at hP hS ⊢
  rcases hw with ⟨e_r1, f_r1⟩ | ⟨e_r1, f_r1⟩
  · subst e_r1
    refine lv_if_eq (tgt := 16) hx hb dX9_account_4 (by decide) (fun c2 => absurd c2 (by decide)) (fun c2 => ?_)
    refine lv_iload_n hx hb dX9_account_7 rfl (lv_at hl 2 rfl) ?_
    refine lv_ldc hx hb hown (hts (.constant RX9 90 (1000000000)) (List.mem_cons_of_mem _ mw_228)) dX9_account_8 ?_
    obtain ⟨hPc, hDc, hFc, hCm, hNw⟩ := C_s (wc := []) hP hD hS hA [] 9 rfl (by decide +kernel) rfl
    have hKc := K_s (tys' := []) hK [] rfl
    refine va_calli (va_runS (As := [.int p1, .int 1000000000]) (rest := []) ⟨hx, hb, hml, hown, hts⟩ (c_X9_isWithin l dC dI p1 1000000000 H.size) (va_cwS 2 hts gX9_account_X9_isWithin rfl rfl rfl (by decide +kernel) ⟨Nat.le_of_ble_eq_true rfl, Nat.le_of_ble_eq_true rfl⟩) ⟨fun a U g mk q => by obtain ⟨q0, q1, qP, qK, qD⟩ := q; exact ⟨q0, q1, qP, va_K.moved (u := U) (U := U.calling g mk a) (Vm.Alike.refl U.vm) qK, qD⟩, fun U hU hW => ⟨rfl, by rw [hU], by rw [hU]; exact hPc, va_K.moved hW.alike hKc, hDc.weaken (fun _ _ _ _ => trivial)⟩⟩ rfl rfl hl.1 rfl (lv_room (Nat.le_of_ble_eq_true rfl)) dX9_account_10 ⟨Nat.le_of_ble_eq_true rfl, Nat.le_of_ble_eq_true rfl⟩) hS (fun q _ h => hFc q h) hFc (fun r3 u t H1 locs ht hvm hw hB hz1 hk1 hS => ?_)
    obtain ⟨hP1, hK1, hD1⟩ := hB
    rw [ht] at hP1
    have hK1 := va_K.moved hvm.symm hK1
    try dsimp only at hw
    obtain ⟨hP, hD⟩ := J_s (wL := [eO h0 8 [.ref jb, .ref ji, .ref jd, .ref je, .ref jg, .ref qpa, .int pcn, .int ipn, .ref jt, .ref jr, .ref j1, .ref j2, .ref qsa], eO jb 0 [.ref aq0, .ref aq1, .ref aq2, .ref aq3, .ref aq4, .ref aq5, .ref aq6, .int aacc, .long afees, .int amis, .int abel, .int aref, .int acau], eI aq0 ak0 8 ag0, eI aq1 ak1 8 ag1, eI aq2 ak2 8 ag2, eI aq3 ak3 8 ag3, eI aq4 ak4 8 ag4, eI aq5 ak5 8 ag5, eI aq6 ak6 8 ag6]) hP hD [] [(0, 9)] hCm hNw (by decide +kernel) hk1 hFc hP1 hD1 rfl
    have hK := KJ_s (tys' := [(ak0, .int), (ak1, .int), (ak2, .int), (ak3, .boolean), (ak4, .int), (ak5, .int), (ak6, .int)]) hK hK1 [(0, 7)] rfl
    generalize H1 = H at hP hS ⊢
    rcases hw with ⟨e_r3, f_r3⟩ | ⟨e_r3, f_r3⟩
    · subst e_r3
      refine lv_if_ne (tgt := 19) hx hb dX9_account_13 (by decide) (fun c4 => ?_) (fun c4 => absurd c4 (by decide))
      refine lv_aload_n hx hb dX9_account_19 rfl (lv_at hl 0 rfl) ?_
      refine va_get (D := (dC, dI)) (ci := 8) (v := .ref jb) (C := RX9) (T := TX9) (N := 13) hx hb hts (fun w h => List.mem_cons_of_mem _ (inlX9 w h)) hown hK hP 0 rfl rfl 0 (by decide) (hts (.fieldLink RX9 12 "ClearingGates" "books" "LClearingGates$Books;") (List.mem_cons_of_mem _ mw_208)) (fun _ h9 => h9) rfl dX9_account_20 ?_
      refine va_get (D := (dC, dI)) (ci := 0) (v := .int aacc) (C := RX0) (T := TX0) (N := 13) hx hb hts (fun w h => List.mem_cons_of_mem _ (inlX0 w h)) hown hK hP 1 rfl rfl 7 (by decide) (hts (.fieldLink RX9 95 "ClearingGates$Books" "accounts" "I") (List.mem_cons_of_mem _ mw_113)) (fun _ h9 => h9) rfl dX9_account_23 ?_
      refine lv_bipush (v := 8) hx hb dX9_account_26 (by decide) ?_
      refine lv_icmp_lt (tgt := 34) hx hb dX9_account_28 (by decide) (fun c5 => ?_) (fun c5 => ?_)
      · skip
        have f_c5 := i_lt c5
        refine lv_aload_n hx hb dX9_account_34 rfl (lv_at hl 0 rfl) ?_
        refine va_get (D := (dC, dI)) (ci := 8) (v := .ref jb) (C := RX9) (T := TX9) (N := 13) hx hb hts (fun w h => List.mem_cons_of_mem _ (inlX9 w h)) hown hK hP 0 rfl rfl 0 (by decide) (hts (.fieldLink RX9 12 "ClearingGates" "books" "LClearingGates$Books;") (List.mem_cons_of_mem _ mw_208)) (fun _ h9 => h9) rfl dX9_account_35 ?_
        refine lv_iload_n hx hb dX9_account_38 rfl (lv_at hl 1 rfl) ?_
        refine lv_iload_n hx hb dX9_account_39 rfl (lv_at hl 2 rfl) ?_
        obtain ⟨hPc, hDc, hFc, hCm, hNw⟩ := C_s (wc := [eO jb 0 [.ref aq0, .ref aq1, .ref aq2, .ref aq3, .ref aq4, .ref aq5, .ref aq6, .int aacc, .long afees, .int amis, .int abel, .int aref, .int acau], eI aq0 ak0 8 ag0, eI aq1 ak1 8 ag1, eI aq2 ak2 8 ag2, eI aq3 ak3 8 ag3, eI aq4 ak4 8 ag4, eI aq5 ak5 8 ag5, eI aq6 ak6 8 ag6]) hP hD hS hA [(1, 8)] 9 rfl (by decide +kernel) rfl
        have hKc := K_s (tys' := [(ak0, .int), (ak1, .int), (ak2, .int), (ak3, .boolean), (ak4, .int), (ak5, .int), (ak6, .int)]) hK [(0, 7)] rfl
        refine va_calli (va_runV (As := [.int p0, .int p1]) (rest := []) ⟨hx, hb, hml, hown, hts⟩ (c_X0_open l dC dI jb p0 p1 aq0 aq1 aq2 aq3 aq4 aq5 aq6 aacc afees amis abel aref acau ak0 ag0 ak1 ag1 ak2 ag2 ak3 ag3 ak4 ag4 ak5 ag5 ak6 ag6 H.size va1 (by first | assumption | omega)) (cwV 2 hts gX9_account_X0_open rfl rfl rfl (by decide +kernel) ⟨Nat.le_of_ble_eq_true rfl, Nat.le_of_ble_eq_true rfl⟩) ⟨fun a U g mk q => by obtain ⟨q0, q1, qP, qK, qD⟩ := q; exact ⟨q0, q1, qP, va_K.moved (u := U) (U := U.calling g mk a) (Vm.Alike.refl U.vm) qK, qD⟩, va_recv (s := s) (q := (RX0, TX0, 13)) hKc hPc (ci := 0) (q0 := 0) rfl rfl, fun U hU hW => ⟨rfl, by rw [hU], by rw [hU]; exact hPc, va_K.moved hW.alike hKc, hDc.weaken (fun _ _ _ _ => trivial)⟩⟩ rfl rfl hl.1 rfl (lv_room (Nat.le_of_ble_eq_true rfl)) dX9_account_40 ⟨Nat.le_of_ble_eq_true rfl, Nat.le_of_ble_eq_true rfl⟩) hS (fun q _ h => hFc q h) hFc (fun r6 u t H1 locs ht hvm hw hB hz1 hk1 hS => ?_)
        obtain ⟨q7, q8, q9, q10, q11, q12, q13, q14, xa_r6, xo0_r6, xo1_r6, xo2_r6, xo3_r6, xo4_r6, xo5_r6, xo6_r6, hP1, hK1, hD1⟩ := hB
        rw [ht] at hP1
        have hK1 := va_K.moved hvm.symm hK1
        try dsimp only at hw
        obtain ⟨hP, hD⟩ := J_s (wL := [eO h0 8 [.ref jb, .ref ji, .ref jd, .ref je, .ref jg, .ref qpa, .int pcn, .int ipn, .ref jt, .ref jr, .ref j1, .ref j2, .ref qsa], eO jb 0 [.ref aq0, .ref aq1, .ref aq2, .ref aq3, .ref aq4, .ref aq5, .ref aq6, .int q14, .long afees, .int amis, .int abel, .int aref, .int acau], eI aq0 ak0 8 q7, eI aq1 ak1 8 q8, eI aq2 ak2 8 q9, eI aq3 ak3 8 q10, eI aq4 ak4 8 q11, eI aq5 ak5 8 q12, eI aq6 ak6 8 q13]) hP hD [(1, 8)] [(0, 1)] hCm hNw (by decide +kernel) hk1 hFc hP1 hD1 rfl
        have hK := KJ_s (tys' := [(ak0, .int), (ak1, .int), (ak2, .int), (ak3, .boolean), (ak4, .int), (ak5, .int), (ak6, .int)]) hK hK1 [] rfl
        generalize H1 = H at hP hS ⊢
        have h_r6 := hw
        have t_r6 := i_eq hw
        rw [hQ9]
        exact W.iret (v := r6) hx hb hr (fun t ht hW => ⟨⟨r6, (), rfl, (by omega), q7, q8, q9, q10, q11, q12, q13, q14, (by first | assumption | omega), (by first | assumption | omega), (by first | assumption | omega), (bs_acc hbs (by omega) (by omega) ⟨by omega, by omega, by omega, by omega⟩ (by omega) xo0_r6 xo2_r6 xo3_r6), by rw [ht]; exact hP, va_K.moved hW.alike hK, hD⟩, hS.F ht⟩) hS.2.2 dX9_account_43
      · skip
        have f_c5 := i_nlt c5
        refine lv_bipush (v := -4) hx hb dX9_account_31 (by decide) ?_
        rw [hQ9]
        exact W.iret (v := (-4)) hx hb hr (fun t ht hW => ⟨⟨(-4), (), rfl, (by omega), ag0, ag1, ag2, ag3, ag4, ag5, ag6, aacc, (by first | assumption | omega), (by first | assumption | omega), (by first | assumption | omega), (by rw [pacc_n (by have := bs_n hbs; unfold cac; omega)]; exact hbs), by rw [ht]; exact hP, va_K.moved hW.alike hK, hD⟩, hS.F ht⟩) hS.2.2 dX9_account_33
    · subst e_r3
      refine lv_if_ne (tgt := 19) hx hb dX9_account_13 (by decide) (fun c15 => absurd (by decide) c15) (fun c15 => ?_)
      refine lv_bipush (v := -2) hx hb dX9_account_16 (by decide) ?_
      rw [hQ9]
      exact W.iret (v := (-2)) hx hb hr (fun t ht hW => ⟨⟨(-2), (), rfl, (by omega), ag0, ag1, ag2, ag3, ag4, ag5, ag6, aacc, (by first | assumption | omega), (by first | assumption | omega), (by first | assumption | omega), (by rw [pacc_n (by have := bs_n hbs; unfold cac; omega)]; exact hbs), by rw [ht]; exact hP, va_K.moved hW.alike hK, hD⟩, hS.F ht⟩) hS.2.2 dX9_account_18
  · subst e_r1
    refine lv_if_eq (tgt := 16) hx hb dX9_account_4 (by decide) (fun c16 => ?_) (fun c16 => absurd (by decide) c16)
    refine lv_bipush (v := -2) hx hb dX9_account_16 (by decide) ?_
    rw [hQ9]
    exact W.iret (v := (-2)) hx hb hr (fun t ht hW => ⟨⟨(-2), (), rfl, (by omega), ag0, ag1, ag2, ag3, ag4, ag5, ag6, aacc, (by first | assumption | omega), (by first | assumption | omega), (by first | assumption | omega), (by rw [pacc_n (by have := bs_n hbs; unfold cac; omega)]; exact hbs), by rw [ht]; exact hP, va_K.moved hW.alike hK, hD⟩, hS.F ht⟩) hS.2.2 dX9_account_18

set_option maxRecDepth 100000 in
set_option maxHeartbeats 4000000 in
/-- set -/
theorem c_X9_set (l : Launch) (dC : Nat → ClassId) (dI : Nat → Nat → Nat) (h0 : Nat) (p0 : Int32) (p1 : Int32) (p2 : Int32) (jb : Nat) (ji : Nat) (jd : Nat) (je : Nat) (jg : Nat) (qpa : Nat) (pcn : Int32) (ipn : Int32) (jt : Nat) (jr : Nat) (j1 : Nat) (j2 : Nat) (qsa : Nat) (aq0 : Nat) (aq1 : Nat) (aq2 : Nat) (aq3 : Nat) (aq4 : Nat) (aq5 : Nat) (aq6 : Nat) (aacc : Int32) (afees : Int64) (amis : Int32) (abel : Int32) (aref : Int32) (acau : Int32) (ak0 : ClassId) (ag0 : Nat → Int32) (ak1 : ClassId) (ag1 : Nat → Int32) (ak2 : ClassId) (ag2 : Nat → Int32) (ak3 : ClassId) (ag3 : Nat → Int32) (ak4 : ClassId) (ag4 : Nat → Int32) (ak5 : ClassId) (ag5 : Nat → Int32) (ak6 : ClassId) (ag6 : Nat → Int32) (sp : Nat → Int32) (sz : Nat) (va1 : 0 ≤ aacc.toInt) (va2 : aacc.toInt ≤ 8) (hbs : Bs sp ag0 ag2 ag3 aacc) : Met l yX9_set wsX9_set ({ frames := 1, cells := 0, slots := 0, locals := 21 }) (va_Pc [.ref h0, .int p0, .int p1, .int p2] (fun U => U.heap.size = sz ∧ va_P (dC, dI) vwCl [eO h0 8 [.ref jb, .ref ji, .ref jd, .ref je, .ref jg, .ref qpa, .int pcn, .int ipn, .ref jt, .ref jr, .ref j1, .ref j2, .ref qsa], eO jb 0 [.ref aq0, .ref aq1, .ref aq2, .ref aq3, .ref aq4, .ref aq5, .ref aq6, .int aacc, .long afees, .int amis, .int abel, .int aref, .int acau], eI aq0 ak0 8 ag0, eI aq1 ak1 8 ag1, eI aq2 ak2 8 ag2, eI aq3 ak3 8 ag3, eI aq4 ak4 8 ag4, eI aq5 ak5 8 ag5, eI aq6 ak6 8 ag6] U.heap ∧ va_K (dC, dI) vwCl [(ak0, .int), (ak1, .int), (ak2, .int), (ak3, .boolean), (ak4, .int), (ak5, .int), (ak6, .int)] U ∧ va_D (fun _ => True) [eO h0 8 [.ref jb, .ref ji, .ref jd, .ref je, .ref jg, .ref qpa, .int pcn, .int ipn, .ref jt, .ref jr, .ref j1, .ref j2, .ref qsa], eO jb 0 [.ref aq0, .ref aq1, .ref aq2, .ref aq3, .ref aq4, .ref aq5, .ref aq6, .int aacc, .long afees, .int amis, .int abel, .int aref, .int acau], eI aq0 ak0 8 ag0, eI aq1 ak1 8 ag1, eI aq2 ak2 8 ag2, eI aq3 ak3 8 ag3, eI aq4 ak4 8 ag4, eI aq5 ak5 8 ag5, eI aq6 ak6 8 ag6])) (va_Ql (fun (r : Int64) (_ : Unit) => True) (fun (_ : Unit) (t : State) => ∃ (ag1' : Nat → Int32), ∃ (ag2' : Nat → Int32), (Bs (pset sp p0 p1 p2) ag0 ag2' ag3 aacc) ∧ va_P (dC, dI) vwCl [eO h0 8 [.ref jb, .ref ji, .ref jd, .ref je, .ref jg, .ref qpa, .int pcn, .int ipn, .ref jt, .ref jr, .ref j1, .ref j2, .ref qsa], eO jb 0 [.ref aq0, .ref aq1, .ref aq2, .ref aq3, .ref aq4, .ref aq5, .ref aq6, .int aacc, .long afees, .int amis, .int abel, .int aref, .int acau], eI aq0 ak0 8 ag0, eI aq1 ak1 8 (ag1'), eI aq2 ak2 8 (ag2'), eI aq3 ak3 8 ag3, eI aq4 ak4 8 ag4, eI aq5 ak5 8 ag5, eI aq6 ak6 8 ag6] t.heap ∧ va_K (dC, dI) vwCl [(ak0, .int), (ak1, .int), (ak2, .int), (ak3, .boolean), (ak4, .int), (ak5, .int), (ak6, .int)] t ∧ va_D (va_A [eO h0 8 [.ref jb, .ref ji, .ref jd, .ref je, .ref jg, .ref qpa, .int pcn, .int ipn, .ref jt, .ref jr, .ref j1, .ref j2, .ref qsa], eO jb 0 [.ref aq0, .ref aq1, .ref aq2, .ref aq3, .ref aq4, .ref aq5, .ref aq6, .int aacc, .long afees, .int amis, .int abel, .int aref, .int acau], eI aq0 ak0 8 ag0, eI aq1 ak1 8 ag1, eI aq2 ak2 8 ag2, eI aq3 ak3 8 ag3, eI aq4 ak4 8 ag4, eI aq5 ak5 8 ag5, eI aq6 ak6 8 ag6] sz) [eO h0 8 [.ref jb, .ref ji, .ref jd, .ref je, .ref jg, .ref qpa, .int pcn, .int ipn, .ref jt, .ref jr, .ref j1, .ref j2, .ref qsa], eO jb 0 [.ref aq0, .ref aq1, .ref aq2, .ref aq3, .ref aq4, .ref aq5, .ref aq6, .int aacc, .long afees, .int amis, .int abel, .int aref, .int acau], eI aq0 ak0 8 ag0, eI aq1 ak1 8 (ag1'), eI aq2 ak2 8 (ag2'), eI aq3 ak3 8 ag3, eI aq4 ak4 8 ag4, eI aq5 ak5 8 ag5, eI aq6 ak6 8 ag6]) (va_A [eO h0 8 [.ref jb, .ref ji, .ref jd, .ref je, .ref jg, .ref qpa, .int pcn, .int ipn, .ref jt, .ref jr, .ref j1, .ref j2, .ref qsa], eO jb 0 [.ref aq0, .ref aq1, .ref aq2, .ref aq3, .ref aq4, .ref aq5, .ref aq6, .int aacc, .long afees, .int amis, .int abel, .int aref, .int acau], eI aq0 ak0 8 ag0, eI aq1 ak1 8 ag1, eI aq2 ak2 8 ag2, eI aq3 ak3 8 ag3, eI aq4 ak4 8 ag4, eI aq5 ak5 8 ag5, eI aq6 ak6 8 ag6] sz)) 0 0 (va_A [eO h0 8 [.ref jb, .ref ji, .ref jd, .ref je, .ref jg, .ref qpa, .int pcn, .int ipn, .ref jt, .ref jr, .ref j1, .ref j2, .ref qsa], eO jb 0 [.ref aq0, .ref aq1, .ref aq2, .ref aq3, .ref aq4, .ref aq5, .ref aq6, .int aacc, .long afees, .int amis, .int abel, .int aref, .int acau], eI aq0 ak0 8 ag0, eI aq1 ak1 8 ag1, eI aq2 ak2 8 ag2, eI aq3 ak3 8 ag3, eI aq4 ak4 8 ag4, eI aq5 ak5 8 ag5, eI aq6 ak6 8 ag6] sz) := by
  refine Met.ofW (cc := cX9_set) (maxL := 5) (ret := (some .long)) (by decide) rfl ?_
  intro p e s m args below meth c s₁ B hml hv
  obtain ⟨rfl, hsz, hP, hK, hD0⟩ := hv
  have hx := B.exec
  have hb := B.bytes
  have hr := B.returns
  have hts := atoms_spec (ws := wsX9_set) B.pre
  have hown : s.vm.findClass RX9 = some m.cls := findClass_of_methodNamed B.named
  have hlocks := B.notSynchronized
  subst hsz
  have hD := hD0.self (sz := s.heap.size)
  generalize hAe : va_A [eO h0 8 [.ref jb, .ref ji, .ref jd, .ref je, .ref jg, .ref qpa, .int pcn, .int ipn, .ref jt, .ref jr, .ref j1, .ref j2, .ref qsa], eO jb 0 [.ref aq0, .ref aq1, .ref aq2, .ref aq3, .ref aq4, .ref aq5, .ref aq6, .int aacc, .long afees, .int amis, .int abel, .int aref, .int acau], eI aq0 ak0 8 ag0, eI aq1 ak1 8 ag1, eI aq2 ak2 8 ag2, eI aq3 ak3 8 ag3, eI aq4 ak4 8 ag4, eI aq5 ak5 8 ag5, eI aq6 ak6 8 ag6] s.heap.size = A at hD ⊢
  have hA : ∀ q : Nat, s.heap.size ≤ q → A q := fun q h => by rw [← hAe]; exact Or.inr h
  have hS : va_S A s.heap s.heap [] := va_S.rf
  have hP : va_P (dC, dI) vwCl [eO h0 8 [.ref jb, .ref ji, .ref jd, .ref je, .ref jg, .ref qpa, .int pcn, .int ipn, .ref jt, .ref jr, .ref j1, .ref j2, .ref qsa], eO jb 0 [.ref aq0, .ref aq1, .ref aq2, .ref aq3, .ref aq4, .ref aq5, .ref aq6, .int aacc, .long afees, .int amis, .int abel, .int aref, .int acau], eI aq0 ak0 8 ag0, eI aq1 ak1 8 ag1, eI aq2 ak2 8 ag2, eI aq3 ak3 8 ag3, eI aq4 ak4 8 ag4, eI aq5 ak5 8 ag5, eI aq6 ak6 8 ag6] s.heap := hP
  have hl := lv_entry ([.ref h0, .int p0, .int p1, .int p2]) (n := 5) (Nat.le_of_ble_eq_true rfl)
  rw [lg_entry_eq]
  generalize (lg_sl ([.ref h0, .int p0, .int p1, .int p2]) ++ List.replicate (5 - (lg_sl ([.ref h0, .int p0, .int p1, .int p2])).length) Slot.unset).toArray = ls at hl ⊢
  have hl : lv_has ls 5 [(0, .ref h0), (1, .int p0), (2, .int p1), (3, .int p2)] := hl
  suffices key9 : ∀ Q9 : State → Prop, Q9 = (MQ below (va_Ql (fun (r : Int64) (_ : Unit) => True) (fun (_ : Unit) (t : State) => ∃ (ag1' : Nat → Int32), ∃ (ag2' : Nat → Int32), (Bs (pset sp p0 p1 p2) ag0 ag2' ag3 aacc) ∧ va_P (dC, dI) vwCl [eO h0 8 [.ref jb, .ref ji, .ref jd, .ref je, .ref jg, .ref qpa, .int pcn, .int ipn, .ref jt, .ref jr, .ref j1, .ref j2, .ref qsa], eO jb 0 [.ref aq0, .ref aq1, .ref aq2, .ref aq3, .ref aq4, .ref aq5, .ref aq6, .int aacc, .long afees, .int amis, .int abel, .int aref, .int acau], eI aq0 ak0 8 ag0, eI aq1 ak1 8 (ag1'), eI aq2 ak2 8 (ag2'), eI aq3 ak3 8 ag3, eI aq4 ak4 8 ag4, eI aq5 ak5 8 ag5, eI aq6 ak6 8 ag6] t.heap ∧ va_K (dC, dI) vwCl [(ak0, .int), (ak1, .int), (ak2, .int), (ak3, .boolean), (ak4, .int), (ak5, .int), (ak6, .int)] t ∧ va_D A [eO h0 8 [.ref jb, .ref ji, .ref jd, .ref je, .ref jg, .ref qpa, .int pcn, .int ipn, .ref jt, .ref jr, .ref j1, .ref j2, .ref qsa], eO jb 0 [.ref aq0, .ref aq1, .ref aq2, .ref aq3, .ref aq4, .ref aq5, .ref aq6, .int aacc, .long afees, .int amis, .int abel, .int aref, .int acau], eI aq0 ak0 8 ag0, eI aq1 ak1 8 (ag1'), eI aq2 ak2 8 (ag2'), eI aq3 ak3 8 ag3, eI aq4 ak4 8 ag4, eI aq5 ak5 8 ag5, eI aq6 ak6 8 ag6]) A) (([.ref h0, .int p0, .int p1, .int p2] : List Value).toArray) s 0 0 A) → W p l e ({ frames := 1, cells := 0, slots := 0, locals := 21 }) s m (([.ref h0, .int p0, .int p1, .int p2] : List Value).toArray) below meth c s.heap [] 0 0 Q9 (F0 m 0 ls []) from key9 _ rfl
  intro Q9 hQ9
  have k_0 : (0 : Int32).toInt = 0 := by decide
  have k_1 : (1 : Int32).toInt = 1 := by decide
  have k_9999 : (9999 : Int32).toInt = 9999 := by decide
  have k_1000000000 : (1000000000 : Int32).toInt = 1000000000 := by decide
  refine lv_aload_n hx hb dX9_set_0 rfl (lv_at hl 0 rfl) ?_
  refine va_get (D := (dC, dI)) (ci := 8) (v := .ref jb) (C := RX9) (T := TX9) (N := 13) hx hb hts (fun w h => List.mem_cons_of_mem _ (inlX9 w h)) hown hK hP 0 rfl rfl 0 (by decide) (hts (.fieldLink RX9 12 "ClearingGates" "books" "LClearingGates$Books;") (List.mem_cons_of_mem _ mw_208)) (fun _ h9 => h9) rfl dX9_set_1 ?_
  refine lv_iload_n hx hb dX9_set_4 rfl (lv_at hl 1 rfl) ?_
  obtain ⟨hPc, hDc, hFc, hCm, hNw⟩ := C_s (wc := [eO jb 0 [.ref aq0, .ref aq1, .ref aq2, .ref aq3, .ref aq4, .ref aq5, .ref aq6, .int aacc, .long afees, .int amis, .int abel, .int aref, .int acau]]) hP hD hS hA [(1, 1)] 9 rfl (by decide +kernel) rfl
  have hKc := K_s (tys' := []) hK [] rfl
  refine va_calli (va_runV (As := [.int p0]) (rest := []) ⟨hx, hb, hml, hown, hts⟩ (c_X0_has l dC dI jb p0 (.ref aq0) (.ref aq1) (.ref aq2) (.ref aq3) (.ref aq4) (.ref aq5) (.ref aq6) aacc (.long afees) (.int amis) (.int abel) (.int aref) (.int acau) s.heap.size) (cwV 1 hts gX9_set_X0_has rfl rfl rfl (by decide +kernel) ⟨Nat.le_of_ble_eq_true rfl, Nat.le_of_ble_eq_true rfl⟩) ⟨fun a U g mk q => by obtain ⟨q0, q1, qP, qK, qD⟩ := q; exact ⟨q0, q1, qP, va_K.moved (u := U) (U := U.calling g mk a) (Vm.Alike.refl U.vm) qK, qD⟩, va_recv (s := s) (q := (RX0, TX0, 13)) hKc hPc (ci := 0) (q0 := 0) rfl rfl, fun U hU hW => ⟨rfl, by rw [hU], by rw [hU]; exact hPc, va_K.moved hW.alike hKc, hDc.weaken (fun _ _ _ _ => trivial)⟩⟩ rfl rfl hl.1 rfl (lv_room (Nat.le_of_ble_eq_true rfl)) dX9_set_5 ⟨Nat.le_of_ble_eq_true rfl, Nat.le_of_ble_eq_true rfl⟩) hS (fun q _ h => hFc q h) hFc (fun r1 u t H1 locs ht hvm hw hB hz1 hk1 hS => ?_)
  obtain ⟨hP1, hK1, hD1⟩ := hB
  rw [ht] at hP1
  have hK1 := va_K.moved hvm.symm hK1
  try dsimp only at hw
  obtain ⟨hP, hD⟩ := J_s (wL := [eO h0 8 [.ref jb, .ref ji, .ref jd, .ref je, .ref jg, .ref qpa, .int pcn, .int ipn, .ref jt, .ref jr, .ref j1, .ref j2, .ref qsa], eI aq0 ak0 8 ag0, eI aq1 ak1 8 ag1, eI aq2 ak2 8 ag2, eI aq3 ak3 8 ag3, eI aq4 ak4 8 ag4, eI aq5 ak5 8 ag5, eI aq6 ak6 8 ag6, eO jb 0 [.ref aq0, .ref aq1, .ref aq2, .ref aq3, .ref aq4, .ref aq5, .ref aq6, .int aacc, .long afees, .int amis, .int abel, .int aref, .int acau]]) hP hD [(1, 1)] [(0, 1), (2, 7)] hCm hNw (by decide +kernel) hk1 hFc hP1 hD1 rfl
  have hK := KJ_s (tys' := [(ak0, .int), (ak1, .int), (ak2, .int), (ak3, .boolean), (ak4, .int), (ak5, .int), (ak6, .int)]) hK hK1 [(0, 7)] rfl
  generalize H1 = H at hP hS ⊢
  rcases hw with ⟨e_r1, f_r1⟩ | ⟨e_r1, f_r1⟩
  · subst e_r1
    refine lv_if_ne (tgt := 15) hx hb dX9_set_8 (by decide) (fun c2 => ?_) (fun c2 => absurd c2 (by decide))
    refine lv_iload_n hx hb dX9_set_15 rfl (lv_at hl 2 rfl) ?_
    refine lv_if_ne (tgt := 53) hx hb dX9_set_16 (by decide) (fun c3 => ?_) (fun c3 => ?_)
    · skip
      have f_c3 := i_ne c3
      refine lv_iload_n hx hb dX9_set_53 rfl (lv_at hl 2 rfl) ?_
      refine lv_iconst (v := 1) hx hb dX9_set_54 (by decide) ?_
      refine lv_icmp_ne (tgt := 93) hx hb dX9_set_55 (by decide) (fun c4 => ?_) (fun c4 => ?_)
      · skip
        have f_c4 := i_ne c4
        refine lv_ldc2 hx hb hown (hts (.constantLong RX9 105 (-9223372036854775808)) (List.mem_cons_of_mem _ mw_244)) dX9_set_93 ?_
        rw [hQ9]
        exact W.lret (v := (-9223372036854775808)) hx hb hr (fun t ht hW => ⟨⟨(-9223372036854775808), (), rfl, (by first | rfl | trivial), ag1, ag2, (bs_setn hbs (by omega)), by rw [ht]; exact P_s hP [(0, 1), (8, 1), (1, 7)] rfl, va_K.moved hW.alike hK, D_s hD [(0, 1), (8, 1), (1, 7)] 9 rfl (by decide +kernel) rfl⟩, hS.F ht⟩) hS.2.2 dX9_set_96
      · skip
        have f_c4 := i_eq c4
        refine lv_iload_n hx hb dX9_set_58 rfl (lv_at hl 3 rfl) ?_
        refine lv_sipush (v := 9999) hx hb dX9_set_59 (by decide) ?_
        obtain ⟨hPc, hDc, hFc, hCm, hNw⟩ := C_s (wc := []) hP hD hS hA [] 9 rfl (by decide +kernel) rfl
        have hKc := K_s (tys' := []) hK [] rfl
        refine va_calli (va_runS (As := [.int p2, .int 9999]) (rest := []) ⟨hx, hb, hml, hown, hts⟩ (c_X9_isWithin l dC dI p2 9999 H.size) (va_cwS 2 hts gX9_set_X9_isWithin rfl rfl rfl (by decide +kernel) ⟨Nat.le_of_ble_eq_true rfl, Nat.le_of_ble_eq_true rfl⟩) ⟨fun a U g mk q => by obtain ⟨q0, q1, qP, qK, qD⟩ := q; exact ⟨q0, q1, qP, va_K.moved (u := U) (U := U.calling g mk a) (Vm.Alike.refl U.vm) qK, qD⟩, fun U hU hW => ⟨rfl, by rw [hU], by rw [hU]; exact hPc, va_K.moved hW.alike hKc, hDc.weaken (fun _ _ _ _ => trivial)⟩⟩ rfl rfl hl.1 rfl (lv_room (Nat.le_of_ble_eq_true rfl)) dX9_set_62 ⟨Nat.le_of_ble_eq_true rfl, Nat.le_of_ble_eq_true rfl⟩) hS (fun q _ h => hFc q h) hFc (fun r5 u t H1 locs ht hvm hw hB hz1 hk1 hS => ?_)
        obtain ⟨hP1, hK1, hD1⟩ := hB
        rw [ht] at hP1
        have hK1 := va_K.moved hvm.symm hK1
        try dsimp only at hw
        obtain ⟨hP, hD⟩ := J_s (wL := [eO h0 8 [.ref jb, .ref ji, .ref jd, .ref je, .ref jg, .ref qpa, .int pcn, .int ipn, .ref jt, .ref jr, .ref j1, .ref j2, .ref qsa], eI aq0 ak0 8 ag0, eI aq1 ak1 8 ag1, eI aq2 ak2 8 ag2, eI aq3 ak3 8 ag3, eI aq4 ak4 8 ag4, eI aq5 ak5 8 ag5, eI aq6 ak6 8 ag6, eO jb 0 [.ref aq0, .ref aq1, .ref aq2, .ref aq3, .ref aq4, .ref aq5, .ref aq6, .int aacc, .long afees, .int amis, .int abel, .int aref, .int acau]]) hP hD [] [(0, 9)] hCm hNw (by decide +kernel) hk1 hFc hP1 hD1 rfl
        have hK := KJ_s (tys' := [(ak0, .int), (ak1, .int), (ak2, .int), (ak3, .boolean), (ak4, .int), (ak5, .int), (ak6, .int)]) hK hK1 [(0, 7)] rfl
        generalize H1 = H at hP hS ⊢
        rcases hw with ⟨e_r5, f_r5⟩ | ⟨e_r5, f_r5⟩
        · subst e_r5
          refine lv_if_eq (tgt := 93) hx hb dX9_set_65 (by decide) (fun c6 => absurd c6 (by decide)) (fun c6 => ?_)
          refine lv_aload_n hx hb dX9_set_68 rfl (lv_at hl 0 rfl) ?_
          refine va_get (D := (dC, dI)) (ci := 8) (v := .ref jb) (C := RX9) (T := TX9) (N := 13) hx hb hts (fun w h => List.mem_cons_of_mem _ (inlX9 w h)) hown hK hP 0 rfl rfl 0 (by decide) (hts (.fieldLink RX9 12 "ClearingGates" "books" "LClearingGates$Books;") (List.mem_cons_of_mem _ mw_208)) (fun _ h9 => h9) rfl dX9_set_69 ?_
          refine va_get (D := (dC, dI)) (ci := 0) (v := .ref aq2) (C := RX0) (T := TX0) (N := 13) hx hb hts (fun w h => List.mem_cons_of_mem _ (inlX0 w h)) hown hK hP 8 rfl rfl 2 (by decide) (hts (.fieldLink RX9 111 "ClearingGates$Books" "limits" "[I") (List.mem_cons_of_mem _ mw_100)) (fun _ h9 => h9) rfl dX9_set_72 ?_
          refine lv_iload_n hx hb dX9_set_75 rfl (lv_at hl 1 rfl) ?_
          refine va_iald (D := (dC, dI)) hx hb hK hP 3 2 rfl rfl (vp_in_iff.mpr ⟨by omega, by omega⟩) dX9_set_76 ?_
          refine lv_topi (fun z7 e_z7 => ?_)
          refine lv_istore (lv' := [(4, .int z7), (0, .ref h0), (1, .int p0), (2, .int p1), (3, .int p2)]) hx hb dX9_set_77 hl (by decide) rfl (fun ls hl => ?_)
          refine lv_aload_n hx hb dX9_set_79 rfl (lv_at hl 1 rfl) ?_
          refine va_get (D := (dC, dI)) (ci := 8) (v := .ref jb) (C := RX9) (T := TX9) (N := 13) hx hb hts (fun w h => List.mem_cons_of_mem _ (inlX9 w h)) hown hK hP 0 rfl rfl 0 (by decide) (hts (.fieldLink RX9 12 "ClearingGates" "books" "LClearingGates$Books;") (List.mem_cons_of_mem _ mw_208)) (fun _ h9 => h9) rfl dX9_set_80 ?_
          refine va_get (D := (dC, dI)) (ci := 0) (v := .ref aq2) (C := RX0) (T := TX0) (N := 13) hx hb hts (fun w h => List.mem_cons_of_mem _ (inlX0 w h)) hown hK hP 8 rfl rfl 2 (by decide) (hts (.fieldLink RX9 111 "ClearingGates$Books" "limits" "[I") (List.mem_cons_of_mem _ mw_100)) (fun _ h9 => h9) rfl dX9_set_83 ?_
          refine lv_iload_n hx hb dX9_set_86 rfl (lv_at hl 2 rfl) ?_
          refine lv_iload_n hx hb dX9_set_87 rfl (lv_at hl 4 rfl) ?_
          refine va_iast (D := (dC, dI)) hx hb hK hP hD hS 3 2 rfl rfl (vp_in_iff.mpr ⟨by omega, by omega⟩) dX9_set_88 (fun H locs hP hD hS => ?_)
          generalize e_g8 : (upd ag2 (p0).toNatClampNeg p2) = g8 at hP hD
          obtain ⟨hP, hD⟩ := X_s (ws' := [eO h0 8 [.ref jb, .ref ji, .ref jd, .ref je, .ref jg, .ref qpa, .int pcn, .int ipn, .ref jt, .ref jr, .ref j1, .ref j2, .ref qsa], eI aq0 ak0 8 ag0, eI aq1 ak1 8 ag1, eI aq2 ak2 8 g8, eI aq3 ak3 8 ag3, eI aq4 ak4 8 ag4, eI aq5 ak5 8 ag5, eI aq6 ak6 8 ag6, eO jb 0 [.ref aq0, .ref aq1, .ref aq2, .ref aq3, .ref aq4, .ref aq5, .ref aq6, .int aacc, .long afees, .int amis, .int abel, .int aref, .int acau]]) hP hD rfl
          refine lv_iload hx hb dX9_set_89 (lv_at hl 0 rfl) ?_
          refine lv_i2l (v := z7.toInt64) hx hb dX9_set_91 rfl ?_
          have t_t9 := Int32.toInt_toInt64 z7
          rw [hQ9]
          exact W.lret (v := z7.toInt64) hx hb hr (fun t ht hW => ⟨⟨z7.toInt64, (), rfl, (by first | rfl | trivial), ag1, g8, (bs_set1 hbs (by omega) (by omega) (by rw [← e_g8]; rfl)), by rw [ht]; exact P_s hP [(0, 1), (8, 1), (1, 7)] rfl, va_K.moved hW.alike hK, D_s hD [(0, 1), (8, 1), (1, 7)] 9 rfl (by decide +kernel) rfl⟩, hS.F ht⟩) hS.2.2 dX9_set_92
        · subst e_r5
          refine lv_if_eq (tgt := 93) hx hb dX9_set_65 (by decide) (fun c10 => ?_) (fun c10 => absurd (by decide) c10)
          refine lv_ldc2 hx hb hown (hts (.constantLong RX9 105 (-9223372036854775808)) (List.mem_cons_of_mem _ mw_244)) dX9_set_93 ?_
          rw [hQ9]
          exact W.lret (v := (-9223372036854775808)) hx hb hr (fun t ht hW => ⟨⟨(-9223372036854775808), (), rfl, (by first | rfl | trivial), ag1, ag2, (bs_setn hbs (by omega)), by rw [ht]; exact P_s hP [(0, 1), (8, 1), (1, 7)] rfl, va_K.moved hW.alike hK, D_s hD [(0, 1), (8, 1), (1, 7)] 9 rfl (by decide +kernel) rfl⟩, hS.F ht⟩) hS.2.2 dX9_set_96
    · skip
      have f_c3 := i_eq c3
      refine lv_iload_n hx hb dX9_set_19 rfl (lv_at hl 3 rfl) ?_
      refine lv_ldc hx hb hown (hts (.constant RX9 90 (1000000000)) (List.mem_cons_of_mem _ mw_228)) dX9_set_20 ?_
      obtain ⟨hPc, hDc, hFc, hCm, hNw⟩ := C_s (wc := []) hP hD hS hA [] 9 rfl (by decide +kernel) rfl
      have hKc := K_s (tys' := []) hK [] rfl
      refine va_calli (va_runS (As := [.int p2, .int 1000000000]) (rest := []) ⟨hx, hb, hml, hown, hts⟩ (c_X9_isWithin l dC dI p2 1000000000 H.size) (va_cwS 2 hts gX9_set_X9_isWithin rfl rfl rfl (by decide +kernel) ⟨Nat.le_of_ble_eq_true rfl, Nat.le_of_ble_eq_true rfl⟩) ⟨fun a U g mk q => by obtain ⟨q0, q1, qP, qK, qD⟩ := q; exact ⟨q0, q1, qP, va_K.moved (u := U) (U := U.calling g mk a) (Vm.Alike.refl U.vm) qK, qD⟩, fun U hU hW => ⟨rfl, by rw [hU], by rw [hU]; exact hPc, va_K.moved hW.alike hKc, hDc.weaken (fun _ _ _ _ => trivial)⟩⟩ rfl rfl hl.1 rfl (lv_room (Nat.le_of_ble_eq_true rfl)) dX9_set_22 ⟨Nat.le_of_ble_eq_true rfl, Nat.le_of_ble_eq_true rfl⟩) hS (fun q _ h => hFc q h) hFc (fun r11 u t H1 locs ht hvm hw hB hz1 hk1 hS => ?_)
      obtain ⟨hP1, hK1, hD1⟩ := hB
      rw [ht] at hP1
      have hK1 := va_K.moved hvm.symm hK1
      try dsimp only at hw
      obtain ⟨hP, hD⟩ := J_s (wL := [eO h0 8 [.ref jb, .ref ji, .ref jd, .ref je, .ref jg, .ref qpa, .int pcn, .int ipn, .ref jt, .ref jr, .ref j1, .ref j2, .ref qsa], eI aq0 ak0 8 ag0, eI aq1 ak1 8 ag1, eI aq2 ak2 8 ag2, eI aq3 ak3 8 ag3, eI aq4 ak4 8 ag4, eI aq5 ak5 8 ag5, eI aq6 ak6 8 ag6, eO jb 0 [.ref aq0, .ref aq1, .ref aq2, .ref aq3, .ref aq4, .ref aq5, .ref aq6, .int aacc, .long afees, .int amis, .int abel, .int aref, .int acau]]) hP hD [] [(0, 9)] hCm hNw (by decide +kernel) hk1 hFc hP1 hD1 rfl
      have hK := KJ_s (tys' := [(ak0, .int), (ak1, .int), (ak2, .int), (ak3, .boolean), (ak4, .int), (ak5, .int), (ak6, .int)]) hK hK1 [(0, 7)] rfl
      generalize H1 = H at hP hS ⊢
      rcases hw with ⟨e_r11, f_r11⟩ | ⟨e_r11, f_r11⟩
      · subst e_r11
        refine lv_if_eq (tgt := 53) hx hb dX9_set_25 (by decide) (fun c12 => absurd c12 (by decide)) (fun c12 => ?_)
        refine lv_aload_n hx hb dX9_set_28 rfl (lv_at hl 0 rfl) ?_
        refine va_get (D := (dC, dI)) (ci := 8) (v := .ref jb) (C := RX9) (T := TX9) (N := 13) hx hb hts (fun w h => List.mem_cons_of_mem _ (inlX9 w h)) hown hK hP 0 rfl rfl 0 (by decide) (hts (.fieldLink RX9 12 "ClearingGates" "books" "LClearingGates$Books;") (List.mem_cons_of_mem _ mw_208)) (fun _ h9 => h9) rfl dX9_set_29 ?_
        refine va_get (D := (dC, dI)) (ci := 0) (v := .ref aq1) (C := RX0) (T := TX0) (N := 13) hx hb hts (fun w h => List.mem_cons_of_mem _ (inlX0 w h)) hown hK hP 8 rfl rfl 1 (by decide) (hts (.fieldLink RX9 107 "ClearingGates$Books" "balances" "[I") (List.mem_cons_of_mem _ mw_97)) (fun _ h9 => h9) rfl dX9_set_32 ?_
        refine lv_iload_n hx hb dX9_set_35 rfl (lv_at hl 1 rfl) ?_
        refine va_iald (D := (dC, dI)) hx hb hK hP 2 1 rfl rfl (vp_in_iff.mpr ⟨by omega, by omega⟩) dX9_set_36 ?_
        refine lv_topi (fun z13 e_z13 => ?_)
        refine lv_istore (lv' := [(4, .int z13), (0, .ref h0), (1, .int p0), (2, .int p1), (3, .int p2)]) hx hb dX9_set_37 hl (by decide) rfl (fun ls hl => ?_)
        refine lv_aload_n hx hb dX9_set_39 rfl (lv_at hl 1 rfl) ?_
        refine va_get (D := (dC, dI)) (ci := 8) (v := .ref jb) (C := RX9) (T := TX9) (N := 13) hx hb hts (fun w h => List.mem_cons_of_mem _ (inlX9 w h)) hown hK hP 0 rfl rfl 0 (by decide) (hts (.fieldLink RX9 12 "ClearingGates" "books" "LClearingGates$Books;") (List.mem_cons_of_mem _ mw_208)) (fun _ h9 => h9) rfl dX9_set_40 ?_
        refine va_get (D := (dC, dI)) (ci := 0) (v := .ref aq1) (C := RX0) (T := TX0) (N := 13) hx hb hts (fun w h => List.mem_cons_of_mem _ (inlX0 w h)) hown hK hP 8 rfl rfl 1 (by decide) (hts (.fieldLink RX9 107 "ClearingGates$Books" "balances" "[I") (List.mem_cons_of_mem _ mw_97)) (fun _ h9 => h9) rfl dX9_set_43 ?_
        refine lv_iload_n hx hb dX9_set_46 rfl (lv_at hl 2 rfl) ?_
        refine lv_iload_n hx hb dX9_set_47 rfl (lv_at hl 4 rfl) ?_
        refine va_iast (D := (dC, dI)) hx hb hK hP hD hS 2 1 rfl rfl (vp_in_iff.mpr ⟨by omega, by omega⟩) dX9_set_48 (fun H locs hP hD hS => ?_)
        generalize e_g14 : (upd ag1 (p0).toNatClampNeg p2) = g14 at hP hD
        obtain ⟨hP, hD⟩ := X_s (ws' := [eO h0 8 [.ref jb, .ref ji, .ref jd, .ref je, .ref jg, .ref qpa, .int pcn, .int ipn, .ref jt, .ref jr, .ref j1, .ref j2, .ref qsa], eI aq0 ak0 8 ag0, eI aq1 ak1 8 g14, eI aq2 ak2 8 ag2, eI aq3 ak3 8 ag3, eI aq4 ak4 8 ag4, eI aq5 ak5 8 ag5, eI aq6 ak6 8 ag6, eO jb 0 [.ref aq0, .ref aq1, .ref aq2, .ref aq3, .ref aq4, .ref aq5, .ref aq6, .int aacc, .long afees, .int amis, .int abel, .int aref, .int acau]]) hP hD rfl
        refine lv_iload hx hb dX9_set_49 (lv_at hl 0 rfl) ?_
        refine lv_i2l (v := z13.toInt64) hx hb dX9_set_51 rfl ?_
        have t_t15 := Int32.toInt_toInt64 z13
        rw [hQ9]
        exact W.lret (v := z13.toInt64) hx hb hr (fun t ht hW => ⟨⟨z13.toInt64, (), rfl, (by first | rfl | trivial), g14, ag2, (bs_set0 hbs (by omega) (by omega)), by rw [ht]; exact P_s hP [(0, 1), (8, 1), (1, 7)] rfl, va_K.moved hW.alike hK, D_s hD [(0, 1), (8, 1), (1, 7)] 9 rfl (by decide +kernel) rfl⟩, hS.F ht⟩) hS.2.2 dX9_set_52
      · subst e_r11
        refine lv_if_eq (tgt := 53) hx hb dX9_set_25 (by decide) (fun c16 => ?_) (fun c16 => absurd (by decide) c16)
        refine lv_iload_n hx hb dX9_set_53 rfl (lv_at hl 2 rfl) ?_
        refine lv_iconst (v := 1) hx hb dX9_set_54 (by decide) ?_
        refine lv_icmp_ne (tgt := 93) hx hb dX9_set_55 (by decide) (fun c17 => ?_) (fun c17 => ?_)
        · skip
          have f_c17 := i_ne c17
          refine lv_ldc2 hx hb hown (hts (.constantLong RX9 105 (-9223372036854775808)) (List.mem_cons_of_mem _ mw_244)) dX9_set_93 ?_
          rw [hQ9]
          exact W.lret (v := (-9223372036854775808)) hx hb hr (fun t ht hW => ⟨⟨(-9223372036854775808), (), rfl, (by first | rfl | trivial), ag1, ag2, (bs_setn hbs (by omega)), by rw [ht]; exact P_s hP [(0, 1), (8, 1), (1, 7)] rfl, va_K.moved hW.alike hK, D_s hD [(0, 1), (8, 1), (1, 7)] 9 rfl (by decide +kernel) rfl⟩, hS.F ht⟩) hS.2.2 dX9_set_96
        · skip
          have f_c17 := i_eq c17
          exfalso; omega
  · subst e_r1
    refine lv_if_ne (tgt := 15) hx hb dX9_set_8 (by decide) (fun c18 => absurd (by decide) c18) (fun c18 => ?_)
    refine lv_ldc2 hx hb hown (hts (.constantLong RX9 105 (-9223372036854775808)) (List.mem_cons_of_mem _ mw_244)) dX9_set_11 ?_
    rw [hQ9]
    exact W.lret (v := (-9223372036854775808)) hx hb hr (fun t ht hW => ⟨⟨(-9223372036854775808), (), rfl, (by first | rfl | trivial), ag1, ag2, (bs_setn hbs (by omega)), by rw [ht]; exact P_s hP [(0, 1), (8, 1), (1, 7)] rfl, va_K.moved hW.alike hK, D_s hD [(0, 1), (8, 1), (1, 7)] 9 rfl (by decide +kernel) rfl⟩, hS.F ht⟩) hS.2.2 dX9_set_14

set_option maxRecDepth 100000 in
set_option maxHeartbeats 4000000 in
/-- gate -/
theorem c_X9_gate (l : Launch) (dC : Nat → ClassId) (dI : Nat → Nat → Nat) (h0 : Nat) (p0 : Int32) (p1 : Int32) (jb : Nat) (ji : Nat) (jd : Nat) (je : Nat) (jg : Nat) (qpa : Nat) (pcn : Int32) (ipn : Int32) (jt : Nat) (jr : Nat) (j1 : Nat) (j2 : Nat) (qsa : Nat) (aq0 : Nat) (aq1 : Nat) (aq2 : Nat) (aq3 : Nat) (aq4 : Nat) (aq5 : Nat) (aq6 : Nat) (aacc : Int32) (afees : Int64) (amis : Int32) (abel : Int32) (aref : Int32) (acau : Int32) (ak0 : ClassId) (ag0 : Nat → Int32) (ak1 : ClassId) (ag1 : Nat → Int32) (ak2 : ClassId) (ag2 : Nat → Int32) (ak3 : ClassId) (ag3 : Nat → Int32) (ak4 : ClassId) (ag4 : Nat → Int32) (ak5 : ClassId) (ag5 : Nat → Int32) (ak6 : ClassId) (ag6 : Nat → Int32) (sp : Nat → Int32) (sz : Nat) (va1 : 0 ≤ aacc.toInt) (va2 : aacc.toInt ≤ 8) (hbs : Bs sp ag0 ag2 ag3 aacc) (hb1 : p1.toInt = 0 ∨ p1.toInt = 1) : Met l yX9_gate wsX9_gate ({ frames := 1, cells := 0, slots := 0, locals := 21 }) (va_Pc [.ref h0, .int p0, .int p1] (fun U => U.heap.size = sz ∧ va_P (dC, dI) vwCl [eO h0 8 [.ref jb, .ref ji, .ref jd, .ref je, .ref jg, .ref qpa, .int pcn, .int ipn, .ref jt, .ref jr, .ref j1, .ref j2, .ref qsa], eO jb 0 [.ref aq0, .ref aq1, .ref aq2, .ref aq3, .ref aq4, .ref aq5, .ref aq6, .int aacc, .long afees, .int amis, .int abel, .int aref, .int acau], eI aq0 ak0 8 ag0, eI aq1 ak1 8 ag1, eI aq2 ak2 8 ag2, eI aq3 ak3 8 ag3, eI aq4 ak4 8 ag4, eI aq5 ak5 8 ag5, eI aq6 ak6 8 ag6] U.heap ∧ va_K (dC, dI) vwCl [(ak0, .int), (ak1, .int), (ak2, .int), (ak3, .boolean), (ak4, .int), (ak5, .int), (ak6, .int)] U ∧ va_D (fun _ => True) [eO h0 8 [.ref jb, .ref ji, .ref jd, .ref je, .ref jg, .ref qpa, .int pcn, .int ipn, .ref jt, .ref jr, .ref j1, .ref j2, .ref qsa], eO jb 0 [.ref aq0, .ref aq1, .ref aq2, .ref aq3, .ref aq4, .ref aq5, .ref aq6, .int aacc, .long afees, .int amis, .int abel, .int aref, .int acau], eI aq0 ak0 8 ag0, eI aq1 ak1 8 ag1, eI aq2 ak2 8 ag2, eI aq3 ak3 8 ag3, eI aq4 ak4 8 ag4, eI aq5 ak5 8 ag5, eI aq6 ak6 8 ag6])) (va_Qi (fun (r : Int32) (_ : Unit) => (r.toInt = -2 ∧ ¬(0 ≤ p0.toInt ∧ p0.toInt < aacc.toInt)) ∨ ((0 ≤ p0.toInt ∧ p0.toInt < aacc.toInt) ∧ r.toInt = (sp (24 + p0.toInt.toNat)).toInt)) (fun (_ : Unit) (t : State) => ∃ (ag3' : Nat → Int32), (Bs (pgate sp p0 p1) ag0 ag2 ag3' aacc) ∧ va_P (dC, dI) vwCl [eO h0 8 [.ref jb, .ref ji, .ref jd, .ref je, .ref jg, .ref qpa, .int pcn, .int ipn, .ref jt, .ref jr, .ref j1, .ref j2, .ref qsa], eO jb 0 [.ref aq0, .ref aq1, .ref aq2, .ref aq3, .ref aq4, .ref aq5, .ref aq6, .int aacc, .long afees, .int amis, .int abel, .int aref, .int acau], eI aq0 ak0 8 ag0, eI aq1 ak1 8 ag1, eI aq2 ak2 8 ag2, eI aq3 ak3 8 (ag3'), eI aq4 ak4 8 ag4, eI aq5 ak5 8 ag5, eI aq6 ak6 8 ag6] t.heap ∧ va_K (dC, dI) vwCl [(ak0, .int), (ak1, .int), (ak2, .int), (ak3, .boolean), (ak4, .int), (ak5, .int), (ak6, .int)] t ∧ va_D (va_A [eO h0 8 [.ref jb, .ref ji, .ref jd, .ref je, .ref jg, .ref qpa, .int pcn, .int ipn, .ref jt, .ref jr, .ref j1, .ref j2, .ref qsa], eO jb 0 [.ref aq0, .ref aq1, .ref aq2, .ref aq3, .ref aq4, .ref aq5, .ref aq6, .int aacc, .long afees, .int amis, .int abel, .int aref, .int acau], eI aq0 ak0 8 ag0, eI aq1 ak1 8 ag1, eI aq2 ak2 8 ag2, eI aq3 ak3 8 ag3, eI aq4 ak4 8 ag4, eI aq5 ak5 8 ag5, eI aq6 ak6 8 ag6] sz) [eO h0 8 [.ref jb, .ref ji, .ref jd, .ref je, .ref jg, .ref qpa, .int pcn, .int ipn, .ref jt, .ref jr, .ref j1, .ref j2, .ref qsa], eO jb 0 [.ref aq0, .ref aq1, .ref aq2, .ref aq3, .ref aq4, .ref aq5, .ref aq6, .int aacc, .long afees, .int amis, .int abel, .int aref, .int acau], eI aq0 ak0 8 ag0, eI aq1 ak1 8 ag1, eI aq2 ak2 8 ag2, eI aq3 ak3 8 (ag3'), eI aq4 ak4 8 ag4, eI aq5 ak5 8 ag5, eI aq6 ak6 8 ag6]) (va_A [eO h0 8 [.ref jb, .ref ji, .ref jd, .ref je, .ref jg, .ref qpa, .int pcn, .int ipn, .ref jt, .ref jr, .ref j1, .ref j2, .ref qsa], eO jb 0 [.ref aq0, .ref aq1, .ref aq2, .ref aq3, .ref aq4, .ref aq5, .ref aq6, .int aacc, .long afees, .int amis, .int abel, .int aref, .int acau], eI aq0 ak0 8 ag0, eI aq1 ak1 8 ag1, eI aq2 ak2 8 ag2, eI aq3 ak3 8 ag3, eI aq4 ak4 8 ag4, eI aq5 ak5 8 ag5, eI aq6 ak6 8 ag6] sz)) 0 0 (va_A [eO h0 8 [.ref jb, .ref ji, .ref jd, .ref je, .ref jg, .ref qpa, .int pcn, .int ipn, .ref jt, .ref jr, .ref j1, .ref j2, .ref qsa], eO jb 0 [.ref aq0, .ref aq1, .ref aq2, .ref aq3, .ref aq4, .ref aq5, .ref aq6, .int aacc, .long afees, .int amis, .int abel, .int aref, .int acau], eI aq0 ak0 8 ag0, eI aq1 ak1 8 ag1, eI aq2 ak2 8 ag2, eI aq3 ak3 8 ag3, eI aq4 ak4 8 ag4, eI aq5 ak5 8 ag5, eI aq6 ak6 8 ag6] sz) := by
  refine Met.ofW (cc := cX9_gate) (maxL := 4) (ret := (some .int)) (by decide) rfl ?_
  intro p e s m args below meth c s₁ B hml hv
  obtain ⟨rfl, hsz, hP, hK, hD0⟩ := hv
  have hx := B.exec
  have hb := B.bytes
  have hr := B.returns
  have hts := atoms_spec (ws := wsX9_gate) B.pre
  have hown : s.vm.findClass RX9 = some m.cls := findClass_of_methodNamed B.named
  have hlocks := B.notSynchronized
  subst hsz
  have hD := hD0.self (sz := s.heap.size)
  generalize hAe : va_A [eO h0 8 [.ref jb, .ref ji, .ref jd, .ref je, .ref jg, .ref qpa, .int pcn, .int ipn, .ref jt, .ref jr, .ref j1, .ref j2, .ref qsa], eO jb 0 [.ref aq0, .ref aq1, .ref aq2, .ref aq3, .ref aq4, .ref aq5, .ref aq6, .int aacc, .long afees, .int amis, .int abel, .int aref, .int acau], eI aq0 ak0 8 ag0, eI aq1 ak1 8 ag1, eI aq2 ak2 8 ag2, eI aq3 ak3 8 ag3, eI aq4 ak4 8 ag4, eI aq5 ak5 8 ag5, eI aq6 ak6 8 ag6] s.heap.size = A at hD ⊢
  have hA : ∀ q : Nat, s.heap.size ≤ q → A q := fun q h => by rw [← hAe]; exact Or.inr h
  have hS : va_S A s.heap s.heap [] := va_S.rf
  have hP : va_P (dC, dI) vwCl [eO h0 8 [.ref jb, .ref ji, .ref jd, .ref je, .ref jg, .ref qpa, .int pcn, .int ipn, .ref jt, .ref jr, .ref j1, .ref j2, .ref qsa], eO jb 0 [.ref aq0, .ref aq1, .ref aq2, .ref aq3, .ref aq4, .ref aq5, .ref aq6, .int aacc, .long afees, .int amis, .int abel, .int aref, .int acau], eI aq0 ak0 8 ag0, eI aq1 ak1 8 ag1, eI aq2 ak2 8 ag2, eI aq3 ak3 8 ag3, eI aq4 ak4 8 ag4, eI aq5 ak5 8 ag5, eI aq6 ak6 8 ag6] s.heap := hP
  have hl := lv_entry ([.ref h0, .int p0, .int p1]) (n := 4) (Nat.le_of_ble_eq_true rfl)
  rw [lg_entry_eq]
  generalize (lg_sl ([.ref h0, .int p0, .int p1]) ++ List.replicate (4 - (lg_sl ([.ref h0, .int p0, .int p1])).length) Slot.unset).toArray = ls at hl ⊢
  have hl : lv_has ls 4 [(0, .ref h0), (1, .int p0), (2, .int p1)] := hl
  suffices key9 : ∀ Q9 : State → Prop, Q9 = (MQ below (va_Qi (fun (r : Int32) (_ : Unit) => (r.toInt = -2 ∧ ¬(0 ≤ p0.toInt ∧ p0.toInt < aacc.toInt)) ∨ ((0 ≤ p0.toInt ∧ p0.toInt < aacc.toInt) ∧ r.toInt = (sp (24 + p0.toInt.toNat)).toInt)) (fun (_ : Unit) (t : State) => ∃ (ag3' : Nat → Int32), (Bs (pgate sp p0 p1) ag0 ag2 ag3' aacc) ∧ va_P (dC, dI) vwCl [eO h0 8 [.ref jb, .ref ji, .ref jd, .ref je, .ref jg, .ref qpa, .int pcn, .int ipn, .ref jt, .ref jr, .ref j1, .ref j2, .ref qsa], eO jb 0 [.ref aq0, .ref aq1, .ref aq2, .ref aq3, .ref aq4, .ref aq5, .ref aq6, .int aacc, .long afees, .int amis, .int abel, .int aref, .int acau], eI aq0 ak0 8 ag0, eI aq1 ak1 8 ag1, eI aq2 ak2 8 ag2, eI aq3 ak3 8 (ag3'), eI aq4 ak4 8 ag4, eI aq5 ak5 8 ag5, eI aq6 ak6 8 ag6] t.heap ∧ va_K (dC, dI) vwCl [(ak0, .int), (ak1, .int), (ak2, .int), (ak3, .boolean), (ak4, .int), (ak5, .int), (ak6, .int)] t ∧ va_D A [eO h0 8 [.ref jb, .ref ji, .ref jd, .ref je, .ref jg, .ref qpa, .int pcn, .int ipn, .ref jt, .ref jr, .ref j1, .ref j2, .ref qsa], eO jb 0 [.ref aq0, .ref aq1, .ref aq2, .ref aq3, .ref aq4, .ref aq5, .ref aq6, .int aacc, .long afees, .int amis, .int abel, .int aref, .int acau], eI aq0 ak0 8 ag0, eI aq1 ak1 8 ag1, eI aq2 ak2 8 ag2, eI aq3 ak3 8 (ag3'), eI aq4 ak4 8 ag4, eI aq5 ak5 8 ag5, eI aq6 ak6 8 ag6]) A) (([.ref h0, .int p0, .int p1] : List Value).toArray) s 0 0 A) → W p l e ({ frames := 1, cells := 0, slots := 0, locals := 21 }) s m (([.ref h0, .int p0, .int p1] : List Value).toArray) below meth c s.heap [] 0 0 Q9 (F0 m 0 ls []) from key9 _ rfl
  intro Q9 hQ9
  have k_m2 : ((-2) : Int32).toInt = (-2) := by decide
  have k_0 : (0 : Int32).toInt = 0 := by decide
  have k_1 : (1 : Int32).toInt = 1 := by decide
  refine lv_aload_n hx hb dX9_gate_0 rfl (lv_at hl 0 rfl) ?_
  refine va_get (D := (dC, dI)) (ci := 8) (v := .ref jb) (C := RX9) (T := TX9) (N := 13) hx hb hts (fun w h => List.mem_cons_of_mem _ (inlX9 w h)) hown hK hP 0 rfl rfl 0 (by decide) (hts (.fieldLink RX9 12 "ClearingGates" "books" "LClearingGates$Books;") (List.mem_cons_of_mem _ mw_208)) (fun _ h9 => h9) rfl dX9_gate_1 ?_
  refine lv_iload_n hx hb dX9_gate_4 rfl (lv_at hl 1 rfl) ?_
  obtain ⟨hPc, hDc, hFc, hCm, hNw⟩ := C_s (wc := [eO jb 0 [.ref aq0, .ref aq1, .ref aq2, .ref aq3, .ref aq4, .ref aq5, .ref aq6, .int aacc, .long afees, .int amis, .int abel, .int aref, .int acau]]) hP hD hS hA [(1, 1)] 9 rfl (by decide +kernel) rfl
  have hKc := K_s (tys' := []) hK [] rfl
  refine va_calli (va_runV (As := [.int p0]) (rest := []) ⟨hx, hb, hml, hown, hts⟩ (c_X0_has l dC dI jb p0 (.ref aq0) (.ref aq1) (.ref aq2) (.ref aq3) (.ref aq4) (.ref aq5) (.ref aq6) aacc (.long afees) (.int amis) (.int abel) (.int aref) (.int acau) s.heap.size) (cwV 1 hts gX9_gate_X0_has rfl rfl rfl (by decide +kernel) ⟨Nat.le_of_ble_eq_true rfl, Nat.le_of_ble_eq_true rfl⟩) ⟨fun a U g mk q => by obtain ⟨q0, q1, qP, qK, qD⟩ := q; exact ⟨q0, q1, qP, va_K.moved (u := U) (U := U.calling g mk a) (Vm.Alike.refl U.vm) qK, qD⟩, va_recv (s := s) (q := (RX0, TX0, 13)) hKc hPc (ci := 0) (q0 := 0) rfl rfl, fun U hU hW => ⟨rfl, by rw [hU], by rw [hU]; exact hPc, va_K.moved hW.alike hKc, hDc.weaken (fun _ _ _ _ => trivial)⟩⟩ rfl rfl hl.1 rfl (lv_room (Nat.le_of_ble_eq_true rfl)) dX9_gate_5 ⟨Nat.le_of_ble_eq_true rfl, Nat.le_of_ble_eq_true rfl⟩) hS (fun q _ h => hFc q h) hFc (fun r1 u t H1 locs ht hvm hw hB hz1 hk1 hS => ?_)
  obtain ⟨hP1, hK1, hD1⟩ := hB
  rw [ht] at hP1
  have hK1 := va_K.moved hvm.symm hK1
  try dsimp only at hw
  obtain ⟨hP, hD⟩ := J_s (wL := [eO h0 8 [.ref jb, .ref ji, .ref jd, .ref je, .ref jg, .ref qpa, .int pcn, .int ipn, .ref jt, .ref jr, .ref j1, .ref j2, .ref qsa], eI aq0 ak0 8 ag0, eI aq1 ak1 8 ag1, eI aq2 ak2 8 ag2, eI aq3 ak3 8 ag3, eI aq4 ak4 8 ag4, eI aq5 ak5 8 ag5, eI aq6 ak6 8 ag6, eO jb 0 [.ref aq0, .ref aq1, .ref aq2, .ref aq3, .ref aq4, .ref aq5, .ref aq6, .int aacc, .long afees, .int amis, .int abel, .int aref, .int acau]]) hP hD [(1, 1)] [(0, 1), (2, 7)] hCm hNw (by decide +kernel) hk1 hFc hP1 hD1 rfl
  have hK := KJ_s (tys' := [(ak0, .int), (ak1, .int), (ak2, .int), (ak3, .boolean), (ak4, .int), (ak5, .int), (ak6, .int)]) hK hK1 [(0, 7)] rfl
  generalize H1 = H at hP hS ⊢
  rcases hw with ⟨e_r1, f_r1⟩ | ⟨e_r1, f_r1⟩
  · subst e_r1
    refine lv_if_ne (tgt := 14) hx hb dX9_gate_8 (by decide) (fun c2 => ?_) (fun c2 => absurd c2 (by decide))
    refine lv_aload_n hx hb dX9_gate_14 rfl (lv_at hl 0 rfl) ?_
    refine va_get (D := (dC, dI)) (ci := 8) (v := .ref jb) (C := RX9) (T := TX9) (N := 13) hx hb hts (fun w h => List.mem_cons_of_mem _ (inlX9 w h)) hown hK hP 0 rfl rfl 0 (by decide) (hts (.fieldLink RX9 12 "ClearingGates" "books" "LClearingGates$Books;") (List.mem_cons_of_mem _ mw_208)) (fun _ h9 => h9) rfl dX9_gate_15 ?_
    refine va_get (D := (dC, dI)) (ci := 0) (v := .ref aq3) (C := RX0) (T := TX0) (N := 13) hx hb hts (fun w h => List.mem_cons_of_mem _ (inlX0 w h)) hown hK hP 8 rfl rfl 3 (by decide) (hts (.fieldLink RX9 114 "ClearingGates$Books" "gates" "[Z") (List.mem_cons_of_mem _ mw_102)) (fun _ h9 => h9) rfl dX9_gate_18 ?_
    refine lv_iload_n hx hb dX9_gate_21 rfl (lv_at hl 1 rfl) ?_
    refine va_zald (D := (dC, dI)) hx hb hK hP 4 3 rfl rfl (vp_in_iff.mpr ⟨by omega, by omega⟩) dX9_gate_22 ?_
    refine lv_topi (fun z3 e_z3 => ?_)
    obtain ⟨u_z3, v_z3⟩ : z3.toInt = (sp (24 + p0.toInt.toNat)).toInt ∧ ((sp (24 + p0.toInt.toNat)).toInt = 0 ∨ (sp (24 + p0.toInt.toNat)).toInt = 1) := by rw [e_z3]; exact bs_g hbs (by omega) (by omega)
    refine lv_istore_n (lv' := [(3, .int z3), (0, .ref h0), (1, .int p0), (2, .int p1)]) hx hb dX9_gate_23 rfl hl (by decide) rfl (fun ls hl => ?_)
    refine lv_aload_n hx hb dX9_gate_24 rfl (lv_at hl 1 rfl) ?_
    refine va_get (D := (dC, dI)) (ci := 8) (v := .ref jb) (C := RX9) (T := TX9) (N := 13) hx hb hts (fun w h => List.mem_cons_of_mem _ (inlX9 w h)) hown hK hP 0 rfl rfl 0 (by decide) (hts (.fieldLink RX9 12 "ClearingGates" "books" "LClearingGates$Books;") (List.mem_cons_of_mem _ mw_208)) (fun _ h9 => h9) rfl dX9_gate_25 ?_
    refine va_get (D := (dC, dI)) (ci := 0) (v := .ref aq3) (C := RX0) (T := TX0) (N := 13) hx hb hts (fun w h => List.mem_cons_of_mem _ (inlX0 w h)) hown hK hP 8 rfl rfl 3 (by decide) (hts (.fieldLink RX9 114 "ClearingGates$Books" "gates" "[Z") (List.mem_cons_of_mem _ mw_102)) (fun _ h9 => h9) rfl dX9_gate_28 ?_
    refine lv_iload_n hx hb dX9_gate_31 rfl (lv_at hl 2 rfl) ?_
    refine lv_iload_n hx hb dX9_gate_32 rfl (lv_at hl 3 rfl) ?_
    refine va_zast (D := (dC, dI)) hx hb hK hP hD hS 4 3 rfl rfl (vp_in_iff.mpr ⟨by omega, by omega⟩) dX9_gate_33 (fun H locs hP hD hS => ?_)
    generalize e_g4 : (upd ag3 (p0).toNatClampNeg (vp_nar .boolean p1)) = g4 at hP hD
    obtain ⟨hP, hD⟩ := X_s (ws' := [eO h0 8 [.ref jb, .ref ji, .ref jd, .ref je, .ref jg, .ref qpa, .int pcn, .int ipn, .ref jt, .ref jr, .ref j1, .ref j2, .ref qsa], eI aq0 ak0 8 ag0, eI aq1 ak1 8 ag1, eI aq2 ak2 8 ag2, eI aq3 ak3 8 g4, eI aq4 ak4 8 ag4, eI aq5 ak5 8 ag5, eI aq6 ak6 8 ag6, eO jb 0 [.ref aq0, .ref aq1, .ref aq2, .ref aq3, .ref aq4, .ref aq5, .ref aq6, .int aacc, .long afees, .int amis, .int abel, .int aref, .int acau]]) hP hD rfl
    refine lv_iload_n hx hb dX9_gate_34 rfl (lv_at hl 0 rfl) ?_
    refine lv_if_eq (tgt := 42) hx hb dX9_gate_35 (by decide) (fun c5 => ?_) (fun c5 => ?_)
    · skip
      have f_c5 := i_eq c5
      refine lv_iconst (v := 0) hx hb dX9_gate_42 (by decide) ?_
      rw [hQ9]
      exact W.iret (v := 0) hx hb hr (fun t ht hW => ⟨⟨0, (), rfl, (by omega), g4, (bs_gate hbs (by omega) (by omega) hb1 (by rw [← e_g4]; rfl)), by rw [ht]; exact P_s hP [(0, 1), (8, 1), (1, 7)] rfl, va_K.moved hW.alike hK, D_s hD [(0, 1), (8, 1), (1, 7)] 9 rfl (by decide +kernel) rfl⟩, hS.F ht⟩) hS.2.2 dX9_gate_43
    · skip
      have f_c5 := i_ne c5
      refine lv_iconst (v := 1) hx hb dX9_gate_38 (by decide) ?_
      refine lv_goto (tgt := 43) hx hb dX9_gate_39 (by decide) ?_
      rw [hQ9]
      exact W.iret (v := 1) hx hb hr (fun t ht hW => ⟨⟨1, (), rfl, (by omega), g4, (bs_gate hbs (by omega) (by omega) hb1 (by rw [← e_g4]; rfl)), by rw [ht]; exact P_s hP [(0, 1), (8, 1), (1, 7)] rfl, va_K.moved hW.alike hK, D_s hD [(0, 1), (8, 1), (1, 7)] 9 rfl (by decide +kernel) rfl⟩, hS.F ht⟩) hS.2.2 dX9_gate_43
  · subst e_r1
    refine lv_if_ne (tgt := 14) hx hb dX9_gate_8 (by decide) (fun c6 => absurd (by decide) c6) (fun c6 => ?_)
    refine lv_bipush (v := -2) hx hb dX9_gate_11 (by decide) ?_
    rw [hQ9]
    exact W.iret (v := (-2)) hx hb hr (fun t ht hW => ⟨⟨(-2), (), rfl, (by omega), ag3, (bs_gaten hbs (by omega)), by rw [ht]; exact P_s hP [(0, 1), (8, 1), (1, 7)] rfl, va_K.moved hW.alike hK, D_s hD [(0, 1), (8, 1), (1, 7)] 9 rfl (by decide +kernel) rfl⟩, hS.F ht⟩) hS.2.2 dX9_gate_13

set_option maxRecDepth 100000 in
set_option maxHeartbeats 4000000 in
/-- told -/
theorem c_X9_told (l : Launch) (dC : Nat → ClassId) (dI : Nat → Nat → Nat) (h0 : Nat) (p0 : Int32) (p1 : Int32) (jb : Nat) (ji : Nat) (jd : Nat) (je : Nat) (jg : Nat) (qpa : Nat) (pcn : Int32) (ipn : Int32) (jt : Nat) (jr : Nat) (j1 : Nat) (j2 : Nat) (qsa : Nat) (aq0 : Nat) (aq1 : Nat) (aq2 : Nat) (aq3 : Nat) (aq4 : Nat) (aq5 : Nat) (aq6 : Nat) (aacc : Int32) (afees : Int64) (amis : Int32) (abel : Int32) (aref : Int32) (acau : Int32) (ak0 : ClassId) (ag0 : Nat → Int32) (ak1 : ClassId) (ag1 : Nat → Int32) (ak2 : ClassId) (ag2 : Nat → Int32) (ak3 : ClassId) (ag3 : Nat → Int32) (ak4 : ClassId) (ag4 : Nat → Int32) (ak5 : ClassId) (ag5 : Nat → Int32) (ak6 : ClassId) (ag6 : Nat → Int32) (sz : Nat) (va1 : 0 ≤ aacc.toInt) (va2 : aacc.toInt ≤ 8) : Met l yX9_told wsX9_told ({ frames := 2, cells := 0, slots := 0, locals := 43 }) (va_Pc [.ref h0, .int p0, .int p1] (fun U => U.heap.size = sz ∧ va_P (dC, dI) vwCl [eO h0 8 [.ref jb, .ref ji, .ref jd, .ref je, .ref jg, .ref qpa, .int pcn, .int ipn, .ref jt, .ref jr, .ref j1, .ref j2, .ref qsa], eO jb 0 [.ref aq0, .ref aq1, .ref aq2, .ref aq3, .ref aq4, .ref aq5, .ref aq6, .int aacc, .long afees, .int amis, .int abel, .int aref, .int acau], eI aq0 ak0 8 ag0, eI aq1 ak1 8 ag1, eI aq2 ak2 8 ag2, eI aq3 ak3 8 ag3, eI aq4 ak4 8 ag4, eI aq5 ak5 8 ag5, eI aq6 ak6 8 ag6] U.heap ∧ va_K (dC, dI) vwCl [(ak0, .int), (ak1, .int), (ak2, .int), (ak3, .boolean), (ak4, .int), (ak5, .int), (ak6, .int)] U ∧ va_D (fun _ => True) [eO h0 8 [.ref jb, .ref ji, .ref jd, .ref je, .ref jg, .ref qpa, .int pcn, .int ipn, .ref jt, .ref jr, .ref j1, .ref j2, .ref qsa], eO jb 0 [.ref aq0, .ref aq1, .ref aq2, .ref aq3, .ref aq4, .ref aq5, .ref aq6, .int aacc, .long afees, .int amis, .int abel, .int aref, .int acau], eI aq0 ak0 8 ag0, eI aq1 ak1 8 ag1, eI aq2 ak2 8 ag2, eI aq3 ak3 8 ag3, eI aq4 ak4 8 ag4, eI aq5 ak5 8 ag5, eI aq6 ak6 8 ag6])) (va_Qi (fun (r : Int32) (_ : Unit) => True) (fun (_ : Unit) (t : State) => va_P (dC, dI) vwCl [eO h0 8 [.ref jb, .ref ji, .ref jd, .ref je, .ref jg, .ref qpa, .int pcn, .int ipn, .ref jt, .ref jr, .ref j1, .ref j2, .ref qsa], eO jb 0 [.ref aq0, .ref aq1, .ref aq2, .ref aq3, .ref aq4, .ref aq5, .ref aq6, .int aacc, .long afees, .int amis, .int abel, .int aref, .int acau], eI aq0 ak0 8 ag0, eI aq1 ak1 8 ag1, eI aq2 ak2 8 ag2, eI aq3 ak3 8 ag3, eI aq4 ak4 8 ag4, eI aq5 ak5 8 ag5, eI aq6 ak6 8 ag6] t.heap ∧ va_K (dC, dI) vwCl [(ak0, .int), (ak1, .int), (ak2, .int), (ak3, .boolean), (ak4, .int), (ak5, .int), (ak6, .int)] t ∧ va_D (va_A [eO h0 8 [.ref jb, .ref ji, .ref jd, .ref je, .ref jg, .ref qpa, .int pcn, .int ipn, .ref jt, .ref jr, .ref j1, .ref j2, .ref qsa], eO jb 0 [.ref aq0, .ref aq1, .ref aq2, .ref aq3, .ref aq4, .ref aq5, .ref aq6, .int aacc, .long afees, .int amis, .int abel, .int aref, .int acau], eI aq0 ak0 8 ag0, eI aq1 ak1 8 ag1, eI aq2 ak2 8 ag2, eI aq3 ak3 8 ag3, eI aq4 ak4 8 ag4, eI aq5 ak5 8 ag5, eI aq6 ak6 8 ag6] sz) [eO h0 8 [.ref jb, .ref ji, .ref jd, .ref je, .ref jg, .ref qpa, .int pcn, .int ipn, .ref jt, .ref jr, .ref j1, .ref j2, .ref qsa], eO jb 0 [.ref aq0, .ref aq1, .ref aq2, .ref aq3, .ref aq4, .ref aq5, .ref aq6, .int aacc, .long afees, .int amis, .int abel, .int aref, .int acau], eI aq0 ak0 8 ag0, eI aq1 ak1 8 ag1, eI aq2 ak2 8 ag2, eI aq3 ak3 8 ag3, eI aq4 ak4 8 ag4, eI aq5 ak5 8 ag5, eI aq6 ak6 8 ag6]) (va_A [eO h0 8 [.ref jb, .ref ji, .ref jd, .ref je, .ref jg, .ref qpa, .int pcn, .int ipn, .ref jt, .ref jr, .ref j1, .ref j2, .ref qsa], eO jb 0 [.ref aq0, .ref aq1, .ref aq2, .ref aq3, .ref aq4, .ref aq5, .ref aq6, .int aacc, .long afees, .int amis, .int abel, .int aref, .int acau], eI aq0 ak0 8 ag0, eI aq1 ak1 8 ag1, eI aq2 ak2 8 ag2, eI aq3 ak3 8 ag3, eI aq4 ak4 8 ag4, eI aq5 ak5 8 ag5, eI aq6 ak6 8 ag6] sz)) 0 0 (va_A [eO h0 8 [.ref jb, .ref ji, .ref jd, .ref je, .ref jg, .ref qpa, .int pcn, .int ipn, .ref jt, .ref jr, .ref j1, .ref j2, .ref qsa], eO jb 0 [.ref aq0, .ref aq1, .ref aq2, .ref aq3, .ref aq4, .ref aq5, .ref aq6, .int aacc, .long afees, .int amis, .int abel, .int aref, .int acau], eI aq0 ak0 8 ag0, eI aq1 ak1 8 ag1, eI aq2 ak2 8 ag2, eI aq3 ak3 8 ag3, eI aq4 ak4 8 ag4, eI aq5 ak5 8 ag5, eI aq6 ak6 8 ag6] sz) := by
  refine Met.ofW (cc := cX9_told) (maxL := 3) (ret := (some .int)) (by decide) rfl ?_
  intro p e s m args below meth c s₁ B hml hv
  obtain ⟨rfl, hsz, hP, hK, hD0⟩ := hv
  have hx := B.exec
  have hb := B.bytes
  have hr := B.returns
  have hts := atoms_spec (ws := wsX9_told) B.pre
  have hown : s.vm.findClass RX9 = some m.cls := findClass_of_methodNamed B.named
  have hlocks := B.notSynchronized
  subst hsz
  have hD := hD0.self (sz := s.heap.size)
  generalize hAe : va_A [eO h0 8 [.ref jb, .ref ji, .ref jd, .ref je, .ref jg, .ref qpa, .int pcn, .int ipn, .ref jt, .ref jr, .ref j1, .ref j2, .ref qsa], eO jb 0 [.ref aq0, .ref aq1, .ref aq2, .ref aq3, .ref aq4, .ref aq5, .ref aq6, .int aacc, .long afees, .int amis, .int abel, .int aref, .int acau], eI aq0 ak0 8 ag0, eI aq1 ak1 8 ag1, eI aq2 ak2 8 ag2, eI aq3 ak3 8 ag3, eI aq4 ak4 8 ag4, eI aq5 ak5 8 ag5, eI aq6 ak6 8 ag6] s.heap.size = A at hD ⊢
  have hA : ∀ q : Nat, s.heap.size ≤ q → A q := fun q h => by rw [← hAe]; exact Or.inr h
  have hS : va_S A s.heap s.heap [] := va_S.rf
  have hP : va_P (dC, dI) vwCl [eO h0 8 [.ref jb, .ref ji, .ref jd, .ref je, .ref jg, .ref qpa, .int pcn, .int ipn, .ref jt, .ref jr, .ref j1, .ref j2, .ref qsa], eO jb 0 [.ref aq0, .ref aq1, .ref aq2, .ref aq3, .ref aq4, .ref aq5, .ref aq6, .int aacc, .long afees, .int amis, .int abel, .int aref, .int acau], eI aq0 ak0 8 ag0, eI aq1 ak1 8 ag1, eI aq2 ak2 8 ag2, eI aq3 ak3 8 ag3, eI aq4 ak4 8 ag4, eI aq5 ak5 8 ag5, eI aq6 ak6 8 ag6] s.heap := hP
  have hl := lv_entry ([.ref h0, .int p0, .int p1]) (n := 3) (Nat.le_of_ble_eq_true rfl)
  rw [lg_entry_eq]
  generalize (lg_sl ([.ref h0, .int p0, .int p1]) ++ List.replicate (3 - (lg_sl ([.ref h0, .int p0, .int p1])).length) Slot.unset).toArray = ls at hl ⊢
  have hl : lv_has ls 3 [(0, .ref h0), (1, .int p0), (2, .int p1)] := hl
  suffices key9 : ∀ Q9 : State → Prop, Q9 = (MQ below (va_Qi (fun (r : Int32) (_ : Unit) => True) (fun (_ : Unit) (t : State) => va_P (dC, dI) vwCl [eO h0 8 [.ref jb, .ref ji, .ref jd, .ref je, .ref jg, .ref qpa, .int pcn, .int ipn, .ref jt, .ref jr, .ref j1, .ref j2, .ref qsa], eO jb 0 [.ref aq0, .ref aq1, .ref aq2, .ref aq3, .ref aq4, .ref aq5, .ref aq6, .int aacc, .long afees, .int amis, .int abel, .int aref, .int acau], eI aq0 ak0 8 ag0, eI aq1 ak1 8 ag1, eI aq2 ak2 8 ag2, eI aq3 ak3 8 ag3, eI aq4 ak4 8 ag4, eI aq5 ak5 8 ag5, eI aq6 ak6 8 ag6] t.heap ∧ va_K (dC, dI) vwCl [(ak0, .int), (ak1, .int), (ak2, .int), (ak3, .boolean), (ak4, .int), (ak5, .int), (ak6, .int)] t ∧ va_D A [eO h0 8 [.ref jb, .ref ji, .ref jd, .ref je, .ref jg, .ref qpa, .int pcn, .int ipn, .ref jt, .ref jr, .ref j1, .ref j2, .ref qsa], eO jb 0 [.ref aq0, .ref aq1, .ref aq2, .ref aq3, .ref aq4, .ref aq5, .ref aq6, .int aacc, .long afees, .int amis, .int abel, .int aref, .int acau], eI aq0 ak0 8 ag0, eI aq1 ak1 8 ag1, eI aq2 ak2 8 ag2, eI aq3 ak3 8 ag3, eI aq4 ak4 8 ag4, eI aq5 ak5 8 ag5, eI aq6 ak6 8 ag6]) A) (([.ref h0, .int p0, .int p1] : List Value).toArray) s 0 0 A) → W p l e ({ frames := 2, cells := 0, slots := 0, locals := 43 }) s m (([.ref h0, .int p0, .int p1] : List Value).toArray) below meth c s.heap [] 0 0 Q9 (F0 m 0 ls []) from key9 _ rfl
  intro Q9 hQ9
  have k_m2 : ((-2) : Int32).toInt = (-2) := by decide
  have k_0 : (0 : Int32).toInt = 0 := by decide
  have k_1 : (1 : Int32).toInt = 1 := by decide
  have k_2 : (2 : Int32).toInt = 2 := by decide
  have k_3 : (3 : Int32).toInt = 3 := by decide
  have k_4 : (4 : Int32).toInt = 4 := by decide
  have k_5 : (5 : Int32).toInt = 5 := by decide
  have k_6 : (6 : Int32).toInt = 6 := by decide
  have k_100 : (100 : Int32).toInt = 100 := by decide
  refine lv_aload_n hx hb dX9_told_0 rfl (lv_at hl 0 rfl) ?_
  refine va_get (D := (dC, dI)) (ci := 8) (v := .ref jb) (C := RX9) (T := TX9) (N := 13) hx hb hts (fun w h => List.mem_cons_of_mem _ (inlX9 w h)) hown hK hP 0 rfl rfl 0 (by decide) (hts (.fieldLink RX9 12 "ClearingGates" "books" "LClearingGates$Books;") (List.mem_cons_of_mem _ mw_208)) (fun _ h9 => h9) rfl dX9_told_1 ?_
  refine lv_iload_n hx hb dX9_told_4 rfl (lv_at hl 1 rfl) ?_
  obtain ⟨hPc, hDc, hFc, hCm, hNw⟩ := C_s (wc := [eO jb 0 [.ref aq0, .ref aq1, .ref aq2, .ref aq3, .ref aq4, .ref aq5, .ref aq6, .int aacc, .long afees, .int amis, .int abel, .int aref, .int acau]]) hP hD hS hA [(1, 1)] 9 rfl (by decide +kernel) rfl
  have hKc := K_s (tys' := []) hK [] rfl
  refine va_calli (va_runV (As := [.int p0]) (rest := []) ⟨hx, hb, hml, hown, hts⟩ (c_X0_has l dC dI jb p0 (.ref aq0) (.ref aq1) (.ref aq2) (.ref aq3) (.ref aq4) (.ref aq5) (.ref aq6) aacc (.long afees) (.int amis) (.int abel) (.int aref) (.int acau) s.heap.size) (cwV 1 hts gX9_told_X0_has rfl rfl rfl (by decide +kernel) ⟨Nat.le_of_ble_eq_true rfl, Nat.le_of_ble_eq_true rfl⟩) ⟨fun a U g mk q => by obtain ⟨q0, q1, qP, qK, qD⟩ := q; exact ⟨q0, q1, qP, va_K.moved (u := U) (U := U.calling g mk a) (Vm.Alike.refl U.vm) qK, qD⟩, va_recv (s := s) (q := (RX0, TX0, 13)) hKc hPc (ci := 0) (q0 := 0) rfl rfl, fun U hU hW => ⟨rfl, by rw [hU], by rw [hU]; exact hPc, va_K.moved hW.alike hKc, hDc.weaken (fun _ _ _ _ => trivial)⟩⟩ rfl rfl hl.1 rfl (lv_room (Nat.le_of_ble_eq_true rfl)) dX9_told_5 ⟨Nat.le_of_ble_eq_true rfl, Nat.le_of_ble_eq_true rfl⟩) hS (fun q _ h => hFc q h) hFc (fun r1 u t H1 locs ht hvm hw hB hz1 hk1 hS => ?_)
  obtain ⟨hP1, hK1, hD1⟩ := hB
  rw [ht] at hP1
  have hK1 := va_K.moved hvm.symm hK1
  try dsimp only at hw
  obtain ⟨hP, hD⟩ := J_s (wL := [eO h0 8 [.ref jb, .ref ji, .ref jd, .ref je, .ref jg, .ref qpa, .int pcn, .int ipn, .ref jt, .ref jr, .ref j1, .ref j2, .ref qsa], eI aq0 ak0 8 ag0, eI aq1 ak1 8 ag1, eI aq2 ak2 8 ag2, eI aq3 ak3 8 ag3, eI aq4 ak4 8 ag4, eI aq5 ak5 8 ag5, eI aq6 ak6 8 ag6, eO jb 0 [.ref aq0, .ref aq1, .ref aq2, .ref aq3, .ref aq4, .ref aq5, .ref aq6, .int aacc, .long afees, .int amis, .int abel, .int aref, .int acau]]) hP hD [(1, 1)] [(0, 1), (2, 7)] hCm hNw (by decide +kernel) hk1 hFc hP1 hD1 rfl
  have hK := KJ_s (tys' := [(ak0, .int), (ak1, .int), (ak2, .int), (ak3, .boolean), (ak4, .int), (ak5, .int), (ak6, .int)]) hK hK1 [(0, 7)] rfl
  generalize H1 = H at hP hS ⊢
  rcases hw with ⟨e_r1, f_r1⟩ | ⟨e_r1, f_r1⟩
  · subst e_r1
    refine lv_if_ne (tgt := 14) hx hb dX9_told_8 (by decide) (fun c2 => ?_) (fun c2 => absurd c2 (by decide))
    refine lv_iload_n hx hb dX9_told_14 rfl (lv_at hl 2 rfl) ?_
    rcases Decidable.em (p1 = 0) with c3 | c3
    · refine lv_tableIn (off := 41) (tgt := 56) hx hb dX9_told_15 (by rw [c3]; decide) (by rw [c3]; decide) (by rw [c3]; decide) (by decide) ?_
      have f_c3 := i_eq c3
      refine lv_aload_n hx hb dX9_told_56 rfl (lv_at hl 0 rfl) ?_
      refine va_get (D := (dC, dI)) (ci := 8) (v := .ref jb) (C := RX9) (T := TX9) (N := 13) hx hb hts (fun w h => List.mem_cons_of_mem _ (inlX9 w h)) hown hK hP 0 rfl rfl 0 (by decide) (hts (.fieldLink RX9 12 "ClearingGates" "books" "LClearingGates$Books;") (List.mem_cons_of_mem _ mw_208)) (fun _ h9 => h9) rfl dX9_told_57 ?_
      refine va_get (D := (dC, dI)) (ci := 0) (v := .ref aq0) (C := RX0) (T := TX0) (N := 13) hx hb hts (fun w h => List.mem_cons_of_mem _ (inlX0 w h)) hown hK hP 8 rfl rfl 0 (by decide) (hts (.fieldLink RX9 118 "ClearingGates$Books" "kinds" "[I") (List.mem_cons_of_mem _ mw_95)) (fun _ h9 => h9) rfl dX9_told_60 ?_
      refine lv_iload_n hx hb dX9_told_63 rfl (lv_at hl 1 rfl) ?_
      refine va_iald (D := (dC, dI)) hx hb hK hP 1 0 rfl rfl (vp_in_iff.mpr ⟨by omega, by omega⟩) dX9_told_64 ?_
      refine lv_topi (fun z4 e_z4 => ?_)
      rw [hQ9]
      exact W.iret (v := z4) hx hb hr (fun t ht hW => ⟨⟨z4, (), rfl, (by first | rfl | trivial), by rw [ht]; exact P_s hP [(0, 1), (8, 1), (1, 7)] rfl, va_K.moved hW.alike hK, D_s hD [(0, 1), (8, 1), (1, 7)] 9 rfl (by decide +kernel) rfl⟩, hS.F ht⟩) hS.2.2 dX9_told_65
    have f_c3 := i_ne c3
    rcases Decidable.em (p1 = 1) with c5 | c5
    · refine lv_tableIn (off := 51) (tgt := 66) hx hb dX9_told_15 (by rw [c5]; decide) (by rw [c5]; decide) (by rw [c5]; decide) (by decide) ?_
      have f_c5 := i_eq c5
      refine lv_aload_n hx hb dX9_told_66 rfl (lv_at hl 0 rfl) ?_
      refine va_get (D := (dC, dI)) (ci := 8) (v := .ref jb) (C := RX9) (T := TX9) (N := 13) hx hb hts (fun w h => List.mem_cons_of_mem _ (inlX9 w h)) hown hK hP 0 rfl rfl 0 (by decide) (hts (.fieldLink RX9 12 "ClearingGates" "books" "LClearingGates$Books;") (List.mem_cons_of_mem _ mw_208)) (fun _ h9 => h9) rfl dX9_told_67 ?_
      refine va_get (D := (dC, dI)) (ci := 0) (v := .ref aq2) (C := RX0) (T := TX0) (N := 13) hx hb hts (fun w h => List.mem_cons_of_mem _ (inlX0 w h)) hown hK hP 8 rfl rfl 2 (by decide) (hts (.fieldLink RX9 111 "ClearingGates$Books" "limits" "[I") (List.mem_cons_of_mem _ mw_100)) (fun _ h9 => h9) rfl dX9_told_70 ?_
      refine lv_iload_n hx hb dX9_told_73 rfl (lv_at hl 1 rfl) ?_
      refine va_iald (D := (dC, dI)) hx hb hK hP 3 2 rfl rfl (vp_in_iff.mpr ⟨by omega, by omega⟩) dX9_told_74 ?_
      refine lv_topi (fun z6 e_z6 => ?_)
      rw [hQ9]
      exact W.iret (v := z6) hx hb hr (fun t ht hW => ⟨⟨z6, (), rfl, (by first | rfl | trivial), by rw [ht]; exact P_s hP [(0, 1), (8, 1), (1, 7)] rfl, va_K.moved hW.alike hK, D_s hD [(0, 1), (8, 1), (1, 7)] 9 rfl (by decide +kernel) rfl⟩, hS.F ht⟩) hS.2.2 dX9_told_75
    have f_c5 := i_ne c5
    rcases Decidable.em (p1 = 2) with c7 | c7
    · refine lv_tableIn (off := 61) (tgt := 76) hx hb dX9_told_15 (by rw [c7]; decide) (by rw [c7]; decide) (by rw [c7]; decide) (by decide) ?_
      have f_c7 := i_eq c7
      refine lv_aload_n hx hb dX9_told_76 rfl (lv_at hl 0 rfl) ?_
      refine va_get (D := (dC, dI)) (ci := 8) (v := .ref jb) (C := RX9) (T := TX9) (N := 13) hx hb hts (fun w h => List.mem_cons_of_mem _ (inlX9 w h)) hown hK hP 0 rfl rfl 0 (by decide) (hts (.fieldLink RX9 12 "ClearingGates" "books" "LClearingGates$Books;") (List.mem_cons_of_mem _ mw_208)) (fun _ h9 => h9) rfl dX9_told_77 ?_
      refine va_get (D := (dC, dI)) (ci := 0) (v := .ref aq3) (C := RX0) (T := TX0) (N := 13) hx hb hts (fun w h => List.mem_cons_of_mem _ (inlX0 w h)) hown hK hP 8 rfl rfl 3 (by decide) (hts (.fieldLink RX9 114 "ClearingGates$Books" "gates" "[Z") (List.mem_cons_of_mem _ mw_102)) (fun _ h9 => h9) rfl dX9_told_80 ?_
      refine lv_iload_n hx hb dX9_told_83 rfl (lv_at hl 1 rfl) ?_
      refine va_zald (D := (dC, dI)) hx hb hK hP 4 3 rfl rfl (vp_in_iff.mpr ⟨by omega, by omega⟩) dX9_told_84 ?_
      refine lv_topi (fun z8 e_z8 => ?_)
      refine lv_if_eq (tgt := 92) hx hb dX9_told_85 (by decide) (fun c9 => ?_) (fun c9 => ?_)
      · skip
        have f_c9 := i_eq c9
        refine lv_iconst (v := 0) hx hb dX9_told_92 (by decide) ?_
        rw [hQ9]
        exact W.iret (v := 0) hx hb hr (fun t ht hW => ⟨⟨0, (), rfl, (by first | rfl | trivial), by rw [ht]; exact P_s hP [(0, 1), (8, 1), (1, 7)] rfl, va_K.moved hW.alike hK, D_s hD [(0, 1), (8, 1), (1, 7)] 9 rfl (by decide +kernel) rfl⟩, hS.F ht⟩) hS.2.2 dX9_told_93
      · skip
        have f_c9 := i_ne c9
        refine lv_iconst (v := 1) hx hb dX9_told_88 (by decide) ?_
        refine lv_goto (tgt := 93) hx hb dX9_told_89 (by decide) ?_
        rw [hQ9]
        exact W.iret (v := 1) hx hb hr (fun t ht hW => ⟨⟨1, (), rfl, (by first | rfl | trivial), by rw [ht]; exact P_s hP [(0, 1), (8, 1), (1, 7)] rfl, va_K.moved hW.alike hK, D_s hD [(0, 1), (8, 1), (1, 7)] 9 rfl (by decide +kernel) rfl⟩, hS.F ht⟩) hS.2.2 dX9_told_93
    have f_c7 := i_ne c7
    rcases Decidable.em (p1 = 3) with c10 | c10
    · refine lv_tableIn (off := 79) (tgt := 94) hx hb dX9_told_15 (by rw [c10]; decide) (by rw [c10]; decide) (by rw [c10]; decide) (by decide) ?_
      have f_c10 := i_eq c10
      refine lv_aload_n hx hb dX9_told_94 rfl (lv_at hl 0 rfl) ?_
      refine va_get (D := (dC, dI)) (ci := 8) (v := .ref jb) (C := RX9) (T := TX9) (N := 13) hx hb hts (fun w h => List.mem_cons_of_mem _ (inlX9 w h)) hown hK hP 0 rfl rfl 0 (by decide) (hts (.fieldLink RX9 12 "ClearingGates" "books" "LClearingGates$Books;") (List.mem_cons_of_mem _ mw_208)) (fun _ h9 => h9) rfl dX9_told_95 ?_
      refine va_get (D := (dC, dI)) (ci := 0) (v := .ref aq4) (C := RX0) (T := TX0) (N := 13) hx hb hts (fun w h => List.mem_cons_of_mem _ (inlX0 w h)) hown hK hP 8 rfl rfl 4 (by decide) (hts (.fieldLink RX9 121 "ClearingGates$Books" "entries" "[I") (List.mem_cons_of_mem _ mw_104)) (fun _ h9 => h9) rfl dX9_told_98 ?_
      refine lv_iload_n hx hb dX9_told_101 rfl (lv_at hl 1 rfl) ?_
      refine va_iald (D := (dC, dI)) hx hb hK hP 5 4 rfl rfl (vp_in_iff.mpr ⟨by omega, by omega⟩) dX9_told_102 ?_
      refine lv_topi (fun z11 e_z11 => ?_)
      rw [hQ9]
      exact W.iret (v := z11) hx hb hr (fun t ht hW => ⟨⟨z11, (), rfl, (by first | rfl | trivial), by rw [ht]; exact P_s hP [(0, 1), (8, 1), (1, 7)] rfl, va_K.moved hW.alike hK, D_s hD [(0, 1), (8, 1), (1, 7)] 9 rfl (by decide +kernel) rfl⟩, hS.F ht⟩) hS.2.2 dX9_told_103
    have f_c10 := i_ne c10
    rcases Decidable.em (p1 = 4) with c12 | c12
    · refine lv_tableIn (off := 89) (tgt := 104) hx hb dX9_told_15 (by rw [c12]; decide) (by rw [c12]; decide) (by rw [c12]; decide) (by decide) ?_
      have f_c12 := i_eq c12
      refine lv_aload_n hx hb dX9_told_104 rfl (lv_at hl 0 rfl) ?_
      refine va_get (D := (dC, dI)) (ci := 8) (v := .ref jb) (C := RX9) (T := TX9) (N := 13) hx hb hts (fun w h => List.mem_cons_of_mem _ (inlX9 w h)) hown hK hP 0 rfl rfl 0 (by decide) (hts (.fieldLink RX9 12 "ClearingGates" "books" "LClearingGates$Books;") (List.mem_cons_of_mem _ mw_208)) (fun _ h9 => h9) rfl dX9_told_105 ?_
      refine va_get (D := (dC, dI)) (ci := 0) (v := .ref aq5) (C := RX0) (T := TX0) (N := 13) hx hb hts (fun w h => List.mem_cons_of_mem _ (inlX0 w h)) hown hK hP 8 rfl rfl 5 (by decide) (hts (.fieldLink RX9 124 "ClearingGates$Books" "leavings" "[I") (List.mem_cons_of_mem _ mw_107)) (fun _ h9 => h9) rfl dX9_told_108 ?_
      refine lv_iload_n hx hb dX9_told_111 rfl (lv_at hl 1 rfl) ?_
      refine va_iald (D := (dC, dI)) hx hb hK hP 6 5 rfl rfl (vp_in_iff.mpr ⟨by omega, by omega⟩) dX9_told_112 ?_
      refine lv_topi (fun z13 e_z13 => ?_)
      rw [hQ9]
      exact W.iret (v := z13) hx hb hr (fun t ht hW => ⟨⟨z13, (), rfl, (by first | rfl | trivial), by rw [ht]; exact P_s hP [(0, 1), (8, 1), (1, 7)] rfl, va_K.moved hW.alike hK, D_s hD [(0, 1), (8, 1), (1, 7)] 9 rfl (by decide +kernel) rfl⟩, hS.F ht⟩) hS.2.2 dX9_told_113
    have f_c12 := i_ne c12
    rcases Decidable.em (p1 = 5) with c14 | c14
    · refine lv_tableIn (off := 99) (tgt := 114) hx hb dX9_told_15 (by rw [c14]; decide) (by rw [c14]; decide) (by rw [c14]; decide) (by decide) ?_
      have f_c14 := i_eq c14
      refine lv_aload_n hx hb dX9_told_114 rfl (lv_at hl 0 rfl) ?_
      refine va_get (D := (dC, dI)) (ci := 8) (v := .ref jb) (C := RX9) (T := TX9) (N := 13) hx hb hts (fun w h => List.mem_cons_of_mem _ (inlX9 w h)) hown hK hP 0 rfl rfl 0 (by decide) (hts (.fieldLink RX9 12 "ClearingGates" "books" "LClearingGates$Books;") (List.mem_cons_of_mem _ mw_208)) (fun _ h9 => h9) rfl dX9_told_115 ?_
      refine va_get (D := (dC, dI)) (ci := 0) (v := .ref aq6) (C := RX0) (T := TX0) (N := 13) hx hb hts (fun w h => List.mem_cons_of_mem _ (inlX0 w h)) hown hK hP 8 rfl rfl 6 (by decide) (hts (.fieldLink RX9 127 "ClearingGates$Books" "agains" "[I") (List.mem_cons_of_mem _ mw_110)) (fun _ h9 => h9) rfl dX9_told_118 ?_
      refine lv_iload_n hx hb dX9_told_121 rfl (lv_at hl 1 rfl) ?_
      refine va_iald (D := (dC, dI)) hx hb hK hP 7 6 rfl rfl (vp_in_iff.mpr ⟨by omega, by omega⟩) dX9_told_122 ?_
      refine lv_topi (fun z15 e_z15 => ?_)
      rw [hQ9]
      exact W.iret (v := z15) hx hb hr (fun t ht hW => ⟨⟨z15, (), rfl, (by first | rfl | trivial), by rw [ht]; exact P_s hP [(0, 1), (8, 1), (1, 7)] rfl, va_K.moved hW.alike hK, D_s hD [(0, 1), (8, 1), (1, 7)] 9 rfl (by decide +kernel) rfl⟩, hS.F ht⟩) hS.2.2 dX9_told_123
    have f_c14 := i_ne c14
    rcases Decidable.em (p1 = 6) with c16 | c16
    · refine lv_tableIn (off := 109) (tgt := 124) hx hb dX9_told_15 (by rw [c16]; decide) (by rw [c16]; decide) (by rw [c16]; decide) (by decide) ?_
      have f_c16 := i_eq c16
      refine lv_aload_n hx hb dX9_told_124 rfl (lv_at hl 0 rfl) ?_
      refine va_get (D := (dC, dI)) (ci := 8) (v := .ref jb) (C := RX9) (T := TX9) (N := 13) hx hb hts (fun w h => List.mem_cons_of_mem _ (inlX9 w h)) hown hK hP 0 rfl rfl 0 (by decide) (hts (.fieldLink RX9 12 "ClearingGates" "books" "LClearingGates$Books;") (List.mem_cons_of_mem _ mw_208)) (fun _ h9 => h9) rfl dX9_told_125 ?_
      refine lv_iload_n hx hb dX9_told_128 rfl (lv_at hl 1 rfl) ?_
      refine lv_bipush (v := 100) hx hb dX9_told_129 (by decide) ?_
      obtain ⟨hPc, hDc, hFc, hCm, hNw⟩ := C_s (wc := [eO jb 0 [.ref aq0, .ref aq1, .ref aq2, .ref aq3, .ref aq4, .ref aq5, .ref aq6, .int aacc, .long afees, .int amis, .int abel, .int aref, .int acau], eI aq0 ak0 8 ag0]) hP hD hS hA [(8, 1), (1, 1)] 9 rfl (by decide +kernel) rfl
      have hKc := K_s (tys' := [(ak0, .int)]) hK [(0, 1)] rfl
      refine va_calli (va_runV (As := [.int p0, .int 100]) (rest := []) ⟨hx, hb, hml, hown, hts⟩ (c_X0_feeOf l dC dI jb p0 100 aq0 (.ref aq1) (.ref aq2) (.ref aq3) (.ref aq4) (.ref aq5) (.ref aq6) (.int aacc) (.long afees) (.int amis) (.int abel) (.int aref) (.int acau) ak0 ag0 H.size (by first | assumption | omega) (by first | assumption | omega)) (cwV 2 hts gX9_told_X0_feeOf rfl rfl rfl (by decide +kernel) ⟨Nat.le_of_ble_eq_true rfl, Nat.le_of_ble_eq_true rfl⟩) ⟨fun a U g mk q => by obtain ⟨q0, q1, qP, qK, qD⟩ := q; exact ⟨q0, q1, qP, va_K.moved (u := U) (U := U.calling g mk a) (Vm.Alike.refl U.vm) qK, qD⟩, va_recv (s := s) (q := (RX0, TX0, 13)) hKc hPc (ci := 0) (q0 := 0) rfl rfl, fun U hU hW => ⟨rfl, by rw [hU], by rw [hU]; exact hPc, va_K.moved hW.alike hKc, hDc.weaken (fun _ _ _ _ => trivial)⟩⟩ rfl rfl hl.1 rfl (lv_room (Nat.le_of_ble_eq_true rfl)) dX9_told_131 ⟨Nat.le_of_ble_eq_true rfl, Nat.le_of_ble_eq_true rfl⟩) hS (fun q _ h => hFc q h) hFc (fun r17 u t H1 locs ht hvm hw hB hz1 hk1 hS => ?_)
      obtain ⟨hP1, hK1, hD1⟩ := hB
      rw [ht] at hP1
      have hK1 := va_K.moved hvm.symm hK1
      try dsimp only at hw
      obtain ⟨hP, hD⟩ := J_s (wL := [eO h0 8 [.ref jb, .ref ji, .ref jd, .ref je, .ref jg, .ref qpa, .int pcn, .int ipn, .ref jt, .ref jr, .ref j1, .ref j2, .ref qsa], eI aq1 ak1 8 ag1, eI aq2 ak2 8 ag2, eI aq3 ak3 8 ag3, eI aq4 ak4 8 ag4, eI aq5 ak5 8 ag5, eI aq6 ak6 8 ag6, eO jb 0 [.ref aq0, .ref aq1, .ref aq2, .ref aq3, .ref aq4, .ref aq5, .ref aq6, .int aacc, .long afees, .int amis, .int abel, .int aref, .int acau], eI aq0 ak0 8 ag0]) hP hD [(8, 1), (1, 1)] [(0, 1), (2, 6)] hCm hNw (by decide +kernel) hk1 hFc hP1 hD1 rfl
      have hK := KJ_s (tys' := [(ak1, .int), (ak2, .int), (ak3, .boolean), (ak4, .int), (ak5, .int), (ak6, .int), (ak0, .int)]) hK hK1 [(1, 6)] rfl
      generalize H1 = H at hP hS ⊢
      rw [hQ9]
      exact W.iret (v := r17) hx hb hr (fun t ht hW => ⟨⟨r17, (), rfl, (by first | rfl | trivial), by rw [ht]; exact P_s hP [(0, 1), (7, 2), (1, 6)] rfl, va_K.moved hW.alike (K_s hK [(6, 1), (0, 6)] rfl), D_s hD [(0, 1), (7, 2), (1, 6)] 9 rfl (by decide +kernel) rfl⟩, hS.F ht⟩) hS.2.2 dX9_told_134
    have f_c16 := i_ne c16
    refine lv_tableOut (tgt := 135) hx hb dX9_told_15 (by omega) (by decide) ?_
    refine lv_bipush (v := -2) hx hb dX9_told_135 (by decide) ?_
    rw [hQ9]
    exact W.iret (v := (-2)) hx hb hr (fun t ht hW => ⟨⟨(-2), (), rfl, (by first | rfl | trivial), by rw [ht]; exact P_s hP [(0, 1), (8, 1), (1, 7)] rfl, va_K.moved hW.alike hK, D_s hD [(0, 1), (8, 1), (1, 7)] 9 rfl (by decide +kernel) rfl⟩, hS.F ht⟩) hS.2.2 dX9_told_137
  · subst e_r1
    refine lv_if_ne (tgt := 14) hx hb dX9_told_8 (by decide) (fun c18 => absurd (by decide) c18) (fun c18 => ?_)
    refine lv_bipush (v := -2) hx hb dX9_told_11 (by decide) ?_
    rw [hQ9]
    exact W.iret (v := (-2)) hx hb hr (fun t ht hW => ⟨⟨(-2), (), rfl, (by first | rfl | trivial), by rw [ht]; exact P_s hP [(0, 1), (8, 1), (1, 7)] rfl, va_K.moved hW.alike hK, D_s hD [(0, 1), (8, 1), (1, 7)] 9 rfl (by decide +kernel) rfl⟩, hS.F ht⟩) hS.2.2 dX9_told_13

set_option maxRecDepth 100000 in
set_option maxHeartbeats 4000000 in
/-- of -/
theorem c_X9_of (l : Launch) (dC : Nat → ClassId) (dI : Nat → Nat → Nat) (h0 : Nat) (p0 : Int32) (p1 : Int32) (jb : Nat) (ji : Nat) (jd : Nat) (je : Nat) (jg : Nat) (qpa : Nat) (pcn : Int32) (ipn : Int32) (jt : Nat) (jr : Nat) (j1 : Nat) (j2 : Nat) (qsa : Nat) (aq0 : Nat) (aq1 : Nat) (aq2 : Nat) (aq3 : Nat) (aq4 : Nat) (aq5 : Nat) (aq6 : Nat) (aacc : Int32) (afees : Int64) (amis : Int32) (abel : Int32) (aref : Int32) (acau : Int32) (ak0 : ClassId) (ag0 : Nat → Int32) (ak1 : ClassId) (ag1 : Nat → Int32) (ak2 : ClassId) (ag2 : Nat → Int32) (ak3 : ClassId) (ag3 : Nat → Int32) (ak4 : ClassId) (ag4 : Nat → Int32) (ak5 : ClassId) (ag5 : Nat → Int32) (ak6 : ClassId) (ag6 : Nat → Int32) (dq : Nat) (kd : ClassId) (fd : Nat → Int32) (sz : Nat) (va1 : 0 ≤ aacc.toInt) (va2 : aacc.toInt ≤ 8) : Met l yX9_of wsX9_of ({ frames := 2, cells := 0, slots := 0, locals := 46 }) (va_Pc [.ref h0, .int p0, .int p1] (fun U => U.heap.size = sz ∧ va_P (dC, dI) vwCl [eO h0 8 [.ref jb, .ref ji, .ref jd, .ref je, .ref jg, .ref qpa, .int pcn, .int ipn, .ref jt, .ref jr, .ref j1, .ref j2, .ref qsa], eO jb 0 [.ref aq0, .ref aq1, .ref aq2, .ref aq3, .ref aq4, .ref aq5, .ref aq6, .int aacc, .long afees, .int amis, .int abel, .int aref, .int acau], eI aq0 ak0 8 ag0, eI aq1 ak1 8 ag1, eI aq2 ak2 8 ag2, eI aq3 ak3 8 ag3, eI aq4 ak4 8 ag4, eI aq5 ak5 8 ag5, eI aq6 ak6 8 ag6, eO jd 1 [.ref dq], eI dq kd 64 fd] U.heap ∧ va_K (dC, dI) vwCl [(ak0, .int), (ak1, .int), (ak2, .int), (ak3, .boolean), (ak4, .int), (ak5, .int), (ak6, .int), (kd, .int)] U ∧ va_D (fun _ => True) [eO h0 8 [.ref jb, .ref ji, .ref jd, .ref je, .ref jg, .ref qpa, .int pcn, .int ipn, .ref jt, .ref jr, .ref j1, .ref j2, .ref qsa], eO jb 0 [.ref aq0, .ref aq1, .ref aq2, .ref aq3, .ref aq4, .ref aq5, .ref aq6, .int aacc, .long afees, .int amis, .int abel, .int aref, .int acau], eI aq0 ak0 8 ag0, eI aq1 ak1 8 ag1, eI aq2 ak2 8 ag2, eI aq3 ak3 8 ag3, eI aq4 ak4 8 ag4, eI aq5 ak5 8 ag5, eI aq6 ak6 8 ag6, eO jd 1 [.ref dq], eI dq kd 64 fd])) (va_Ql (fun (r : Int64) (_ : Unit) => True) (fun (_ : Unit) (t : State) => va_P (dC, dI) vwCl [eO h0 8 [.ref jb, .ref ji, .ref jd, .ref je, .ref jg, .ref qpa, .int pcn, .int ipn, .ref jt, .ref jr, .ref j1, .ref j2, .ref qsa], eO jb 0 [.ref aq0, .ref aq1, .ref aq2, .ref aq3, .ref aq4, .ref aq5, .ref aq6, .int aacc, .long afees, .int amis, .int abel, .int aref, .int acau], eI aq0 ak0 8 ag0, eI aq1 ak1 8 ag1, eI aq2 ak2 8 ag2, eI aq3 ak3 8 ag3, eI aq4 ak4 8 ag4, eI aq5 ak5 8 ag5, eI aq6 ak6 8 ag6, eO jd 1 [.ref dq], eI dq kd 64 fd] t.heap ∧ va_K (dC, dI) vwCl [(ak0, .int), (ak1, .int), (ak2, .int), (ak3, .boolean), (ak4, .int), (ak5, .int), (ak6, .int), (kd, .int)] t ∧ va_D (va_A [eO h0 8 [.ref jb, .ref ji, .ref jd, .ref je, .ref jg, .ref qpa, .int pcn, .int ipn, .ref jt, .ref jr, .ref j1, .ref j2, .ref qsa], eO jb 0 [.ref aq0, .ref aq1, .ref aq2, .ref aq3, .ref aq4, .ref aq5, .ref aq6, .int aacc, .long afees, .int amis, .int abel, .int aref, .int acau], eI aq0 ak0 8 ag0, eI aq1 ak1 8 ag1, eI aq2 ak2 8 ag2, eI aq3 ak3 8 ag3, eI aq4 ak4 8 ag4, eI aq5 ak5 8 ag5, eI aq6 ak6 8 ag6, eO jd 1 [.ref dq], eI dq kd 64 fd] sz) [eO h0 8 [.ref jb, .ref ji, .ref jd, .ref je, .ref jg, .ref qpa, .int pcn, .int ipn, .ref jt, .ref jr, .ref j1, .ref j2, .ref qsa], eO jb 0 [.ref aq0, .ref aq1, .ref aq2, .ref aq3, .ref aq4, .ref aq5, .ref aq6, .int aacc, .long afees, .int amis, .int abel, .int aref, .int acau], eI aq0 ak0 8 ag0, eI aq1 ak1 8 ag1, eI aq2 ak2 8 ag2, eI aq3 ak3 8 ag3, eI aq4 ak4 8 ag4, eI aq5 ak5 8 ag5, eI aq6 ak6 8 ag6, eO jd 1 [.ref dq], eI dq kd 64 fd]) (va_A [eO h0 8 [.ref jb, .ref ji, .ref jd, .ref je, .ref jg, .ref qpa, .int pcn, .int ipn, .ref jt, .ref jr, .ref j1, .ref j2, .ref qsa], eO jb 0 [.ref aq0, .ref aq1, .ref aq2, .ref aq3, .ref aq4, .ref aq5, .ref aq6, .int aacc, .long afees, .int amis, .int abel, .int aref, .int acau], eI aq0 ak0 8 ag0, eI aq1 ak1 8 ag1, eI aq2 ak2 8 ag2, eI aq3 ak3 8 ag3, eI aq4 ak4 8 ag4, eI aq5 ak5 8 ag5, eI aq6 ak6 8 ag6, eO jd 1 [.ref dq], eI dq kd 64 fd] sz)) 0 0 (va_A [eO h0 8 [.ref jb, .ref ji, .ref jd, .ref je, .ref jg, .ref qpa, .int pcn, .int ipn, .ref jt, .ref jr, .ref j1, .ref j2, .ref qsa], eO jb 0 [.ref aq0, .ref aq1, .ref aq2, .ref aq3, .ref aq4, .ref aq5, .ref aq6, .int aacc, .long afees, .int amis, .int abel, .int aref, .int acau], eI aq0 ak0 8 ag0, eI aq1 ak1 8 ag1, eI aq2 ak2 8 ag2, eI aq3 ak3 8 ag3, eI aq4 ak4 8 ag4, eI aq5 ak5 8 ag5, eI aq6 ak6 8 ag6, eO jd 1 [.ref dq], eI dq kd 64 fd] sz) := by
  refine Met.ofW (cc := cX9_of) (maxL := 3) (ret := (some .long)) (by decide) rfl ?_
  intro p e s m args below meth c s₁ B hml hv
  obtain ⟨rfl, hsz, hP, hK, hD0⟩ := hv
  have hx := B.exec
  have hb := B.bytes
  have hr := B.returns
  have hts := atoms_spec (ws := wsX9_of) B.pre
  have hown : s.vm.findClass RX9 = some m.cls := findClass_of_methodNamed B.named
  have hlocks := B.notSynchronized
  subst hsz
  have hD := hD0.self (sz := s.heap.size)
  generalize hAe : va_A [eO h0 8 [.ref jb, .ref ji, .ref jd, .ref je, .ref jg, .ref qpa, .int pcn, .int ipn, .ref jt, .ref jr, .ref j1, .ref j2, .ref qsa], eO jb 0 [.ref aq0, .ref aq1, .ref aq2, .ref aq3, .ref aq4, .ref aq5, .ref aq6, .int aacc, .long afees, .int amis, .int abel, .int aref, .int acau], eI aq0 ak0 8 ag0, eI aq1 ak1 8 ag1, eI aq2 ak2 8 ag2, eI aq3 ak3 8 ag3, eI aq4 ak4 8 ag4, eI aq5 ak5 8 ag5, eI aq6 ak6 8 ag6, eO jd 1 [.ref dq], eI dq kd 64 fd] s.heap.size = A at hD ⊢
  have hA : ∀ q : Nat, s.heap.size ≤ q → A q := fun q h => by rw [← hAe]; exact Or.inr h
  have hS : va_S A s.heap s.heap [] := va_S.rf
  have hP : va_P (dC, dI) vwCl [eO h0 8 [.ref jb, .ref ji, .ref jd, .ref je, .ref jg, .ref qpa, .int pcn, .int ipn, .ref jt, .ref jr, .ref j1, .ref j2, .ref qsa], eO jb 0 [.ref aq0, .ref aq1, .ref aq2, .ref aq3, .ref aq4, .ref aq5, .ref aq6, .int aacc, .long afees, .int amis, .int abel, .int aref, .int acau], eI aq0 ak0 8 ag0, eI aq1 ak1 8 ag1, eI aq2 ak2 8 ag2, eI aq3 ak3 8 ag3, eI aq4 ak4 8 ag4, eI aq5 ak5 8 ag5, eI aq6 ak6 8 ag6, eO jd 1 [.ref dq], eI dq kd 64 fd] s.heap := hP
  have hl := lv_entry ([.ref h0, .int p0, .int p1]) (n := 3) (Nat.le_of_ble_eq_true rfl)
  rw [lg_entry_eq]
  generalize (lg_sl ([.ref h0, .int p0, .int p1]) ++ List.replicate (3 - (lg_sl ([.ref h0, .int p0, .int p1])).length) Slot.unset).toArray = ls at hl ⊢
  have hl : lv_has ls 3 [(0, .ref h0), (1, .int p0), (2, .int p1)] := hl
  suffices key9 : ∀ Q9 : State → Prop, Q9 = (MQ below (va_Ql (fun (r : Int64) (_ : Unit) => True) (fun (_ : Unit) (t : State) => va_P (dC, dI) vwCl [eO h0 8 [.ref jb, .ref ji, .ref jd, .ref je, .ref jg, .ref qpa, .int pcn, .int ipn, .ref jt, .ref jr, .ref j1, .ref j2, .ref qsa], eO jb 0 [.ref aq0, .ref aq1, .ref aq2, .ref aq3, .ref aq4, .ref aq5, .ref aq6, .int aacc, .long afees, .int amis, .int abel, .int aref, .int acau], eI aq0 ak0 8 ag0, eI aq1 ak1 8 ag1, eI aq2 ak2 8 ag2, eI aq3 ak3 8 ag3, eI aq4 ak4 8 ag4, eI aq5 ak5 8 ag5, eI aq6 ak6 8 ag6, eO jd 1 [.ref dq], eI dq kd 64 fd] t.heap ∧ va_K (dC, dI) vwCl [(ak0, .int), (ak1, .int), (ak2, .int), (ak3, .boolean), (ak4, .int), (ak5, .int), (ak6, .int), (kd, .int)] t ∧ va_D A [eO h0 8 [.ref jb, .ref ji, .ref jd, .ref je, .ref jg, .ref qpa, .int pcn, .int ipn, .ref jt, .ref jr, .ref j1, .ref j2, .ref qsa], eO jb 0 [.ref aq0, .ref aq1, .ref aq2, .ref aq3, .ref aq4, .ref aq5, .ref aq6, .int aacc, .long afees, .int amis, .int abel, .int aref, .int acau], eI aq0 ak0 8 ag0, eI aq1 ak1 8 ag1, eI aq2 ak2 8 ag2, eI aq3 ak3 8 ag3, eI aq4 ak4 8 ag4, eI aq5 ak5 8 ag5, eI aq6 ak6 8 ag6, eO jd 1 [.ref dq], eI dq kd 64 fd]) A) (([.ref h0, .int p0, .int p1] : List Value).toArray) s 0 0 A) → W p l e ({ frames := 2, cells := 0, slots := 0, locals := 46 }) s m (([.ref h0, .int p0, .int p1] : List Value).toArray) below meth c s.heap [] 0 0 Q9 (F0 m 0 ls []) from key9 _ rfl
  intro Q9 hQ9
  have k_0 : (0 : Int32).toInt = 0 := by decide
  have k_1 : (1 : Int32).toInt = 1 := by decide
  have k_2 : (2 : Int32).toInt = 2 := by decide
  refine lv_aload_n hx hb dX9_of_0 rfl (lv_at hl 0 rfl) ?_
  refine va_get (D := (dC, dI)) (ci := 8) (v := .ref jb) (C := RX9) (T := TX9) (N := 13) hx hb hts (fun w h => List.mem_cons_of_mem _ (inlX9 w h)) hown hK hP 0 rfl rfl 0 (by decide) (hts (.fieldLink RX9 12 "ClearingGates" "books" "LClearingGates$Books;") (List.mem_cons_of_mem _ mw_208)) (fun _ h9 => h9) rfl dX9_of_1 ?_
  refine lv_iload_n hx hb dX9_of_4 rfl (lv_at hl 1 rfl) ?_
  obtain ⟨hPc, hDc, hFc, hCm, hNw⟩ := C_s (wc := [eO jb 0 [.ref aq0, .ref aq1, .ref aq2, .ref aq3, .ref aq4, .ref aq5, .ref aq6, .int aacc, .long afees, .int amis, .int abel, .int aref, .int acau]]) hP hD hS hA [(1, 1)] 11 rfl (by decide +kernel) rfl
  have hKc := K_s (tys' := []) hK [] rfl
  refine va_calli (va_runV (As := [.int p0]) (rest := []) ⟨hx, hb, hml, hown, hts⟩ (c_X0_has l dC dI jb p0 (.ref aq0) (.ref aq1) (.ref aq2) (.ref aq3) (.ref aq4) (.ref aq5) (.ref aq6) aacc (.long afees) (.int amis) (.int abel) (.int aref) (.int acau) s.heap.size) (cwV 1 hts gX9_of_X0_has rfl rfl rfl (by decide +kernel) ⟨Nat.le_of_ble_eq_true rfl, Nat.le_of_ble_eq_true rfl⟩) ⟨fun a U g mk q => by obtain ⟨q0, q1, qP, qK, qD⟩ := q; exact ⟨q0, q1, qP, va_K.moved (u := U) (U := U.calling g mk a) (Vm.Alike.refl U.vm) qK, qD⟩, va_recv (s := s) (q := (RX0, TX0, 13)) hKc hPc (ci := 0) (q0 := 0) rfl rfl, fun U hU hW => ⟨rfl, by rw [hU], by rw [hU]; exact hPc, va_K.moved hW.alike hKc, hDc.weaken (fun _ _ _ _ => trivial)⟩⟩ rfl rfl hl.1 rfl (lv_room (Nat.le_of_ble_eq_true rfl)) dX9_of_5 ⟨Nat.le_of_ble_eq_true rfl, Nat.le_of_ble_eq_true rfl⟩) hS (fun q _ h => hFc q h) hFc (fun r1 u t H1 locs ht hvm hw hB hz1 hk1 hS => ?_)
  obtain ⟨hP1, hK1, hD1⟩ := hB
  rw [ht] at hP1
  have hK1 := va_K.moved hvm.symm hK1
  try dsimp only at hw
  obtain ⟨hP, hD⟩ := J_s (wL := [eO h0 8 [.ref jb, .ref ji, .ref jd, .ref je, .ref jg, .ref qpa, .int pcn, .int ipn, .ref jt, .ref jr, .ref j1, .ref j2, .ref qsa], eI aq0 ak0 8 ag0, eI aq1 ak1 8 ag1, eI aq2 ak2 8 ag2, eI aq3 ak3 8 ag3, eI aq4 ak4 8 ag4, eI aq5 ak5 8 ag5, eI aq6 ak6 8 ag6, eO jd 1 [.ref dq], eI dq kd 64 fd, eO jb 0 [.ref aq0, .ref aq1, .ref aq2, .ref aq3, .ref aq4, .ref aq5, .ref aq6, .int aacc, .long afees, .int amis, .int abel, .int aref, .int acau]]) hP hD [(1, 1)] [(0, 1), (2, 9)] hCm hNw (by decide +kernel) hk1 hFc hP1 hD1 rfl
  have hK := KJ_s (tys' := [(ak0, .int), (ak1, .int), (ak2, .int), (ak3, .boolean), (ak4, .int), (ak5, .int), (ak6, .int), (kd, .int)]) hK hK1 [(0, 8)] rfl
  generalize H1 = H at hP hS ⊢
  rcases hw with ⟨e_r1, f_r1⟩ | ⟨e_r1, f_r1⟩
  · subst e_r1
    refine lv_if_ne (tgt := 15) hx hb dX9_of_8 (by decide) (fun c2 => ?_) (fun c2 => absurd c2 (by decide))
    refine lv_iload_n hx hb dX9_of_15 rfl (lv_at hl 2 rfl) ?_
    rcases Decidable.em (p1 = 0) with c3 | c3
    · refine lv_tableIn (off := 28) (tgt := 44) hx hb dX9_of_16 (by rw [c3]; decide) (by rw [c3]; decide) (by rw [c3]; decide) (by decide) ?_
      have f_c3 := i_eq c3
      refine lv_aload_n hx hb dX9_of_44 rfl (lv_at hl 0 rfl) ?_
      refine va_get (D := (dC, dI)) (ci := 8) (v := .ref jb) (C := RX9) (T := TX9) (N := 13) hx hb hts (fun w h => List.mem_cons_of_mem _ (inlX9 w h)) hown hK hP 0 rfl rfl 0 (by decide) (hts (.fieldLink RX9 12 "ClearingGates" "books" "LClearingGates$Books;") (List.mem_cons_of_mem _ mw_208)) (fun _ h9 => h9) rfl dX9_of_45 ?_
      refine va_get (D := (dC, dI)) (ci := 0) (v := .ref aq1) (C := RX0) (T := TX0) (N := 13) hx hb hts (fun w h => List.mem_cons_of_mem _ (inlX0 w h)) hown hK hP 10 rfl rfl 1 (by decide) (hts (.fieldLink RX9 107 "ClearingGates$Books" "balances" "[I") (List.mem_cons_of_mem _ mw_97)) (fun _ h9 => h9) rfl dX9_of_48 ?_
      refine lv_iload_n hx hb dX9_of_51 rfl (lv_at hl 1 rfl) ?_
      refine va_iald (D := (dC, dI)) hx hb hK hP 2 1 rfl rfl (vp_in_iff.mpr ⟨by omega, by omega⟩) dX9_of_52 ?_
      refine lv_topi (fun z4 e_z4 => ?_)
      refine lv_i2l (v := z4.toInt64) hx hb dX9_of_53 rfl ?_
      have t_t5 := Int32.toInt_toInt64 z4
      rw [hQ9]
      exact W.lret (v := z4.toInt64) hx hb hr (fun t ht hW => ⟨⟨z4.toInt64, (), rfl, (by first | rfl | trivial), by rw [ht]; exact P_s hP [(0, 1), (10, 1), (1, 9)] rfl, va_K.moved hW.alike hK, D_s hD [(0, 1), (10, 1), (1, 9)] 11 rfl (by decide +kernel) rfl⟩, hS.F ht⟩) hS.2.2 dX9_of_54
    have f_c3 := i_ne c3
    rcases Decidable.em (p1 = 1) with c6 | c6
    · refine lv_tableIn (off := 39) (tgt := 55) hx hb dX9_of_16 (by rw [c6]; decide) (by rw [c6]; decide) (by rw [c6]; decide) (by decide) ?_
      have f_c6 := i_eq c6
      refine lv_aload_n hx hb dX9_of_55 rfl (lv_at hl 0 rfl) ?_
      refine va_get (D := (dC, dI)) (ci := 8) (v := .ref jb) (C := RX9) (T := TX9) (N := 13) hx hb hts (fun w h => List.mem_cons_of_mem _ (inlX9 w h)) hown hK hP 0 rfl rfl 0 (by decide) (hts (.fieldLink RX9 12 "ClearingGates" "books" "LClearingGates$Books;") (List.mem_cons_of_mem _ mw_208)) (fun _ h9 => h9) rfl dX9_of_56 ?_
      refine lv_iload_n hx hb dX9_of_59 rfl (lv_at hl 1 rfl) ?_
      obtain ⟨hPc, hDc, hFc, hCm, hNw⟩ := C_s (wc := [eO jb 0 [.ref aq0, .ref aq1, .ref aq2, .ref aq3, .ref aq4, .ref aq5, .ref aq6, .int aacc, .long afees, .int amis, .int abel, .int aref, .int acau], eI aq0 ak0 8 ag0, eI aq2 ak2 8 ag2]) hP hD hS hA [(10, 1), (1, 1), (3, 1)] 11 rfl (by decide +kernel) rfl
      have hKc := K_s (tys' := [(ak0, .int), (ak2, .int)]) hK [(0, 1), (2, 1)] rfl
      refine va_calli (va_runV (As := [.int p0]) (rest := []) ⟨hx, hb, hml, hown, hts⟩ (c_X0_floorOf l dC dI jb p0 aq0 (.ref aq1) aq2 (.ref aq3) (.ref aq4) (.ref aq5) (.ref aq6) (.int aacc) (.long afees) (.int amis) (.int abel) (.int aref) (.int acau) ak0 ag0 ak2 ag2 H.size (by first | assumption | omega) (by first | assumption | omega)) (cwV 1 hts gX9_of_X0_floorOf rfl rfl rfl (by decide +kernel) ⟨Nat.le_of_ble_eq_true rfl, Nat.le_of_ble_eq_true rfl⟩) ⟨fun a U g mk q => by obtain ⟨q0, q1, qP, qK, qD⟩ := q; exact ⟨q0, q1, qP, va_K.moved (u := U) (U := U.calling g mk a) (Vm.Alike.refl U.vm) qK, qD⟩, va_recv (s := s) (q := (RX0, TX0, 13)) hKc hPc (ci := 0) (q0 := 0) rfl rfl, fun U hU hW => ⟨rfl, by rw [hU], by rw [hU]; exact hPc, va_K.moved hW.alike hKc, hDc.weaken (fun _ _ _ _ => trivial)⟩⟩ rfl rfl hl.1 rfl (lv_room (Nat.le_of_ble_eq_true rfl)) dX9_of_60 ⟨Nat.le_of_ble_eq_true rfl, Nat.le_of_ble_eq_true rfl⟩) hS (fun q _ h => hFc q h) hFc (fun r7 u t H1 locs ht hvm hw hB hz1 hk1 hS => ?_)
      obtain ⟨hP1, hK1, hD1⟩ := hB
      rw [ht] at hP1
      have hK1 := va_K.moved hvm.symm hK1
      try dsimp only at hw
      obtain ⟨hP, hD⟩ := J_s (wL := [eO h0 8 [.ref jb, .ref ji, .ref jd, .ref je, .ref jg, .ref qpa, .int pcn, .int ipn, .ref jt, .ref jr, .ref j1, .ref j2, .ref qsa], eI aq1 ak1 8 ag1, eI aq3 ak3 8 ag3, eI aq4 ak4 8 ag4, eI aq5 ak5 8 ag5, eI aq6 ak6 8 ag6, eO jd 1 [.ref dq], eI dq kd 64 fd, eO jb 0 [.ref aq0, .ref aq1, .ref aq2, .ref aq3, .ref aq4, .ref aq5, .ref aq6, .int aacc, .long afees, .int amis, .int abel, .int aref, .int acau], eI aq0 ak0 8 ag0, eI aq2 ak2 8 ag2]) hP hD [(10, 1), (1, 1), (3, 1)] [(0, 1), (2, 1), (4, 6)] hCm hNw (by decide +kernel) hk1 hFc hP1 hD1 rfl
      have hK := KJ_s (tys' := [(ak1, .int), (ak3, .boolean), (ak4, .int), (ak5, .int), (ak6, .int), (kd, .int), (ak0, .int), (ak2, .int)]) hK hK1 [(1, 1), (3, 5)] rfl
      generalize H1 = H at hP hS ⊢
      refine lv_i2l (v := r7.toInt64) hx hb dX9_of_63 rfl ?_
      have t_t8 := Int32.toInt_toInt64 r7
      rw [hQ9]
      exact W.lret (v := r7.toInt64) hx hb hr (fun t ht hW => ⟨⟨r7.toInt64, (), rfl, (by first | rfl | trivial), by rw [ht]; exact P_s hP [(0, 1), (8, 2), (1, 1), (10, 1), (2, 6)] rfl, va_K.moved hW.alike (K_s hK [(6, 1), (0, 1), (7, 1), (1, 5)] rfl), D_s hD [(0, 1), (8, 2), (1, 1), (10, 1), (2, 6)] 11 rfl (by decide +kernel) rfl⟩, hS.F ht⟩) hS.2.2 dX9_of_64
    have f_c6 := i_ne c6
    rcases Decidable.em (p1 = 2) with c9 | c9
    · refine lv_tableIn (off := 49) (tgt := 65) hx hb dX9_of_16 (by rw [c9]; decide) (by rw [c9]; decide) (by rw [c9]; decide) (by decide) ?_
      have f_c9 := i_eq c9
      refine lv_aload_n hx hb dX9_of_65 rfl (lv_at hl 0 rfl) ?_
      refine va_get (D := (dC, dI)) (ci := 8) (v := .ref jd) (C := RX9) (T := TX9) (N := 13) hx hb hts (fun w h => List.mem_cons_of_mem _ (inlX9 w h)) hown hK hP 0 rfl rfl 2 (by decide) (hts (.fieldLink RX9 24 "ClearingGates" "debts" "LClearingGates$Debts;") (List.mem_cons_of_mem _ mw_210)) (fun _ h9 => h9) rfl dX9_of_66 ?_
      refine lv_iload_n hx hb dX9_of_69 rfl (lv_at hl 1 rfl) ?_
      obtain ⟨hPc, hDc, hFc, hCm, hNw⟩ := C_s (wc := [eO jd 1 [.ref dq], eI dq kd 64 fd]) hP hD hS hA [(8, 2)] 11 rfl (by decide +kernel) rfl
      have hKc := K_s (tys' := [(kd, .int)]) hK [(7, 1)] rfl
      refine va_calll (va_runV (As := [.int p0]) (rest := []) ⟨hx, hb, hml, hown, hts⟩ (c_X1_positionOf l dC dI jd p0 dq kd fd H.size (by first | assumption | omega) (by first | assumption | omega)) (cwV 1 hts gX9_of_X1_positionOf rfl rfl rfl (by decide +kernel) ⟨Nat.le_of_ble_eq_true rfl, Nat.le_of_ble_eq_true rfl⟩) ⟨fun a U g mk q => by obtain ⟨q0, q1, qP, qK, qD⟩ := q; exact ⟨q0, q1, qP, va_K.moved (u := U) (U := U.calling g mk a) (Vm.Alike.refl U.vm) qK, qD⟩, va_recv (s := s) (q := (RX1, TX1, 1)) hKc hPc (ci := 1) (q0 := 0) rfl rfl, fun U hU hW => ⟨rfl, by rw [hU], by rw [hU]; exact hPc, va_K.moved hW.alike hKc, hDc.weaken (fun _ _ _ _ => trivial)⟩⟩ rfl rfl hl.1 rfl (lv_room (Nat.le_of_ble_eq_true rfl)) dX9_of_70 ⟨Nat.le_of_ble_eq_true rfl, Nat.le_of_ble_eq_true rfl⟩) hS (fun q _ h => hFc q h) hFc (fun r10 u t H1 locs ht hvm hw hB hz1 hk1 hS => ?_)
      obtain ⟨hP1, hK1, hD1⟩ := hB
      rw [ht] at hP1
      have hK1 := va_K.moved hvm.symm hK1
      try dsimp only at hw
      obtain ⟨hP, hD⟩ := J_s (wL := [eO h0 8 [.ref jb, .ref ji, .ref jd, .ref je, .ref jg, .ref qpa, .int pcn, .int ipn, .ref jt, .ref jr, .ref j1, .ref j2, .ref qsa], eI aq0 ak0 8 ag0, eI aq1 ak1 8 ag1, eI aq2 ak2 8 ag2, eI aq3 ak3 8 ag3, eI aq4 ak4 8 ag4, eI aq5 ak5 8 ag5, eI aq6 ak6 8 ag6, eO jb 0 [.ref aq0, .ref aq1, .ref aq2, .ref aq3, .ref aq4, .ref aq5, .ref aq6, .int aacc, .long afees, .int amis, .int abel, .int aref, .int acau], eO jd 1 [.ref dq], eI dq kd 64 fd]) hP hD [(8, 2)] [(0, 8), (10, 1)] hCm hNw (by decide +kernel) hk1 hFc hP1 hD1 rfl
      have hK := KJ_s (tys' := [(ak0, .int), (ak1, .int), (ak2, .int), (ak3, .boolean), (ak4, .int), (ak5, .int), (ak6, .int), (kd, .int)]) hK hK1 [(0, 7)] rfl
      generalize H1 = H at hP hS ⊢
      rw [hQ9]
      exact W.lret (v := r10) hx hb hr (fun t ht hW => ⟨⟨r10, (), rfl, (by first | rfl | trivial), by rw [ht]; exact P_s hP [(0, 1), (8, 1), (1, 7), (9, 2)] rfl, va_K.moved hW.alike hK, D_s hD [(0, 1), (8, 1), (1, 7), (9, 2)] 11 rfl (by decide +kernel) rfl⟩, hS.F ht⟩) hS.2.2 dX9_of_73
    have f_c9 := i_ne c9
    refine lv_tableOut (tgt := 74) hx hb dX9_of_16 (by omega) (by decide) ?_
    refine lv_ldc2 hx hb hown (hts (.constantLong RX9 105 (-9223372036854775808)) (List.mem_cons_of_mem _ mw_244)) dX9_of_74 ?_
    rw [hQ9]
    exact W.lret (v := (-9223372036854775808)) hx hb hr (fun t ht hW => ⟨⟨(-9223372036854775808), (), rfl, (by first | rfl | trivial), by rw [ht]; exact P_s hP [(0, 1), (10, 1), (1, 9)] rfl, va_K.moved hW.alike hK, D_s hD [(0, 1), (10, 1), (1, 9)] 11 rfl (by decide +kernel) rfl⟩, hS.F ht⟩) hS.2.2 dX9_of_77
  · subst e_r1
    refine lv_if_ne (tgt := 15) hx hb dX9_of_8 (by decide) (fun c11 => absurd (by decide) c11) (fun c11 => ?_)
    refine lv_ldc2 hx hb hown (hts (.constantLong RX9 105 (-9223372036854775808)) (List.mem_cons_of_mem _ mw_244)) dX9_of_11 ?_
    rw [hQ9]
    exact W.lret (v := (-9223372036854775808)) hx hb hr (fun t ht hW => ⟨⟨(-9223372036854775808), (), rfl, (by first | rfl | trivial), by rw [ht]; exact P_s hP [(0, 1), (10, 1), (1, 9)] rfl, va_K.moved hW.alike hK, D_s hD [(0, 1), (10, 1), (1, 9)] 11 rfl (by decide +kernel) rfl⟩, hS.F ht⟩) hS.2.2 dX9_of_14

set_option maxRecDepth 100000 in
set_option maxHeartbeats 4000000 in
/-- count -/
theorem c_X9_count (l : Launch) (dC : Nat → ClassId) (dI : Nat → Nat → Nat) (h0 : Nat) (p0 : Int32) (jb : Nat) (ji : Nat) (jd : Nat) (je : Nat) (jg : Nat) (qpa : Nat) (pcn : Int32) (ipn : Int32) (jt : Nat) (jr : Nat) (j1 : Nat) (j2 : Nat) (qsa : Nat) (aq0 : Nat) (aq1 : Nat) (aq2 : Nat) (aq3 : Nat) (aq4 : Nat) (aq5 : Nat) (aq6 : Nat) (aacc : Int32) (afees : Int64) (amis : Int32) (abel : Int32) (aref : Int32) (acau : Int32) (qm1 : Nat) (mc1 : Int32) (qh1 : Nat) (qk1 : Nat) (qf1 : Nat) (bg1 : Int32) (oq1 : Value) (tb : Nat) (tn : Int32) (sz : Nat) (vm1 : 0 ≤ mc1.toInt) : Met l yX9_count wsX9_count ({ frames := 2, cells := 0, slots := 0, locals := 33 }) (va_Pc [.ref h0, .int p0] (fun U => U.heap.size = sz ∧ va_P (dC, dI) vwCl [eO h0 8 [.ref jb, .ref ji, .ref jd, .ref je, .ref jg, .ref qpa, .int pcn, .int ipn, .ref jt, .ref jr, .ref j1, .ref j2, .ref qsa], eO jb 0 [.ref aq0, .ref aq1, .ref aq2, .ref aq3, .ref aq4, .ref aq5, .ref aq6, .int aacc, .long afees, .int amis, .int abel, .int aref, .int acau], eO j1 5 [.ref jb, .ref qm1, .int mc1, .ref qh1, .ref qk1, .ref qf1, .int bg1, oq1], eO jt 7 [.ref tb, .int tn]] U.heap ∧ va_K (dC, dI) vwCl [] U ∧ va_D (fun _ => True) [eO h0 8 [.ref jb, .ref ji, .ref jd, .ref je, .ref jg, .ref qpa, .int pcn, .int ipn, .ref jt, .ref jr, .ref j1, .ref j2, .ref qsa], eO jb 0 [.ref aq0, .ref aq1, .ref aq2, .ref aq3, .ref aq4, .ref aq5, .ref aq6, .int aacc, .long afees, .int amis, .int abel, .int aref, .int acau], eO j1 5 [.ref jb, .ref qm1, .int mc1, .ref qh1, .ref qk1, .ref qf1, .int bg1, oq1], eO jt 7 [.ref tb, .int tn]])) (va_Qi (fun (r : Int32) (_ : Unit) => True) (fun (_ : Unit) (t : State) => va_P (dC, dI) vwCl [eO h0 8 [.ref jb, .ref ji, .ref jd, .ref je, .ref jg, .ref qpa, .int pcn, .int ipn, .ref jt, .ref jr, .ref j1, .ref j2, .ref qsa], eO jb 0 [.ref aq0, .ref aq1, .ref aq2, .ref aq3, .ref aq4, .ref aq5, .ref aq6, .int aacc, .long afees, .int amis, .int abel, .int aref, .int acau], eO j1 5 [.ref jb, .ref qm1, .int mc1, .ref qh1, .ref qk1, .ref qf1, .int bg1, oq1], eO jt 7 [.ref tb, .int tn]] t.heap ∧ va_K (dC, dI) vwCl [] t ∧ va_D (va_A [eO h0 8 [.ref jb, .ref ji, .ref jd, .ref je, .ref jg, .ref qpa, .int pcn, .int ipn, .ref jt, .ref jr, .ref j1, .ref j2, .ref qsa], eO jb 0 [.ref aq0, .ref aq1, .ref aq2, .ref aq3, .ref aq4, .ref aq5, .ref aq6, .int aacc, .long afees, .int amis, .int abel, .int aref, .int acau], eO j1 5 [.ref jb, .ref qm1, .int mc1, .ref qh1, .ref qk1, .ref qf1, .int bg1, oq1], eO jt 7 [.ref tb, .int tn]] sz) [eO h0 8 [.ref jb, .ref ji, .ref jd, .ref je, .ref jg, .ref qpa, .int pcn, .int ipn, .ref jt, .ref jr, .ref j1, .ref j2, .ref qsa], eO jb 0 [.ref aq0, .ref aq1, .ref aq2, .ref aq3, .ref aq4, .ref aq5, .ref aq6, .int aacc, .long afees, .int amis, .int abel, .int aref, .int acau], eO j1 5 [.ref jb, .ref qm1, .int mc1, .ref qh1, .ref qk1, .ref qf1, .int bg1, oq1], eO jt 7 [.ref tb, .int tn]]) (va_A [eO h0 8 [.ref jb, .ref ji, .ref jd, .ref je, .ref jg, .ref qpa, .int pcn, .int ipn, .ref jt, .ref jr, .ref j1, .ref j2, .ref qsa], eO jb 0 [.ref aq0, .ref aq1, .ref aq2, .ref aq3, .ref aq4, .ref aq5, .ref aq6, .int aacc, .long afees, .int amis, .int abel, .int aref, .int acau], eO j1 5 [.ref jb, .ref qm1, .int mc1, .ref qh1, .ref qk1, .ref qf1, .int bg1, oq1], eO jt 7 [.ref tb, .int tn]] sz)) 0 0 (va_A [eO h0 8 [.ref jb, .ref ji, .ref jd, .ref je, .ref jg, .ref qpa, .int pcn, .int ipn, .ref jt, .ref jr, .ref j1, .ref j2, .ref qsa], eO jb 0 [.ref aq0, .ref aq1, .ref aq2, .ref aq3, .ref aq4, .ref aq5, .ref aq6, .int aacc, .long afees, .int amis, .int abel, .int aref, .int acau], eO j1 5 [.ref jb, .ref qm1, .int mc1, .ref qh1, .ref qk1, .ref qf1, .int bg1, oq1], eO jt 7 [.ref tb, .int tn]] sz) := by
  refine Met.ofW (cc := cX9_count) (maxL := 2) (ret := (some .int)) (by decide) rfl ?_
  intro p e s m args below meth c s₁ B hml hv
  obtain ⟨rfl, hsz, hP, hK, hD0⟩ := hv
  have hx := B.exec
  have hb := B.bytes
  have hr := B.returns
  have hts := atoms_spec (ws := wsX9_count) B.pre
  have hown : s.vm.findClass RX9 = some m.cls := findClass_of_methodNamed B.named
  have hlocks := B.notSynchronized
  subst hsz
  have hD := hD0.self (sz := s.heap.size)
  generalize hAe : va_A [eO h0 8 [.ref jb, .ref ji, .ref jd, .ref je, .ref jg, .ref qpa, .int pcn, .int ipn, .ref jt, .ref jr, .ref j1, .ref j2, .ref qsa], eO jb 0 [.ref aq0, .ref aq1, .ref aq2, .ref aq3, .ref aq4, .ref aq5, .ref aq6, .int aacc, .long afees, .int amis, .int abel, .int aref, .int acau], eO j1 5 [.ref jb, .ref qm1, .int mc1, .ref qh1, .ref qk1, .ref qf1, .int bg1, oq1], eO jt 7 [.ref tb, .int tn]] s.heap.size = A at hD ⊢
  have hA : ∀ q : Nat, s.heap.size ≤ q → A q := fun q h => by rw [← hAe]; exact Or.inr h
  have hS : va_S A s.heap s.heap [] := va_S.rf
  have hP : va_P (dC, dI) vwCl [eO h0 8 [.ref jb, .ref ji, .ref jd, .ref je, .ref jg, .ref qpa, .int pcn, .int ipn, .ref jt, .ref jr, .ref j1, .ref j2, .ref qsa], eO jb 0 [.ref aq0, .ref aq1, .ref aq2, .ref aq3, .ref aq4, .ref aq5, .ref aq6, .int aacc, .long afees, .int amis, .int abel, .int aref, .int acau], eO j1 5 [.ref jb, .ref qm1, .int mc1, .ref qh1, .ref qk1, .ref qf1, .int bg1, oq1], eO jt 7 [.ref tb, .int tn]] s.heap := hP
  have hl := lv_entry ([.ref h0, .int p0]) (n := 2) (Nat.le_of_ble_eq_true rfl)
  rw [lg_entry_eq]
  generalize (lg_sl ([.ref h0, .int p0]) ++ List.replicate (2 - (lg_sl ([.ref h0, .int p0])).length) Slot.unset).toArray = ls at hl ⊢
  have hl : lv_has ls 2 [(0, .ref h0), (1, .int p0)] := hl
  suffices key9 : ∀ Q9 : State → Prop, Q9 = (MQ below (va_Qi (fun (r : Int32) (_ : Unit) => True) (fun (_ : Unit) (t : State) => va_P (dC, dI) vwCl [eO h0 8 [.ref jb, .ref ji, .ref jd, .ref je, .ref jg, .ref qpa, .int pcn, .int ipn, .ref jt, .ref jr, .ref j1, .ref j2, .ref qsa], eO jb 0 [.ref aq0, .ref aq1, .ref aq2, .ref aq3, .ref aq4, .ref aq5, .ref aq6, .int aacc, .long afees, .int amis, .int abel, .int aref, .int acau], eO j1 5 [.ref jb, .ref qm1, .int mc1, .ref qh1, .ref qk1, .ref qf1, .int bg1, oq1], eO jt 7 [.ref tb, .int tn]] t.heap ∧ va_K (dC, dI) vwCl [] t ∧ va_D A [eO h0 8 [.ref jb, .ref ji, .ref jd, .ref je, .ref jg, .ref qpa, .int pcn, .int ipn, .ref jt, .ref jr, .ref j1, .ref j2, .ref qsa], eO jb 0 [.ref aq0, .ref aq1, .ref aq2, .ref aq3, .ref aq4, .ref aq5, .ref aq6, .int aacc, .long afees, .int amis, .int abel, .int aref, .int acau], eO j1 5 [.ref jb, .ref qm1, .int mc1, .ref qh1, .ref qk1, .ref qf1, .int bg1, oq1], eO jt 7 [.ref tb, .int tn]]) A) (([.ref h0, .int p0] : List Value).toArray) s 0 0 A) → W p l e ({ frames := 2, cells := 0, slots := 0, locals := 33 }) s m (([.ref h0, .int p0] : List Value).toArray) below meth c s.heap [] 0 0 Q9 (F0 m 0 ls []) from key9 _ rfl
  intro Q9 hQ9
  have k_m2 : ((-2) : Int32).toInt = (-2) := by decide
  have k_0 : (0 : Int32).toInt = 0 := by decide
  have k_1 : (1 : Int32).toInt = 1 := by decide
  have k_2 : (2 : Int32).toInt = 2 := by decide
  have k_3 : (3 : Int32).toInt = 3 := by decide
  have k_4 : (4 : Int32).toInt = 4 := by decide
  have k_5 : (5 : Int32).toInt = 5 := by decide
  have k_6 : (6 : Int32).toInt = 6 := by decide
  have k_7 : (7 : Int32).toInt = 7 := by decide
  refine lv_iload_n hx hb dX9_count_0 rfl (lv_at hl 1 rfl) ?_
  rcases Decidable.em (p0 = 0) with c1 | c1
  · refine lv_tableIn (off := 47) (tgt := 48) hx hb dX9_count_1 (by rw [c1]; decide) (by rw [c1]; decide) (by rw [c1]; decide) (by decide) ?_
    have f_c1 := i_eq c1
    refine lv_aload_n hx hb dX9_count_48 rfl (lv_at hl 0 rfl) ?_
    refine va_get (D := (dC, dI)) (ci := 8) (v := .ref jb) (C := RX9) (T := TX9) (N := 13) hx hb hts (fun w h => List.mem_cons_of_mem _ (inlX9 w h)) hown hK hP 0 rfl rfl 0 (by decide) (hts (.fieldLink RX9 12 "ClearingGates" "books" "LClearingGates$Books;") (List.mem_cons_of_mem _ mw_208)) (fun _ h9 => h9) rfl dX9_count_49 ?_
    refine va_get (D := (dC, dI)) (ci := 0) (v := .int aacc) (C := RX0) (T := TX0) (N := 13) hx hb hts (fun w h => List.mem_cons_of_mem _ (inlX0 w h)) hown hK hP 1 rfl rfl 7 (by decide) (hts (.fieldLink RX9 95 "ClearingGates$Books" "accounts" "I") (List.mem_cons_of_mem _ mw_113)) (fun _ h9 => h9) rfl dX9_count_52 ?_
    rw [hQ9]
    exact W.iret (v := aacc) hx hb hr (fun t ht hW => ⟨⟨aacc, (), rfl, (by first | rfl | trivial), by rw [ht]; exact hP, va_K.moved hW.alike hK, hD⟩, hS.F ht⟩) hS.2.2 dX9_count_55
  have f_c1 := i_ne c1
  rcases Decidable.em (p0 = 1) with c2 | c2
  · refine lv_tableIn (off := 55) (tgt := 56) hx hb dX9_count_1 (by rw [c2]; decide) (by rw [c2]; decide) (by rw [c2]; decide) (by decide) ?_
    have f_c2 := i_eq c2
    refine lv_aload_n hx hb dX9_count_56 rfl (lv_at hl 0 rfl) ?_
    refine va_get (D := (dC, dI)) (ci := 8) (v := .int pcn) (C := RX9) (T := TX9) (N := 13) hx hb hts (fun w h => List.mem_cons_of_mem _ (inlX9 w h)) hown hK hP 0 rfl rfl 6 (by decide) (hts (.fieldLink RX9 141 "ClearingGates" "programCount" "I") (List.mem_cons_of_mem _ mw_214)) (fun _ h9 => h9) rfl dX9_count_57 ?_
    rw [hQ9]
    exact W.iret (v := pcn) hx hb hr (fun t ht hW => ⟨⟨pcn, (), rfl, (by first | rfl | trivial), by rw [ht]; exact hP, va_K.moved hW.alike hK, hD⟩, hS.F ht⟩) hS.2.2 dX9_count_60
  have f_c2 := i_ne c2
  rcases Decidable.em (p0 = 2) with c3 | c3
  · refine lv_tableIn (off := 60) (tgt := 61) hx hb dX9_count_1 (by rw [c3]; decide) (by rw [c3]; decide) (by rw [c3]; decide) (by decide) ?_
    have f_c3 := i_eq c3
    refine lv_aload_n hx hb dX9_count_61 rfl (lv_at hl 0 rfl) ?_
    refine va_get (D := (dC, dI)) (ci := 8) (v := .ref jb) (C := RX9) (T := TX9) (N := 13) hx hb hts (fun w h => List.mem_cons_of_mem _ (inlX9 w h)) hown hK hP 0 rfl rfl 0 (by decide) (hts (.fieldLink RX9 12 "ClearingGates" "books" "LClearingGates$Books;") (List.mem_cons_of_mem _ mw_208)) (fun _ h9 => h9) rfl dX9_count_62 ?_
    refine va_get (D := (dC, dI)) (ci := 0) (v := .int amis) (C := RX0) (T := TX0) (N := 13) hx hb hts (fun w h => List.mem_cons_of_mem _ (inlX0 w h)) hown hK hP 1 rfl rfl 9 (by decide) (hts (.fieldLink RX9 144 "ClearingGates$Books" "missed" "I") (List.mem_cons_of_mem _ mw_118)) (fun _ h9 => h9) rfl dX9_count_65 ?_
    rw [hQ9]
    exact W.iret (v := amis) hx hb hr (fun t ht hW => ⟨⟨amis, (), rfl, (by first | rfl | trivial), by rw [ht]; exact hP, va_K.moved hW.alike hK, hD⟩, hS.F ht⟩) hS.2.2 dX9_count_68
  have f_c3 := i_ne c3
  rcases Decidable.em (p0 = 3) with c4 | c4
  · refine lv_tableIn (off := 68) (tgt := 69) hx hb dX9_count_1 (by rw [c4]; decide) (by rw [c4]; decide) (by rw [c4]; decide) (by decide) ?_
    have f_c4 := i_eq c4
    refine lv_aload_n hx hb dX9_count_69 rfl (lv_at hl 0 rfl) ?_
    refine va_get (D := (dC, dI)) (ci := 8) (v := .ref jb) (C := RX9) (T := TX9) (N := 13) hx hb hts (fun w h => List.mem_cons_of_mem _ (inlX9 w h)) hown hK hP 0 rfl rfl 0 (by decide) (hts (.fieldLink RX9 12 "ClearingGates" "books" "LClearingGates$Books;") (List.mem_cons_of_mem _ mw_208)) (fun _ h9 => h9) rfl dX9_count_70 ?_
    refine va_get (D := (dC, dI)) (ci := 0) (v := .int abel) (C := RX0) (T := TX0) (N := 13) hx hb hts (fun w h => List.mem_cons_of_mem _ (inlX0 w h)) hown hK hP 1 rfl rfl 10 (by decide) (hts (.fieldLink RX9 147 "ClearingGates$Books" "bells" "I") (List.mem_cons_of_mem _ mw_120)) (fun _ h9 => h9) rfl dX9_count_73 ?_
    rw [hQ9]
    exact W.iret (v := abel) hx hb hr (fun t ht hW => ⟨⟨abel, (), rfl, (by first | rfl | trivial), by rw [ht]; exact hP, va_K.moved hW.alike hK, hD⟩, hS.F ht⟩) hS.2.2 dX9_count_76
  have f_c4 := i_ne c4
  rcases Decidable.em (p0 = 4) with c5 | c5
  · refine lv_tableIn (off := 76) (tgt := 77) hx hb dX9_count_1 (by rw [c5]; decide) (by rw [c5]; decide) (by rw [c5]; decide) (by decide) ?_
    have f_c5 := i_eq c5
    refine lv_aload_n hx hb dX9_count_77 rfl (lv_at hl 0 rfl) ?_
    refine va_get (D := (dC, dI)) (ci := 8) (v := .ref jb) (C := RX9) (T := TX9) (N := 13) hx hb hts (fun w h => List.mem_cons_of_mem _ (inlX9 w h)) hown hK hP 0 rfl rfl 0 (by decide) (hts (.fieldLink RX9 12 "ClearingGates" "books" "LClearingGates$Books;") (List.mem_cons_of_mem _ mw_208)) (fun _ h9 => h9) rfl dX9_count_78 ?_
    refine va_get (D := (dC, dI)) (ci := 0) (v := .int aref) (C := RX0) (T := TX0) (N := 13) hx hb hts (fun w h => List.mem_cons_of_mem _ (inlX0 w h)) hown hK hP 1 rfl rfl 11 (by decide) (hts (.fieldLink RX9 150 "ClearingGates$Books" "refused" "I") (List.mem_cons_of_mem _ mw_123)) (fun _ h9 => h9) rfl dX9_count_81 ?_
    rw [hQ9]
    exact W.iret (v := aref) hx hb hr (fun t ht hW => ⟨⟨aref, (), rfl, (by first | rfl | trivial), by rw [ht]; exact hP, va_K.moved hW.alike hK, hD⟩, hS.F ht⟩) hS.2.2 dX9_count_84
  have f_c5 := i_ne c5
  rcases Decidable.em (p0 = 5) with c6 | c6
  · refine lv_tableIn (off := 84) (tgt := 85) hx hb dX9_count_1 (by rw [c6]; decide) (by rw [c6]; decide) (by rw [c6]; decide) (by decide) ?_
    have f_c6 := i_eq c6
    refine lv_aload_n hx hb dX9_count_85 rfl (lv_at hl 0 rfl) ?_
    refine va_get (D := (dC, dI)) (ci := 8) (v := .ref jb) (C := RX9) (T := TX9) (N := 13) hx hb hts (fun w h => List.mem_cons_of_mem _ (inlX9 w h)) hown hK hP 0 rfl rfl 0 (by decide) (hts (.fieldLink RX9 12 "ClearingGates" "books" "LClearingGates$Books;") (List.mem_cons_of_mem _ mw_208)) (fun _ h9 => h9) rfl dX9_count_86 ?_
    refine va_get (D := (dC, dI)) (ci := 0) (v := .int acau) (C := RX0) (T := TX0) (N := 13) hx hb hts (fun w h => List.mem_cons_of_mem _ (inlX0 w h)) hown hK hP 1 rfl rfl 12 (by decide) (hts (.fieldLink RX9 153 "ClearingGates$Books" "caught" "I") (List.mem_cons_of_mem _ mw_126)) (fun _ h9 => h9) rfl dX9_count_89 ?_
    rw [hQ9]
    exact W.iret (v := acau) hx hb hr (fun t ht hW => ⟨⟨acau, (), rfl, (by first | rfl | trivial), by rw [ht]; exact hP, va_K.moved hW.alike hK, hD⟩, hS.F ht⟩) hS.2.2 dX9_count_92
  have f_c6 := i_ne c6
  rcases Decidable.em (p0 = 6) with c7 | c7
  · refine lv_tableIn (off := 92) (tgt := 93) hx hb dX9_count_1 (by rw [c7]; decide) (by rw [c7]; decide) (by rw [c7]; decide) (by decide) ?_
    have f_c7 := i_eq c7
    refine lv_aload_n hx hb dX9_count_93 rfl (lv_at hl 0 rfl) ?_
    refine va_get (D := (dC, dI)) (ci := 8) (v := .ref j1) (C := RX9) (T := TX9) (N := 13) hx hb hts (fun w h => List.mem_cons_of_mem _ (inlX9 w h)) hown hK hP 0 rfl rfl 10 (by decide) (hts (.fieldLink RX9 70 "ClearingGates" "truly" "LClearingGates$Runner;") (List.mem_cons_of_mem _ mw_218)) (fun _ h9 => h9) rfl dX9_count_94 ?_
    obtain ⟨hPc, hDc, hFc, hCm, hNw⟩ := C_s (wc := [eO j1 5 [.ref jb, .ref qm1, .int mc1, .ref qh1, .ref qk1, .ref qf1, .int bg1, oq1]]) hP hD hS hA [(2, 1)] 4 rfl (by decide +kernel) rfl
    have hKc := K_s (tys' := []) hK [] rfl
    refine va_calli (va_runV (As := []) (rest := []) ⟨hx, hb, hml, hown, hts⟩ (c_X6_keptMarks l dC dI j1 (.ref jb) (.ref qm1) mc1 (.ref qh1) (.ref qk1) (.ref qf1) (.int bg1) (oq1) s.heap.size vm1) (cwV 0 hts gX9_count_X6_keptMarks rfl rfl rfl (by decide +kernel) ⟨Nat.le_of_ble_eq_true rfl, Nat.le_of_ble_eq_true rfl⟩) ⟨fun a U g mk q => by obtain ⟨q0, q1, qP, qK, qD⟩ := q; exact ⟨q0, q1, qP, va_K.moved (u := U) (U := U.calling g mk a) (Vm.Alike.refl U.vm) qK, qD⟩, va_recv (s := s) (q := (RX6, TX6, 8)) hKc hPc (ci := 5) (q0 := 0) rfl rfl, fun U hU hW => ⟨rfl, by rw [hU], by rw [hU]; exact hPc, va_K.moved hW.alike hKc, hDc.weaken (fun _ _ _ _ => trivial)⟩⟩ rfl rfl hl.1 rfl (lv_room (Nat.le_of_ble_eq_true rfl)) dX9_count_97 ⟨Nat.le_of_ble_eq_true rfl, Nat.le_of_ble_eq_true rfl⟩) hS (fun q _ h => hFc q h) hFc (fun r8 u t H1 locs ht hvm hw hB hz1 hk1 hS => ?_)
    obtain ⟨hP1, hK1, hD1⟩ := hB
    rw [ht] at hP1
    have hK1 := va_K.moved hvm.symm hK1
    try dsimp only at hw
    obtain ⟨hP, hD⟩ := J_s (wL := [eO h0 8 [.ref jb, .ref ji, .ref jd, .ref je, .ref jg, .ref qpa, .int pcn, .int ipn, .ref jt, .ref jr, .ref j1, .ref j2, .ref qsa], eO jb 0 [.ref aq0, .ref aq1, .ref aq2, .ref aq3, .ref aq4, .ref aq5, .ref aq6, .int aacc, .long afees, .int amis, .int abel, .int aref, .int acau], eO jt 7 [.ref tb, .int tn], eO j1 5 [.ref jb, .ref qm1, .int mc1, .ref qh1, .ref qk1, .ref qf1, .int bg1, oq1]]) hP hD [(2, 1)] [(0, 2), (3, 1)] hCm hNw (by decide +kernel) hk1 hFc hP1 hD1 rfl
    have hK := KJ_s (tys' := []) hK hK1 [] rfl
    generalize H1 = H at hP hS ⊢
    have h_r8 := hw
    rw [hQ9]
    exact W.iret (v := r8) hx hb hr (fun t ht hW => ⟨⟨r8, (), rfl, (by first | rfl | trivial), by rw [ht]; exact P_s hP [(0, 2), (3, 1), (2, 1)] rfl, va_K.moved hW.alike hK, D_s hD [(0, 2), (3, 1), (2, 1)] 4 rfl (by decide +kernel) rfl⟩, hS.F ht⟩) hS.2.2 dX9_count_100
  have f_c7 := i_ne c7
  rcases Decidable.em (p0 = 7) with c9 | c9
  · refine lv_tableIn (off := 100) (tgt := 101) hx hb dX9_count_1 (by rw [c9]; decide) (by rw [c9]; decide) (by rw [c9]; decide) (by decide) ?_
    have f_c9 := i_eq c9
    refine lv_aload_n hx hb dX9_count_101 rfl (lv_at hl 0 rfl) ?_
    refine va_get (D := (dC, dI)) (ci := 8) (v := .ref jt) (C := RX9) (T := TX9) (N := 13) hx hb hts (fun w h => List.mem_cons_of_mem _ (inlX9 w h)) hown hK hP 0 rfl rfl 8 (by decide) (hts (.fieldLink RX9 54 "ClearingGates" "tape" "LClearingGates$Tape;") (List.mem_cons_of_mem _ mw_216)) (fun _ h9 => h9) rfl dX9_count_102 ?_
    refine va_get (D := (dC, dI)) (ci := 7) (v := .int tn) (C := RX8) (T := TX8) (N := 2) hx hb hts (fun w h => List.mem_cons_of_mem _ (inlX8 w h)) hown hK hP 3 rfl rfl 1 (by decide) (hts (.fieldLink RX9 160 "ClearingGates$Tape" "size" "I") (List.mem_cons_of_mem _ mw_167)) (fun _ h9 => h9) rfl dX9_count_105 ?_
    rw [hQ9]
    exact W.iret (v := tn) hx hb hr (fun t ht hW => ⟨⟨tn, (), rfl, (by first | rfl | trivial), by rw [ht]; exact hP, va_K.moved hW.alike hK, hD⟩, hS.F ht⟩) hS.2.2 dX9_count_108
  have f_c9 := i_ne c9
  refine lv_tableOut (tgt := 109) hx hb dX9_count_1 (by omega) (by decide) ?_
  refine lv_bipush (v := -2) hx hb dX9_count_109 (by decide) ?_
  rw [hQ9]
  exact W.iret (v := (-2)) hx hb hr (fun t ht hW => ⟨⟨(-2), (), rfl, (by first | rfl | trivial), by rw [ht]; exact hP, va_K.moved hW.alike hK, hD⟩, hS.F ht⟩) hS.2.2 dX9_count_111

set_option maxRecDepth 100000 in
set_option maxHeartbeats 4000000 in
/-- sum -/
theorem c_X9_sum (l : Launch) (dC : Nat → ClassId) (dI : Nat → Nat → Nat) (h0 : Nat) (p0 : Int32) (jb : Nat) (ji : Nat) (jd : Nat) (je : Nat) (jg : Nat) (qpa : Nat) (pcn : Int32) (ipn : Int32) (jt : Nat) (jr : Nat) (j1 : Nat) (j2 : Nat) (qsa : Nat) (aq0 : Nat) (aq1 : Nat) (aq2 : Nat) (aq3 : Nat) (aq4 : Nat) (aq5 : Nat) (aq6 : Nat) (aacc : Int32) (afees : Int64) (amis : Int32) (abel : Int32) (aref : Int32) (acau : Int32) (ak0 : ClassId) (ag0 : Nat → Int32) (ak1 : ClassId) (ag1 : Nat → Int32) (ak2 : ClassId) (ag2 : Nat → Int32) (ak3 : ClassId) (ag3 : Nat → Int32) (ak4 : ClassId) (ag4 : Nat → Int32) (ak5 : ClassId) (ag5 : Nat → Int32) (ak6 : ClassId) (ag6 : Nat → Int32) (dq : Nat) (kd : ClassId) (fd : Nat → Int32) (sz : Nat) (va1 : 0 ≤ aacc.toInt) (va2 : aacc.toInt ≤ 8) : Met l yX9_sum wsX9_sum ({ frames := 1, cells := 0, slots := 0, locals := 23 }) (va_Pc [.ref h0, .int p0] (fun U => U.heap.size = sz ∧ va_P (dC, dI) vwCl [eO h0 8 [.ref jb, .ref ji, .ref jd, .ref je, .ref jg, .ref qpa, .int pcn, .int ipn, .ref jt, .ref jr, .ref j1, .ref j2, .ref qsa], eO jb 0 [.ref aq0, .ref aq1, .ref aq2, .ref aq3, .ref aq4, .ref aq5, .ref aq6, .int aacc, .long afees, .int amis, .int abel, .int aref, .int acau], eI aq0 ak0 8 ag0, eI aq1 ak1 8 ag1, eI aq2 ak2 8 ag2, eI aq3 ak3 8 ag3, eI aq4 ak4 8 ag4, eI aq5 ak5 8 ag5, eI aq6 ak6 8 ag6, eO jd 1 [.ref dq], eI dq kd 64 fd] U.heap ∧ va_K (dC, dI) vwCl [(ak0, .int), (ak1, .int), (ak2, .int), (ak3, .boolean), (ak4, .int), (ak5, .int), (ak6, .int), (kd, .int)] U ∧ va_D (fun _ => True) [eO h0 8 [.ref jb, .ref ji, .ref jd, .ref je, .ref jg, .ref qpa, .int pcn, .int ipn, .ref jt, .ref jr, .ref j1, .ref j2, .ref qsa], eO jb 0 [.ref aq0, .ref aq1, .ref aq2, .ref aq3, .ref aq4, .ref aq5, .ref aq6, .int aacc, .long afees, .int amis, .int abel, .int aref, .int acau], eI aq0 ak0 8 ag0, eI aq1 ak1 8 ag1, eI aq2 ak2 8 ag2, eI aq3 ak3 8 ag3, eI aq4 ak4 8 ag4, eI aq5 ak5 8 ag5, eI aq6 ak6 8 ag6, eO jd 1 [.ref dq], eI dq kd 64 fd])) (va_Ql (fun (r : Int64) (_ : Unit) => True) (fun (_ : Unit) (t : State) => va_P (dC, dI) vwCl [eO h0 8 [.ref jb, .ref ji, .ref jd, .ref je, .ref jg, .ref qpa, .int pcn, .int ipn, .ref jt, .ref jr, .ref j1, .ref j2, .ref qsa], eO jb 0 [.ref aq0, .ref aq1, .ref aq2, .ref aq3, .ref aq4, .ref aq5, .ref aq6, .int aacc, .long afees, .int amis, .int abel, .int aref, .int acau], eI aq0 ak0 8 ag0, eI aq1 ak1 8 ag1, eI aq2 ak2 8 ag2, eI aq3 ak3 8 ag3, eI aq4 ak4 8 ag4, eI aq5 ak5 8 ag5, eI aq6 ak6 8 ag6, eO jd 1 [.ref dq], eI dq kd 64 fd] t.heap ∧ va_K (dC, dI) vwCl [(ak0, .int), (ak1, .int), (ak2, .int), (ak3, .boolean), (ak4, .int), (ak5, .int), (ak6, .int), (kd, .int)] t ∧ va_D (va_A [eO h0 8 [.ref jb, .ref ji, .ref jd, .ref je, .ref jg, .ref qpa, .int pcn, .int ipn, .ref jt, .ref jr, .ref j1, .ref j2, .ref qsa], eO jb 0 [.ref aq0, .ref aq1, .ref aq2, .ref aq3, .ref aq4, .ref aq5, .ref aq6, .int aacc, .long afees, .int amis, .int abel, .int aref, .int acau], eI aq0 ak0 8 ag0, eI aq1 ak1 8 ag1, eI aq2 ak2 8 ag2, eI aq3 ak3 8 ag3, eI aq4 ak4 8 ag4, eI aq5 ak5 8 ag5, eI aq6 ak6 8 ag6, eO jd 1 [.ref dq], eI dq kd 64 fd] sz) [eO h0 8 [.ref jb, .ref ji, .ref jd, .ref je, .ref jg, .ref qpa, .int pcn, .int ipn, .ref jt, .ref jr, .ref j1, .ref j2, .ref qsa], eO jb 0 [.ref aq0, .ref aq1, .ref aq2, .ref aq3, .ref aq4, .ref aq5, .ref aq6, .int aacc, .long afees, .int amis, .int abel, .int aref, .int acau], eI aq0 ak0 8 ag0, eI aq1 ak1 8 ag1, eI aq2 ak2 8 ag2, eI aq3 ak3 8 ag3, eI aq4 ak4 8 ag4, eI aq5 ak5 8 ag5, eI aq6 ak6 8 ag6, eO jd 1 [.ref dq], eI dq kd 64 fd]) (va_A [eO h0 8 [.ref jb, .ref ji, .ref jd, .ref je, .ref jg, .ref qpa, .int pcn, .int ipn, .ref jt, .ref jr, .ref j1, .ref j2, .ref qsa], eO jb 0 [.ref aq0, .ref aq1, .ref aq2, .ref aq3, .ref aq4, .ref aq5, .ref aq6, .int aacc, .long afees, .int amis, .int abel, .int aref, .int acau], eI aq0 ak0 8 ag0, eI aq1 ak1 8 ag1, eI aq2 ak2 8 ag2, eI aq3 ak3 8 ag3, eI aq4 ak4 8 ag4, eI aq5 ak5 8 ag5, eI aq6 ak6 8 ag6, eO jd 1 [.ref dq], eI dq kd 64 fd] sz)) 0 0 (va_A [eO h0 8 [.ref jb, .ref ji, .ref jd, .ref je, .ref jg, .ref qpa, .int pcn, .int ipn, .ref jt, .ref jr, .ref j1, .ref j2, .ref qsa], eO jb 0 [.ref aq0, .ref aq1, .ref aq2, .ref aq3, .ref aq4, .ref aq5, .ref aq6, .int aacc, .long afees, .int amis, .int abel, .int aref, .int acau], eI aq0 ak0 8 ag0, eI aq1 ak1 8 ag1, eI aq2 ak2 8 ag2, eI aq3 ak3 8 ag3, eI aq4 ak4 8 ag4, eI aq5 ak5 8 ag5, eI aq6 ak6 8 ag6, eO jd 1 [.ref dq], eI dq kd 64 fd] sz) := by
  refine Met.ofW (cc := cX9_sum) (maxL := 2) (ret := (some .long)) (by decide) rfl ?_
  intro p e s m args below meth c s₁ B hml hv
  obtain ⟨rfl, hsz, hP, hK, hD0⟩ := hv
  have hx := B.exec
  have hb := B.bytes
  have hr := B.returns
  have hts := atoms_spec (ws := wsX9_sum) B.pre
  have hown : s.vm.findClass RX9 = some m.cls := findClass_of_methodNamed B.named
  have hlocks := B.notSynchronized
  subst hsz
  have hD := hD0.self (sz := s.heap.size)
  generalize hAe : va_A [eO h0 8 [.ref jb, .ref ji, .ref jd, .ref je, .ref jg, .ref qpa, .int pcn, .int ipn, .ref jt, .ref jr, .ref j1, .ref j2, .ref qsa], eO jb 0 [.ref aq0, .ref aq1, .ref aq2, .ref aq3, .ref aq4, .ref aq5, .ref aq6, .int aacc, .long afees, .int amis, .int abel, .int aref, .int acau], eI aq0 ak0 8 ag0, eI aq1 ak1 8 ag1, eI aq2 ak2 8 ag2, eI aq3 ak3 8 ag3, eI aq4 ak4 8 ag4, eI aq5 ak5 8 ag5, eI aq6 ak6 8 ag6, eO jd 1 [.ref dq], eI dq kd 64 fd] s.heap.size = A at hD ⊢
  have hA : ∀ q : Nat, s.heap.size ≤ q → A q := fun q h => by rw [← hAe]; exact Or.inr h
  have hS : va_S A s.heap s.heap [] := va_S.rf
  have hP : va_P (dC, dI) vwCl [eO h0 8 [.ref jb, .ref ji, .ref jd, .ref je, .ref jg, .ref qpa, .int pcn, .int ipn, .ref jt, .ref jr, .ref j1, .ref j2, .ref qsa], eO jb 0 [.ref aq0, .ref aq1, .ref aq2, .ref aq3, .ref aq4, .ref aq5, .ref aq6, .int aacc, .long afees, .int amis, .int abel, .int aref, .int acau], eI aq0 ak0 8 ag0, eI aq1 ak1 8 ag1, eI aq2 ak2 8 ag2, eI aq3 ak3 8 ag3, eI aq4 ak4 8 ag4, eI aq5 ak5 8 ag5, eI aq6 ak6 8 ag6, eO jd 1 [.ref dq], eI dq kd 64 fd] s.heap := hP
  have hl := lv_entry ([.ref h0, .int p0]) (n := 2) (Nat.le_of_ble_eq_true rfl)
  rw [lg_entry_eq]
  generalize (lg_sl ([.ref h0, .int p0]) ++ List.replicate (2 - (lg_sl ([.ref h0, .int p0])).length) Slot.unset).toArray = ls at hl ⊢
  have hl : lv_has ls 2 [(0, .ref h0), (1, .int p0)] := hl
  suffices key9 : ∀ Q9 : State → Prop, Q9 = (MQ below (va_Ql (fun (r : Int64) (_ : Unit) => True) (fun (_ : Unit) (t : State) => va_P (dC, dI) vwCl [eO h0 8 [.ref jb, .ref ji, .ref jd, .ref je, .ref jg, .ref qpa, .int pcn, .int ipn, .ref jt, .ref jr, .ref j1, .ref j2, .ref qsa], eO jb 0 [.ref aq0, .ref aq1, .ref aq2, .ref aq3, .ref aq4, .ref aq5, .ref aq6, .int aacc, .long afees, .int amis, .int abel, .int aref, .int acau], eI aq0 ak0 8 ag0, eI aq1 ak1 8 ag1, eI aq2 ak2 8 ag2, eI aq3 ak3 8 ag3, eI aq4 ak4 8 ag4, eI aq5 ak5 8 ag5, eI aq6 ak6 8 ag6, eO jd 1 [.ref dq], eI dq kd 64 fd] t.heap ∧ va_K (dC, dI) vwCl [(ak0, .int), (ak1, .int), (ak2, .int), (ak3, .boolean), (ak4, .int), (ak5, .int), (ak6, .int), (kd, .int)] t ∧ va_D A [eO h0 8 [.ref jb, .ref ji, .ref jd, .ref je, .ref jg, .ref qpa, .int pcn, .int ipn, .ref jt, .ref jr, .ref j1, .ref j2, .ref qsa], eO jb 0 [.ref aq0, .ref aq1, .ref aq2, .ref aq3, .ref aq4, .ref aq5, .ref aq6, .int aacc, .long afees, .int amis, .int abel, .int aref, .int acau], eI aq0 ak0 8 ag0, eI aq1 ak1 8 ag1, eI aq2 ak2 8 ag2, eI aq3 ak3 8 ag3, eI aq4 ak4 8 ag4, eI aq5 ak5 8 ag5, eI aq6 ak6 8 ag6, eO jd 1 [.ref dq], eI dq kd 64 fd]) A) (([.ref h0, .int p0] : List Value).toArray) s 0 0 A) → W p l e ({ frames := 1, cells := 0, slots := 0, locals := 23 }) s m (([.ref h0, .int p0] : List Value).toArray) below meth c s.heap [] 0 0 Q9 (F0 m 0 ls []) from key9 _ rfl
  intro Q9 hQ9
  have k_0 : (0 : Int32).toInt = 0 := by decide
  have k_1 : (1 : Int32).toInt = 1 := by decide
  have k_2 : (2 : Int32).toInt = 2 := by decide
  refine lv_iload_n hx hb dX9_sum_0 rfl (lv_at hl 1 rfl) ?_
  rcases Decidable.em (p0 = 0) with c1 | c1
  · refine lv_tableIn (off := 27) (tgt := 28) hx hb dX9_sum_1 (by rw [c1]; decide) (by rw [c1]; decide) (by rw [c1]; decide) (by decide) ?_
    have f_c1 := i_eq c1
    refine lv_aload_n hx hb dX9_sum_28 rfl (lv_at hl 0 rfl) ?_
    refine va_get (D := (dC, dI)) (ci := 8) (v := .ref jb) (C := RX9) (T := TX9) (N := 13) hx hb hts (fun w h => List.mem_cons_of_mem _ (inlX9 w h)) hown hK hP 0 rfl rfl 0 (by decide) (hts (.fieldLink RX9 12 "ClearingGates" "books" "LClearingGates$Books;") (List.mem_cons_of_mem _ mw_208)) (fun _ h9 => h9) rfl dX9_sum_29 ?_
    refine va_get (D := (dC, dI)) (ci := 0) (v := .long afees) (C := RX0) (T := TX0) (N := 13) hx hb hts (fun w h => List.mem_cons_of_mem _ (inlX0 w h)) hown hK hP 1 rfl rfl 8 (by decide) (hts (.fieldLink RX9 163 "ClearingGates$Books" "fees" "J") (List.mem_cons_of_mem _ mw_115)) (fun _ h9 => h9) rfl dX9_sum_32 ?_
    rw [hQ9]
    exact W.lret (v := afees) hx hb hr (fun t ht hW => ⟨⟨afees, (), rfl, (by first | rfl | trivial), by rw [ht]; exact hP, va_K.moved hW.alike hK, hD⟩, hS.F ht⟩) hS.2.2 dX9_sum_35
  have f_c1 := i_ne c1
  rcases Decidable.em (p0 = 1) with c2 | c2
  · refine lv_tableIn (off := 35) (tgt := 36) hx hb dX9_sum_1 (by rw [c2]; decide) (by rw [c2]; decide) (by rw [c2]; decide) (by decide) ?_
    have f_c2 := i_eq c2
    refine lv_aload_n hx hb dX9_sum_36 rfl (lv_at hl 0 rfl) ?_
    refine va_get (D := (dC, dI)) (ci := 8) (v := .ref jb) (C := RX9) (T := TX9) (N := 13) hx hb hts (fun w h => List.mem_cons_of_mem _ (inlX9 w h)) hown hK hP 0 rfl rfl 0 (by decide) (hts (.fieldLink RX9 12 "ClearingGates" "books" "LClearingGates$Books;") (List.mem_cons_of_mem _ mw_208)) (fun _ h9 => h9) rfl dX9_sum_37 ?_
    obtain ⟨hPc, hDc, hFc, hCm, hNw⟩ := C_s (wc := [eO jb 0 [.ref aq0, .ref aq1, .ref aq2, .ref aq3, .ref aq4, .ref aq5, .ref aq6, .int aacc, .long afees, .int amis, .int abel, .int aref, .int acau], eI aq1 ak1 8 ag1]) hP hD hS hA [(1, 1), (3, 1)] 11 rfl (by decide +kernel) rfl
    have hKc := K_s (tys' := [(ak1, .int)]) hK [(1, 1)] rfl
    refine va_calll (va_runV (As := []) (rest := []) ⟨hx, hb, hml, hown, hts⟩ (c_X0_allMoney l dC dI jb (.ref aq0) aq1 (.ref aq2) (.ref aq3) (.ref aq4) (.ref aq5) (.ref aq6) aacc afees (.int amis) (.int abel) (.int aref) (.int acau) ak1 ag1 s.heap.size va2) (cwV 0 hts gX9_sum_X0_allMoney rfl rfl rfl (by decide +kernel) ⟨Nat.le_of_ble_eq_true rfl, Nat.le_of_ble_eq_true rfl⟩) ⟨fun a U g mk q => by obtain ⟨q0, q1, qP, qK, qD⟩ := q; exact ⟨q0, q1, qP, va_K.moved (u := U) (U := U.calling g mk a) (Vm.Alike.refl U.vm) qK, qD⟩, va_recv (s := s) (q := (RX0, TX0, 13)) hKc hPc (ci := 0) (q0 := 0) rfl rfl, fun U hU hW => ⟨rfl, by rw [hU], by rw [hU]; exact hPc, va_K.moved hW.alike hKc, hDc.weaken (fun _ _ _ _ => trivial)⟩⟩ rfl rfl hl.1 rfl (lv_room (Nat.le_of_ble_eq_true rfl)) dX9_sum_40 ⟨Nat.le_of_ble_eq_true rfl, Nat.le_of_ble_eq_true rfl⟩) hS (fun q _ h => hFc q h) hFc (fun r3 u t H1 locs ht hvm hw hB hz1 hk1 hS => ?_)
    obtain ⟨hP1, hK1, hD1⟩ := hB
    rw [ht] at hP1
    have hK1 := va_K.moved hvm.symm hK1
    try dsimp only at hw
    obtain ⟨hP, hD⟩ := J_s (wL := [eO h0 8 [.ref jb, .ref ji, .ref jd, .ref je, .ref jg, .ref qpa, .int pcn, .int ipn, .ref jt, .ref jr, .ref j1, .ref j2, .ref qsa], eI aq0 ak0 8 ag0, eI aq2 ak2 8 ag2, eI aq3 ak3 8 ag3, eI aq4 ak4 8 ag4, eI aq5 ak5 8 ag5, eI aq6 ak6 8 ag6, eO jd 1 [.ref dq], eI dq kd 64 fd, eO jb 0 [.ref aq0, .ref aq1, .ref aq2, .ref aq3, .ref aq4, .ref aq5, .ref aq6, .int aacc, .long afees, .int amis, .int abel, .int aref, .int acau], eI aq1 ak1 8 ag1]) hP hD [(1, 1), (3, 1)] [(0, 1), (2, 1), (4, 7)] hCm hNw (by decide +kernel) hk1 hFc hP1 hD1 rfl
    have hK := KJ_s (tys' := [(ak0, .int), (ak2, .int), (ak3, .boolean), (ak4, .int), (ak5, .int), (ak6, .int), (kd, .int), (ak1, .int)]) hK hK1 [(0, 1), (2, 6)] rfl
    generalize H1 = H at hP hS ⊢
    rw [hQ9]
    exact W.lret (v := r3) hx hb hr (fun t ht hW => ⟨⟨r3, (), rfl, (by first | rfl | trivial), by rw [ht]; exact P_s hP [(0, 1), (9, 1), (1, 1), (10, 1), (2, 7)] rfl, va_K.moved hW.alike (K_s hK [(0, 1), (7, 1), (1, 6)] rfl), D_s hD [(0, 1), (9, 1), (1, 1), (10, 1), (2, 7)] 11 rfl (by decide +kernel) rfl⟩, hS.F ht⟩) hS.2.2 dX9_sum_43
  have f_c2 := i_ne c2
  rcases Decidable.em (p0 = 2) with c4 | c4
  · refine lv_tableIn (off := 43) (tgt := 44) hx hb dX9_sum_1 (by rw [c4]; decide) (by rw [c4]; decide) (by rw [c4]; decide) (by decide) ?_
    have f_c4 := i_eq c4
    refine lv_aload_n hx hb dX9_sum_44 rfl (lv_at hl 0 rfl) ?_
    refine va_get (D := (dC, dI)) (ci := 8) (v := .ref jd) (C := RX9) (T := TX9) (N := 13) hx hb hts (fun w h => List.mem_cons_of_mem _ (inlX9 w h)) hown hK hP 0 rfl rfl 2 (by decide) (hts (.fieldLink RX9 24 "ClearingGates" "debts" "LClearingGates$Debts;") (List.mem_cons_of_mem _ mw_210)) (fun _ h9 => h9) rfl dX9_sum_45 ?_
    obtain ⟨hPc, hDc, hFc, hCm, hNw⟩ := C_s (wc := [eO jd 1 [.ref dq], eI dq kd 64 fd]) hP hD hS hA [(9, 2)] 11 rfl (by decide +kernel) rfl
    have hKc := K_s (tys' := [(kd, .int)]) hK [(7, 1)] rfl
    refine va_calll (va_runV (As := []) (rest := []) ⟨hx, hb, hml, hown, hts⟩ (c_X1_total l dC dI jd dq kd fd s.heap.size) (cwV 0 hts gX9_sum_X1_total rfl rfl rfl (by decide +kernel) ⟨Nat.le_of_ble_eq_true rfl, Nat.le_of_ble_eq_true rfl⟩) ⟨fun a U g mk q => by obtain ⟨q0, q1, qP, qK, qD⟩ := q; exact ⟨q0, q1, qP, va_K.moved (u := U) (U := U.calling g mk a) (Vm.Alike.refl U.vm) qK, qD⟩, va_recv (s := s) (q := (RX1, TX1, 1)) hKc hPc (ci := 1) (q0 := 0) rfl rfl, fun U hU hW => ⟨rfl, by rw [hU], by rw [hU]; exact hPc, va_K.moved hW.alike hKc, hDc.weaken (fun _ _ _ _ => trivial)⟩⟩ rfl rfl hl.1 rfl (lv_room (Nat.le_of_ble_eq_true rfl)) dX9_sum_48 ⟨Nat.le_of_ble_eq_true rfl, Nat.le_of_ble_eq_true rfl⟩) hS (fun q _ h => hFc q h) hFc (fun r5 u t H1 locs ht hvm hw hB hz1 hk1 hS => ?_)
    obtain ⟨hP1, hK1, hD1⟩ := hB
    rw [ht] at hP1
    have hK1 := va_K.moved hvm.symm hK1
    try dsimp only at hw
    obtain ⟨hP, hD⟩ := J_s (wL := [eO h0 8 [.ref jb, .ref ji, .ref jd, .ref je, .ref jg, .ref qpa, .int pcn, .int ipn, .ref jt, .ref jr, .ref j1, .ref j2, .ref qsa], eO jb 0 [.ref aq0, .ref aq1, .ref aq2, .ref aq3, .ref aq4, .ref aq5, .ref aq6, .int aacc, .long afees, .int amis, .int abel, .int aref, .int acau], eI aq0 ak0 8 ag0, eI aq1 ak1 8 ag1, eI aq2 ak2 8 ag2, eI aq3 ak3 8 ag3, eI aq4 ak4 8 ag4, eI aq5 ak5 8 ag5, eI aq6 ak6 8 ag6, eO jd 1 [.ref dq], eI dq kd 64 fd]) hP hD [(9, 2)] [(0, 9)] hCm hNw (by decide +kernel) hk1 hFc hP1 hD1 rfl
    have hK := KJ_s (tys' := [(ak0, .int), (ak1, .int), (ak2, .int), (ak3, .boolean), (ak4, .int), (ak5, .int), (ak6, .int), (kd, .int)]) hK hK1 [(0, 7)] rfl
    generalize H1 = H at hP hS ⊢
    rw [hQ9]
    exact W.lret (v := r5) hx hb hr (fun t ht hW => ⟨⟨r5, (), rfl, (by first | rfl | trivial), by rw [ht]; exact hP, va_K.moved hW.alike hK, hD⟩, hS.F ht⟩) hS.2.2 dX9_sum_51
  have f_c4 := i_ne c4
  refine lv_tableOut (tgt := 52) hx hb dX9_sum_1 (by omega) (by decide) ?_
  refine lv_ldc2 hx hb hown (hts (.constantLong RX9 105 (-9223372036854775808)) (List.mem_cons_of_mem _ mw_244)) dX9_sum_52 ?_
  rw [hQ9]
  exact W.lret (v := (-9223372036854775808)) hx hb hr (fun t ht hW => ⟨⟨(-9223372036854775808), (), rfl, (by first | rfl | trivial), by rw [ht]; exact hP, va_K.moved hW.alike hK, hD⟩, hS.F ht⟩) hS.2.2 dX9_sum_55

set_option maxRecDepth 100000 in
set_option maxHeartbeats 4000000 in
/-- taken -/
theorem c_X9_taken (l : Launch) (dC : Nat → ClassId) (dI : Nat → Nat → Nat) (h0 : Nat) (p0 : Int32) (p1 : Int32) (jb : Nat) (ji : Nat) (jd : Nat) (je : Nat) (jg : Nat) (qpa : Nat) (pcn : Int32) (ipn : Int32) (jt : Nat) (jr : Nat) (j1 : Nat) (j2 : Nat) (qsa : Nat) (aq0 : Nat) (aq1 : Nat) (aq2 : Nat) (aq3 : Nat) (aq4 : Nat) (aq5 : Nat) (aq6 : Nat) (aacc : Int32) (afees : Int64) (amis : Int32) (abel : Int32) (aref : Int32) (acau : Int32) (ak0 : ClassId) (ag0 : Nat → Int32) (ak1 : ClassId) (ag1 : Nat → Int32) (ak2 : ClassId) (ag2 : Nat → Int32) (ak3 : ClassId) (ag3 : Nat → Int32) (ak4 : ClassId) (ag4 : Nat → Int32) (ak5 : ClassId) (ag5 : Nat → Int32) (ak6 : ClassId) (ag6 : Nat → Int32) (sp : Nat → Int32) (sz : Nat) (va1 : 0 ≤ aacc.toInt) (va2 : aacc.toInt ≤ 8) (hbs : Bs sp ag0 ag2 ag3 aacc) : Met l yX9_taken wsX9_taken ({ frames := 1, cells := 0, slots := 0, locals := 21 }) (va_Pc [.ref h0, .int p0, .int p1] (fun U => U.heap.size = sz ∧ va_P (dC, dI) vwCl [eO h0 8 [.ref jb, .ref ji, .ref jd, .ref je, .ref jg, .ref qpa, .int pcn, .int ipn, .ref jt, .ref jr, .ref j1, .ref j2, .ref qsa], eO jb 0 [.ref aq0, .ref aq1, .ref aq2, .ref aq3, .ref aq4, .ref aq5, .ref aq6, .int aacc, .long afees, .int amis, .int abel, .int aref, .int acau], eI aq0 ak0 8 ag0, eI aq1 ak1 8 ag1, eI aq2 ak2 8 ag2, eI aq3 ak3 8 ag3, eI aq4 ak4 8 ag4, eI aq5 ak5 8 ag5, eI aq6 ak6 8 ag6] U.heap ∧ va_K (dC, dI) vwCl [(ak0, .int), (ak1, .int), (ak2, .int), (ak3, .boolean), (ak4, .int), (ak5, .int), (ak6, .int)] U ∧ va_D (fun _ => True) [eO h0 8 [.ref jb, .ref ji, .ref jd, .ref je, .ref jg, .ref qpa, .int pcn, .int ipn, .ref jt, .ref jr, .ref j1, .ref j2, .ref qsa], eO jb 0 [.ref aq0, .ref aq1, .ref aq2, .ref aq3, .ref aq4, .ref aq5, .ref aq6, .int aacc, .long afees, .int amis, .int abel, .int aref, .int acau], eI aq0 ak0 8 ag0, eI aq1 ak1 8 ag1, eI aq2 ak2 8 ag2, eI aq3 ak3 8 ag3, eI aq4 ak4 8 ag4, eI aq5 ak5 8 ag5, eI aq6 ak6 8 ag6])) (va_Qi (fun (r : Int32) (_ : Unit) => (r.toInt = -2 ∧ ¬(0 ≤ p0.toInt ∧ p0.toInt < aacc.toInt ∧ 0 ≤ p1.toInt ∧ p1.toInt < 5)) ∨ ((0 ≤ p0.toInt ∧ p0.toInt < aacc.toInt ∧ 0 ≤ p1.toInt ∧ p1.toInt < 5) ∧ ((sp p0.toInt.toNat).toInt = p1.toInt ∨ p1.toInt = 0 ∨ ((sp p0.toInt.toNat).toInt = 3 ∧ p1.toInt = 2) ∨ ((sp p0.toInt.toNat).toInt = 4 ∧ p1.toInt = 1)) ∧ r.toInt = (sp (16 + p0.toInt.toNat)).toInt) ∨ ((0 ≤ p0.toInt ∧ p0.toInt < aacc.toInt ∧ 0 ≤ p1.toInt ∧ p1.toInt < 5) ∧ ¬((sp p0.toInt.toNat).toInt = p1.toInt ∨ p1.toInt = 0 ∨ ((sp p0.toInt.toNat).toInt = 3 ∧ p1.toInt = 2) ∨ ((sp p0.toInt.toNat).toInt = 4 ∧ p1.toInt = 1)) ∧ r.toInt = -13)) (fun (_ : Unit) (t : State) => va_P (dC, dI) vwCl [eO h0 8 [.ref jb, .ref ji, .ref jd, .ref je, .ref jg, .ref qpa, .int pcn, .int ipn, .ref jt, .ref jr, .ref j1, .ref j2, .ref qsa], eO jb 0 [.ref aq0, .ref aq1, .ref aq2, .ref aq3, .ref aq4, .ref aq5, .ref aq6, .int aacc, .long afees, .int amis, .int abel, .int aref, .int acau], eI aq0 ak0 8 ag0, eI aq1 ak1 8 ag1, eI aq2 ak2 8 ag2, eI aq3 ak3 8 ag3, eI aq4 ak4 8 ag4, eI aq5 ak5 8 ag5, eI aq6 ak6 8 ag6] t.heap ∧ va_K (dC, dI) vwCl [(ak0, .int), (ak1, .int), (ak2, .int), (ak3, .boolean), (ak4, .int), (ak5, .int), (ak6, .int)] t ∧ va_D (va_A [eO h0 8 [.ref jb, .ref ji, .ref jd, .ref je, .ref jg, .ref qpa, .int pcn, .int ipn, .ref jt, .ref jr, .ref j1, .ref j2, .ref qsa], eO jb 0 [.ref aq0, .ref aq1, .ref aq2, .ref aq3, .ref aq4, .ref aq5, .ref aq6, .int aacc, .long afees, .int amis, .int abel, .int aref, .int acau], eI aq0 ak0 8 ag0, eI aq1 ak1 8 ag1, eI aq2 ak2 8 ag2, eI aq3 ak3 8 ag3, eI aq4 ak4 8 ag4, eI aq5 ak5 8 ag5, eI aq6 ak6 8 ag6] sz) [eO h0 8 [.ref jb, .ref ji, .ref jd, .ref je, .ref jg, .ref qpa, .int pcn, .int ipn, .ref jt, .ref jr, .ref j1, .ref j2, .ref qsa], eO jb 0 [.ref aq0, .ref aq1, .ref aq2, .ref aq3, .ref aq4, .ref aq5, .ref aq6, .int aacc, .long afees, .int amis, .int abel, .int aref, .int acau], eI aq0 ak0 8 ag0, eI aq1 ak1 8 ag1, eI aq2 ak2 8 ag2, eI aq3 ak3 8 ag3, eI aq4 ak4 8 ag4, eI aq5 ak5 8 ag5, eI aq6 ak6 8 ag6]) (va_A [eO h0 8 [.ref jb, .ref ji, .ref jd, .ref je, .ref jg, .ref qpa, .int pcn, .int ipn, .ref jt, .ref jr, .ref j1, .ref j2, .ref qsa], eO jb 0 [.ref aq0, .ref aq1, .ref aq2, .ref aq3, .ref aq4, .ref aq5, .ref aq6, .int aacc, .long afees, .int amis, .int abel, .int aref, .int acau], eI aq0 ak0 8 ag0, eI aq1 ak1 8 ag1, eI aq2 ak2 8 ag2, eI aq3 ak3 8 ag3, eI aq4 ak4 8 ag4, eI aq5 ak5 8 ag5, eI aq6 ak6 8 ag6] sz)) 0 0 (va_A [eO h0 8 [.ref jb, .ref ji, .ref jd, .ref je, .ref jg, .ref qpa, .int pcn, .int ipn, .ref jt, .ref jr, .ref j1, .ref j2, .ref qsa], eO jb 0 [.ref aq0, .ref aq1, .ref aq2, .ref aq3, .ref aq4, .ref aq5, .ref aq6, .int aacc, .long afees, .int amis, .int abel, .int aref, .int acau], eI aq0 ak0 8 ag0, eI aq1 ak1 8 ag1, eI aq2 ak2 8 ag2, eI aq3 ak3 8 ag3, eI aq4 ak4 8 ag4, eI aq5 ak5 8 ag5, eI aq6 ak6 8 ag6] sz) := by
  refine Met.ofW (cc := cX9_taken) (maxL := 3) (ret := (some .int)) (by decide) rfl ?_
  intro p e s m args below meth c s₁ B hml hv
  obtain ⟨rfl, hsz, hP, hK, hD0⟩ := hv
  have hx := B.exec
  have hb := B.bytes
  have hr := B.returns
  have hts := atoms_spec (ws := wsX9_taken) B.pre
  have hown : s.vm.findClass RX9 = some m.cls := findClass_of_methodNamed B.named
  have hlocks := B.notSynchronized
  subst hsz
  have hD := hD0.self (sz := s.heap.size)
  generalize hAe : va_A [eO h0 8 [.ref jb, .ref ji, .ref jd, .ref je, .ref jg, .ref qpa, .int pcn, .int ipn, .ref jt, .ref jr, .ref j1, .ref j2, .ref qsa], eO jb 0 [.ref aq0, .ref aq1, .ref aq2, .ref aq3, .ref aq4, .ref aq5, .ref aq6, .int aacc, .long afees, .int amis, .int abel, .int aref, .int acau], eI aq0 ak0 8 ag0, eI aq1 ak1 8 ag1, eI aq2 ak2 8 ag2, eI aq3 ak3 8 ag3, eI aq4 ak4 8 ag4, eI aq5 ak5 8 ag5, eI aq6 ak6 8 ag6] s.heap.size = A at hD ⊢
  have hA : ∀ q : Nat, s.heap.size ≤ q → A q := fun q h => by rw [← hAe]; exact Or.inr h
  have hS : va_S A s.heap s.heap [] := va_S.rf
  have hP : va_P (dC, dI) vwCl [eO h0 8 [.ref jb, .ref ji, .ref jd, .ref je, .ref jg, .ref qpa, .int pcn, .int ipn, .ref jt, .ref jr, .ref j1, .ref j2, .ref qsa], eO jb 0 [.ref aq0, .ref aq1, .ref aq2, .ref aq3, .ref aq4, .ref aq5, .ref aq6, .int aacc, .long afees, .int amis, .int abel, .int aref, .int acau], eI aq0 ak0 8 ag0, eI aq1 ak1 8 ag1, eI aq2 ak2 8 ag2, eI aq3 ak3 8 ag3, eI aq4 ak4 8 ag4, eI aq5 ak5 8 ag5, eI aq6 ak6 8 ag6] s.heap := hP
  have hl := lv_entry ([.ref h0, .int p0, .int p1]) (n := 3) (Nat.le_of_ble_eq_true rfl)
  rw [lg_entry_eq]
  generalize (lg_sl ([.ref h0, .int p0, .int p1]) ++ List.replicate (3 - (lg_sl ([.ref h0, .int p0, .int p1])).length) Slot.unset).toArray = ls at hl ⊢
  have hl : lv_has ls 3 [(0, .ref h0), (1, .int p0), (2, .int p1)] := hl
  suffices key9 : ∀ Q9 : State → Prop, Q9 = (MQ below (va_Qi (fun (r : Int32) (_ : Unit) => (r.toInt = -2 ∧ ¬(0 ≤ p0.toInt ∧ p0.toInt < aacc.toInt ∧ 0 ≤ p1.toInt ∧ p1.toInt < 5)) ∨ ((0 ≤ p0.toInt ∧ p0.toInt < aacc.toInt ∧ 0 ≤ p1.toInt ∧ p1.toInt < 5) ∧ ((sp p0.toInt.toNat).toInt = p1.toInt ∨ p1.toInt = 0 ∨ ((sp p0.toInt.toNat).toInt = 3 ∧ p1.toInt = 2) ∨ ((sp p0.toInt.toNat).toInt = 4 ∧ p1.toInt = 1)) ∧ r.toInt = (sp (16 + p0.toInt.toNat)).toInt) ∨ ((0 ≤ p0.toInt ∧ p0.toInt < aacc.toInt ∧ 0 ≤ p1.toInt ∧ p1.toInt < 5) ∧ ¬((sp p0.toInt.toNat).toInt = p1.toInt ∨ p1.toInt = 0 ∨ ((sp p0.toInt.toNat).toInt = 3 ∧ p1.toInt = 2) ∨ ((sp p0.toInt.toNat).toInt = 4 ∧ p1.toInt = 1)) ∧ r.toInt = -13)) (fun (_ : Unit) (t : State) => va_P (dC, dI) vwCl [eO h0 8 [.ref jb, .ref ji, .ref jd, .ref je, .ref jg, .ref qpa, .int pcn, .int ipn, .ref jt, .ref jr, .ref j1, .ref j2, .ref qsa], eO jb 0 [.ref aq0, .ref aq1, .ref aq2, .ref aq3, .ref aq4, .ref aq5, .ref aq6, .int aacc, .long afees, .int amis, .int abel, .int aref, .int acau], eI aq0 ak0 8 ag0, eI aq1 ak1 8 ag1, eI aq2 ak2 8 ag2, eI aq3 ak3 8 ag3, eI aq4 ak4 8 ag4, eI aq5 ak5 8 ag5, eI aq6 ak6 8 ag6] t.heap ∧ va_K (dC, dI) vwCl [(ak0, .int), (ak1, .int), (ak2, .int), (ak3, .boolean), (ak4, .int), (ak5, .int), (ak6, .int)] t ∧ va_D A [eO h0 8 [.ref jb, .ref ji, .ref jd, .ref je, .ref jg, .ref qpa, .int pcn, .int ipn, .ref jt, .ref jr, .ref j1, .ref j2, .ref qsa], eO jb 0 [.ref aq0, .ref aq1, .ref aq2, .ref aq3, .ref aq4, .ref aq5, .ref aq6, .int aacc, .long afees, .int amis, .int abel, .int aref, .int acau], eI aq0 ak0 8 ag0, eI aq1 ak1 8 ag1, eI aq2 ak2 8 ag2, eI aq3 ak3 8 ag3, eI aq4 ak4 8 ag4, eI aq5 ak5 8 ag5, eI aq6 ak6 8 ag6]) A) (([.ref h0, .int p0, .int p1] : List Value).toArray) s 0 0 A) → W p l e ({ frames := 1, cells := 0, slots := 0, locals := 21 }) s m (([.ref h0, .int p0, .int p1] : List Value).toArray) below meth c s.heap [] 0 0 Q9 (F0 m 0 ls []) from key9 _ rfl
  intro Q9 hQ9
  have k_m13 : ((-13) : Int32).toInt = (-13) := by decide
  have k_m2 : ((-2) : Int32).toInt = (-2) := by decide
  refine lv_aload_n hx hb dX9_taken_0 rfl (lv_at hl 0 rfl) ?_
  refine va_get (D := (dC, dI)) (ci := 8) (v := .ref jb) (C := RX9) (T := TX9) (N := 13) hx hb hts (fun w h => List.mem_cons_of_mem _ (inlX9 w h)) hown hK hP 0 rfl rfl 0 (by decide) (hts (.fieldLink RX9 12 "ClearingGates" "books" "LClearingGates$Books;") (List.mem_cons_of_mem _ mw_208)) (fun _ h9 => h9) rfl dX9_taken_1 ?_
  refine lv_iload_n hx hb dX9_taken_4 rfl (lv_at hl 1 rfl) ?_
  obtain ⟨hPc, hDc, hFc, hCm, hNw⟩ := C_s (wc := [eO jb 0 [.ref aq0, .ref aq1, .ref aq2, .ref aq3, .ref aq4, .ref aq5, .ref aq6, .int aacc, .long afees, .int amis, .int abel, .int aref, .int acau]]) hP hD hS hA [(1, 1)] 9 rfl (by decide +kernel) rfl
  have hKc := K_s (tys' := []) hK [] rfl
  refine va_calli (va_runV (As := [.int p0]) (rest := []) ⟨hx, hb, hml, hown, hts⟩ (c_X0_has l dC dI jb p0 (.ref aq0) (.ref aq1) (.ref aq2) (.ref aq3) (.ref aq4) (.ref aq5) (.ref aq6) aacc (.long afees) (.int amis) (.int abel) (.int aref) (.int acau) s.heap.size) (cwV 1 hts gX9_taken_X0_has rfl rfl rfl (by decide +kernel) ⟨Nat.le_of_ble_eq_true rfl, Nat.le_of_ble_eq_true rfl⟩) ⟨fun a U g mk q => by obtain ⟨q0, q1, qP, qK, qD⟩ := q; exact ⟨q0, q1, qP, va_K.moved (u := U) (U := U.calling g mk a) (Vm.Alike.refl U.vm) qK, qD⟩, va_recv (s := s) (q := (RX0, TX0, 13)) hKc hPc (ci := 0) (q0 := 0) rfl rfl, fun U hU hW => ⟨rfl, by rw [hU], by rw [hU]; exact hPc, va_K.moved hW.alike hKc, hDc.weaken (fun _ _ _ _ => trivial)⟩⟩ rfl rfl hl.1 rfl (lv_room (Nat.le_of_ble_eq_true rfl)) dX9_taken_5 ⟨Nat.le_of_ble_eq_true rfl, Nat.le_of_ble_eq_true rfl⟩) hS (fun q _ h => hFc q h) hFc (fun r1 u t H1 locs ht hvm hw hB hz1 hk1 hS => ?_)
  obtain ⟨hP1, hK1, hD1⟩ := hB
  rw [ht] at hP1
  have hK1 := va_K.moved hvm.symm hK1
  try dsimp only at hw
  obtain ⟨hP, hD⟩ := J_s (wL := [eO h0 8 [.ref jb, .ref ji, .ref jd, .ref je, .ref jg, .ref qpa, .int pcn, .int ipn, .ref jt, .ref jr, .ref j1, .ref j2, .ref qsa], eI aq0 ak0 8 ag0, eI aq1 ak1 8 ag1, eI aq2 ak2 8 ag2, eI aq3 ak3 8 ag3, eI aq4 ak4 8 ag4, eI aq5 ak5 8 ag5, eI aq6 ak6 8 ag6, eO jb 0 [.ref aq0, .ref aq1, .ref aq2, .ref aq3, .ref aq4, .ref aq5, .ref aq6, .int aacc, .long afees, .int amis, .int abel, .int aref, .int acau]]) hP hD [(1, 1)] [(0, 1), (2, 7)] hCm hNw (by decide +kernel) hk1 hFc hP1 hD1 rfl
  have hK := KJ_s (tys' := [(ak0, .int), (ak1, .int), (ak2, .int), (ak3, .boolean), (ak4, .int), (ak5, .int), (ak6, .int)]) hK hK1 [(0, 7)] rfl
  generalize H1 = H at hP hS ⊢
  rcases hw with ⟨e_r1, f_r1⟩ | ⟨e_r1, f_r1⟩
  · subst e_r1
    refine lv_if_eq (tgt := 18) hx hb dX9_taken_8 (by decide) (fun c2 => absurd c2 (by decide)) (fun c2 => ?_)
    refine lv_iload_n hx hb dX9_taken_11 rfl (lv_at hl 2 rfl) ?_
    obtain ⟨hPc, hDc, hFc, hCm, hNw⟩ := C_s (wc := []) hP hD hS hA [] 9 rfl (by decide +kernel) rfl
    have hKc := K_s (tys' := []) hK [] rfl
    refine va_calli (va_runS (As := [.int p1]) (rest := []) ⟨hx, hb, hml, hown, hts⟩ (c_X2_isKind l dC dI p1 H.size) (va_cwS 1 hts gX9_taken_X2_isKind rfl rfl rfl (by decide +kernel) ⟨Nat.le_of_ble_eq_true rfl, Nat.le_of_ble_eq_true rfl⟩) ⟨fun a U g mk q => by obtain ⟨q0, q1, qP, qK, qD⟩ := q; exact ⟨q0, q1, qP, va_K.moved (u := U) (U := U.calling g mk a) (Vm.Alike.refl U.vm) qK, qD⟩, fun U hU hW => ⟨rfl, by rw [hU], by rw [hU]; exact hPc, va_K.moved hW.alike hKc, hDc.weaken (fun _ _ _ _ => trivial)⟩⟩ rfl rfl hl.1 rfl (lv_room (Nat.le_of_ble_eq_true rfl)) dX9_taken_12 ⟨Nat.le_of_ble_eq_true rfl, Nat.le_of_ble_eq_true rfl⟩) hS (fun q _ h => hFc q h) hFc (fun r3 u t H1 locs ht hvm hw hB hz1 hk1 hS => ?_)
    obtain ⟨hP1, hK1, hD1⟩ := hB
    rw [ht] at hP1
    have hK1 := va_K.moved hvm.symm hK1
    try dsimp only at hw
    obtain ⟨hP, hD⟩ := J_s (wL := [eO h0 8 [.ref jb, .ref ji, .ref jd, .ref je, .ref jg, .ref qpa, .int pcn, .int ipn, .ref jt, .ref jr, .ref j1, .ref j2, .ref qsa], eI aq0 ak0 8 ag0, eI aq1 ak1 8 ag1, eI aq2 ak2 8 ag2, eI aq3 ak3 8 ag3, eI aq4 ak4 8 ag4, eI aq5 ak5 8 ag5, eI aq6 ak6 8 ag6, eO jb 0 [.ref aq0, .ref aq1, .ref aq2, .ref aq3, .ref aq4, .ref aq5, .ref aq6, .int aacc, .long afees, .int amis, .int abel, .int aref, .int acau]]) hP hD [] [(0, 9)] hCm hNw (by decide +kernel) hk1 hFc hP1 hD1 rfl
    have hK := KJ_s (tys' := [(ak0, .int), (ak1, .int), (ak2, .int), (ak3, .boolean), (ak4, .int), (ak5, .int), (ak6, .int)]) hK hK1 [(0, 7)] rfl
    generalize H1 = H at hP hS ⊢
    rcases hw with ⟨e_r3, f_r3⟩ | ⟨e_r3, f_r3⟩
    · subst e_r3
      refine lv_if_ne (tgt := 21) hx hb dX9_taken_15 (by decide) (fun c4 => ?_) (fun c4 => absurd c4 (by decide))
      refine lv_aload_n hx hb dX9_taken_21 rfl (lv_at hl 0 rfl) ?_
      refine va_get (D := (dC, dI)) (ci := 8) (v := .ref jb) (C := RX9) (T := TX9) (N := 13) hx hb hts (fun w h => List.mem_cons_of_mem _ (inlX9 w h)) hown hK hP 0 rfl rfl 0 (by decide) (hts (.fieldLink RX9 12 "ClearingGates" "books" "LClearingGates$Books;") (List.mem_cons_of_mem _ mw_208)) (fun _ h9 => h9) rfl dX9_taken_22 ?_
      refine va_get (D := (dC, dI)) (ci := 0) (v := .ref aq0) (C := RX0) (T := TX0) (N := 13) hx hb hts (fun w h => List.mem_cons_of_mem _ (inlX0 w h)) hown hK hP 8 rfl rfl 0 (by decide) (hts (.fieldLink RX9 118 "ClearingGates$Books" "kinds" "[I") (List.mem_cons_of_mem _ mw_95)) (fun _ h9 => h9) rfl dX9_taken_25 ?_
      refine lv_iload_n hx hb dX9_taken_28 rfl (lv_at hl 1 rfl) ?_
      refine va_iald (D := (dC, dI)) hx hb hK hP 1 0 rfl rfl (vp_in_iff.mpr ⟨by omega, by omega⟩) dX9_taken_29 ?_
      refine lv_topi (fun z5 e_z5 => ?_)
      have u_z5 : z5.toInt = (sp (p0.toInt.toNat)).toInt := by rw [e_z5]; exact bs_k hbs (by omega) (by omega)
      refine lv_iload_n hx hb dX9_taken_30 rfl (lv_at hl 2 rfl) ?_
      obtain ⟨hPc, hDc, hFc, hCm, hNw⟩ := C_s (wc := []) hP hD hS hA [] 9 rfl (by decide +kernel) rfl
      have hKc := K_s (tys' := []) hK [] rfl
      refine va_calli (va_runS (As := [.int z5, .int p1]) (rest := []) ⟨hx, hb, hml, hown, hts⟩ (c_X2_isOrIsUnder l dC dI z5 p1 H.size) (va_cwS 2 hts gX9_taken_X2_isOrIsUnder rfl rfl rfl (by decide +kernel) ⟨Nat.le_of_ble_eq_true rfl, Nat.le_of_ble_eq_true rfl⟩) ⟨fun a U g mk q => by obtain ⟨q0, q1, qP, qK, qD⟩ := q; exact ⟨q0, q1, qP, va_K.moved (u := U) (U := U.calling g mk a) (Vm.Alike.refl U.vm) qK, qD⟩, fun U hU hW => ⟨rfl, by rw [hU], by rw [hU]; exact hPc, va_K.moved hW.alike hKc, hDc.weaken (fun _ _ _ _ => trivial)⟩⟩ rfl rfl hl.1 rfl (lv_room (Nat.le_of_ble_eq_true rfl)) dX9_taken_31 ⟨Nat.le_of_ble_eq_true rfl, Nat.le_of_ble_eq_true rfl⟩) hS (fun q _ h => hFc q h) hFc (fun r6 u t H1 locs ht hvm hw hB hz1 hk1 hS => ?_)
      obtain ⟨hP1, hK1, hD1⟩ := hB
      rw [ht] at hP1
      have hK1 := va_K.moved hvm.symm hK1
      try dsimp only at hw
      obtain ⟨hP, hD⟩ := J_s (wL := [eO h0 8 [.ref jb, .ref ji, .ref jd, .ref je, .ref jg, .ref qpa, .int pcn, .int ipn, .ref jt, .ref jr, .ref j1, .ref j2, .ref qsa], eI aq0 ak0 8 ag0, eI aq1 ak1 8 ag1, eI aq2 ak2 8 ag2, eI aq3 ak3 8 ag3, eI aq4 ak4 8 ag4, eI aq5 ak5 8 ag5, eI aq6 ak6 8 ag6, eO jb 0 [.ref aq0, .ref aq1, .ref aq2, .ref aq3, .ref aq4, .ref aq5, .ref aq6, .int aacc, .long afees, .int amis, .int abel, .int aref, .int acau]]) hP hD [] [(0, 9)] hCm hNw (by decide +kernel) hk1 hFc hP1 hD1 rfl
      have hK := KJ_s (tys' := [(ak0, .int), (ak1, .int), (ak2, .int), (ak3, .boolean), (ak4, .int), (ak5, .int), (ak6, .int)]) hK hK1 [(0, 7)] rfl
      generalize H1 = H at hP hS ⊢
      rcases hw with ⟨e_r6, f_r6⟩ | ⟨e_r6, f_r6⟩
      · subst e_r6
        refine lv_if_eq (tgt := 49) hx hb dX9_taken_34 (by decide) (fun c7 => absurd c7 (by decide)) (fun c7 => ?_)
        refine lv_aload_n hx hb dX9_taken_37 rfl (lv_at hl 0 rfl) ?_
        refine va_get (D := (dC, dI)) (ci := 8) (v := .ref jb) (C := RX9) (T := TX9) (N := 13) hx hb hts (fun w h => List.mem_cons_of_mem _ (inlX9 w h)) hown hK hP 0 rfl rfl 0 (by decide) (hts (.fieldLink RX9 12 "ClearingGates" "books" "LClearingGates$Books;") (List.mem_cons_of_mem _ mw_208)) (fun _ h9 => h9) rfl dX9_taken_38 ?_
        refine va_get (D := (dC, dI)) (ci := 0) (v := .ref aq2) (C := RX0) (T := TX0) (N := 13) hx hb hts (fun w h => List.mem_cons_of_mem _ (inlX0 w h)) hown hK hP 8 rfl rfl 2 (by decide) (hts (.fieldLink RX9 111 "ClearingGates$Books" "limits" "[I") (List.mem_cons_of_mem _ mw_100)) (fun _ h9 => h9) rfl dX9_taken_41 ?_
        refine lv_iload_n hx hb dX9_taken_44 rfl (lv_at hl 1 rfl) ?_
        refine va_iald (D := (dC, dI)) hx hb hK hP 3 2 rfl rfl (vp_in_iff.mpr ⟨by omega, by omega⟩) dX9_taken_45 ?_
        refine lv_topi (fun z8 e_z8 => ?_)
        have u_z8 : z8.toInt = (sp (16 + p0.toInt.toNat)).toInt := by rw [e_z8]; exact bs_l hbs (by omega) (by omega)
        refine lv_goto (tgt := 51) hx hb dX9_taken_46 (by decide) ?_
        rw [hQ9]
        exact W.iret (v := z8) hx hb hr (fun t ht hW => ⟨⟨z8, (), rfl, (by omega), by rw [ht]; exact P_s hP [(0, 1), (8, 1), (1, 7)] rfl, va_K.moved hW.alike hK, D_s hD [(0, 1), (8, 1), (1, 7)] 9 rfl (by decide +kernel) rfl⟩, hS.F ht⟩) hS.2.2 dX9_taken_51
      · subst e_r6
        refine lv_if_eq (tgt := 49) hx hb dX9_taken_34 (by decide) (fun c9 => ?_) (fun c9 => absurd (by decide) c9)
        refine lv_bipush (v := -13) hx hb dX9_taken_49 (by decide) ?_
        rw [hQ9]
        exact W.iret (v := (-13)) hx hb hr (fun t ht hW => ⟨⟨(-13), (), rfl, (by omega), by rw [ht]; exact P_s hP [(0, 1), (8, 1), (1, 7)] rfl, va_K.moved hW.alike hK, D_s hD [(0, 1), (8, 1), (1, 7)] 9 rfl (by decide +kernel) rfl⟩, hS.F ht⟩) hS.2.2 dX9_taken_51
    · subst e_r3
      refine lv_if_ne (tgt := 21) hx hb dX9_taken_15 (by decide) (fun c10 => absurd (by decide) c10) (fun c10 => ?_)
      refine lv_bipush (v := -2) hx hb dX9_taken_18 (by decide) ?_
      rw [hQ9]
      exact W.iret (v := (-2)) hx hb hr (fun t ht hW => ⟨⟨(-2), (), rfl, (by omega), by rw [ht]; exact P_s hP [(0, 1), (8, 1), (1, 7)] rfl, va_K.moved hW.alike hK, D_s hD [(0, 1), (8, 1), (1, 7)] 9 rfl (by decide +kernel) rfl⟩, hS.F ht⟩) hS.2.2 dX9_taken_20
  · subst e_r1
    refine lv_if_eq (tgt := 18) hx hb dX9_taken_8 (by decide) (fun c11 => ?_) (fun c11 => absurd (by decide) c11)
    refine lv_bipush (v := -2) hx hb dX9_taken_18 (by decide) ?_
    rw [hQ9]
    exact W.iret (v := (-2)) hx hb hr (fun t ht hW => ⟨⟨(-2), (), rfl, (by omega), by rw [ht]; exact P_s hP [(0, 1), (8, 1), (1, 7)] rfl, va_K.moved hW.alike hK, D_s hD [(0, 1), (8, 1), (1, 7)] 9 rfl (by decide +kernel) rfl⟩, hS.F ht⟩) hS.2.2 dX9_taken_20

set_option maxRecDepth 100000 in
set_option maxHeartbeats 4000000 in
/-- feed -/
theorem c_X9_feed (l : Launch) (dC : Nat → ClassId) (dI : Nat → Nat → Nat) (h0 : Nat) (p0 : Int32) (p1 : Int32) (p2 : Int32) (p3 : Int32) (p4 : Int32) (p5 : Int32) (jb : Nat) (ji : Nat) (jd : Nat) (je : Nat) (jg : Nat) (qpa : Nat) (pcn : Int32) (ipn : Int32) (jt : Nat) (jr : Nat) (j1 : Nat) (j2 : Nat) (qsa : Nat) (tb : Nat) (tn : Int32) (ktb : ClassId) (ftb : Nat → Int32) (sz : Nat) (vt1 : 0 ≤ tn.toInt) (vt2 : tn.toInt ≤ 80) : Met l yX9_feed wsX9_feed ({ frames := 2, cells := 0, slots := 0, locals := 41 }) (va_Pc [.ref h0, .int p0, .int p1, .int p2, .int p3, .int p4, .int p5] (fun U => U.heap.size = sz ∧ va_P (dC, dI) vwCl [eO h0 8 [.ref jb, .ref ji, .ref jd, .ref je, .ref jg, .ref qpa, .int pcn, .int ipn, .ref jt, .ref jr, .ref j1, .ref j2, .ref qsa], eO jt 7 [.ref tb, .int tn], eI tb ktb 80 ftb] U.heap ∧ va_K (dC, dI) vwCl [(ktb, .int)] U ∧ va_D (fun _ => True) [eO h0 8 [.ref jb, .ref ji, .ref jd, .ref je, .ref jg, .ref qpa, .int pcn, .int ipn, .ref jt, .ref jr, .ref j1, .ref j2, .ref qsa], eO jt 7 [.ref tb, .int tn], eI tb ktb 80 ftb])) (va_Qi (fun (r : Int32) (_ : Unit) => True) (fun (_ : Unit) (t : State) => ∃ (ftb' : Nat → Int32), ∃ (tn' : Int32), (0 ≤ tn'.toInt) ∧ (tn'.toInt ≤ 80) ∧ va_P (dC, dI) vwCl [eO h0 8 [.ref jb, .ref ji, .ref jd, .ref je, .ref jg, .ref qpa, .int pcn, .int ipn, .ref jt, .ref jr, .ref j1, .ref j2, .ref qsa], eO jt 7 [.ref tb, .int tn'], eI tb ktb 80 (ftb')] t.heap ∧ va_K (dC, dI) vwCl [(ktb, .int)] t ∧ va_D (va_A [eO h0 8 [.ref jb, .ref ji, .ref jd, .ref je, .ref jg, .ref qpa, .int pcn, .int ipn, .ref jt, .ref jr, .ref j1, .ref j2, .ref qsa], eO jt 7 [.ref tb, .int tn], eI tb ktb 80 ftb] sz) [eO h0 8 [.ref jb, .ref ji, .ref jd, .ref je, .ref jg, .ref qpa, .int pcn, .int ipn, .ref jt, .ref jr, .ref j1, .ref j2, .ref qsa], eO jt 7 [.ref tb, .int tn'], eI tb ktb 80 (ftb')]) (va_A [eO h0 8 [.ref jb, .ref ji, .ref jd, .ref je, .ref jg, .ref qpa, .int pcn, .int ipn, .ref jt, .ref jr, .ref j1, .ref j2, .ref qsa], eO jt 7 [.ref tb, .int tn], eI tb ktb 80 ftb] sz)) 0 0 (va_A [eO h0 8 [.ref jb, .ref ji, .ref jd, .ref je, .ref jg, .ref qpa, .int pcn, .int ipn, .ref jt, .ref jr, .ref j1, .ref j2, .ref qsa], eO jt 7 [.ref tb, .int tn], eI tb ktb 80 ftb] sz) := by
  refine Met.ofW (cc := cX9_feed) (maxL := 7) (ret := (some .int)) (by decide) rfl ?_
  intro p e s m args below meth c s₁ B hml hv
  obtain ⟨rfl, hsz, hP, hK, hD0⟩ := hv
  have hx := B.exec
  have hb := B.bytes
  have hr := B.returns
  have hts := atoms_spec (ws := wsX9_feed) B.pre
  have hown : s.vm.findClass RX9 = some m.cls := findClass_of_methodNamed B.named
  have hlocks := B.notSynchronized
  subst hsz
  have hD := hD0.self (sz := s.heap.size)
  generalize hAe : va_A [eO h0 8 [.ref jb, .ref ji, .ref jd, .ref je, .ref jg, .ref qpa, .int pcn, .int ipn, .ref jt, .ref jr, .ref j1, .ref j2, .ref qsa], eO jt 7 [.ref tb, .int tn], eI tb ktb 80 ftb] s.heap.size = A at hD ⊢
  have hA : ∀ q : Nat, s.heap.size ≤ q → A q := fun q h => by rw [← hAe]; exact Or.inr h
  have hS : va_S A s.heap s.heap [] := va_S.rf
  have hP : va_P (dC, dI) vwCl [eO h0 8 [.ref jb, .ref ji, .ref jd, .ref je, .ref jg, .ref qpa, .int pcn, .int ipn, .ref jt, .ref jr, .ref j1, .ref j2, .ref qsa], eO jt 7 [.ref tb, .int tn], eI tb ktb 80 ftb] s.heap := hP
  have hl := lv_entry ([.ref h0, .int p0, .int p1, .int p2, .int p3, .int p4, .int p5]) (n := 7) (Nat.le_of_ble_eq_true rfl)
  rw [lg_entry_eq]
  generalize (lg_sl ([.ref h0, .int p0, .int p1, .int p2, .int p3, .int p4, .int p5]) ++ List.replicate (7 - (lg_sl ([.ref h0, .int p0, .int p1, .int p2, .int p3, .int p4, .int p5])).length) Slot.unset).toArray = ls at hl ⊢
  have hl : lv_has ls 7 [(0, .ref h0), (1, .int p0), (2, .int p1), (3, .int p2), (4, .int p3), (5, .int p4), (6, .int p5)] := hl
  suffices key9 : ∀ Q9 : State → Prop, Q9 = (MQ below (va_Qi (fun (r : Int32) (_ : Unit) => True) (fun (_ : Unit) (t : State) => ∃ (ftb' : Nat → Int32), ∃ (tn' : Int32), (0 ≤ tn'.toInt) ∧ (tn'.toInt ≤ 80) ∧ va_P (dC, dI) vwCl [eO h0 8 [.ref jb, .ref ji, .ref jd, .ref je, .ref jg, .ref qpa, .int pcn, .int ipn, .ref jt, .ref jr, .ref j1, .ref j2, .ref qsa], eO jt 7 [.ref tb, .int tn'], eI tb ktb 80 (ftb')] t.heap ∧ va_K (dC, dI) vwCl [(ktb, .int)] t ∧ va_D A [eO h0 8 [.ref jb, .ref ji, .ref jd, .ref je, .ref jg, .ref qpa, .int pcn, .int ipn, .ref jt, .ref jr, .ref j1, .ref j2, .ref qsa], eO jt 7 [.ref tb, .int tn'], eI tb ktb 80 (ftb')]) A) (([.ref h0, .int p0, .int p1, .int p2, .int p3, .int p4, .int p5] : List Value).toArray) s 0 0 A) → W p l e ({ frames := 2, cells := 0, slots := 0, locals := 41 }) s m (([.ref h0, .int p0, .int p1, .int p2, .int p3, .int p4, .int p5] : List Value).toArray) below meth c s.heap [] 0 0 Q9 (F0 m 0 ls []) from key9 _ rfl
  intro Q9 hQ9
  have k_m4 : ((-4) : Int32).toInt = (-4) := by decide
  have k_m2 : ((-2) : Int32).toInt = (-2) := by decide
  have k_1 : (1 : Int32).toInt = 1 := by decide
  have k_2 : (2 : Int32).toInt = 2 := by decide
  have k_3 : (3 : Int32).toInt = 3 := by decide
  have k_4 : (4 : Int32).toInt = 4 := by decide
  have k_5 : (5 : Int32).toInt = 5 := by decide
  have k_80 : (80 : Int32).toInt = 80 := by decide
  refine lv_iload_n hx hb dX9_feed_0 rfl (lv_at hl 1 rfl) ?_
  refine lv_iconst (v := 1) hx hb dX9_feed_1 (by decide) ?_
  refine lv_icmp_lt (tgt := 10) hx hb dX9_feed_2 (by decide) (fun c1 => ?_) (fun c1 => ?_)
  · skip
    have f_c1 := i_lt c1
    refine lv_bipush (v := -2) hx hb dX9_feed_10 (by decide) ?_
    rw [hQ9]
    exact W.iret (v := (-2)) hx hb hr (fun t ht hW => ⟨⟨(-2), (), rfl, (by first | rfl | trivial), ftb, tn, (by first | assumption | omega), (by first | assumption | omega), by rw [ht]; exact hP, va_K.moved hW.alike hK, hD⟩, hS.F ht⟩) hS.2.2 dX9_feed_12
  · skip
    have f_c1 := i_nlt c1
    refine lv_iload_n hx hb dX9_feed_5 rfl (lv_at hl 1 rfl) ?_
    refine lv_iconst (v := 5) hx hb dX9_feed_6 (by decide) ?_
    refine lv_icmp_le (tgt := 13) hx hb dX9_feed_7 (by decide) (fun c2 => ?_) (fun c2 => ?_)
    · skip
      have f_c2 := i_le c2
      refine lv_iload_n hx hb dX9_feed_13 rfl (lv_at hl 2 rfl) ?_
      obtain ⟨hPc, hDc, hFc, hCm, hNw⟩ := C_s (wc := []) hP hD hS hA [] 3 rfl (by decide +kernel) rfl
      have hKc := K_s (tys' := []) hK [] rfl
      refine va_calli (va_runS (As := [.int p1]) (rest := []) ⟨hx, hb, hml, hown, hts⟩ (c_X9_isByte l dC dI p1 s.heap.size) (va_cwS 1 hts gX9_feed_X9_isByte rfl rfl rfl (by decide +kernel) ⟨Nat.le_of_ble_eq_true rfl, Nat.le_of_ble_eq_true rfl⟩) ⟨fun a U g mk q => by obtain ⟨q0, q1, qP, qK, qD⟩ := q; exact ⟨q0, q1, qP, va_K.moved (u := U) (U := U.calling g mk a) (Vm.Alike.refl U.vm) qK, qD⟩, fun U hU hW => ⟨rfl, by rw [hU], by rw [hU]; exact hPc, va_K.moved hW.alike hKc, hDc.weaken (fun _ _ _ _ => trivial)⟩⟩ rfl rfl hl.1 rfl (lv_room (Nat.le_of_ble_eq_true rfl)) dX9_feed_14 ⟨Nat.le_of_ble_eq_true rfl, Nat.le_of_ble_eq_true rfl⟩) hS (fun q _ h => hFc q h) hFc (fun r3 u t H1 locs ht hvm hw hB hz1 hk1 hS => ?_)
      obtain ⟨hP1, hK1, hD1⟩ := hB
      rw [ht] at hP1
      have hK1 := va_K.moved hvm.symm hK1
      try dsimp only at hw
      obtain ⟨hP, hD⟩ := J_s (wL := [eO h0 8 [.ref jb, .ref ji, .ref jd, .ref je, .ref jg, .ref qpa, .int pcn, .int ipn, .ref jt, .ref jr, .ref j1, .ref j2, .ref qsa], eO jt 7 [.ref tb, .int tn], eI tb ktb 80 ftb]) hP hD [] [(0, 3)] hCm hNw (by decide +kernel) hk1 hFc hP1 hD1 rfl
      have hK := KJ_s (tys' := [(ktb, .int)]) hK hK1 [(0, 1)] rfl
      generalize H1 = H at hP hS ⊢
      rcases hw with ⟨e_r3, f_r3⟩ | ⟨e_r3, f_r3⟩
      · subst e_r3
        refine lv_if_eq (tgt := 51) hx hb dX9_feed_17 (by decide) (fun c4 => absurd c4 (by decide)) (fun c4 => ?_)
        refine lv_iload_n hx hb dX9_feed_20 rfl (lv_at hl 3 rfl) ?_
        obtain ⟨hPc, hDc, hFc, hCm, hNw⟩ := C_s (wc := []) hP hD hS hA [] 3 rfl (by decide +kernel) rfl
        have hKc := K_s (tys' := []) hK [] rfl
        refine va_calli (va_runS (As := [.int p2]) (rest := []) ⟨hx, hb, hml, hown, hts⟩ (c_X9_isByte l dC dI p2 H.size) (va_cwS 1 hts gX9_feed_X9_isByte rfl rfl rfl (by decide +kernel) ⟨Nat.le_of_ble_eq_true rfl, Nat.le_of_ble_eq_true rfl⟩) ⟨fun a U g mk q => by obtain ⟨q0, q1, qP, qK, qD⟩ := q; exact ⟨q0, q1, qP, va_K.moved (u := U) (U := U.calling g mk a) (Vm.Alike.refl U.vm) qK, qD⟩, fun U hU hW => ⟨rfl, by rw [hU], by rw [hU]; exact hPc, va_K.moved hW.alike hKc, hDc.weaken (fun _ _ _ _ => trivial)⟩⟩ rfl rfl hl.1 rfl (lv_room (Nat.le_of_ble_eq_true rfl)) dX9_feed_21 ⟨Nat.le_of_ble_eq_true rfl, Nat.le_of_ble_eq_true rfl⟩) hS (fun q _ h => hFc q h) hFc (fun r5 u t H1 locs ht hvm hw hB hz1 hk1 hS => ?_)
        obtain ⟨hP1, hK1, hD1⟩ := hB
        rw [ht] at hP1
        have hK1 := va_K.moved hvm.symm hK1
        try dsimp only at hw
        obtain ⟨hP, hD⟩ := J_s (wL := [eO h0 8 [.ref jb, .ref ji, .ref jd, .ref je, .ref jg, .ref qpa, .int pcn, .int ipn, .ref jt, .ref jr, .ref j1, .ref j2, .ref qsa], eO jt 7 [.ref tb, .int tn], eI tb ktb 80 ftb]) hP hD [] [(0, 3)] hCm hNw (by decide +kernel) hk1 hFc hP1 hD1 rfl
        have hK := KJ_s (tys' := [(ktb, .int)]) hK hK1 [(0, 1)] rfl
        generalize H1 = H at hP hS ⊢
        rcases hw with ⟨e_r5, f_r5⟩ | ⟨e_r5, f_r5⟩
        · subst e_r5
          refine lv_if_eq (tgt := 51) hx hb dX9_feed_24 (by decide) (fun c6 => absurd c6 (by decide)) (fun c6 => ?_)
          refine lv_iload hx hb dX9_feed_27 (lv_at hl 4 rfl) ?_
          obtain ⟨hPc, hDc, hFc, hCm, hNw⟩ := C_s (wc := []) hP hD hS hA [] 3 rfl (by decide +kernel) rfl
          have hKc := K_s (tys' := []) hK [] rfl
          refine va_calli (va_runS (As := [.int p3]) (rest := []) ⟨hx, hb, hml, hown, hts⟩ (c_X9_isByte l dC dI p3 H.size) (va_cwS 1 hts gX9_feed_X9_isByte rfl rfl rfl (by decide +kernel) ⟨Nat.le_of_ble_eq_true rfl, Nat.le_of_ble_eq_true rfl⟩) ⟨fun a U g mk q => by obtain ⟨q0, q1, qP, qK, qD⟩ := q; exact ⟨q0, q1, qP, va_K.moved (u := U) (U := U.calling g mk a) (Vm.Alike.refl U.vm) qK, qD⟩, fun U hU hW => ⟨rfl, by rw [hU], by rw [hU]; exact hPc, va_K.moved hW.alike hKc, hDc.weaken (fun _ _ _ _ => trivial)⟩⟩ rfl rfl hl.1 rfl (lv_room (Nat.le_of_ble_eq_true rfl)) dX9_feed_29 ⟨Nat.le_of_ble_eq_true rfl, Nat.le_of_ble_eq_true rfl⟩) hS (fun q _ h => hFc q h) hFc (fun r7 u t H1 locs ht hvm hw hB hz1 hk1 hS => ?_)
          obtain ⟨hP1, hK1, hD1⟩ := hB
          rw [ht] at hP1
          have hK1 := va_K.moved hvm.symm hK1
          try dsimp only at hw
          obtain ⟨hP, hD⟩ := J_s (wL := [eO h0 8 [.ref jb, .ref ji, .ref jd, .ref je, .ref jg, .ref qpa, .int pcn, .int ipn, .ref jt, .ref jr, .ref j1, .ref j2, .ref qsa], eO jt 7 [.ref tb, .int tn], eI tb ktb 80 ftb]) hP hD [] [(0, 3)] hCm hNw (by decide +kernel) hk1 hFc hP1 hD1 rfl
          have hK := KJ_s (tys' := [(ktb, .int)]) hK hK1 [(0, 1)] rfl
          generalize H1 = H at hP hS ⊢
          rcases hw with ⟨e_r7, f_r7⟩ | ⟨e_r7, f_r7⟩
          · subst e_r7
            refine lv_if_eq (tgt := 51) hx hb dX9_feed_32 (by decide) (fun c8 => absurd c8 (by decide)) (fun c8 => ?_)
            refine lv_iload hx hb dX9_feed_35 (lv_at hl 5 rfl) ?_
            obtain ⟨hPc, hDc, hFc, hCm, hNw⟩ := C_s (wc := []) hP hD hS hA [] 3 rfl (by decide +kernel) rfl
            have hKc := K_s (tys' := []) hK [] rfl
            refine va_calli (va_runS (As := [.int p4]) (rest := []) ⟨hx, hb, hml, hown, hts⟩ (c_X9_isByte l dC dI p4 H.size) (va_cwS 1 hts gX9_feed_X9_isByte rfl rfl rfl (by decide +kernel) ⟨Nat.le_of_ble_eq_true rfl, Nat.le_of_ble_eq_true rfl⟩) ⟨fun a U g mk q => by obtain ⟨q0, q1, qP, qK, qD⟩ := q; exact ⟨q0, q1, qP, va_K.moved (u := U) (U := U.calling g mk a) (Vm.Alike.refl U.vm) qK, qD⟩, fun U hU hW => ⟨rfl, by rw [hU], by rw [hU]; exact hPc, va_K.moved hW.alike hKc, hDc.weaken (fun _ _ _ _ => trivial)⟩⟩ rfl rfl hl.1 rfl (lv_room (Nat.le_of_ble_eq_true rfl)) dX9_feed_37 ⟨Nat.le_of_ble_eq_true rfl, Nat.le_of_ble_eq_true rfl⟩) hS (fun q _ h => hFc q h) hFc (fun r9 u t H1 locs ht hvm hw hB hz1 hk1 hS => ?_)
            obtain ⟨hP1, hK1, hD1⟩ := hB
            rw [ht] at hP1
            have hK1 := va_K.moved hvm.symm hK1
            try dsimp only at hw
            obtain ⟨hP, hD⟩ := J_s (wL := [eO h0 8 [.ref jb, .ref ji, .ref jd, .ref je, .ref jg, .ref qpa, .int pcn, .int ipn, .ref jt, .ref jr, .ref j1, .ref j2, .ref qsa], eO jt 7 [.ref tb, .int tn], eI tb ktb 80 ftb]) hP hD [] [(0, 3)] hCm hNw (by decide +kernel) hk1 hFc hP1 hD1 rfl
            have hK := KJ_s (tys' := [(ktb, .int)]) hK hK1 [(0, 1)] rfl
            generalize H1 = H at hP hS ⊢
            rcases hw with ⟨e_r9, f_r9⟩ | ⟨e_r9, f_r9⟩
            · subst e_r9
              refine lv_if_eq (tgt := 51) hx hb dX9_feed_40 (by decide) (fun c10 => absurd c10 (by decide)) (fun c10 => ?_)
              refine lv_iload hx hb dX9_feed_43 (lv_at hl 6 rfl) ?_
              obtain ⟨hPc, hDc, hFc, hCm, hNw⟩ := C_s (wc := []) hP hD hS hA [] 3 rfl (by decide +kernel) rfl
              have hKc := K_s (tys' := []) hK [] rfl
              refine va_calli (va_runS (As := [.int p5]) (rest := []) ⟨hx, hb, hml, hown, hts⟩ (c_X9_isByte l dC dI p5 H.size) (va_cwS 1 hts gX9_feed_X9_isByte rfl rfl rfl (by decide +kernel) ⟨Nat.le_of_ble_eq_true rfl, Nat.le_of_ble_eq_true rfl⟩) ⟨fun a U g mk q => by obtain ⟨q0, q1, qP, qK, qD⟩ := q; exact ⟨q0, q1, qP, va_K.moved (u := U) (U := U.calling g mk a) (Vm.Alike.refl U.vm) qK, qD⟩, fun U hU hW => ⟨rfl, by rw [hU], by rw [hU]; exact hPc, va_K.moved hW.alike hKc, hDc.weaken (fun _ _ _ _ => trivial)⟩⟩ rfl rfl hl.1 rfl (lv_room (Nat.le_of_ble_eq_true rfl)) dX9_feed_45 ⟨Nat.le_of_ble_eq_true rfl, Nat.le_of_ble_eq_true rfl⟩) hS (fun q _ h => hFc q h) hFc (fun r11 u t H1 locs ht hvm hw hB hz1 hk1 hS => ?_)
              obtain ⟨hP1, hK1, hD1⟩ := hB
              rw [ht] at hP1
              have hK1 := va_K.moved hvm.symm hK1
              try dsimp only at hw
              obtain ⟨hP, hD⟩ := J_s (wL := [eO h0 8 [.ref jb, .ref ji, .ref jd, .ref je, .ref jg, .ref qpa, .int pcn, .int ipn, .ref jt, .ref jr, .ref j1, .ref j2, .ref qsa], eO jt 7 [.ref tb, .int tn], eI tb ktb 80 ftb]) hP hD [] [(0, 3)] hCm hNw (by decide +kernel) hk1 hFc hP1 hD1 rfl
              have hK := KJ_s (tys' := [(ktb, .int)]) hK hK1 [(0, 1)] rfl
              generalize H1 = H at hP hS ⊢
              rcases hw with ⟨e_r11, f_r11⟩ | ⟨e_r11, f_r11⟩
              · subst e_r11
                refine lv_if_ne (tgt := 54) hx hb dX9_feed_48 (by decide) (fun c12 => ?_) (fun c12 => absurd c12 (by decide))
                refine lv_aload_n hx hb dX9_feed_54 rfl (lv_at hl 0 rfl) ?_
                refine va_get (D := (dC, dI)) (ci := 8) (v := .ref jt) (C := RX9) (T := TX9) (N := 13) hx hb hts (fun w h => List.mem_cons_of_mem _ (inlX9 w h)) hown hK hP 0 rfl rfl 8 (by decide) (hts (.fieldLink RX9 54 "ClearingGates" "tape" "LClearingGates$Tape;") (List.mem_cons_of_mem _ mw_216)) (fun _ h9 => h9) rfl dX9_feed_55 ?_
                refine va_get (D := (dC, dI)) (ci := 7) (v := .int tn) (C := RX8) (T := TX8) (N := 2) hx hb hts (fun w h => List.mem_cons_of_mem _ (inlX8 w h)) hown hK hP 1 rfl rfl 1 (by decide) (hts (.fieldLink RX9 160 "ClearingGates$Tape" "size" "I") (List.mem_cons_of_mem _ mw_167)) (fun _ h9 => h9) rfl dX9_feed_58 ?_
                refine lv_iload_n hx hb dX9_feed_61 rfl (lv_at hl 1 rfl) ?_
                refine lv_iadd hx hb dX9_feed_62 ?_
                refine lv_topi (fun z13 e_z13 => ?_)
                (first | have t_z13 := i_add e_z13 (by omega) (by omega) | skip)
                refine lv_bipush (v := 80) hx hb dX9_feed_63 (by decide) ?_
                refine lv_icmp_le (tgt := 71) hx hb dX9_feed_65 (by decide) (fun c14 => ?_) (fun c14 => ?_)
                · skip
                  have f_c14 := i_le c14
                  refine lv_aload_n hx hb dX9_feed_71 rfl (lv_at hl 0 rfl) ?_
                  refine va_get (D := (dC, dI)) (ci := 8) (v := .ref jt) (C := RX9) (T := TX9) (N := 13) hx hb hts (fun w h => List.mem_cons_of_mem _ (inlX9 w h)) hown hK hP 0 rfl rfl 8 (by decide) (hts (.fieldLink RX9 54 "ClearingGates" "tape" "LClearingGates$Tape;") (List.mem_cons_of_mem _ mw_216)) (fun _ h9 => h9) rfl dX9_feed_72 ?_
                  refine lv_iload_n hx hb dX9_feed_75 rfl (lv_at hl 2 rfl) ?_
                  obtain ⟨hPc, hDc, hFc, hCm, hNw⟩ := C_s (wc := [eO jt 7 [.ref tb, .int tn], eI tb ktb 80 ftb]) hP hD hS hA [(1, 2)] 3 rfl (by decide +kernel) rfl
                  have hKc := K_s (tys' := [(ktb, .int)]) hK [(0, 1)] rfl
                  refine va_callv (va_runV (As := [.int p1]) (rest := []) ⟨hx, hb, hml, hown, hts⟩ (c_X8_add l dC dI jt p1 tb tn ktb ftb H.size vt1 vt2) (cwV 1 hts gX9_feed_X8_add rfl rfl rfl (by decide +kernel) ⟨Nat.le_of_ble_eq_true rfl, Nat.le_of_ble_eq_true rfl⟩) ⟨fun a U g mk q => by obtain ⟨q0, q1, qP, qK, qD⟩ := q; exact ⟨q0, q1, qP, va_K.moved (u := U) (U := U.calling g mk a) (Vm.Alike.refl U.vm) qK, qD⟩, va_recv (s := s) (q := (RX8, TX8, 2)) hKc hPc (ci := 7) (q0 := 0) rfl rfl, fun U hU hW => ⟨rfl, by rw [hU], by rw [hU]; exact hPc, va_K.moved hW.alike hKc, hDc.weaken (fun _ _ _ _ => trivial)⟩⟩ rfl rfl hl.1 rfl (lv_room (Nat.le_of_ble_eq_true rfl)) dX9_feed_76 ⟨Nat.le_of_ble_eq_true rfl, Nat.le_of_ble_eq_true rfl⟩) hS (fun q _ h => hFc q h) hFc (fun u t H1 locs ht hvm hw hB hz1 hk1 hS => ?_)
                  obtain ⟨q16, q17, xn_r15, hP1, hK1, hD1⟩ := hB
                  rw [ht] at hP1
                  have hK1 := va_K.moved hvm.symm hK1
                  try dsimp only at hw
                  obtain ⟨hP, hD⟩ := J_s (wL := [eO h0 8 [.ref jb, .ref ji, .ref jd, .ref je, .ref jg, .ref qpa, .int pcn, .int ipn, .ref jt, .ref jr, .ref j1, .ref j2, .ref qsa], eO jt 7 [.ref tb, .int q17], eI tb ktb 80 q16]) hP hD [(1, 2)] [(0, 1)] hCm hNw (by decide +kernel) hk1 hFc hP1 hD1 rfl
                  have hK := KJ_s (tys' := [(ktb, .int)]) hK hK1 [] rfl
                  generalize H1 = H at hP hS ⊢
                  refine lv_iload_n hx hb dX9_feed_79 rfl (lv_at hl 1 rfl) ?_
                  refine lv_iconst (v := 1) hx hb dX9_feed_80 (by decide) ?_
                  refine lv_icmp_le (tgt := 92) hx hb dX9_feed_81 (by decide) (fun c18 => ?_) (fun c18 => ?_)
                  · skip
                    have f_c18 := i_le c18
                    refine lv_iload_n hx hb dX9_feed_92 rfl (lv_at hl 1 rfl) ?_
                    refine lv_iconst (v := 2) hx hb dX9_feed_93 (by decide) ?_
                    refine lv_icmp_le (tgt := 106) hx hb dX9_feed_94 (by decide) (fun c19 => ?_) (fun c19 => ?_)
                    · skip
                      have f_c19 := i_le c19
                      refine lv_iload_n hx hb dX9_feed_106 rfl (lv_at hl 1 rfl) ?_
                      refine lv_iconst (v := 3) hx hb dX9_feed_107 (by decide) ?_
                      refine lv_icmp_le (tgt := 120) hx hb dX9_feed_108 (by decide) (fun c20 => ?_) (fun c20 => ?_)
                      · skip
                        have f_c20 := i_le c20
                        refine lv_iload_n hx hb dX9_feed_120 rfl (lv_at hl 1 rfl) ?_
                        refine lv_iconst (v := 4) hx hb dX9_feed_121 (by decide) ?_
                        refine lv_icmp_le (tgt := 134) hx hb dX9_feed_122 (by decide) (fun c21 => ?_) (fun c21 => ?_)
                        · skip
                          have f_c21 := i_le c21
                          refine lv_aload_n hx hb dX9_feed_134 rfl (lv_at hl 0 rfl) ?_
                          refine va_get (D := (dC, dI)) (ci := 8) (v := .ref jt) (C := RX9) (T := TX9) (N := 13) hx hb hts (fun w h => List.mem_cons_of_mem _ (inlX9 w h)) hown hK hP 0 rfl rfl 8 (by decide) (hts (.fieldLink RX9 54 "ClearingGates" "tape" "LClearingGates$Tape;") (List.mem_cons_of_mem _ mw_216)) (fun _ h9 => h9) rfl dX9_feed_135 ?_
                          refine va_get (D := (dC, dI)) (ci := 7) (v := .int q17) (C := RX8) (T := TX8) (N := 2) hx hb hts (fun w h => List.mem_cons_of_mem _ (inlX8 w h)) hown hK hP 1 rfl rfl 1 (by decide) (hts (.fieldLink RX9 160 "ClearingGates$Tape" "size" "I") (List.mem_cons_of_mem _ mw_167)) (fun _ h9 => h9) rfl dX9_feed_138 ?_
                          rw [hQ9]
                          exact W.iret (v := q17) hx hb hr (fun t ht hW => ⟨⟨q17, (), rfl, (by first | rfl | trivial), q16, q17, (by first | assumption | omega), (by first | assumption | omega), by rw [ht]; exact hP, va_K.moved hW.alike hK, hD⟩, hS.F ht⟩) hS.2.2 dX9_feed_141
                        · skip
                          have f_c21 := i_nle c21
                          refine lv_aload_n hx hb dX9_feed_125 rfl (lv_at hl 0 rfl) ?_
                          refine va_get (D := (dC, dI)) (ci := 8) (v := .ref jt) (C := RX9) (T := TX9) (N := 13) hx hb hts (fun w h => List.mem_cons_of_mem _ (inlX9 w h)) hown hK hP 0 rfl rfl 8 (by decide) (hts (.fieldLink RX9 54 "ClearingGates" "tape" "LClearingGates$Tape;") (List.mem_cons_of_mem _ mw_216)) (fun _ h9 => h9) rfl dX9_feed_126 ?_
                          refine lv_iload hx hb dX9_feed_129 (lv_at hl 6 rfl) ?_
                          obtain ⟨hPc, hDc, hFc, hCm, hNw⟩ := C_s (wc := [eO jt 7 [.ref tb, .int q17], eI tb ktb 80 q16]) hP hD hS hA [(1, 2)] 3 rfl (by decide +kernel) rfl
                          have hKc := K_s (tys' := [(ktb, .int)]) hK [(0, 1)] rfl
                          refine va_callv (va_runV (As := [.int p5]) (rest := []) ⟨hx, hb, hml, hown, hts⟩ (c_X8_add l dC dI jt p5 tb q17 ktb q16 H.size (by first | assumption | omega) (by first | assumption | omega)) (cwV 1 hts gX9_feed_X8_add rfl rfl rfl (by decide +kernel) ⟨Nat.le_of_ble_eq_true rfl, Nat.le_of_ble_eq_true rfl⟩) ⟨fun a U g mk q => by obtain ⟨q0, q1, qP, qK, qD⟩ := q; exact ⟨q0, q1, qP, va_K.moved (u := U) (U := U.calling g mk a) (Vm.Alike.refl U.vm) qK, qD⟩, va_recv (s := s) (q := (RX8, TX8, 2)) hKc hPc (ci := 7) (q0 := 0) rfl rfl, fun U hU hW => ⟨rfl, by rw [hU], by rw [hU]; exact hPc, va_K.moved hW.alike hKc, hDc.weaken (fun _ _ _ _ => trivial)⟩⟩ rfl rfl hl.1 rfl (lv_room (Nat.le_of_ble_eq_true rfl)) dX9_feed_131 ⟨Nat.le_of_ble_eq_true rfl, Nat.le_of_ble_eq_true rfl⟩) hS (fun q _ h => hFc q h) hFc (fun u t H1 locs ht hvm hw hB hz1 hk1 hS => ?_)
                          obtain ⟨q23, q24, xn_r22, hP1, hK1, hD1⟩ := hB
                          rw [ht] at hP1
                          have hK1 := va_K.moved hvm.symm hK1
                          try dsimp only at hw
                          obtain ⟨hP, hD⟩ := J_s (wL := [eO h0 8 [.ref jb, .ref ji, .ref jd, .ref je, .ref jg, .ref qpa, .int pcn, .int ipn, .ref jt, .ref jr, .ref j1, .ref j2, .ref qsa], eO jt 7 [.ref tb, .int q24], eI tb ktb 80 q23]) hP hD [(1, 2)] [(0, 1)] hCm hNw (by decide +kernel) hk1 hFc hP1 hD1 rfl
                          have hK := KJ_s (tys' := [(ktb, .int)]) hK hK1 [] rfl
                          generalize H1 = H at hP hS ⊢
                          refine lv_aload_n hx hb dX9_feed_134 rfl (lv_at hl 0 rfl) ?_
                          refine va_get (D := (dC, dI)) (ci := 8) (v := .ref jt) (C := RX9) (T := TX9) (N := 13) hx hb hts (fun w h => List.mem_cons_of_mem _ (inlX9 w h)) hown hK hP 0 rfl rfl 8 (by decide) (hts (.fieldLink RX9 54 "ClearingGates" "tape" "LClearingGates$Tape;") (List.mem_cons_of_mem _ mw_216)) (fun _ h9 => h9) rfl dX9_feed_135 ?_
                          refine va_get (D := (dC, dI)) (ci := 7) (v := .int q24) (C := RX8) (T := TX8) (N := 2) hx hb hts (fun w h => List.mem_cons_of_mem _ (inlX8 w h)) hown hK hP 1 rfl rfl 1 (by decide) (hts (.fieldLink RX9 160 "ClearingGates$Tape" "size" "I") (List.mem_cons_of_mem _ mw_167)) (fun _ h9 => h9) rfl dX9_feed_138 ?_
                          rw [hQ9]
                          exact W.iret (v := q24) hx hb hr (fun t ht hW => ⟨⟨q24, (), rfl, (by first | rfl | trivial), q23, q24, (by first | assumption | omega), (by first | assumption | omega), by rw [ht]; exact hP, va_K.moved hW.alike hK, hD⟩, hS.F ht⟩) hS.2.2 dX9_feed_141
                      · skip
                        have f_c20 := i_nle c20
                        refine lv_aload_n hx hb dX9_feed_111 rfl (lv_at hl 0 rfl) ?_
                        refine va_get (D := (dC, dI)) (ci := 8) (v := .ref jt) (C := RX9) (T := TX9) (N := 13) hx hb hts (fun w h => List.mem_cons_of_mem _ (inlX9 w h)) hown hK hP 0 rfl rfl 8 (by decide) (hts (.fieldLink RX9 54 "ClearingGates" "tape" "LClearingGates$Tape;") (List.mem_cons_of_mem _ mw_216)) (fun _ h9 => h9) rfl dX9_feed_112 ?_
                        refine lv_iload hx hb dX9_feed_115 (lv_at hl 5 rfl) ?_
                        obtain ⟨hPc, hDc, hFc, hCm, hNw⟩ := C_s (wc := [eO jt 7 [.ref tb, .int q17], eI tb ktb 80 q16]) hP hD hS hA [(1, 2)] 3 rfl (by decide +kernel) rfl
                        have hKc := K_s (tys' := [(ktb, .int)]) hK [(0, 1)] rfl
                        refine va_callv (va_runV (As := [.int p4]) (rest := []) ⟨hx, hb, hml, hown, hts⟩ (c_X8_add l dC dI jt p4 tb q17 ktb q16 H.size (by first | assumption | omega) (by first | assumption | omega)) (cwV 1 hts gX9_feed_X8_add rfl rfl rfl (by decide +kernel) ⟨Nat.le_of_ble_eq_true rfl, Nat.le_of_ble_eq_true rfl⟩) ⟨fun a U g mk q => by obtain ⟨q0, q1, qP, qK, qD⟩ := q; exact ⟨q0, q1, qP, va_K.moved (u := U) (U := U.calling g mk a) (Vm.Alike.refl U.vm) qK, qD⟩, va_recv (s := s) (q := (RX8, TX8, 2)) hKc hPc (ci := 7) (q0 := 0) rfl rfl, fun U hU hW => ⟨rfl, by rw [hU], by rw [hU]; exact hPc, va_K.moved hW.alike hKc, hDc.weaken (fun _ _ _ _ => trivial)⟩⟩ rfl rfl hl.1 rfl (lv_room (Nat.le_of_ble_eq_true rfl)) dX9_feed_117 ⟨Nat.le_of_ble_eq_true rfl, Nat.le_of_ble_eq_true rfl⟩) hS (fun q _ h => hFc q h) hFc (fun u t H1 locs ht hvm hw hB hz1 hk1 hS => ?_)
                        obtain ⟨q26, q27, xn_r25, hP1, hK1, hD1⟩ := hB
                        rw [ht] at hP1
                        have hK1 := va_K.moved hvm.symm hK1
                        try dsimp only at hw
                        obtain ⟨hP, hD⟩ := J_s (wL := [eO h0 8 [.ref jb, .ref ji, .ref jd, .ref je, .ref jg, .ref qpa, .int pcn, .int ipn, .ref jt, .ref jr, .ref j1, .ref j2, .ref qsa], eO jt 7 [.ref tb, .int q27], eI tb ktb 80 q26]) hP hD [(1, 2)] [(0, 1)] hCm hNw (by decide +kernel) hk1 hFc hP1 hD1 rfl
                        have hK := KJ_s (tys' := [(ktb, .int)]) hK hK1 [] rfl
                        generalize H1 = H at hP hS ⊢
                        refine lv_iload_n hx hb dX9_feed_120 rfl (lv_at hl 1 rfl) ?_
                        refine lv_iconst (v := 4) hx hb dX9_feed_121 (by decide) ?_
                        refine lv_icmp_le (tgt := 134) hx hb dX9_feed_122 (by decide) (fun c28 => ?_) (fun c28 => ?_)
                        · skip
                          have f_c28 := i_le c28
                          refine lv_aload_n hx hb dX9_feed_134 rfl (lv_at hl 0 rfl) ?_
                          refine va_get (D := (dC, dI)) (ci := 8) (v := .ref jt) (C := RX9) (T := TX9) (N := 13) hx hb hts (fun w h => List.mem_cons_of_mem _ (inlX9 w h)) hown hK hP 0 rfl rfl 8 (by decide) (hts (.fieldLink RX9 54 "ClearingGates" "tape" "LClearingGates$Tape;") (List.mem_cons_of_mem _ mw_216)) (fun _ h9 => h9) rfl dX9_feed_135 ?_
                          refine va_get (D := (dC, dI)) (ci := 7) (v := .int q27) (C := RX8) (T := TX8) (N := 2) hx hb hts (fun w h => List.mem_cons_of_mem _ (inlX8 w h)) hown hK hP 1 rfl rfl 1 (by decide) (hts (.fieldLink RX9 160 "ClearingGates$Tape" "size" "I") (List.mem_cons_of_mem _ mw_167)) (fun _ h9 => h9) rfl dX9_feed_138 ?_
                          rw [hQ9]
                          exact W.iret (v := q27) hx hb hr (fun t ht hW => ⟨⟨q27, (), rfl, (by first | rfl | trivial), q26, q27, (by first | assumption | omega), (by first | assumption | omega), by rw [ht]; exact hP, va_K.moved hW.alike hK, hD⟩, hS.F ht⟩) hS.2.2 dX9_feed_141
                        · skip
                          have f_c28 := i_nle c28
                          refine lv_aload_n hx hb dX9_feed_125 rfl (lv_at hl 0 rfl) ?_
                          refine va_get (D := (dC, dI)) (ci := 8) (v := .ref jt) (C := RX9) (T := TX9) (N := 13) hx hb hts (fun w h => List.mem_cons_of_mem _ (inlX9 w h)) hown hK hP 0 rfl rfl 8 (by decide) (hts (.fieldLink RX9 54 "ClearingGates" "tape" "LClearingGates$Tape;") (List.mem_cons_of_mem _ mw_216)) (fun _ h9 => h9) rfl dX9_feed_126 ?_
                          refine lv_iload hx hb dX9_feed_129 (lv_at hl 6 rfl) ?_
                          obtain ⟨hPc, hDc, hFc, hCm, hNw⟩ := C_s (wc := [eO jt 7 [.ref tb, .int q27], eI tb ktb 80 q26]) hP hD hS hA [(1, 2)] 3 rfl (by decide +kernel) rfl
                          have hKc := K_s (tys' := [(ktb, .int)]) hK [(0, 1)] rfl
                          refine va_callv (va_runV (As := [.int p5]) (rest := []) ⟨hx, hb, hml, hown, hts⟩ (c_X8_add l dC dI jt p5 tb q27 ktb q26 H.size (by first | assumption | omega) (by first | assumption | omega)) (cwV 1 hts gX9_feed_X8_add rfl rfl rfl (by decide +kernel) ⟨Nat.le_of_ble_eq_true rfl, Nat.le_of_ble_eq_true rfl⟩) ⟨fun a U g mk q => by obtain ⟨q0, q1, qP, qK, qD⟩ := q; exact ⟨q0, q1, qP, va_K.moved (u := U) (U := U.calling g mk a) (Vm.Alike.refl U.vm) qK, qD⟩, va_recv (s := s) (q := (RX8, TX8, 2)) hKc hPc (ci := 7) (q0 := 0) rfl rfl, fun U hU hW => ⟨rfl, by rw [hU], by rw [hU]; exact hPc, va_K.moved hW.alike hKc, hDc.weaken (fun _ _ _ _ => trivial)⟩⟩ rfl rfl hl.1 rfl (lv_room (Nat.le_of_ble_eq_true rfl)) dX9_feed_131 ⟨Nat.le_of_ble_eq_true rfl, Nat.le_of_ble_eq_true rfl⟩) hS (fun q _ h => hFc q h) hFc (fun u t H1 locs ht hvm hw hB hz1 hk1 hS => ?_)
                          obtain ⟨q30, q31, xn_r29, hP1, hK1, hD1⟩ := hB
                          rw [ht] at hP1
                          have hK1 := va_K.moved hvm.symm hK1
                          try dsimp only at hw
                          obtain ⟨hP, hD⟩ := J_s (wL := [eO h0 8 [.ref jb, .ref ji, .ref jd, .ref je, .ref jg, .ref qpa, .int pcn, .int ipn, .ref jt, .ref jr, .ref j1, .ref j2, .ref qsa], eO jt 7 [.ref tb, .int q31], eI tb ktb 80 q30]) hP hD [(1, 2)] [(0, 1)] hCm hNw (by decide +kernel) hk1 hFc hP1 hD1 rfl
                          have hK := KJ_s (tys' := [(ktb, .int)]) hK hK1 [] rfl
                          generalize H1 = H at hP hS ⊢
                          refine lv_aload_n hx hb dX9_feed_134 rfl (lv_at hl 0 rfl) ?_
                          refine va_get (D := (dC, dI)) (ci := 8) (v := .ref jt) (C := RX9) (T := TX9) (N := 13) hx hb hts (fun w h => List.mem_cons_of_mem _ (inlX9 w h)) hown hK hP 0 rfl rfl 8 (by decide) (hts (.fieldLink RX9 54 "ClearingGates" "tape" "LClearingGates$Tape;") (List.mem_cons_of_mem _ mw_216)) (fun _ h9 => h9) rfl dX9_feed_135 ?_
                          refine va_get (D := (dC, dI)) (ci := 7) (v := .int q31) (C := RX8) (T := TX8) (N := 2) hx hb hts (fun w h => List.mem_cons_of_mem _ (inlX8 w h)) hown hK hP 1 rfl rfl 1 (by decide) (hts (.fieldLink RX9 160 "ClearingGates$Tape" "size" "I") (List.mem_cons_of_mem _ mw_167)) (fun _ h9 => h9) rfl dX9_feed_138 ?_
                          rw [hQ9]
                          exact W.iret (v := q31) hx hb hr (fun t ht hW => ⟨⟨q31, (), rfl, (by first | rfl | trivial), q30, q31, (by first | assumption | omega), (by first | assumption | omega), by rw [ht]; exact hP, va_K.moved hW.alike hK, hD⟩, hS.F ht⟩) hS.2.2 dX9_feed_141
                    · skip
                      have f_c19 := i_nle c19
                      refine lv_aload_n hx hb dX9_feed_97 rfl (lv_at hl 0 rfl) ?_
                      refine va_get (D := (dC, dI)) (ci := 8) (v := .ref jt) (C := RX9) (T := TX9) (N := 13) hx hb hts (fun w h => List.mem_cons_of_mem _ (inlX9 w h)) hown hK hP 0 rfl rfl 8 (by decide) (hts (.fieldLink RX9 54 "ClearingGates" "tape" "LClearingGates$Tape;") (List.mem_cons_of_mem _ mw_216)) (fun _ h9 => h9) rfl dX9_feed_98 ?_
                      refine lv_iload hx hb dX9_feed_101 (lv_at hl 4 rfl) ?_
                      obtain ⟨hPc, hDc, hFc, hCm, hNw⟩ := C_s (wc := [eO jt 7 [.ref tb, .int q17], eI tb ktb 80 q16]) hP hD hS hA [(1, 2)] 3 rfl (by decide +kernel) rfl
                      have hKc := K_s (tys' := [(ktb, .int)]) hK [(0, 1)] rfl
                      refine va_callv (va_runV (As := [.int p3]) (rest := []) ⟨hx, hb, hml, hown, hts⟩ (c_X8_add l dC dI jt p3 tb q17 ktb q16 H.size (by first | assumption | omega) (by first | assumption | omega)) (cwV 1 hts gX9_feed_X8_add rfl rfl rfl (by decide +kernel) ⟨Nat.le_of_ble_eq_true rfl, Nat.le_of_ble_eq_true rfl⟩) ⟨fun a U g mk q => by obtain ⟨q0, q1, qP, qK, qD⟩ := q; exact ⟨q0, q1, qP, va_K.moved (u := U) (U := U.calling g mk a) (Vm.Alike.refl U.vm) qK, qD⟩, va_recv (s := s) (q := (RX8, TX8, 2)) hKc hPc (ci := 7) (q0 := 0) rfl rfl, fun U hU hW => ⟨rfl, by rw [hU], by rw [hU]; exact hPc, va_K.moved hW.alike hKc, hDc.weaken (fun _ _ _ _ => trivial)⟩⟩ rfl rfl hl.1 rfl (lv_room (Nat.le_of_ble_eq_true rfl)) dX9_feed_103 ⟨Nat.le_of_ble_eq_true rfl, Nat.le_of_ble_eq_true rfl⟩) hS (fun q _ h => hFc q h) hFc (fun u t H1 locs ht hvm hw hB hz1 hk1 hS => ?_)
                      obtain ⟨q33, q34, xn_r32, hP1, hK1, hD1⟩ := hB
                      rw [ht] at hP1
                      have hK1 := va_K.moved hvm.symm hK1
                      try dsimp only at hw
                      obtain ⟨hP, hD⟩ := J_s (wL := [eO h0 8 [.ref jb, .ref ji, .ref jd, .ref je, .ref jg, .ref qpa, .int pcn, .int ipn, .ref jt, .ref jr, .ref j1, .ref j2, .ref qsa], eO jt 7 [.ref tb, .int q34], eI tb ktb 80 q33]) hP hD [(1, 2)] [(0, 1)] hCm hNw (by decide +kernel) hk1 hFc hP1 hD1 rfl
                      have hK := KJ_s (tys' := [(ktb, .int)]) hK hK1 [] rfl
                      generalize H1 = H at hP hS ⊢
                      refine lv_iload_n hx hb dX9_feed_106 rfl (lv_at hl 1 rfl) ?_
                      refine lv_iconst (v := 3) hx hb dX9_feed_107 (by decide) ?_
                      refine lv_icmp_le (tgt := 120) hx hb dX9_feed_108 (by decide) (fun c35 => ?_) (fun c35 => ?_)
                      · skip
                        have f_c35 := i_le c35
                        refine lv_iload_n hx hb dX9_feed_120 rfl (lv_at hl 1 rfl) ?_
                        refine lv_iconst (v := 4) hx hb dX9_feed_121 (by decide) ?_
                        refine lv_icmp_le (tgt := 134) hx hb dX9_feed_122 (by decide) (fun c36 => ?_) (fun c36 => ?_)
                        · skip
                          have f_c36 := i_le c36
                          refine lv_aload_n hx hb dX9_feed_134 rfl (lv_at hl 0 rfl) ?_
                          refine va_get (D := (dC, dI)) (ci := 8) (v := .ref jt) (C := RX9) (T := TX9) (N := 13) hx hb hts (fun w h => List.mem_cons_of_mem _ (inlX9 w h)) hown hK hP 0 rfl rfl 8 (by decide) (hts (.fieldLink RX9 54 "ClearingGates" "tape" "LClearingGates$Tape;") (List.mem_cons_of_mem _ mw_216)) (fun _ h9 => h9) rfl dX9_feed_135 ?_
                          refine va_get (D := (dC, dI)) (ci := 7) (v := .int q34) (C := RX8) (T := TX8) (N := 2) hx hb hts (fun w h => List.mem_cons_of_mem _ (inlX8 w h)) hown hK hP 1 rfl rfl 1 (by decide) (hts (.fieldLink RX9 160 "ClearingGates$Tape" "size" "I") (List.mem_cons_of_mem _ mw_167)) (fun _ h9 => h9) rfl dX9_feed_138 ?_
                          rw [hQ9]
                          exact W.iret (v := q34) hx hb hr (fun t ht hW => ⟨⟨q34, (), rfl, (by first | rfl | trivial), q33, q34, (by first | assumption | omega), (by first | assumption | omega), by rw [ht]; exact hP, va_K.moved hW.alike hK, hD⟩, hS.F ht⟩) hS.2.2 dX9_feed_141
                        · skip
                          have f_c36 := i_nle c36
                          refine lv_aload_n hx hb dX9_feed_125 rfl (lv_at hl 0 rfl) ?_
                          refine va_get (D := (dC, dI)) (ci := 8) (v := .ref jt) (C := RX9) (T := TX9) (N := 13) hx hb hts (fun w h => List.mem_cons_of_mem _ (inlX9 w h)) hown hK hP 0 rfl rfl 8 (by decide) (hts (.fieldLink RX9 54 "ClearingGates" "tape" "LClearingGates$Tape;") (List.mem_cons_of_mem _ mw_216)) (fun _ h9 => h9) rfl dX9_feed_126 ?_
                          refine lv_iload hx hb dX9_feed_129 (lv_at hl 6 rfl) ?_
                          obtain ⟨hPc, hDc, hFc, hCm, hNw⟩ := C_s (wc := [eO jt 7 [.ref tb, .int q34], eI tb ktb 80 q33]) hP hD hS hA [(1, 2)] 3 rfl (by decide +kernel) rfl
                          have hKc := K_s (tys' := [(ktb, .int)]) hK [(0, 1)] rfl
                          refine va_callv (va_runV (As := [.int p5]) (rest := []) ⟨hx, hb, hml, hown, hts⟩ (c_X8_add l dC dI jt p5 tb q34 ktb q33 H.size (by first | assumption | omega) (by first | assumption | omega)) (cwV 1 hts gX9_feed_X8_add rfl rfl rfl (by decide +kernel) ⟨Nat.le_of_ble_eq_true rfl, Nat.le_of_ble_eq_true rfl⟩) ⟨fun a U g mk q => by obtain ⟨q0, q1, qP, qK, qD⟩ := q; exact ⟨q0, q1, qP, va_K.moved (u := U) (U := U.calling g mk a) (Vm.Alike.refl U.vm) qK, qD⟩, va_recv (s := s) (q := (RX8, TX8, 2)) hKc hPc (ci := 7) (q0 := 0) rfl rfl, fun U hU hW => ⟨rfl, by rw [hU], by rw [hU]; exact hPc, va_K.moved hW.alike hKc, hDc.weaken (fun _ _ _ _ => trivial)⟩⟩ rfl rfl hl.1 rfl (lv_room (Nat.le_of_ble_eq_true rfl)) dX9_feed_131 ⟨Nat.le_of_ble_eq_true rfl, Nat.le_of_ble_eq_true rfl⟩) hS (fun q _ h => hFc q h) hFc (fun u t H1 locs ht hvm hw hB hz1 hk1 hS => ?_)
                          obtain ⟨q38, q39, xn_r37, hP1, hK1, hD1⟩ := hB
                          rw [ht] at hP1
                          have hK1 := va_K.moved hvm.symm hK1
                          try dsimp only at hw
                          obtain ⟨hP, hD⟩ := J_s (wL := [eO h0 8 [.ref jb, .ref ji, .ref jd, .ref je, .ref jg, .ref qpa, .int pcn, .int ipn, .ref jt, .ref jr, .ref j1, .ref j2, .ref qsa], eO jt 7 [.ref tb, .int q39], eI tb ktb 80 q38]) hP hD [(1, 2)] [(0, 1)] hCm hNw (by decide +kernel) hk1 hFc hP1 hD1 rfl
                          have hK := KJ_s (tys' := [(ktb, .int)]) hK hK1 [] rfl
                          generalize H1 = H at hP hS ⊢
                          refine lv_aload_n hx hb dX9_feed_134 rfl (lv_at hl 0 rfl) ?_
                          refine va_get (D := (dC, dI)) (ci := 8) (v := .ref jt) (C := RX9) (T := TX9) (N := 13) hx hb hts (fun w h => List.mem_cons_of_mem _ (inlX9 w h)) hown hK hP 0 rfl rfl 8 (by decide) (hts (.fieldLink RX9 54 "ClearingGates" "tape" "LClearingGates$Tape;") (List.mem_cons_of_mem _ mw_216)) (fun _ h9 => h9) rfl dX9_feed_135 ?_
                          refine va_get (D := (dC, dI)) (ci := 7) (v := .int q39) (C := RX8) (T := TX8) (N := 2) hx hb hts (fun w h => List.mem_cons_of_mem _ (inlX8 w h)) hown hK hP 1 rfl rfl 1 (by decide) (hts (.fieldLink RX9 160 "ClearingGates$Tape" "size" "I") (List.mem_cons_of_mem _ mw_167)) (fun _ h9 => h9) rfl dX9_feed_138 ?_
                          rw [hQ9]
                          exact W.iret (v := q39) hx hb hr (fun t ht hW => ⟨⟨q39, (), rfl, (by first | rfl | trivial), q38, q39, (by first | assumption | omega), (by first | assumption | omega), by rw [ht]; exact hP, va_K.moved hW.alike hK, hD⟩, hS.F ht⟩) hS.2.2 dX9_feed_141
                      · skip
                        have f_c35 := i_nle c35
                        refine lv_aload_n hx hb dX9_feed_111 rfl (lv_at hl 0 rfl) ?_
                        refine va_get (D := (dC, dI)) (ci := 8) (v := .ref jt) (C := RX9) (T := TX9) (N := 13) hx hb hts (fun w h => List.mem_cons_of_mem _ (inlX9 w h)) hown hK hP 0 rfl rfl 8 (by decide) (hts (.fieldLink RX9 54 "ClearingGates" "tape" "LClearingGates$Tape;") (List.mem_cons_of_mem _ mw_216)) (fun _ h9 => h9) rfl dX9_feed_112 ?_
                        refine lv_iload hx hb dX9_feed_115 (lv_at hl 5 rfl) ?_
                        obtain ⟨hPc, hDc, hFc, hCm, hNw⟩ := C_s (wc := [eO jt 7 [.ref tb, .int q34], eI tb ktb 80 q33]) hP hD hS hA [(1, 2)] 3 rfl (by decide +kernel) rfl
                        have hKc := K_s (tys' := [(ktb, .int)]) hK [(0, 1)] rfl
                        refine va_callv (va_runV (As := [.int p4]) (rest := []) ⟨hx, hb, hml, hown, hts⟩ (c_X8_add l dC dI jt p4 tb q34 ktb q33 H.size (by first | assumption | omega) (by first | assumption | omega)) (cwV 1 hts gX9_feed_X8_add rfl rfl rfl (by decide +kernel) ⟨Nat.le_of_ble_eq_true rfl, Nat.le_of_ble_eq_true rfl⟩) ⟨fun a U g mk q => by obtain ⟨q0, q1, qP, qK, qD⟩ := q; exact ⟨q0, q1, qP, va_K.moved (u := U) (U := U.calling g mk a) (Vm.Alike.refl U.vm) qK, qD⟩, va_recv (s := s) (q := (RX8, TX8, 2)) hKc hPc (ci := 7) (q0 := 0) rfl rfl, fun U hU hW => ⟨rfl, by rw [hU], by rw [hU]; exact hPc, va_K.moved hW.alike hKc, hDc.weaken (fun _ _ _ _ => trivial)⟩⟩ rfl rfl hl.1 rfl (lv_room (Nat.le_of_ble_eq_true rfl)) dX9_feed_117 ⟨Nat.le_of_ble_eq_true rfl, Nat.le_of_ble_eq_true rfl⟩) hS (fun q _ h => hFc q h) hFc (fun u t H1 locs ht hvm hw hB hz1 hk1 hS => ?_)
                        obtain ⟨q41, q42, xn_r40, hP1, hK1, hD1⟩ := hB
                        rw [ht] at hP1
                        have hK1 := va_K.moved hvm.symm hK1
                        try dsimp only at hw
                        obtain ⟨hP, hD⟩ := J_s (wL := [eO h0 8 [.ref jb, .ref ji, .ref jd, .ref je, .ref jg, .ref qpa, .int pcn, .int ipn, .ref jt, .ref jr, .ref j1, .ref j2, .ref qsa], eO jt 7 [.ref tb, .int q42], eI tb ktb 80 q41]) hP hD [(1, 2)] [(0, 1)] hCm hNw (by decide +kernel) hk1 hFc hP1 hD1 rfl
                        have hK := KJ_s (tys' := [(ktb, .int)]) hK hK1 [] rfl
                        generalize H1 = H at hP hS ⊢
                        refine lv_iload_n hx hb dX9_feed_120 rfl (lv_at hl 1 rfl) ?_
                        refine lv_iconst (v := 4) hx hb dX9_feed_121 (by decide) ?_
                        refine lv_icmp_le (tgt := 134) hx hb dX9_feed_122 (by decide) (fun c43 => ?_) (fun c43 => ?_)
                        · skip
                          have f_c43 := i_le c43
                          refine lv_aload_n hx hb dX9_feed_134 rfl (lv_at hl 0 rfl) ?_
                          refine va_get (D := (dC, dI)) (ci := 8) (v := .ref jt) (C := RX9) (T := TX9) (N := 13) hx hb hts (fun w h => List.mem_cons_of_mem _ (inlX9 w h)) hown hK hP 0 rfl rfl 8 (by decide) (hts (.fieldLink RX9 54 "ClearingGates" "tape" "LClearingGates$Tape;") (List.mem_cons_of_mem _ mw_216)) (fun _ h9 => h9) rfl dX9_feed_135 ?_
                          refine va_get (D := (dC, dI)) (ci := 7) (v := .int q42) (C := RX8) (T := TX8) (N := 2) hx hb hts (fun w h => List.mem_cons_of_mem _ (inlX8 w h)) hown hK hP 1 rfl rfl 1 (by decide) (hts (.fieldLink RX9 160 "ClearingGates$Tape" "size" "I") (List.mem_cons_of_mem _ mw_167)) (fun _ h9 => h9) rfl dX9_feed_138 ?_
                          rw [hQ9]
                          exact W.iret (v := q42) hx hb hr (fun t ht hW => ⟨⟨q42, (), rfl, (by first | rfl | trivial), q41, q42, (by first | assumption | omega), (by first | assumption | omega), by rw [ht]; exact hP, va_K.moved hW.alike hK, hD⟩, hS.F ht⟩) hS.2.2 dX9_feed_141
                        · skip
                          have f_c43 := i_nle c43
                          refine lv_aload_n hx hb dX9_feed_125 rfl (lv_at hl 0 rfl) ?_
                          refine va_get (D := (dC, dI)) (ci := 8) (v := .ref jt) (C := RX9) (T := TX9) (N := 13) hx hb hts (fun w h => List.mem_cons_of_mem _ (inlX9 w h)) hown hK hP 0 rfl rfl 8 (by decide) (hts (.fieldLink RX9 54 "ClearingGates" "tape" "LClearingGates$Tape;") (List.mem_cons_of_mem _ mw_216)) (fun _ h9 => h9) rfl dX9_feed_126 ?_
                          refine lv_iload hx hb dX9_feed_129 (lv_at hl 6 rfl) ?_
                          obtain ⟨hPc, hDc, hFc, hCm, hNw⟩ := C_s (wc := [eO jt 7 [.ref tb, .int q42], eI tb ktb 80 q41]) hP hD hS hA [(1, 2)] 3 rfl (by decide +kernel) rfl
                          have hKc := K_s (tys' := [(ktb, .int)]) hK [(0, 1)] rfl
                          refine va_callv (va_runV (As := [.int p5]) (rest := []) ⟨hx, hb, hml, hown, hts⟩ (c_X8_add l dC dI jt p5 tb q42 ktb q41 H.size (by first | assumption | omega) (by first | assumption | omega)) (cwV 1 hts gX9_feed_X8_add rfl rfl rfl (by decide +kernel) ⟨Nat.le_of_ble_eq_true rfl, Nat.le_of_ble_eq_true rfl⟩) ⟨fun a U g mk q => by obtain ⟨q0, q1, qP, qK, qD⟩ := q; exact ⟨q0, q1, qP, va_K.moved (u := U) (U := U.calling g mk a) (Vm.Alike.refl U.vm) qK, qD⟩, va_recv (s := s) (q := (RX8, TX8, 2)) hKc hPc (ci := 7) (q0 := 0) rfl rfl, fun U hU hW => ⟨rfl, by rw [hU], by rw [hU]; exact hPc, va_K.moved hW.alike hKc, hDc.weaken (fun _ _ _ _ => trivial)⟩⟩ rfl rfl hl.1 rfl (lv_room (Nat.le_of_ble_eq_true rfl)) dX9_feed_131 ⟨Nat.le_of_ble_eq_true rfl, Nat.le_of_ble_eq_true rfl⟩) hS (fun q _ h => hFc q h) hFc (fun u t H1 locs ht hvm hw hB hz1 hk1 hS => ?_)
                          obtain ⟨q45, q46, xn_r44, hP1, hK1, hD1⟩ := hB
                          rw [ht] at hP1
                          have hK1 := va_K.moved hvm.symm hK1
                          try dsimp only at hw
                          obtain ⟨hP, hD⟩ := J_s (wL := [eO h0 8 [.ref jb, .ref ji, .ref jd, .ref je, .ref jg, .ref qpa, .int pcn, .int ipn, .ref jt, .ref jr, .ref j1, .ref j2, .ref qsa], eO jt 7 [.ref tb, .int q46], eI tb ktb 80 q45]) hP hD [(1, 2)] [(0, 1)] hCm hNw (by decide +kernel) hk1 hFc hP1 hD1 rfl
                          have hK := KJ_s (tys' := [(ktb, .int)]) hK hK1 [] rfl
                          generalize H1 = H at hP hS ⊢
                          refine lv_aload_n hx hb dX9_feed_134 rfl (lv_at hl 0 rfl) ?_
                          refine va_get (D := (dC, dI)) (ci := 8) (v := .ref jt) (C := RX9) (T := TX9) (N := 13) hx hb hts (fun w h => List.mem_cons_of_mem _ (inlX9 w h)) hown hK hP 0 rfl rfl 8 (by decide) (hts (.fieldLink RX9 54 "ClearingGates" "tape" "LClearingGates$Tape;") (List.mem_cons_of_mem _ mw_216)) (fun _ h9 => h9) rfl dX9_feed_135 ?_
                          refine va_get (D := (dC, dI)) (ci := 7) (v := .int q46) (C := RX8) (T := TX8) (N := 2) hx hb hts (fun w h => List.mem_cons_of_mem _ (inlX8 w h)) hown hK hP 1 rfl rfl 1 (by decide) (hts (.fieldLink RX9 160 "ClearingGates$Tape" "size" "I") (List.mem_cons_of_mem _ mw_167)) (fun _ h9 => h9) rfl dX9_feed_138 ?_
                          rw [hQ9]
                          exact W.iret (v := q46) hx hb hr (fun t ht hW => ⟨⟨q46, (), rfl, (by first | rfl | trivial), q45, q46, (by first | assumption | omega), (by first | assumption | omega), by rw [ht]; exact hP, va_K.moved hW.alike hK, hD⟩, hS.F ht⟩) hS.2.2 dX9_feed_141
                  · skip
                    have f_c18 := i_nle c18
                    refine lv_aload_n hx hb dX9_feed_84 rfl (lv_at hl 0 rfl) ?_
                    refine va_get (D := (dC, dI)) (ci := 8) (v := .ref jt) (C := RX9) (T := TX9) (N := 13) hx hb hts (fun w h => List.mem_cons_of_mem _ (inlX9 w h)) hown hK hP 0 rfl rfl 8 (by decide) (hts (.fieldLink RX9 54 "ClearingGates" "tape" "LClearingGates$Tape;") (List.mem_cons_of_mem _ mw_216)) (fun _ h9 => h9) rfl dX9_feed_85 ?_
                    refine lv_iload_n hx hb dX9_feed_88 rfl (lv_at hl 3 rfl) ?_
                    obtain ⟨hPc, hDc, hFc, hCm, hNw⟩ := C_s (wc := [eO jt 7 [.ref tb, .int q17], eI tb ktb 80 q16]) hP hD hS hA [(1, 2)] 3 rfl (by decide +kernel) rfl
                    have hKc := K_s (tys' := [(ktb, .int)]) hK [(0, 1)] rfl
                    refine va_callv (va_runV (As := [.int p2]) (rest := []) ⟨hx, hb, hml, hown, hts⟩ (c_X8_add l dC dI jt p2 tb q17 ktb q16 H.size (by first | assumption | omega) (by first | assumption | omega)) (cwV 1 hts gX9_feed_X8_add rfl rfl rfl (by decide +kernel) ⟨Nat.le_of_ble_eq_true rfl, Nat.le_of_ble_eq_true rfl⟩) ⟨fun a U g mk q => by obtain ⟨q0, q1, qP, qK, qD⟩ := q; exact ⟨q0, q1, qP, va_K.moved (u := U) (U := U.calling g mk a) (Vm.Alike.refl U.vm) qK, qD⟩, va_recv (s := s) (q := (RX8, TX8, 2)) hKc hPc (ci := 7) (q0 := 0) rfl rfl, fun U hU hW => ⟨rfl, by rw [hU], by rw [hU]; exact hPc, va_K.moved hW.alike hKc, hDc.weaken (fun _ _ _ _ => trivial)⟩⟩ rfl rfl hl.1 rfl (lv_room (Nat.le_of_ble_eq_true rfl)) dX9_feed_89 ⟨Nat.le_of_ble_eq_true rfl, Nat.le_of_ble_eq_true rfl⟩) hS (fun q _ h => hFc q h) hFc (fun u t H1 locs ht hvm hw hB hz1 hk1 hS => ?_)
                    obtain ⟨q48, q49, xn_r47, hP1, hK1, hD1⟩ := hB
                    rw [ht] at hP1
                    have hK1 := va_K.moved hvm.symm hK1
                    try dsimp only at hw
                    obtain ⟨hP, hD⟩ := J_s (wL := [eO h0 8 [.ref jb, .ref ji, .ref jd, .ref je, .ref jg, .ref qpa, .int pcn, .int ipn, .ref jt, .ref jr, .ref j1, .ref j2, .ref qsa], eO jt 7 [.ref tb, .int q49], eI tb ktb 80 q48]) hP hD [(1, 2)] [(0, 1)] hCm hNw (by decide +kernel) hk1 hFc hP1 hD1 rfl
                    have hK := KJ_s (tys' := [(ktb, .int)]) hK hK1 [] rfl
                    generalize H1 = H at hP hS ⊢
                    refine lv_iload_n hx hb dX9_feed_92 rfl (lv_at hl 1 rfl) ?_
                    refine lv_iconst (v := 2) hx hb dX9_feed_93 (by decide) ?_
                    refine lv_icmp_le (tgt := 106) hx hb dX9_feed_94 (by decide) (fun c50 => ?_) (fun c50 => ?_)
                    · skip
                      have f_c50 := i_le c50
                      refine lv_iload_n hx hb dX9_feed_106 rfl (lv_at hl 1 rfl) ?_
                      refine lv_iconst (v := 3) hx hb dX9_feed_107 (by decide) ?_
                      refine lv_icmp_le (tgt := 120) hx hb dX9_feed_108 (by decide) (fun c51 => ?_) (fun c51 => ?_)
                      · skip
                        have f_c51 := i_le c51
                        refine lv_iload_n hx hb dX9_feed_120 rfl (lv_at hl 1 rfl) ?_
                        refine lv_iconst (v := 4) hx hb dX9_feed_121 (by decide) ?_
                        refine lv_icmp_le (tgt := 134) hx hb dX9_feed_122 (by decide) (fun c52 => ?_) (fun c52 => ?_)
                        · skip
                          have f_c52 := i_le c52
                          refine lv_aload_n hx hb dX9_feed_134 rfl (lv_at hl 0 rfl) ?_
                          refine va_get (D := (dC, dI)) (ci := 8) (v := .ref jt) (C := RX9) (T := TX9) (N := 13) hx hb hts (fun w h => List.mem_cons_of_mem _ (inlX9 w h)) hown hK hP 0 rfl rfl 8 (by decide) (hts (.fieldLink RX9 54 "ClearingGates" "tape" "LClearingGates$Tape;") (List.mem_cons_of_mem _ mw_216)) (fun _ h9 => h9) rfl dX9_feed_135 ?_
                          refine va_get (D := (dC, dI)) (ci := 7) (v := .int q49) (C := RX8) (T := TX8) (N := 2) hx hb hts (fun w h => List.mem_cons_of_mem _ (inlX8 w h)) hown hK hP 1 rfl rfl 1 (by decide) (hts (.fieldLink RX9 160 "ClearingGates$Tape" "size" "I") (List.mem_cons_of_mem _ mw_167)) (fun _ h9 => h9) rfl dX9_feed_138 ?_
                          rw [hQ9]
                          exact W.iret (v := q49) hx hb hr (fun t ht hW => ⟨⟨q49, (), rfl, (by first | rfl | trivial), q48, q49, (by first | assumption | omega), (by first | assumption | omega), by rw [ht]; exact hP, va_K.moved hW.alike hK, hD⟩, hS.F ht⟩) hS.2.2 dX9_feed_141
                        · skip
                          have f_c52 := i_nle c52
                          refine lv_aload_n hx hb dX9_feed_125 rfl (lv_at hl 0 rfl) ?_
                          refine va_get (D := (dC, dI)) (ci := 8) (v := .ref jt) (C := RX9) (T := TX9) (N := 13) hx hb hts (fun w h => List.mem_cons_of_mem _ (inlX9 w h)) hown hK hP 0 rfl rfl 8 (by decide) (hts (.fieldLink RX9 54 "ClearingGates" "tape" "LClearingGates$Tape;") (List.mem_cons_of_mem _ mw_216)) (fun _ h9 => h9) rfl dX9_feed_126 ?_
                          refine lv_iload hx hb dX9_feed_129 (lv_at hl 6 rfl) ?_
                          obtain ⟨hPc, hDc, hFc, hCm, hNw⟩ := C_s (wc := [eO jt 7 [.ref tb, .int q49], eI tb ktb 80 q48]) hP hD hS hA [(1, 2)] 3 rfl (by decide +kernel) rfl
                          have hKc := K_s (tys' := [(ktb, .int)]) hK [(0, 1)] rfl
                          refine va_callv (va_runV (As := [.int p5]) (rest := []) ⟨hx, hb, hml, hown, hts⟩ (c_X8_add l dC dI jt p5 tb q49 ktb q48 H.size (by first | assumption | omega) (by first | assumption | omega)) (cwV 1 hts gX9_feed_X8_add rfl rfl rfl (by decide +kernel) ⟨Nat.le_of_ble_eq_true rfl, Nat.le_of_ble_eq_true rfl⟩) ⟨fun a U g mk q => by obtain ⟨q0, q1, qP, qK, qD⟩ := q; exact ⟨q0, q1, qP, va_K.moved (u := U) (U := U.calling g mk a) (Vm.Alike.refl U.vm) qK, qD⟩, va_recv (s := s) (q := (RX8, TX8, 2)) hKc hPc (ci := 7) (q0 := 0) rfl rfl, fun U hU hW => ⟨rfl, by rw [hU], by rw [hU]; exact hPc, va_K.moved hW.alike hKc, hDc.weaken (fun _ _ _ _ => trivial)⟩⟩ rfl rfl hl.1 rfl (lv_room (Nat.le_of_ble_eq_true rfl)) dX9_feed_131 ⟨Nat.le_of_ble_eq_true rfl, Nat.le_of_ble_eq_true rfl⟩) hS (fun q _ h => hFc q h) hFc (fun u t H1 locs ht hvm hw hB hz1 hk1 hS => ?_)
                          obtain ⟨q54, q55, xn_r53, hP1, hK1, hD1⟩ := hB
                          rw [ht] at hP1
                          have hK1 := va_K.moved hvm.symm hK1
                          try dsimp only at hw
                          obtain ⟨hP, hD⟩ := J_s (wL := [eO h0 8 [.ref jb, .ref ji, .ref jd, .ref je, .ref jg, .ref qpa, .int pcn, .int ipn, .ref jt, .ref jr, .ref j1, .ref j2, .ref qsa], eO jt 7 [.ref tb, .int q55], eI tb ktb 80 q54]) hP hD [(1, 2)] [(0, 1)] hCm hNw (by decide +kernel) hk1 hFc hP1 hD1 rfl
                          have hK := KJ_s (tys' := [(ktb, .int)]) hK hK1 [] rfl
                          generalize H1 = H at hP hS ⊢
                          refine lv_aload_n hx hb dX9_feed_134 rfl (lv_at hl 0 rfl) ?_
                          refine va_get (D := (dC, dI)) (ci := 8) (v := .ref jt) (C := RX9) (T := TX9) (N := 13) hx hb hts (fun w h => List.mem_cons_of_mem _ (inlX9 w h)) hown hK hP 0 rfl rfl 8 (by decide) (hts (.fieldLink RX9 54 "ClearingGates" "tape" "LClearingGates$Tape;") (List.mem_cons_of_mem _ mw_216)) (fun _ h9 => h9) rfl dX9_feed_135 ?_
                          refine va_get (D := (dC, dI)) (ci := 7) (v := .int q55) (C := RX8) (T := TX8) (N := 2) hx hb hts (fun w h => List.mem_cons_of_mem _ (inlX8 w h)) hown hK hP 1 rfl rfl 1 (by decide) (hts (.fieldLink RX9 160 "ClearingGates$Tape" "size" "I") (List.mem_cons_of_mem _ mw_167)) (fun _ h9 => h9) rfl dX9_feed_138 ?_
                          rw [hQ9]
                          exact W.iret (v := q55) hx hb hr (fun t ht hW => ⟨⟨q55, (), rfl, (by first | rfl | trivial), q54, q55, (by first | assumption | omega), (by first | assumption | omega), by rw [ht]; exact hP, va_K.moved hW.alike hK, hD⟩, hS.F ht⟩) hS.2.2 dX9_feed_141
                      · skip
                        have f_c51 := i_nle c51
                        refine lv_aload_n hx hb dX9_feed_111 rfl (lv_at hl 0 rfl) ?_
                        refine va_get (D := (dC, dI)) (ci := 8) (v := .ref jt) (C := RX9) (T := TX9) (N := 13) hx hb hts (fun w h => List.mem_cons_of_mem _ (inlX9 w h)) hown hK hP 0 rfl rfl 8 (by decide) (hts (.fieldLink RX9 54 "ClearingGates" "tape" "LClearingGates$Tape;") (List.mem_cons_of_mem _ mw_216)) (fun _ h9 => h9) rfl dX9_feed_112 ?_
                        refine lv_iload hx hb dX9_feed_115 (lv_at hl 5 rfl) ?_
                        obtain ⟨hPc, hDc, hFc, hCm, hNw⟩ := C_s (wc := [eO jt 7 [.ref tb, .int q49], eI tb ktb 80 q48]) hP hD hS hA [(1, 2)] 3 rfl (by decide +kernel) rfl
                        have hKc := K_s (tys' := [(ktb, .int)]) hK [(0, 1)] rfl
                        refine va_callv (va_runV (As := [.int p4]) (rest := []) ⟨hx, hb, hml, hown, hts⟩ (c_X8_add l dC dI jt p4 tb q49 ktb q48 H.size (by first | assumption | omega) (by first | assumption | omega)) (cwV 1 hts gX9_feed_X8_add rfl rfl rfl (by decide +kernel) ⟨Nat.le_of_ble_eq_true rfl, Nat.le_of_ble_eq_true rfl⟩) ⟨fun a U g mk q => by obtain ⟨q0, q1, qP, qK, qD⟩ := q; exact ⟨q0, q1, qP, va_K.moved (u := U) (U := U.calling g mk a) (Vm.Alike.refl U.vm) qK, qD⟩, va_recv (s := s) (q := (RX8, TX8, 2)) hKc hPc (ci := 7) (q0 := 0) rfl rfl, fun U hU hW => ⟨rfl, by rw [hU], by rw [hU]; exact hPc, va_K.moved hW.alike hKc, hDc.weaken (fun _ _ _ _ => trivial)⟩⟩ rfl rfl hl.1 rfl (lv_room (Nat.le_of_ble_eq_true rfl)) dX9_feed_117 ⟨Nat.le_of_ble_eq_true rfl, Nat.le_of_ble_eq_true rfl⟩) hS (fun q _ h => hFc q h) hFc (fun u t H1 locs ht hvm hw hB hz1 hk1 hS => ?_)
                        obtain ⟨q57, q58, xn_r56, hP1, hK1, hD1⟩ := hB
                        rw [ht] at hP1
                        have hK1 := va_K.moved hvm.symm hK1
                        try dsimp only at hw
                        obtain ⟨hP, hD⟩ := J_s (wL := [eO h0 8 [.ref jb, .ref ji, .ref jd, .ref je, .ref jg, .ref qpa, .int pcn, .int ipn, .ref jt, .ref jr, .ref j1, .ref j2, .ref qsa], eO jt 7 [.ref tb, .int q58], eI tb ktb 80 q57]) hP hD [(1, 2)] [(0, 1)] hCm hNw (by decide +kernel) hk1 hFc hP1 hD1 rfl
                        have hK := KJ_s (tys' := [(ktb, .int)]) hK hK1 [] rfl
                        generalize H1 = H at hP hS ⊢
                        refine lv_iload_n hx hb dX9_feed_120 rfl (lv_at hl 1 rfl) ?_
                        refine lv_iconst (v := 4) hx hb dX9_feed_121 (by decide) ?_
                        refine lv_icmp_le (tgt := 134) hx hb dX9_feed_122 (by decide) (fun c59 => ?_) (fun c59 => ?_)
                        · skip
                          have f_c59 := i_le c59
                          refine lv_aload_n hx hb dX9_feed_134 rfl (lv_at hl 0 rfl) ?_
                          refine va_get (D := (dC, dI)) (ci := 8) (v := .ref jt) (C := RX9) (T := TX9) (N := 13) hx hb hts (fun w h => List.mem_cons_of_mem _ (inlX9 w h)) hown hK hP 0 rfl rfl 8 (by decide) (hts (.fieldLink RX9 54 "ClearingGates" "tape" "LClearingGates$Tape;") (List.mem_cons_of_mem _ mw_216)) (fun _ h9 => h9) rfl dX9_feed_135 ?_
                          refine va_get (D := (dC, dI)) (ci := 7) (v := .int q58) (C := RX8) (T := TX8) (N := 2) hx hb hts (fun w h => List.mem_cons_of_mem _ (inlX8 w h)) hown hK hP 1 rfl rfl 1 (by decide) (hts (.fieldLink RX9 160 "ClearingGates$Tape" "size" "I") (List.mem_cons_of_mem _ mw_167)) (fun _ h9 => h9) rfl dX9_feed_138 ?_
                          rw [hQ9]
                          exact W.iret (v := q58) hx hb hr (fun t ht hW => ⟨⟨q58, (), rfl, (by first | rfl | trivial), q57, q58, (by first | assumption | omega), (by first | assumption | omega), by rw [ht]; exact hP, va_K.moved hW.alike hK, hD⟩, hS.F ht⟩) hS.2.2 dX9_feed_141
                        · skip
                          have f_c59 := i_nle c59
                          refine lv_aload_n hx hb dX9_feed_125 rfl (lv_at hl 0 rfl) ?_
                          refine va_get (D := (dC, dI)) (ci := 8) (v := .ref jt) (C := RX9) (T := TX9) (N := 13) hx hb hts (fun w h => List.mem_cons_of_mem _ (inlX9 w h)) hown hK hP 0 rfl rfl 8 (by decide) (hts (.fieldLink RX9 54 "ClearingGates" "tape" "LClearingGates$Tape;") (List.mem_cons_of_mem _ mw_216)) (fun _ h9 => h9) rfl dX9_feed_126 ?_
                          refine lv_iload hx hb dX9_feed_129 (lv_at hl 6 rfl) ?_
                          obtain ⟨hPc, hDc, hFc, hCm, hNw⟩ := C_s (wc := [eO jt 7 [.ref tb, .int q58], eI tb ktb 80 q57]) hP hD hS hA [(1, 2)] 3 rfl (by decide +kernel) rfl
                          have hKc := K_s (tys' := [(ktb, .int)]) hK [(0, 1)] rfl
                          refine va_callv (va_runV (As := [.int p5]) (rest := []) ⟨hx, hb, hml, hown, hts⟩ (c_X8_add l dC dI jt p5 tb q58 ktb q57 H.size (by first | assumption | omega) (by first | assumption | omega)) (cwV 1 hts gX9_feed_X8_add rfl rfl rfl (by decide +kernel) ⟨Nat.le_of_ble_eq_true rfl, Nat.le_of_ble_eq_true rfl⟩) ⟨fun a U g mk q => by obtain ⟨q0, q1, qP, qK, qD⟩ := q; exact ⟨q0, q1, qP, va_K.moved (u := U) (U := U.calling g mk a) (Vm.Alike.refl U.vm) qK, qD⟩, va_recv (s := s) (q := (RX8, TX8, 2)) hKc hPc (ci := 7) (q0 := 0) rfl rfl, fun U hU hW => ⟨rfl, by rw [hU], by rw [hU]; exact hPc, va_K.moved hW.alike hKc, hDc.weaken (fun _ _ _ _ => trivial)⟩⟩ rfl rfl hl.1 rfl (lv_room (Nat.le_of_ble_eq_true rfl)) dX9_feed_131 ⟨Nat.le_of_ble_eq_true rfl, Nat.le_of_ble_eq_true rfl⟩) hS (fun q _ h => hFc q h) hFc (fun u t H1 locs ht hvm hw hB hz1 hk1 hS => ?_)
                          obtain ⟨q61, q62, xn_r60, hP1, hK1, hD1⟩ := hB
                          rw [ht] at hP1
                          have hK1 := va_K.moved hvm.symm hK1
                          try dsimp only at hw
                          obtain ⟨hP, hD⟩ := J_s (wL := [eO h0 8 [.ref jb, .ref ji, .ref jd, .ref je, .ref jg, .ref qpa, .int pcn, .int ipn, .ref jt, .ref jr, .ref j1, .ref j2, .ref qsa], eO jt 7 [.ref tb, .int q62], eI tb ktb 80 q61]) hP hD [(1, 2)] [(0, 1)] hCm hNw (by decide +kernel) hk1 hFc hP1 hD1 rfl
                          have hK := KJ_s (tys' := [(ktb, .int)]) hK hK1 [] rfl
                          generalize H1 = H at hP hS ⊢
                          refine lv_aload_n hx hb dX9_feed_134 rfl (lv_at hl 0 rfl) ?_
                          refine va_get (D := (dC, dI)) (ci := 8) (v := .ref jt) (C := RX9) (T := TX9) (N := 13) hx hb hts (fun w h => List.mem_cons_of_mem _ (inlX9 w h)) hown hK hP 0 rfl rfl 8 (by decide) (hts (.fieldLink RX9 54 "ClearingGates" "tape" "LClearingGates$Tape;") (List.mem_cons_of_mem _ mw_216)) (fun _ h9 => h9) rfl dX9_feed_135 ?_
                          refine va_get (D := (dC, dI)) (ci := 7) (v := .int q62) (C := RX8) (T := TX8) (N := 2) hx hb hts (fun w h => List.mem_cons_of_mem _ (inlX8 w h)) hown hK hP 1 rfl rfl 1 (by decide) (hts (.fieldLink RX9 160 "ClearingGates$Tape" "size" "I") (List.mem_cons_of_mem _ mw_167)) (fun _ h9 => h9) rfl dX9_feed_138 ?_
                          rw [hQ9]
                          exact W.iret (v := q62) hx hb hr (fun t ht hW => ⟨⟨q62, (), rfl, (by first | rfl | trivial), q61, q62, (by first | assumption | omega), (by first | assumption | omega), by rw [ht]; exact hP, va_K.moved hW.alike hK, hD⟩, hS.F ht⟩) hS.2.2 dX9_feed_141
                    · skip
                      have f_c50 := i_nle c50
                      refine lv_aload_n hx hb dX9_feed_97 rfl (lv_at hl 0 rfl) ?_
                      refine va_get (D := (dC, dI)) (ci := 8) (v := .ref jt) (C := RX9) (T := TX9) (N := 13) hx hb hts (fun w h => List.mem_cons_of_mem _ (inlX9 w h)) hown hK hP 0 rfl rfl 8 (by decide) (hts (.fieldLink RX9 54 "ClearingGates" "tape" "LClearingGates$Tape;") (List.mem_cons_of_mem _ mw_216)) (fun _ h9 => h9) rfl dX9_feed_98 ?_
                      refine lv_iload hx hb dX9_feed_101 (lv_at hl 4 rfl) ?_
                      obtain ⟨hPc, hDc, hFc, hCm, hNw⟩ := C_s (wc := [eO jt 7 [.ref tb, .int q49], eI tb ktb 80 q48]) hP hD hS hA [(1, 2)] 3 rfl (by decide +kernel) rfl
                      have hKc := K_s (tys' := [(ktb, .int)]) hK [(0, 1)] rfl
                      refine va_callv (va_runV (As := [.int p3]) (rest := []) ⟨hx, hb, hml, hown, hts⟩ (c_X8_add l dC dI jt p3 tb q49 ktb q48 H.size (by first | assumption | omega) (by first | assumption | omega)) (cwV 1 hts gX9_feed_X8_add rfl rfl rfl (by decide +kernel) ⟨Nat.le_of_ble_eq_true rfl, Nat.le_of_ble_eq_true rfl⟩) ⟨fun a U g mk q => by obtain ⟨q0, q1, qP, qK, qD⟩ := q; exact ⟨q0, q1, qP, va_K.moved (u := U) (U := U.calling g mk a) (Vm.Alike.refl U.vm) qK, qD⟩, va_recv (s := s) (q := (RX8, TX8, 2)) hKc hPc (ci := 7) (q0 := 0) rfl rfl, fun U hU hW => ⟨rfl, by rw [hU], by rw [hU]; exact hPc, va_K.moved hW.alike hKc, hDc.weaken (fun _ _ _ _ => trivial)⟩⟩ rfl rfl hl.1 rfl (lv_room (Nat.le_of_ble_eq_true rfl)) dX9_feed_103 ⟨Nat.le_of_ble_eq_true rfl, Nat.le_of_ble_eq_true rfl⟩) hS (fun q _ h => hFc q h) hFc (fun u t H1 locs ht hvm hw hB hz1 hk1 hS => ?_)
                      obtain ⟨q64, q65, xn_r63, hP1, hK1, hD1⟩ := hB
                      rw [ht] at hP1
                      have hK1 := va_K.moved hvm.symm hK1
                      try dsimp only at hw
                      obtain ⟨hP, hD⟩ := J_s (wL := [eO h0 8 [.ref jb, .ref ji, .ref jd, .ref je, .ref jg, .ref qpa, .int pcn, .int ipn, .ref jt, .ref jr, .ref j1, .ref j2, .ref qsa], eO jt 7 [.ref tb, .int q65], eI tb ktb 80 q64]) hP hD [(1, 2)] [(0, 1)] hCm hNw (by decide +kernel) hk1 hFc hP1 hD1 rfl
                      have hK := KJ_s (tys' := [(ktb, .int)]) hK hK1 [] rfl
                      generalize H1 = H at hP hS ⊢
                      refine lv_iload_n hx hb dX9_feed_106 rfl (lv_at hl 1 rfl) ?_
                      refine lv_iconst (v := 3) hx hb dX9_feed_107 (by decide) ?_
                      refine lv_icmp_le (tgt := 120) hx hb dX9_feed_108 (by decide) (fun c66 => ?_) (fun c66 => ?_)
                      · skip
                        have f_c66 := i_le c66
                        refine lv_iload_n hx hb dX9_feed_120 rfl (lv_at hl 1 rfl) ?_
                        refine lv_iconst (v := 4) hx hb dX9_feed_121 (by decide) ?_
                        refine lv_icmp_le (tgt := 134) hx hb dX9_feed_122 (by decide) (fun c67 => ?_) (fun c67 => ?_)
                        · skip
                          have f_c67 := i_le c67
                          refine lv_aload_n hx hb dX9_feed_134 rfl (lv_at hl 0 rfl) ?_
                          refine va_get (D := (dC, dI)) (ci := 8) (v := .ref jt) (C := RX9) (T := TX9) (N := 13) hx hb hts (fun w h => List.mem_cons_of_mem _ (inlX9 w h)) hown hK hP 0 rfl rfl 8 (by decide) (hts (.fieldLink RX9 54 "ClearingGates" "tape" "LClearingGates$Tape;") (List.mem_cons_of_mem _ mw_216)) (fun _ h9 => h9) rfl dX9_feed_135 ?_
                          refine va_get (D := (dC, dI)) (ci := 7) (v := .int q65) (C := RX8) (T := TX8) (N := 2) hx hb hts (fun w h => List.mem_cons_of_mem _ (inlX8 w h)) hown hK hP 1 rfl rfl 1 (by decide) (hts (.fieldLink RX9 160 "ClearingGates$Tape" "size" "I") (List.mem_cons_of_mem _ mw_167)) (fun _ h9 => h9) rfl dX9_feed_138 ?_
                          rw [hQ9]
                          exact W.iret (v := q65) hx hb hr (fun t ht hW => ⟨⟨q65, (), rfl, (by first | rfl | trivial), q64, q65, (by first | assumption | omega), (by first | assumption | omega), by rw [ht]; exact hP, va_K.moved hW.alike hK, hD⟩, hS.F ht⟩) hS.2.2 dX9_feed_141
                        · skip
                          have f_c67 := i_nle c67
                          refine lv_aload_n hx hb dX9_feed_125 rfl (lv_at hl 0 rfl) ?_
                          refine va_get (D := (dC, dI)) (ci := 8) (v := .ref jt) (C := RX9) (T := TX9) (N := 13) hx hb hts (fun w h => List.mem_cons_of_mem _ (inlX9 w h)) hown hK hP 0 rfl rfl 8 (by decide) (hts (.fieldLink RX9 54 "ClearingGates" "tape" "LClearingGates$Tape;") (List.mem_cons_of_mem _ mw_216)) (fun _ h9 => h9) rfl dX9_feed_126 ?_
                          refine lv_iload hx hb dX9_feed_129 (lv_at hl 6 rfl) ?_
                          obtain ⟨hPc, hDc, hFc, hCm, hNw⟩ := C_s (wc := [eO jt 7 [.ref tb, .int q65], eI tb ktb 80 q64]) hP hD hS hA [(1, 2)] 3 rfl (by decide +kernel) rfl
                          have hKc := K_s (tys' := [(ktb, .int)]) hK [(0, 1)] rfl
                          refine va_callv (va_runV (As := [.int p5]) (rest := []) ⟨hx, hb, hml, hown, hts⟩ (c_X8_add l dC dI jt p5 tb q65 ktb q64 H.size (by first | assumption | omega) (by first | assumption | omega)) (cwV 1 hts gX9_feed_X8_add rfl rfl rfl (by decide +kernel) ⟨Nat.le_of_ble_eq_true rfl, Nat.le_of_ble_eq_true rfl⟩) ⟨fun a U g mk q => by obtain ⟨q0, q1, qP, qK, qD⟩ := q; exact ⟨q0, q1, qP, va_K.moved (u := U) (U := U.calling g mk a) (Vm.Alike.refl U.vm) qK, qD⟩, va_recv (s := s) (q := (RX8, TX8, 2)) hKc hPc (ci := 7) (q0 := 0) rfl rfl, fun U hU hW => ⟨rfl, by rw [hU], by rw [hU]; exact hPc, va_K.moved hW.alike hKc, hDc.weaken (fun _ _ _ _ => trivial)⟩⟩ rfl rfl hl.1 rfl (lv_room (Nat.le_of_ble_eq_true rfl)) dX9_feed_131 ⟨Nat.le_of_ble_eq_true rfl, Nat.le_of_ble_eq_true rfl⟩) hS (fun q _ h => hFc q h) hFc (fun u t H1 locs ht hvm hw hB hz1 hk1 hS => ?_)
                          obtain ⟨q69, q70, xn_r68, hP1, hK1, hD1⟩ := hB
                          rw [ht] at hP1
                          have hK1 := va_K.moved hvm.symm hK1
                          try dsimp only at hw
                          obtain ⟨hP, hD⟩ := J_s (wL := [eO h0 8 [.ref jb, .ref ji, .ref jd, .ref je, .ref jg, .ref qpa, .int pcn, .int ipn, .ref jt, .ref jr, .ref j1, .ref j2, .ref qsa], eO jt 7 [.ref tb, .int q70], eI tb ktb 80 q69]) hP hD [(1, 2)] [(0, 1)] hCm hNw (by decide +kernel) hk1 hFc hP1 hD1 rfl
                          have hK := KJ_s (tys' := [(ktb, .int)]) hK hK1 [] rfl
                          generalize H1 = H at hP hS ⊢
                          refine lv_aload_n hx hb dX9_feed_134 rfl (lv_at hl 0 rfl) ?_
                          refine va_get (D := (dC, dI)) (ci := 8) (v := .ref jt) (C := RX9) (T := TX9) (N := 13) hx hb hts (fun w h => List.mem_cons_of_mem _ (inlX9 w h)) hown hK hP 0 rfl rfl 8 (by decide) (hts (.fieldLink RX9 54 "ClearingGates" "tape" "LClearingGates$Tape;") (List.mem_cons_of_mem _ mw_216)) (fun _ h9 => h9) rfl dX9_feed_135 ?_
                          refine va_get (D := (dC, dI)) (ci := 7) (v := .int q70) (C := RX8) (T := TX8) (N := 2) hx hb hts (fun w h => List.mem_cons_of_mem _ (inlX8 w h)) hown hK hP 1 rfl rfl 1 (by decide) (hts (.fieldLink RX9 160 "ClearingGates$Tape" "size" "I") (List.mem_cons_of_mem _ mw_167)) (fun _ h9 => h9) rfl dX9_feed_138 ?_
                          rw [hQ9]
                          exact W.iret (v := q70) hx hb hr (fun t ht hW => ⟨⟨q70, (), rfl, (by first | rfl | trivial), q69, q70, (by first | assumption | omega), (by first | assumption | omega), by rw [ht]; exact hP, va_K.moved hW.alike hK, hD⟩, hS.F ht⟩) hS.2.2 dX9_feed_141
                      · skip
                        have f_c66 := i_nle c66
                        refine lv_aload_n hx hb dX9_feed_111 rfl (lv_at hl 0 rfl) ?_
                        refine va_get (D := (dC, dI)) (ci := 8) (v := .ref jt) (C := RX9) (T := TX9) (N := 13) hx hb hts (fun w h => List.mem_cons_of_mem _ (inlX9 w h)) hown hK hP 0 rfl rfl 8 (by decide) (hts (.fieldLink RX9 54 "ClearingGates" "tape" "LClearingGates$Tape;") (List.mem_cons_of_mem _ mw_216)) (fun _ h9 => h9) rfl dX9_feed_112 ?_
                        refine lv_iload hx hb dX9_feed_115 (lv_at hl 5 rfl) ?_
                        obtain ⟨hPc, hDc, hFc, hCm, hNw⟩ := C_s (wc := [eO jt 7 [.ref tb, .int q65], eI tb ktb 80 q64]) hP hD hS hA [(1, 2)] 3 rfl (by decide +kernel) rfl
                        have hKc := K_s (tys' := [(ktb, .int)]) hK [(0, 1)] rfl
                        refine va_callv (va_runV (As := [.int p4]) (rest := []) ⟨hx, hb, hml, hown, hts⟩ (c_X8_add l dC dI jt p4 tb q65 ktb q64 H.size (by first | assumption | omega) (by first | assumption | omega)) (cwV 1 hts gX9_feed_X8_add rfl rfl rfl (by decide +kernel) ⟨Nat.le_of_ble_eq_true rfl, Nat.le_of_ble_eq_true rfl⟩) ⟨fun a U g mk q => by obtain ⟨q0, q1, qP, qK, qD⟩ := q; exact ⟨q0, q1, qP, va_K.moved (u := U) (U := U.calling g mk a) (Vm.Alike.refl U.vm) qK, qD⟩, va_recv (s := s) (q := (RX8, TX8, 2)) hKc hPc (ci := 7) (q0 := 0) rfl rfl, fun U hU hW => ⟨rfl, by rw [hU], by rw [hU]; exact hPc, va_K.moved hW.alike hKc, hDc.weaken (fun _ _ _ _ => trivial)⟩⟩ rfl rfl hl.1 rfl (lv_room (Nat.le_of_ble_eq_true rfl)) dX9_feed_117 ⟨Nat.le_of_ble_eq_true rfl, Nat.le_of_ble_eq_true rfl⟩) hS (fun q _ h => hFc q h) hFc (fun u t H1 locs ht hvm hw hB hz1 hk1 hS => ?_)
                        obtain ⟨q72, q73, xn_r71, hP1, hK1, hD1⟩ := hB
                        rw [ht] at hP1
                        have hK1 := va_K.moved hvm.symm hK1
                        try dsimp only at hw
                        obtain ⟨hP, hD⟩ := J_s (wL := [eO h0 8 [.ref jb, .ref ji, .ref jd, .ref je, .ref jg, .ref qpa, .int pcn, .int ipn, .ref jt, .ref jr, .ref j1, .ref j2, .ref qsa], eO jt 7 [.ref tb, .int q73], eI tb ktb 80 q72]) hP hD [(1, 2)] [(0, 1)] hCm hNw (by decide +kernel) hk1 hFc hP1 hD1 rfl
                        have hK := KJ_s (tys' := [(ktb, .int)]) hK hK1 [] rfl
                        generalize H1 = H at hP hS ⊢
                        refine lv_iload_n hx hb dX9_feed_120 rfl (lv_at hl 1 rfl) ?_
                        refine lv_iconst (v := 4) hx hb dX9_feed_121 (by decide) ?_
                        refine lv_icmp_le (tgt := 134) hx hb dX9_feed_122 (by decide) (fun c74 => ?_) (fun c74 => ?_)
                        · skip
                          have f_c74 := i_le c74
                          refine lv_aload_n hx hb dX9_feed_134 rfl (lv_at hl 0 rfl) ?_
                          refine va_get (D := (dC, dI)) (ci := 8) (v := .ref jt) (C := RX9) (T := TX9) (N := 13) hx hb hts (fun w h => List.mem_cons_of_mem _ (inlX9 w h)) hown hK hP 0 rfl rfl 8 (by decide) (hts (.fieldLink RX9 54 "ClearingGates" "tape" "LClearingGates$Tape;") (List.mem_cons_of_mem _ mw_216)) (fun _ h9 => h9) rfl dX9_feed_135 ?_
                          refine va_get (D := (dC, dI)) (ci := 7) (v := .int q73) (C := RX8) (T := TX8) (N := 2) hx hb hts (fun w h => List.mem_cons_of_mem _ (inlX8 w h)) hown hK hP 1 rfl rfl 1 (by decide) (hts (.fieldLink RX9 160 "ClearingGates$Tape" "size" "I") (List.mem_cons_of_mem _ mw_167)) (fun _ h9 => h9) rfl dX9_feed_138 ?_
                          rw [hQ9]
                          exact W.iret (v := q73) hx hb hr (fun t ht hW => ⟨⟨q73, (), rfl, (by first | rfl | trivial), q72, q73, (by first | assumption | omega), (by first | assumption | omega), by rw [ht]; exact hP, va_K.moved hW.alike hK, hD⟩, hS.F ht⟩) hS.2.2 dX9_feed_141
                        · skip
                          have f_c74 := i_nle c74
                          refine lv_aload_n hx hb dX9_feed_125 rfl (lv_at hl 0 rfl) ?_
                          refine va_get (D := (dC, dI)) (ci := 8) (v := .ref jt) (C := RX9) (T := TX9) (N := 13) hx hb hts (fun w h => List.mem_cons_of_mem _ (inlX9 w h)) hown hK hP 0 rfl rfl 8 (by decide) (hts (.fieldLink RX9 54 "ClearingGates" "tape" "LClearingGates$Tape;") (List.mem_cons_of_mem _ mw_216)) (fun _ h9 => h9) rfl dX9_feed_126 ?_
                          refine lv_iload hx hb dX9_feed_129 (lv_at hl 6 rfl) ?_
                          obtain ⟨hPc, hDc, hFc, hCm, hNw⟩ := C_s (wc := [eO jt 7 [.ref tb, .int q73], eI tb ktb 80 q72]) hP hD hS hA [(1, 2)] 3 rfl (by decide +kernel) rfl
                          have hKc := K_s (tys' := [(ktb, .int)]) hK [(0, 1)] rfl
                          refine va_callv (va_runV (As := [.int p5]) (rest := []) ⟨hx, hb, hml, hown, hts⟩ (c_X8_add l dC dI jt p5 tb q73 ktb q72 H.size (by first | assumption | omega) (by first | assumption | omega)) (cwV 1 hts gX9_feed_X8_add rfl rfl rfl (by decide +kernel) ⟨Nat.le_of_ble_eq_true rfl, Nat.le_of_ble_eq_true rfl⟩) ⟨fun a U g mk q => by obtain ⟨q0, q1, qP, qK, qD⟩ := q; exact ⟨q0, q1, qP, va_K.moved (u := U) (U := U.calling g mk a) (Vm.Alike.refl U.vm) qK, qD⟩, va_recv (s := s) (q := (RX8, TX8, 2)) hKc hPc (ci := 7) (q0 := 0) rfl rfl, fun U hU hW => ⟨rfl, by rw [hU], by rw [hU]; exact hPc, va_K.moved hW.alike hKc, hDc.weaken (fun _ _ _ _ => trivial)⟩⟩ rfl rfl hl.1 rfl (lv_room (Nat.le_of_ble_eq_true rfl)) dX9_feed_131 ⟨Nat.le_of_ble_eq_true rfl, Nat.le_of_ble_eq_true rfl⟩) hS (fun q _ h => hFc q h) hFc (fun u t H1 locs ht hvm hw hB hz1 hk1 hS => ?_)
                          obtain ⟨q76, q77, xn_r75, hP1, hK1, hD1⟩ := hB
                          rw [ht] at hP1
                          have hK1 := va_K.moved hvm.symm hK1
                          try dsimp only at hw
                          obtain ⟨hP, hD⟩ := J_s (wL := [eO h0 8 [.ref jb, .ref ji, .ref jd, .ref je, .ref jg, .ref qpa, .int pcn, .int ipn, .ref jt, .ref jr, .ref j1, .ref j2, .ref qsa], eO jt 7 [.ref tb, .int q77], eI tb ktb 80 q76]) hP hD [(1, 2)] [(0, 1)] hCm hNw (by decide +kernel) hk1 hFc hP1 hD1 rfl
                          have hK := KJ_s (tys' := [(ktb, .int)]) hK hK1 [] rfl
                          generalize H1 = H at hP hS ⊢
                          refine lv_aload_n hx hb dX9_feed_134 rfl (lv_at hl 0 rfl) ?_
                          refine va_get (D := (dC, dI)) (ci := 8) (v := .ref jt) (C := RX9) (T := TX9) (N := 13) hx hb hts (fun w h => List.mem_cons_of_mem _ (inlX9 w h)) hown hK hP 0 rfl rfl 8 (by decide) (hts (.fieldLink RX9 54 "ClearingGates" "tape" "LClearingGates$Tape;") (List.mem_cons_of_mem _ mw_216)) (fun _ h9 => h9) rfl dX9_feed_135 ?_
                          refine va_get (D := (dC, dI)) (ci := 7) (v := .int q77) (C := RX8) (T := TX8) (N := 2) hx hb hts (fun w h => List.mem_cons_of_mem _ (inlX8 w h)) hown hK hP 1 rfl rfl 1 (by decide) (hts (.fieldLink RX9 160 "ClearingGates$Tape" "size" "I") (List.mem_cons_of_mem _ mw_167)) (fun _ h9 => h9) rfl dX9_feed_138 ?_
                          rw [hQ9]
                          exact W.iret (v := q77) hx hb hr (fun t ht hW => ⟨⟨q77, (), rfl, (by first | rfl | trivial), q76, q77, (by first | assumption | omega), (by first | assumption | omega), by rw [ht]; exact hP, va_K.moved hW.alike hK, hD⟩, hS.F ht⟩) hS.2.2 dX9_feed_141
                · skip
                  have f_c14 := i_nle c14
                  refine lv_bipush (v := -4) hx hb dX9_feed_68 (by decide) ?_
                  rw [hQ9]
                  exact W.iret (v := (-4)) hx hb hr (fun t ht hW => ⟨⟨(-4), (), rfl, (by first | rfl | trivial), ftb, tn, (by first | assumption | omega), (by first | assumption | omega), by rw [ht]; exact hP, va_K.moved hW.alike hK, hD⟩, hS.F ht⟩) hS.2.2 dX9_feed_70
              · subst e_r11
                refine lv_if_ne (tgt := 54) hx hb dX9_feed_48 (by decide) (fun c78 => absurd (by decide) c78) (fun c78 => ?_)
                refine lv_bipush (v := -2) hx hb dX9_feed_51 (by decide) ?_
                rw [hQ9]
                exact W.iret (v := (-2)) hx hb hr (fun t ht hW => ⟨⟨(-2), (), rfl, (by first | rfl | trivial), ftb, tn, (by first | assumption | omega), (by first | assumption | omega), by rw [ht]; exact hP, va_K.moved hW.alike hK, hD⟩, hS.F ht⟩) hS.2.2 dX9_feed_53
            · subst e_r9
              refine lv_if_eq (tgt := 51) hx hb dX9_feed_40 (by decide) (fun c79 => ?_) (fun c79 => absurd (by decide) c79)
              refine lv_bipush (v := -2) hx hb dX9_feed_51 (by decide) ?_
              rw [hQ9]
              exact W.iret (v := (-2)) hx hb hr (fun t ht hW => ⟨⟨(-2), (), rfl, (by first | rfl | trivial), ftb, tn, (by first | assumption | omega), (by first | assumption | omega), by rw [ht]; exact hP, va_K.moved hW.alike hK, hD⟩, hS.F ht⟩) hS.2.2 dX9_feed_53
          · subst e_r7
            refine lv_if_eq (tgt := 51) hx hb dX9_feed_32 (by decide) (fun c80 => ?_) (fun c80 => absurd (by decide) c80)
            refine lv_bipush (v := -2) hx hb dX9_feed_51 (by decide) ?_
            rw [hQ9]
            exact W.iret (v := (-2)) hx hb hr (fun t ht hW => ⟨⟨(-2), (), rfl, (by first | rfl | trivial), ftb, tn, (by first | assumption | omega), (by first | assumption | omega), by rw [ht]; exact hP, va_K.moved hW.alike hK, hD⟩, hS.F ht⟩) hS.2.2 dX9_feed_53
        · subst e_r5
          refine lv_if_eq (tgt := 51) hx hb dX9_feed_24 (by decide) (fun c81 => ?_) (fun c81 => absurd (by decide) c81)
          refine lv_bipush (v := -2) hx hb dX9_feed_51 (by decide) ?_
          rw [hQ9]
          exact W.iret (v := (-2)) hx hb hr (fun t ht hW => ⟨⟨(-2), (), rfl, (by first | rfl | trivial), ftb, tn, (by first | assumption | omega), (by first | assumption | omega), by rw [ht]; exact hP, va_K.moved hW.alike hK, hD⟩, hS.F ht⟩) hS.2.2 dX9_feed_53
      · subst e_r3
        refine lv_if_eq (tgt := 51) hx hb dX9_feed_17 (by decide) (fun c82 => ?_) (fun c82 => absurd (by decide) c82)
        refine lv_bipush (v := -2) hx hb dX9_feed_51 (by decide) ?_
        rw [hQ9]
        exact W.iret (v := (-2)) hx hb hr (fun t ht hW => ⟨⟨(-2), (), rfl, (by first | rfl | trivial), ftb, tn, (by first | assumption | omega), (by first | assumption | omega), by rw [ht]; exact hP, va_K.moved hW.alike hK, hD⟩, hS.F ht⟩) hS.2.2 dX9_feed_53
    · skip
      have f_c2 := i_nle c2
      refine lv_bipush (v := -2) hx hb dX9_feed_10 (by decide) ?_
      rw [hQ9]
      exact W.iret (v := (-2)) hx hb hr (fun t ht hW => ⟨⟨(-2), (), rfl, (by first | rfl | trivial), ftb, tn, (by first | assumption | omega), (by first | assumption | omega), by rw [ht]; exact hP, va_K.moved hW.alike hK, hD⟩, hS.F ht⟩) hS.2.2 dX9_feed_12
