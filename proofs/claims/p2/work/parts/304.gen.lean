set_option maxRecDepth 100000 in
set_option maxHeartbeats 4000000 in
/-- Books.hasGate -/
theorem c_X0_hasGate (l : Launch) (dC : Nat → ClassId) (dI : Nat → Nat → Nat) (h0 : Nat) (p0 : Int32) (v0 : Value) (v1 : Value) (v2 : Value) (qg : Nat) (v4 : Value) (v5 : Value) (v6 : Value) (acc : Int32) (v8 : Value) (v9 : Value) (v10 : Value) (v11 : Value) (v12 : Value) (kg : ClassId) (fg : Nat → Int32) (sz : Nat) (hacc : acc.toInt ≤ 8) : Met l yX0_hasGate wsX0_hasGate ({ frames := 1, cells := 0, slots := 0, locals := 21 }) (va_Pc [.ref h0, .int p0] (fun U => U.heap.size = sz ∧ va_P (dC, dI) vwCl [eO h0 0 [v0, v1, v2, .ref qg, v4, v5, v6, .int acc, v8, v9, v10, v11, v12], eI qg kg 8 fg] U.heap ∧ va_K (dC, dI) vwCl [(kg, .boolean)] U ∧ va_D (fun _ => True) [eO h0 0 [v0, v1, v2, .ref qg, v4, v5, v6, .int acc, v8, v9, v10, v11, v12], eI qg kg 8 fg])) (va_Qi (fun (r : Int32) (_ : Unit) => (r = 1 ∧ 0 ≤ p0.toInt ∧ p0.toInt < acc.toInt) ∨ (r = 0 ∧ (0 : Int) ≤ 0)) (fun (_ : Unit) (t : State) => va_P (dC, dI) vwCl [eO h0 0 [v0, v1, v2, .ref qg, v4, v5, v6, .int acc, v8, v9, v10, v11, v12], eI qg kg 8 fg] t.heap ∧ va_K (dC, dI) vwCl [(kg, .boolean)] t ∧ va_D (va_A [eO h0 0 [v0, v1, v2, .ref qg, v4, v5, v6, .int acc, v8, v9, v10, v11, v12], eI qg kg 8 fg] sz) [eO h0 0 [v0, v1, v2, .ref qg, v4, v5, v6, .int acc, v8, v9, v10, v11, v12], eI qg kg 8 fg]) (va_A [eO h0 0 [v0, v1, v2, .ref qg, v4, v5, v6, .int acc, v8, v9, v10, v11, v12], eI qg kg 8 fg] sz)) 0 0 (va_A [eO h0 0 [v0, v1, v2, .ref qg, v4, v5, v6, .int acc, v8, v9, v10, v11, v12], eI qg kg 8 fg] sz) := by
  refine Met.ofW (cc := cX0_hasGate) (maxL := 2) (ret := (some .boolean)) (by decide) rfl ?_
  intro p e s m args below meth c s₁ B hml hv
  obtain ⟨rfl, hsz, hP, hK, hD0⟩ := hv
  have hx := B.exec
  have hb := B.bytes
  have hr := B.returns
  have hts := atoms_spec (ws := wsX0_hasGate) B.pre
  have hown : s.vm.findClass RX0 = some m.cls := findClass_of_methodNamed B.named
  have hlocks := B.notSynchronized
  subst hsz
  have hD := hD0.self (sz := s.heap.size)
  generalize hAe : va_A [eO h0 0 [v0, v1, v2, .ref qg, v4, v5, v6, .int acc, v8, v9, v10, v11, v12], eI qg kg 8 fg] s.heap.size = A at hD ⊢
  have hA : ∀ q : Nat, s.heap.size ≤ q → A q := fun q h => by rw [← hAe]; exact Or.inr h
  have hS : va_S A s.heap s.heap [] := va_S.rf
  have hP : va_P (dC, dI) vwCl [eO h0 0 [v0, v1, v2, .ref qg, v4, v5, v6, .int acc, v8, v9, v10, v11, v12], eI qg kg 8 fg] s.heap := hP
  have hl := lv_entry ([.ref h0, .int p0]) (n := 2) (Nat.le_of_ble_eq_true rfl)
  rw [lg_entry_eq]
  generalize (lg_sl ([.ref h0, .int p0]) ++ List.replicate (2 - (lg_sl ([.ref h0, .int p0])).length) Slot.unset).toArray = ls at hl ⊢
  have hl : lv_has ls 2 [(0, .ref h0), (1, .int p0)] := hl
  suffices key9 : ∀ Q9 : State → Prop, Q9 = (MQ below (va_Qi (fun (r : Int32) (_ : Unit) => (r = 1 ∧ 0 ≤ p0.toInt ∧ p0.toInt < acc.toInt) ∨ (r = 0 ∧ (0 : Int) ≤ 0)) (fun (_ : Unit) (t : State) => va_P (dC, dI) vwCl [eO h0 0 [v0, v1, v2, .ref qg, v4, v5, v6, .int acc, v8, v9, v10, v11, v12], eI qg kg 8 fg] t.heap ∧ va_K (dC, dI) vwCl [(kg, .boolean)] t ∧ va_D A [eO h0 0 [v0, v1, v2, .ref qg, v4, v5, v6, .int acc, v8, v9, v10, v11, v12], eI qg kg 8 fg]) A) (([.ref h0, .int p0] : List Value).toArray) s 0 0 A) → W p l e ({ frames := 1, cells := 0, slots := 0, locals := 21 }) s m (([.ref h0, .int p0] : List Value).toArray) below meth c s.heap [] 0 0 Q9 (F0 m 0 ls []) from key9 _ rfl
  intro Q9 hQ9
  have k_0 : (0 : Int32).toInt = 0 := by decide
  have k_1 : (1 : Int32).toInt = 1 := by decide
  refine lv_aload_n hx hb dX0_hasGate_0 rfl (lv_at hl 0 rfl) ?_
  refine lv_iload_n hx hb dX0_hasGate_1 rfl (lv_at hl 1 rfl) ?_
  obtain ⟨hPc, hDc, hFc, hCm, hNw⟩ := C_s (wc := [eO h0 0 [v0, v1, v2, .ref qg, v4, v5, v6, .int acc, v8, v9, v10, v11, v12]]) hP hD hS hA [(0, 1)] 2 rfl (by decide +kernel) rfl
  have hKc := K_s (tys' := []) hK [] rfl
  refine va_calli (va_runV (As := [.int p0]) (rest := []) ⟨hx, hb, hml, hown, hts⟩ (c_X0_has l dC dI h0 p0 (v0) (v1) (v2) (.ref qg) (v4) (v5) (v6) acc (v8) (v9) (v10) (v11) (v12) s.heap.size) (cwV 1 hts gX0_hasGate_X0_has rfl rfl rfl (by decide +kernel) ⟨Nat.le_of_ble_eq_true rfl, Nat.le_of_ble_eq_true rfl⟩) ⟨fun a U g mk q => by obtain ⟨q0, q1, qP, qK, qD⟩ := q; exact ⟨q0, q1, qP, va_K.moved (u := U) (U := U.calling g mk a) (Vm.Alike.refl U.vm) qK, qD⟩, va_recv (s := s) (q := (RX0, TX0, 13)) hKc hPc (ci := 0) (q0 := 0) rfl rfl, fun U hU hW => ⟨rfl, by rw [hU], by rw [hU]; exact hPc, va_K.moved hW.alike hKc, hDc.weaken (fun _ _ _ _ => trivial)⟩⟩ rfl rfl hl.1 rfl (lv_room (Nat.le_of_ble_eq_true rfl)) dX0_hasGate_2 ⟨Nat.le_of_ble_eq_true rfl, Nat.le_of_ble_eq_true rfl⟩) hS (fun q _ h => hFc q h) hFc (fun r1 u t H1 locs ht hvm hw hB hz1 hk1 hS => ?_)
  obtain ⟨hP1, hK1, hD1⟩ := hB
  rw [ht] at hP1
  have hK1 := va_K.moved hvm.symm hK1
  try dsimp only at hw
  obtain ⟨hP, hD⟩ := J_s (wL := [eI qg kg 8 fg, eO h0 0 [v0, v1, v2, .ref qg, v4, v5, v6, .int acc, v8, v9, v10, v11, v12]]) hP hD [(0, 1)] [(1, 1)] hCm hNw (by decide +kernel) hk1 hFc hP1 hD1 rfl
  have hK := KJ_s (tys' := [(kg, .boolean)]) hK hK1 [(0, 1)] rfl
  generalize H1 = H at hP hS ⊢
  rcases hw with ⟨e_r1, f_r1⟩ | ⟨e_r1, f_r1⟩
  · subst e_r1
    refine lv_if_eq (tgt := 21) hx hb dX0_hasGate_5 (by decide) (fun c2 => absurd c2 (by decide)) (fun c2 => ?_)
    refine lv_aload_n hx hb dX0_hasGate_8 rfl (lv_at hl 0 rfl) ?_
    refine va_get (D := (dC, dI)) (ci := 0) (v := .ref qg) (C := RX0) (T := TX0) (N := 13) hx hb hts (fun w h => List.mem_cons_of_mem _ (inlX0 w h)) hown hK hP 1 rfl rfl 3 (by decide) (hts (.fieldLink RX0 21 "ClearingGates$Books" "gates" "[Z") (List.mem_cons_of_mem _ mw_101)) (fun _ h9 => h9) rfl dX0_hasGate_9 ?_
    refine lv_iload_n hx hb dX0_hasGate_12 rfl (lv_at hl 1 rfl) ?_
    refine va_zald (D := (dC, dI)) hx hb hK hP 0 0 rfl rfl (vp_in_iff.mpr ⟨by omega, by omega⟩) dX0_hasGate_13 ?_
    refine lv_topi (fun z3 e_z3 => ?_)
    refine lv_if_eq (tgt := 21) hx hb dX0_hasGate_14 (by decide) (fun c4 => ?_) (fun c4 => ?_)
    · skip
      have f_c4 := i_eq c4
      refine lv_iconst (v := 0) hx hb dX0_hasGate_21 (by decide) ?_
      rw [hQ9]
      exact W.zret (v := 0) hx hb hr (by decide) (fun t ht hW => ⟨⟨0, (), rfl, Or.inr (⟨rfl, by first | trivial | omega⟩), by rw [ht]; exact P_s hP [(1, 1), (0, 1)] rfl, va_K.moved hW.alike hK, D_s hD [(1, 1), (0, 1)] 2 rfl (by decide +kernel) rfl⟩, hS.F ht⟩) hS.2.2 dX0_hasGate_22
    · skip
      have f_c4 := i_ne c4
      refine lv_iconst (v := 1) hx hb dX0_hasGate_17 (by decide) ?_
      refine lv_goto (tgt := 22) hx hb dX0_hasGate_18 (by decide) ?_
      rw [hQ9]
      exact W.zret (v := 1) hx hb hr (by decide) (fun t ht hW => ⟨⟨1, (), rfl, Or.inl ⟨rfl, by first | trivial | omega⟩, by rw [ht]; exact P_s hP [(1, 1), (0, 1)] rfl, va_K.moved hW.alike hK, D_s hD [(1, 1), (0, 1)] 2 rfl (by decide +kernel) rfl⟩, hS.F ht⟩) hS.2.2 dX0_hasGate_22
  · subst e_r1
    refine lv_if_eq (tgt := 21) hx hb dX0_hasGate_5 (by decide) (fun c5 => ?_) (fun c5 => absurd (by decide) c5)
    refine lv_iconst (v := 0) hx hb dX0_hasGate_21 (by decide) ?_
    rw [hQ9]
    exact W.zret (v := 0) hx hb hr (by decide) (fun t ht hW => ⟨⟨0, (), rfl, Or.inr (⟨rfl, by first | trivial | omega⟩), by rw [ht]; exact P_s hP [(1, 1), (0, 1)] rfl, va_K.moved hW.alike hK, D_s hD [(1, 1), (0, 1)] 2 rfl (by decide +kernel) rfl⟩, hS.F ht⟩) hS.2.2 dX0_hasGate_22

set_option maxRecDepth 100000 in
set_option maxHeartbeats 4000000 in
/-- Books.hasAllGates -/
theorem c_X0_hasAllGates (l : Launch) (dC : Nat → ClassId) (dI : Nat → Nat → Nat) (h0 : Nat) (v0 : Value) (v1 : Value) (v2 : Value) (qg : Nat) (v4 : Value) (v5 : Value) (v6 : Value) (acc : Int32) (v8 : Value) (v9 : Value) (v10 : Value) (v11 : Value) (v12 : Value) (kg : ClassId) (fg : Nat → Int32) (sz : Nat) (hacc : acc.toInt ≤ 8) : Met l yX0_hasAllGates wsX0_hasAllGates ({ frames := 0, cells := 0, slots := 0, locals := 0 }) (va_Pc [.ref h0] (fun U => U.heap.size = sz ∧ va_P (dC, dI) vwCl [eO h0 0 [v0, v1, v2, .ref qg, v4, v5, v6, .int acc, v8, v9, v10, v11, v12], eI qg kg 8 fg] U.heap ∧ va_K (dC, dI) vwCl [(kg, .boolean)] U ∧ va_D (fun _ => True) [eO h0 0 [v0, v1, v2, .ref qg, v4, v5, v6, .int acc, v8, v9, v10, v11, v12], eI qg kg 8 fg])) (va_Qi (fun (r : Int32) (_ : Unit) => (r = 1 ∧ (0 : Int) ≤ 0) ∨ (r = 0 ∧ (0 : Int) ≤ 0)) (fun (_ : Unit) (t : State) => va_P (dC, dI) vwCl [eO h0 0 [v0, v1, v2, .ref qg, v4, v5, v6, .int acc, v8, v9, v10, v11, v12], eI qg kg 8 fg] t.heap ∧ va_K (dC, dI) vwCl [(kg, .boolean)] t ∧ va_D (va_A [eO h0 0 [v0, v1, v2, .ref qg, v4, v5, v6, .int acc, v8, v9, v10, v11, v12], eI qg kg 8 fg] sz) [eO h0 0 [v0, v1, v2, .ref qg, v4, v5, v6, .int acc, v8, v9, v10, v11, v12], eI qg kg 8 fg]) (va_A [eO h0 0 [v0, v1, v2, .ref qg, v4, v5, v6, .int acc, v8, v9, v10, v11, v12], eI qg kg 8 fg] sz)) 0 0 (va_A [eO h0 0 [v0, v1, v2, .ref qg, v4, v5, v6, .int acc, v8, v9, v10, v11, v12], eI qg kg 8 fg] sz) := by
  refine Met.ofW (cc := cX0_hasAllGates) (maxL := 2) (ret := (some .boolean)) (by decide) rfl ?_
  intro p e s m args below meth c s₁ B hml hv
  obtain ⟨rfl, hsz, hP, hK, hD0⟩ := hv
  have hx := B.exec
  have hb := B.bytes
  have hr := B.returns
  have hts := atoms_spec (ws := wsX0_hasAllGates) B.pre
  have hown : s.vm.findClass RX0 = some m.cls := findClass_of_methodNamed B.named
  have hlocks := B.notSynchronized
  subst hsz
  have hD := hD0.self (sz := s.heap.size)
  generalize hAe : va_A [eO h0 0 [v0, v1, v2, .ref qg, v4, v5, v6, .int acc, v8, v9, v10, v11, v12], eI qg kg 8 fg] s.heap.size = A at hD ⊢
  have hA : ∀ q : Nat, s.heap.size ≤ q → A q := fun q h => by rw [← hAe]; exact Or.inr h
  have hS : va_S A s.heap s.heap [] := va_S.rf
  have hP : va_P (dC, dI) vwCl [eO h0 0 [v0, v1, v2, .ref qg, v4, v5, v6, .int acc, v8, v9, v10, v11, v12], eI qg kg 8 fg] s.heap := hP
  have hl := lv_entry ([.ref h0]) (n := 2) (Nat.le_of_ble_eq_true rfl)
  rw [lg_entry_eq]
  generalize (lg_sl ([.ref h0]) ++ List.replicate (2 - (lg_sl ([.ref h0])).length) Slot.unset).toArray = ls at hl ⊢
  have hl : lv_has ls 2 [(0, .ref h0)] := hl
  suffices key9 : ∀ Q9 : State → Prop, Q9 = (MQ below (va_Qi (fun (r : Int32) (_ : Unit) => (r = 1 ∧ (0 : Int) ≤ 0) ∨ (r = 0 ∧ (0 : Int) ≤ 0)) (fun (_ : Unit) (t : State) => va_P (dC, dI) vwCl [eO h0 0 [v0, v1, v2, .ref qg, v4, v5, v6, .int acc, v8, v9, v10, v11, v12], eI qg kg 8 fg] t.heap ∧ va_K (dC, dI) vwCl [(kg, .boolean)] t ∧ va_D A [eO h0 0 [v0, v1, v2, .ref qg, v4, v5, v6, .int acc, v8, v9, v10, v11, v12], eI qg kg 8 fg]) A) (([.ref h0] : List Value).toArray) s 0 0 A) → W p l e ({ frames := 0, cells := 0, slots := 0, locals := 0 }) s m (([.ref h0] : List Value).toArray) below meth c s.heap [] 0 0 Q9 (F0 m 0 ls []) from key9 _ rfl
  intro Q9 hQ9
  have k_0 : (0 : Int32).toInt = 0 := by decide
  have k_1 : (1 : Int32).toInt = 1 := by decide
  refine lv_iconst (v := 0) hx hb dX0_hasAllGates_0 (by decide) ?_
  refine lv_istore_n (lv' := [(1, .int 0), (0, .ref h0)]) hx hb dX0_hasAllGates_1 rfl hl (by decide) rfl (fun ls hl => ?_)
  have loop_2 : ∀ (n i_2 : Nat) (x_2 : Int32), i_2 ≤ 8 → 8 < i_2 + n → x_2 = nI i_2 → ∀ (H : Heap) (locs : List Loc), va_K (dC, dI) vwCl [(kg, .boolean)] s → va_P (dC, dI) vwCl [eO h0 0 [v0, v1, v2, .ref qg, v4, v5, v6, .int acc, v8, v9, v10, v11, v12], eI qg kg 8 fg] H → va_D A [eO h0 0 [v0, v1, v2, .ref qg, v4, v5, v6, .int acc, v8, v9, v10, v11, v12], eI qg kg 8 fg] → va_S A s.heap H locs → ∀ (ls : Array Slot), lv_has ls 2 [(1, .int x_2), (0, .ref h0)] → W p l e ({ frames := 0, cells := 0, slots := 0, locals := 0 }) s m (([.ref h0] : List Value).toArray) below meth c H locs 0 0 Q9 (F0 m 2 ls []) := by
    intro n
    induction n with
    | zero => intro i_2 x_2 h1 h2; exact absurd h2 (by omega)
    | succ n ih_2 =>
      intro i_2 x_2 hi_2 hn_2 e_x_2 H locs hK hP hD hS ls hl
      have t_x_2 : x_2.toInt = (i_2 : Int) := by rw [e_x_2]; exact nI_toInt (by omega)
      refine lv_iload_n hx hb dX0_hasAllGates_2 rfl (lv_at hl 0 rfl) ?_
      refine lv_aload_n hx hb dX0_hasAllGates_3 rfl (lv_at hl 1 rfl) ?_
      refine va_get (D := (dC, dI)) (ci := 0) (v := .int acc) (C := RX0) (T := TX0) (N := 13) hx hb hts (fun w h => List.mem_cons_of_mem _ (inlX0 w h)) hown hK hP 0 rfl rfl 7 (by decide) (hts (.fieldLink RX0 34 "ClearingGates$Books" "accounts" "I") (List.mem_cons_of_mem _ mw_112)) (fun _ h9 => h9) rfl dX0_hasAllGates_4 ?_
      refine lv_icmp_ge (tgt := 27) hx hb dX0_hasAllGates_7 (by decide) (fun c1 => ?_) (fun c1 => ?_)
      · skip
        have f_c1 := i_le c1
        refine lv_iconst (v := 1) hx hb dX0_hasAllGates_27 (by decide) ?_
        rw [hQ9]
        exact W.zret (v := 1) hx hb hr (by decide) (fun t ht hW => ⟨⟨1, (), rfl, Or.inl ⟨rfl, by first | trivial | omega⟩, by rw [ht]; exact hP, va_K.moved hW.alike hK, hD⟩, hS.F ht⟩) hS.2.2 dX0_hasAllGates_28
      · skip
        have f_c1 := i_nle c1
        refine lv_aload_n hx hb dX0_hasAllGates_10 rfl (lv_at hl 1 rfl) ?_
        refine va_get (D := (dC, dI)) (ci := 0) (v := .ref qg) (C := RX0) (T := TX0) (N := 13) hx hb hts (fun w h => List.mem_cons_of_mem _ (inlX0 w h)) hown hK hP 0 rfl rfl 3 (by decide) (hts (.fieldLink RX0 21 "ClearingGates$Books" "gates" "[Z") (List.mem_cons_of_mem _ mw_101)) (fun _ h9 => h9) rfl dX0_hasAllGates_11 ?_
        refine lv_iload_n hx hb dX0_hasAllGates_14 rfl (lv_at hl 0 rfl) ?_
        refine va_zald (D := (dC, dI)) hx hb hK hP 1 0 rfl rfl (vp_in_iff.mpr ⟨by omega, by omega⟩) dX0_hasAllGates_15 ?_
        refine lv_topi (fun z2 e_z2 => ?_)
        refine lv_if_ne (tgt := 21) hx hb dX0_hasAllGates_16 (by decide) (fun c3 => ?_) (fun c3 => ?_)
        · skip
          have f_c3 := i_ne c3
          obtain ⟨x4, e_x4⟩ : ∃ yy : Int32, yy = x_2 + 1 := ⟨_, rfl⟩
          refine lv_iinc (v := x4) (lv' := [(1, .int x4), (0, .ref h0)]) hx hb dX0_hasAllGates_21 hl (k := 0) rfl (by rw [e_x4]; rfl) (by decide) rfl (fun ls hl => ?_)
          refine lv_goto (tgt := 2) hx hb dX0_hasAllGates_24 (by decide) ?_
          exact ih_2 (i_2 + 1) x4 (by omega) (by omega) (by rw [e_x4, e_x_2]; exact nI_1 i_2)   _ _ (K_s hK [(0, 1)] rfl) (P_s hP [(0, 2)] rfl) (D_s hD [(0, 2)] 2 rfl (by decide +kernel) rfl) hS ls (lv_sub hl [0, 1] rfl)
        · skip
          have f_c3 := i_eq c3
          refine lv_iconst (v := 0) hx hb dX0_hasAllGates_19 (by decide) ?_
          rw [hQ9]
          exact W.zret (v := 0) hx hb hr (by decide) (fun t ht hW => ⟨⟨0, (), rfl, Or.inr (⟨rfl, by first | trivial | omega⟩), by rw [ht]; exact hP, va_K.moved hW.alike hK, hD⟩, hS.F ht⟩) hS.2.2 dX0_hasAllGates_20
  exact loop_2 (8 + 1) 0 0 (by omega) (by omega) rfl   _ _ hK hP hD hS ls hl

set_option maxRecDepth 100000 in
set_option maxHeartbeats 4000000 in
/-- Books.feeOf -/
theorem c_X0_feeOf (l : Launch) (dC : Nat → ClassId) (dI : Nat → Nat → Nat) (h0 : Nat) (p0 : Int32) (p1 : Int32) (qa : Nat) (v1 : Value) (v2 : Value) (v3 : Value) (v4 : Value) (v5 : Value) (v6 : Value) (v7 : Value) (v8 : Value) (v9 : Value) (v10 : Value) (v11 : Value) (v12 : Value) (ka : ClassId) (fa : Nat → Int32) (sz : Nat) (h1 : 0 ≤ p0.toInt) (h2 : p0.toInt < 8) : Met l yX0_feeOf wsX0_feeOf ({ frames := 1, cells := 0, slots := 0, locals := 21 }) (va_Pc [.ref h0, .int p0, .int p1] (fun U => U.heap.size = sz ∧ va_P (dC, dI) vwCl [eO h0 0 [.ref qa, v1, v2, v3, v4, v5, v6, v7, v8, v9, v10, v11, v12], eI qa ka 8 fa] U.heap ∧ va_K (dC, dI) vwCl [(ka, .int)] U ∧ va_D (fun _ => True) [eO h0 0 [.ref qa, v1, v2, v3, v4, v5, v6, v7, v8, v9, v10, v11, v12], eI qa ka 8 fa])) (va_Qi (fun (r : Int32) (_ : Unit) => True) (fun (_ : Unit) (t : State) => va_P (dC, dI) vwCl [eO h0 0 [.ref qa, v1, v2, v3, v4, v5, v6, v7, v8, v9, v10, v11, v12], eI qa ka 8 fa] t.heap ∧ va_K (dC, dI) vwCl [(ka, .int)] t ∧ va_D (va_A [eO h0 0 [.ref qa, v1, v2, v3, v4, v5, v6, v7, v8, v9, v10, v11, v12], eI qa ka 8 fa] sz) [eO h0 0 [.ref qa, v1, v2, v3, v4, v5, v6, v7, v8, v9, v10, v11, v12], eI qa ka 8 fa]) (va_A [eO h0 0 [.ref qa, v1, v2, v3, v4, v5, v6, v7, v8, v9, v10, v11, v12], eI qa ka 8 fa] sz)) 0 0 (va_A [eO h0 0 [.ref qa, v1, v2, v3, v4, v5, v6, v7, v8, v9, v10, v11, v12], eI qa ka 8 fa] sz) := by
  refine Met.ofW (cc := cX0_feeOf) (maxL := 3) (ret := (some .int)) (by decide) rfl ?_
  intro p e s m args below meth c s₁ B hml hv
  obtain ⟨rfl, hsz, hP, hK, hD0⟩ := hv
  have hx := B.exec
  have hb := B.bytes
  have hr := B.returns
  have hts := atoms_spec (ws := wsX0_feeOf) B.pre
  have hown : s.vm.findClass RX0 = some m.cls := findClass_of_methodNamed B.named
  have hlocks := B.notSynchronized
  subst hsz
  have hD := hD0.self (sz := s.heap.size)
  generalize hAe : va_A [eO h0 0 [.ref qa, v1, v2, v3, v4, v5, v6, v7, v8, v9, v10, v11, v12], eI qa ka 8 fa] s.heap.size = A at hD ⊢
  have hA : ∀ q : Nat, s.heap.size ≤ q → A q := fun q h => by rw [← hAe]; exact Or.inr h
  have hS : va_S A s.heap s.heap [] := va_S.rf
  have hP : va_P (dC, dI) vwCl [eO h0 0 [.ref qa, v1, v2, v3, v4, v5, v6, v7, v8, v9, v10, v11, v12], eI qa ka 8 fa] s.heap := hP
  have hl := lv_entry ([.ref h0, .int p0, .int p1]) (n := 3) (Nat.le_of_ble_eq_true rfl)
  rw [lg_entry_eq]
  generalize (lg_sl ([.ref h0, .int p0, .int p1]) ++ List.replicate (3 - (lg_sl ([.ref h0, .int p0, .int p1])).length) Slot.unset).toArray = ls at hl ⊢
  have hl : lv_has ls 3 [(0, .ref h0), (1, .int p0), (2, .int p1)] := hl
  suffices key9 : ∀ Q9 : State → Prop, Q9 = (MQ below (va_Qi (fun (r : Int32) (_ : Unit) => True) (fun (_ : Unit) (t : State) => va_P (dC, dI) vwCl [eO h0 0 [.ref qa, v1, v2, v3, v4, v5, v6, v7, v8, v9, v10, v11, v12], eI qa ka 8 fa] t.heap ∧ va_K (dC, dI) vwCl [(ka, .int)] t ∧ va_D A [eO h0 0 [.ref qa, v1, v2, v3, v4, v5, v6, v7, v8, v9, v10, v11, v12], eI qa ka 8 fa]) A) (([.ref h0, .int p0, .int p1] : List Value).toArray) s 0 0 A) → W p l e ({ frames := 1, cells := 0, slots := 0, locals := 21 }) s m (([.ref h0, .int p0, .int p1] : List Value).toArray) below meth c s.heap [] 0 0 Q9 (F0 m 0 ls []) from key9 _ rfl
  intro Q9 hQ9
  refine lv_aload_n hx hb dX0_feeOf_0 rfl (lv_at hl 0 rfl) ?_
  refine va_get (D := (dC, dI)) (ci := 0) (v := .ref qa) (C := RX0) (T := TX0) (N := 13) hx hb hts (fun w h => List.mem_cons_of_mem _ (inlX0 w h)) hown hK hP 0 rfl rfl 0 (by decide) (hts (.fieldLink RX0 9 "ClearingGates$Books" "kinds" "[I") (List.mem_cons_of_mem _ mw_94)) (fun _ h9 => h9) rfl dX0_feeOf_1 ?_
  refine lv_iload_n hx hb dX0_feeOf_4 rfl (lv_at hl 1 rfl) ?_
  refine va_iald (D := (dC, dI)) hx hb hK hP 1 0 rfl rfl (vp_in_iff.mpr ⟨by omega, by omega⟩) dX0_feeOf_5 ?_
  refine lv_topi (fun z1 e_z1 => ?_)
  refine lv_iload_n hx hb dX0_feeOf_6 rfl (lv_at hl 2 rfl) ?_
  obtain ⟨hPc, hDc, hFc, hCm, hNw⟩ := C_s (wc := []) hP hD hS hA [] 2 rfl (by decide +kernel) rfl
  have hKc := K_s (tys' := []) hK [] rfl
  refine va_calli (va_runS (As := [.int z1, .int p1]) (rest := []) ⟨hx, hb, hml, hown, hts⟩ (c_X2_feeOf l dC dI z1 p1 s.heap.size) (va_cwS 2 hts gX0_feeOf_X2_feeOf rfl rfl rfl (by decide +kernel) ⟨Nat.le_of_ble_eq_true rfl, Nat.le_of_ble_eq_true rfl⟩) ⟨fun a U g mk q => by obtain ⟨q0, q1, qP, qK, qD⟩ := q; exact ⟨q0, q1, qP, va_K.moved (u := U) (U := U.calling g mk a) (Vm.Alike.refl U.vm) qK, qD⟩, fun U hU hW => ⟨rfl, by rw [hU], by rw [hU]; exact hPc, va_K.moved hW.alike hKc, hDc.weaken (fun _ _ _ _ => trivial)⟩⟩ rfl rfl hl.1 rfl (lv_room (Nat.le_of_ble_eq_true rfl)) dX0_feeOf_7 ⟨Nat.le_of_ble_eq_true rfl, Nat.le_of_ble_eq_true rfl⟩) hS (fun q _ h => hFc q h) hFc (fun r2 u t H1 locs ht hvm hw hB hz1 hk1 hS => ?_)
  obtain ⟨hP1, hK1, hD1⟩ := hB
  rw [ht] at hP1
  have hK1 := va_K.moved hvm.symm hK1
  try dsimp only at hw
  obtain ⟨hP, hD⟩ := J_s (wL := [eO h0 0 [.ref qa, v1, v2, v3, v4, v5, v6, v7, v8, v9, v10, v11, v12], eI qa ka 8 fa]) hP hD [] [(0, 2)] hCm hNw (by decide +kernel) hk1 hFc hP1 hD1 rfl
  have hK := KJ_s (tys' := [(ka, .int)]) hK hK1 [(0, 1)] rfl
  generalize H1 = H at hP hS ⊢
  rw [hQ9]
  exact W.iret (v := r2) hx hb hr (fun t ht hW => ⟨⟨r2, (), rfl, (by first | rfl | trivial), by rw [ht]; exact hP, va_K.moved hW.alike hK, hD⟩, hS.F ht⟩) hS.2.2 dX0_feeOf_10

set_option maxRecDepth 100000 in
set_option maxHeartbeats 4000000 in
/-- Books.floorOf -/
theorem c_X0_floorOf (l : Launch) (dC : Nat → ClassId) (dI : Nat → Nat → Nat) (h0 : Nat) (p0 : Int32) (qa : Nat) (v1 : Value) (qb : Nat) (v3 : Value) (v4 : Value) (v5 : Value) (v6 : Value) (v7 : Value) (v8 : Value) (v9 : Value) (v10 : Value) (v11 : Value) (v12 : Value) (ka : ClassId) (fa : Nat → Int32) (kb : ClassId) (fb : Nat → Int32) (sz : Nat) (h1 : 0 ≤ p0.toInt) (h2 : p0.toInt < 8) : Met l yX0_floorOf wsX0_floorOf ({ frames := 1, cells := 0, slots := 0, locals := 21 }) (va_Pc [.ref h0, .int p0] (fun U => U.heap.size = sz ∧ va_P (dC, dI) vwCl [eO h0 0 [.ref qa, v1, .ref qb, v3, v4, v5, v6, v7, v8, v9, v10, v11, v12], eI qa ka 8 fa, eI qb kb 8 fb] U.heap ∧ va_K (dC, dI) vwCl [(ka, .int), (kb, .int)] U ∧ va_D (fun _ => True) [eO h0 0 [.ref qa, v1, .ref qb, v3, v4, v5, v6, v7, v8, v9, v10, v11, v12], eI qa ka 8 fa, eI qb kb 8 fb])) (va_Qi (fun (r : Int32) (_ : Unit) => True) (fun (_ : Unit) (t : State) => va_P (dC, dI) vwCl [eO h0 0 [.ref qa, v1, .ref qb, v3, v4, v5, v6, v7, v8, v9, v10, v11, v12], eI qa ka 8 fa, eI qb kb 8 fb] t.heap ∧ va_K (dC, dI) vwCl [(ka, .int), (kb, .int)] t ∧ va_D (va_A [eO h0 0 [.ref qa, v1, .ref qb, v3, v4, v5, v6, v7, v8, v9, v10, v11, v12], eI qa ka 8 fa, eI qb kb 8 fb] sz) [eO h0 0 [.ref qa, v1, .ref qb, v3, v4, v5, v6, v7, v8, v9, v10, v11, v12], eI qa ka 8 fa, eI qb kb 8 fb]) (va_A [eO h0 0 [.ref qa, v1, .ref qb, v3, v4, v5, v6, v7, v8, v9, v10, v11, v12], eI qa ka 8 fa, eI qb kb 8 fb] sz)) 0 0 (va_A [eO h0 0 [.ref qa, v1, .ref qb, v3, v4, v5, v6, v7, v8, v9, v10, v11, v12], eI qa ka 8 fa, eI qb kb 8 fb] sz) := by
  refine Met.ofW (cc := cX0_floorOf) (maxL := 2) (ret := (some .int)) (by decide) rfl ?_
  intro p e s m args below meth c s₁ B hml hv
  obtain ⟨rfl, hsz, hP, hK, hD0⟩ := hv
  have hx := B.exec
  have hb := B.bytes
  have hr := B.returns
  have hts := atoms_spec (ws := wsX0_floorOf) B.pre
  have hown : s.vm.findClass RX0 = some m.cls := findClass_of_methodNamed B.named
  have hlocks := B.notSynchronized
  subst hsz
  have hD := hD0.self (sz := s.heap.size)
  generalize hAe : va_A [eO h0 0 [.ref qa, v1, .ref qb, v3, v4, v5, v6, v7, v8, v9, v10, v11, v12], eI qa ka 8 fa, eI qb kb 8 fb] s.heap.size = A at hD ⊢
  have hA : ∀ q : Nat, s.heap.size ≤ q → A q := fun q h => by rw [← hAe]; exact Or.inr h
  have hS : va_S A s.heap s.heap [] := va_S.rf
  have hP : va_P (dC, dI) vwCl [eO h0 0 [.ref qa, v1, .ref qb, v3, v4, v5, v6, v7, v8, v9, v10, v11, v12], eI qa ka 8 fa, eI qb kb 8 fb] s.heap := hP
  have hl := lv_entry ([.ref h0, .int p0]) (n := 2) (Nat.le_of_ble_eq_true rfl)
  rw [lg_entry_eq]
  generalize (lg_sl ([.ref h0, .int p0]) ++ List.replicate (2 - (lg_sl ([.ref h0, .int p0])).length) Slot.unset).toArray = ls at hl ⊢
  have hl : lv_has ls 2 [(0, .ref h0), (1, .int p0)] := hl
  suffices key9 : ∀ Q9 : State → Prop, Q9 = (MQ below (va_Qi (fun (r : Int32) (_ : Unit) => True) (fun (_ : Unit) (t : State) => va_P (dC, dI) vwCl [eO h0 0 [.ref qa, v1, .ref qb, v3, v4, v5, v6, v7, v8, v9, v10, v11, v12], eI qa ka 8 fa, eI qb kb 8 fb] t.heap ∧ va_K (dC, dI) vwCl [(ka, .int), (kb, .int)] t ∧ va_D A [eO h0 0 [.ref qa, v1, .ref qb, v3, v4, v5, v6, v7, v8, v9, v10, v11, v12], eI qa ka 8 fa, eI qb kb 8 fb]) A) (([.ref h0, .int p0] : List Value).toArray) s 0 0 A) → W p l e ({ frames := 1, cells := 0, slots := 0, locals := 21 }) s m (([.ref h0, .int p0] : List Value).toArray) below meth c s.heap [] 0 0 Q9 (F0 m 0 ls []) from key9 _ rfl
  intro Q9 hQ9
  refine lv_aload_n hx hb dX0_floorOf_0 rfl (lv_at hl 0 rfl) ?_
  refine va_get (D := (dC, dI)) (ci := 0) (v := .ref qa) (C := RX0) (T := TX0) (N := 13) hx hb hts (fun w h => List.mem_cons_of_mem _ (inlX0 w h)) hown hK hP 0 rfl rfl 0 (by decide) (hts (.fieldLink RX0 9 "ClearingGates$Books" "kinds" "[I") (List.mem_cons_of_mem _ mw_94)) (fun _ h9 => h9) rfl dX0_floorOf_1 ?_
  refine lv_iload_n hx hb dX0_floorOf_4 rfl (lv_at hl 1 rfl) ?_
  refine va_iald (D := (dC, dI)) hx hb hK hP 1 0 rfl rfl (vp_in_iff.mpr ⟨by omega, by omega⟩) dX0_floorOf_5 ?_
  refine lv_topi (fun z1 e_z1 => ?_)
  refine lv_aload_n hx hb dX0_floorOf_6 rfl (lv_at hl 0 rfl) ?_
  refine va_get (D := (dC, dI)) (ci := 0) (v := .ref qb) (C := RX0) (T := TX0) (N := 13) hx hb hts (fun w h => List.mem_cons_of_mem _ (inlX0 w h)) hown hK hP 0 rfl rfl 2 (by decide) (hts (.fieldLink RX0 18 "ClearingGates$Books" "limits" "[I") (List.mem_cons_of_mem _ mw_99)) (fun _ h9 => h9) rfl dX0_floorOf_7 ?_
  refine lv_iload_n hx hb dX0_floorOf_10 rfl (lv_at hl 1 rfl) ?_
  refine va_iald (D := (dC, dI)) hx hb hK hP 2 1 rfl rfl (vp_in_iff.mpr ⟨by omega, by omega⟩) dX0_floorOf_11 ?_
  refine lv_topi (fun z2 e_z2 => ?_)
  obtain ⟨hPc, hDc, hFc, hCm, hNw⟩ := C_s (wc := []) hP hD hS hA [] 3 rfl (by decide +kernel) rfl
  have hKc := K_s (tys' := []) hK [] rfl
  refine va_calli (va_runS (As := [.int z1, .int z2]) (rest := []) ⟨hx, hb, hml, hown, hts⟩ (c_X2_floorOf l dC dI z1 z2 s.heap.size) (va_cwS 2 hts gX0_floorOf_X2_floorOf rfl rfl rfl (by decide +kernel) ⟨Nat.le_of_ble_eq_true rfl, Nat.le_of_ble_eq_true rfl⟩) ⟨fun a U g mk q => by obtain ⟨q0, q1, qP, qK, qD⟩ := q; exact ⟨q0, q1, qP, va_K.moved (u := U) (U := U.calling g mk a) (Vm.Alike.refl U.vm) qK, qD⟩, fun U hU hW => ⟨rfl, by rw [hU], by rw [hU]; exact hPc, va_K.moved hW.alike hKc, hDc.weaken (fun _ _ _ _ => trivial)⟩⟩ rfl rfl hl.1 rfl (lv_room (Nat.le_of_ble_eq_true rfl)) dX0_floorOf_12 ⟨Nat.le_of_ble_eq_true rfl, Nat.le_of_ble_eq_true rfl⟩) hS (fun q _ h => hFc q h) hFc (fun r3 u t H1 locs ht hvm hw hB hz1 hk1 hS => ?_)
  obtain ⟨hP1, hK1, hD1⟩ := hB
  rw [ht] at hP1
  have hK1 := va_K.moved hvm.symm hK1
  try dsimp only at hw
  obtain ⟨hP, hD⟩ := J_s (wL := [eO h0 0 [.ref qa, v1, .ref qb, v3, v4, v5, v6, v7, v8, v9, v10, v11, v12], eI qa ka 8 fa, eI qb kb 8 fb]) hP hD [] [(0, 3)] hCm hNw (by decide +kernel) hk1 hFc hP1 hD1 rfl
  have hK := KJ_s (tys' := [(ka, .int), (kb, .int)]) hK hK1 [(0, 2)] rfl
  generalize H1 = H at hP hS ⊢
  rw [hQ9]
  exact W.iret (v := r3) hx hb hr (fun t ht hW => ⟨⟨r3, (), rfl, (by first | rfl | trivial), by rw [ht]; exact hP, va_K.moved hW.alike hK, hD⟩, hS.F ht⟩) hS.2.2 dX0_floorOf_15

set_option maxRecDepth 100000 in
set_option maxHeartbeats 4000000 in
/-- Books.open -/
theorem c_X0_open (l : Launch) (dC : Nat → ClassId) (dI : Nat → Nat → Nat) (h0 : Nat) (p0 : Int32) (p1 : Int32) (aq0 : Nat) (aq1 : Nat) (aq2 : Nat) (aq3 : Nat) (aq4 : Nat) (aq5 : Nat) (aq6 : Nat) (aacc : Int32) (afees : Int64) (amis : Int32) (abel : Int32) (aref : Int32) (acau : Int32) (ak0 : ClassId) (ag0 : Nat → Int32) (ak1 : ClassId) (ag1 : Nat → Int32) (ak2 : ClassId) (ag2 : Nat → Int32) (ak3 : ClassId) (ag3 : Nat → Int32) (ak4 : ClassId) (ag4 : Nat → Int32) (ak5 : ClassId) (ag5 : Nat → Int32) (ak6 : ClassId) (ag6 : Nat → Int32) (sz : Nat) (h1 : 0 ≤ aacc.toInt) (h2 : aacc.toInt < 8) : Met l yX0_open wsX0_open ({ frames := 0, cells := 0, slots := 0, locals := 0 }) (va_Pc [.ref h0, .int p0, .int p1] (fun U => U.heap.size = sz ∧ va_P (dC, dI) vwCl [eO h0 0 [.ref aq0, .ref aq1, .ref aq2, .ref aq3, .ref aq4, .ref aq5, .ref aq6, .int aacc, .long afees, .int amis, .int abel, .int aref, .int acau], eI aq0 ak0 8 ag0, eI aq1 ak1 8 ag1, eI aq2 ak2 8 ag2, eI aq3 ak3 8 ag3, eI aq4 ak4 8 ag4, eI aq5 ak5 8 ag5, eI aq6 ak6 8 ag6] U.heap ∧ va_K (dC, dI) vwCl [(ak0, .int), (ak1, .int), (ak2, .int), (ak3, .boolean), (ak4, .int), (ak5, .int), (ak6, .int)] U ∧ va_D (fun _ => True) [eO h0 0 [.ref aq0, .ref aq1, .ref aq2, .ref aq3, .ref aq4, .ref aq5, .ref aq6, .int aacc, .long afees, .int amis, .int abel, .int aref, .int acau], eI aq0 ak0 8 ag0, eI aq1 ak1 8 ag1, eI aq2 ak2 8 ag2, eI aq3 ak3 8 ag3, eI aq4 ak4 8 ag4, eI aq5 ak5 8 ag5, eI aq6 ak6 8 ag6])) (va_Qi (fun (r : Int32) (_ : Unit) => r = aacc) (fun (_ : Unit) (t : State) => ∃ (ag0' : Nat → Int32), ∃ (ag1' : Nat → Int32), ∃ (ag2' : Nat → Int32), ∃ (ag3' : Nat → Int32), ∃ (ag4' : Nat → Int32), ∃ (ag5' : Nat → Int32), ∃ (ag6' : Nat → Int32), ∃ (aacc' : Int32), (aacc'.toInt = aacc.toInt + 1) ∧ (ag0' = upd ag0 aacc.toInt.toNat p0) ∧ (ag1' = upd ag1 aacc.toInt.toNat p1) ∧ (ag2' = upd ag2 aacc.toInt.toNat 0) ∧ (ag3' = upd ag3 aacc.toInt.toNat 1) ∧ (ag4' = upd ag4 aacc.toInt.toNat 0) ∧ (ag5' = upd ag5 aacc.toInt.toNat 0) ∧ (ag6' = upd ag6 aacc.toInt.toNat 0) ∧ va_P (dC, dI) vwCl [eO h0 0 [.ref aq0, .ref aq1, .ref aq2, .ref aq3, .ref aq4, .ref aq5, .ref aq6, .int aacc', .long afees, .int amis, .int abel, .int aref, .int acau], eI aq0 ak0 8 (ag0'), eI aq1 ak1 8 (ag1'), eI aq2 ak2 8 (ag2'), eI aq3 ak3 8 (ag3'), eI aq4 ak4 8 (ag4'), eI aq5 ak5 8 (ag5'), eI aq6 ak6 8 (ag6')] t.heap ∧ va_K (dC, dI) vwCl [(ak0, .int), (ak1, .int), (ak2, .int), (ak3, .boolean), (ak4, .int), (ak5, .int), (ak6, .int)] t ∧ va_D (va_A [eO h0 0 [.ref aq0, .ref aq1, .ref aq2, .ref aq3, .ref aq4, .ref aq5, .ref aq6, .int aacc, .long afees, .int amis, .int abel, .int aref, .int acau], eI aq0 ak0 8 ag0, eI aq1 ak1 8 ag1, eI aq2 ak2 8 ag2, eI aq3 ak3 8 ag3, eI aq4 ak4 8 ag4, eI aq5 ak5 8 ag5, eI aq6 ak6 8 ag6] sz) [eO h0 0 [.ref aq0, .ref aq1, .ref aq2, .ref aq3, .ref aq4, .ref aq5, .ref aq6, .int aacc', .long afees, .int amis, .int abel, .int aref, .int acau], eI aq0 ak0 8 (ag0'), eI aq1 ak1 8 (ag1'), eI aq2 ak2 8 (ag2'), eI aq3 ak3 8 (ag3'), eI aq4 ak4 8 (ag4'), eI aq5 ak5 8 (ag5'), eI aq6 ak6 8 (ag6')]) (va_A [eO h0 0 [.ref aq0, .ref aq1, .ref aq2, .ref aq3, .ref aq4, .ref aq5, .ref aq6, .int aacc, .long afees, .int amis, .int abel, .int aref, .int acau], eI aq0 ak0 8 ag0, eI aq1 ak1 8 ag1, eI aq2 ak2 8 ag2, eI aq3 ak3 8 ag3, eI aq4 ak4 8 ag4, eI aq5 ak5 8 ag5, eI aq6 ak6 8 ag6] sz)) 0 0 (va_A [eO h0 0 [.ref aq0, .ref aq1, .ref aq2, .ref aq3, .ref aq4, .ref aq5, .ref aq6, .int aacc, .long afees, .int amis, .int abel, .int aref, .int acau], eI aq0 ak0 8 ag0, eI aq1 ak1 8 ag1, eI aq2 ak2 8 ag2, eI aq3 ak3 8 ag3, eI aq4 ak4 8 ag4, eI aq5 ak5 8 ag5, eI aq6 ak6 8 ag6] sz) := by
  refine Met.ofW (cc := cX0_open) (maxL := 4) (ret := (some .int)) (by decide) rfl ?_
  intro p e s m args below meth c s₁ B hml hv
  obtain ⟨rfl, hsz, hP, hK, hD0⟩ := hv
  have hx := B.exec
  have hb := B.bytes
  have hr := B.returns
  have hts := atoms_spec (ws := wsX0_open) B.pre
  have hown : s.vm.findClass RX0 = some m.cls := findClass_of_methodNamed B.named
  have hlocks := B.notSynchronized
  subst hsz
  have hD := hD0.self (sz := s.heap.size)
  generalize hAe : va_A [eO h0 0 [.ref aq0, .ref aq1, .ref aq2, .ref aq3, .ref aq4, .ref aq5, .ref aq6, .int aacc, .long afees, .int amis, .int abel, .int aref, .int acau], eI aq0 ak0 8 ag0, eI aq1 ak1 8 ag1, eI aq2 ak2 8 ag2, eI aq3 ak3 8 ag3, eI aq4 ak4 8 ag4, eI aq5 ak5 8 ag5, eI aq6 ak6 8 ag6] s.heap.size = A at hD ⊢
  have hA : ∀ q : Nat, s.heap.size ≤ q → A q := fun q h => by rw [← hAe]; exact Or.inr h
  have hS : va_S A s.heap s.heap [] := va_S.rf
  have hP : va_P (dC, dI) vwCl [eO h0 0 [.ref aq0, .ref aq1, .ref aq2, .ref aq3, .ref aq4, .ref aq5, .ref aq6, .int aacc, .long afees, .int amis, .int abel, .int aref, .int acau], eI aq0 ak0 8 ag0, eI aq1 ak1 8 ag1, eI aq2 ak2 8 ag2, eI aq3 ak3 8 ag3, eI aq4 ak4 8 ag4, eI aq5 ak5 8 ag5, eI aq6 ak6 8 ag6] s.heap := hP
  have hl := lv_entry ([.ref h0, .int p0, .int p1]) (n := 4) (Nat.le_of_ble_eq_true rfl)
  rw [lg_entry_eq]
  generalize (lg_sl ([.ref h0, .int p0, .int p1]) ++ List.replicate (4 - (lg_sl ([.ref h0, .int p0, .int p1])).length) Slot.unset).toArray = ls at hl ⊢
  have hl : lv_has ls 4 [(0, .ref h0), (1, .int p0), (2, .int p1)] := hl
  suffices key9 : ∀ Q9 : State → Prop, Q9 = (MQ below (va_Qi (fun (r : Int32) (_ : Unit) => r = aacc) (fun (_ : Unit) (t : State) => ∃ (ag0' : Nat → Int32), ∃ (ag1' : Nat → Int32), ∃ (ag2' : Nat → Int32), ∃ (ag3' : Nat → Int32), ∃ (ag4' : Nat → Int32), ∃ (ag5' : Nat → Int32), ∃ (ag6' : Nat → Int32), ∃ (aacc' : Int32), (aacc'.toInt = aacc.toInt + 1) ∧ (ag0' = upd ag0 aacc.toInt.toNat p0) ∧ (ag1' = upd ag1 aacc.toInt.toNat p1) ∧ (ag2' = upd ag2 aacc.toInt.toNat 0) ∧ (ag3' = upd ag3 aacc.toInt.toNat 1) ∧ (ag4' = upd ag4 aacc.toInt.toNat 0) ∧ (ag5' = upd ag5 aacc.toInt.toNat 0) ∧ (ag6' = upd ag6 aacc.toInt.toNat 0) ∧ va_P (dC, dI) vwCl [eO h0 0 [.ref aq0, .ref aq1, .ref aq2, .ref aq3, .ref aq4, .ref aq5, .ref aq6, .int aacc', .long afees, .int amis, .int abel, .int aref, .int acau], eI aq0 ak0 8 (ag0'), eI aq1 ak1 8 (ag1'), eI aq2 ak2 8 (ag2'), eI aq3 ak3 8 (ag3'), eI aq4 ak4 8 (ag4'), eI aq5 ak5 8 (ag5'), eI aq6 ak6 8 (ag6')] t.heap ∧ va_K (dC, dI) vwCl [(ak0, .int), (ak1, .int), (ak2, .int), (ak3, .boolean), (ak4, .int), (ak5, .int), (ak6, .int)] t ∧ va_D A [eO h0 0 [.ref aq0, .ref aq1, .ref aq2, .ref aq3, .ref aq4, .ref aq5, .ref aq6, .int aacc', .long afees, .int amis, .int abel, .int aref, .int acau], eI aq0 ak0 8 (ag0'), eI aq1 ak1 8 (ag1'), eI aq2 ak2 8 (ag2'), eI aq3 ak3 8 (ag3'), eI aq4 ak4 8 (ag4'), eI aq5 ak5 8 (ag5'), eI aq6 ak6 8 (ag6')]) A) (([.ref h0, .int p0, .int p1] : List Value).toArray) s 0 0 A) → W p l e ({ frames := 0, cells := 0, slots := 0, locals := 0 }) s m (([.ref h0, .int p0, .int p1] : List Value).toArray) below meth c s.heap [] 0 0 Q9 (F0 m 0 ls []) from key9 _ rfl
  intro Q9 hQ9
  have k_1 : (1 : Int32).toInt = 1 := by decide
  refine lv_aload_n hx hb dX0_open_0 rfl (lv_at hl 0 rfl) ?_
  refine va_get (D := (dC, dI)) (ci := 0) (v := .int aacc) (C := RX0) (T := TX0) (N := 13) hx hb hts (fun w h => List.mem_cons_of_mem _ (inlX0 w h)) hown hK hP 0 rfl rfl 7 (by decide) (hts (.fieldLink RX0 34 "ClearingGates$Books" "accounts" "I") (List.mem_cons_of_mem _ mw_112)) (fun _ h9 => h9) rfl dX0_open_1 ?_
  refine lv_istore_n (lv' := [(3, .int aacc), (0, .ref h0), (1, .int p0), (2, .int p1)]) hx hb dX0_open_4 rfl hl (by decide) rfl (fun ls hl => ?_)
  refine lv_aload_n hx hb dX0_open_5 rfl (lv_at hl 1 rfl) ?_
  refine va_get (D := (dC, dI)) (ci := 0) (v := .ref aq0) (C := RX0) (T := TX0) (N := 13) hx hb hts (fun w h => List.mem_cons_of_mem _ (inlX0 w h)) hown hK hP 0 rfl rfl 0 (by decide) (hts (.fieldLink RX0 9 "ClearingGates$Books" "kinds" "[I") (List.mem_cons_of_mem _ mw_94)) (fun _ h9 => h9) rfl dX0_open_6 ?_
  refine lv_iload_n hx hb dX0_open_9 rfl (lv_at hl 0 rfl) ?_
  refine lv_iload_n hx hb dX0_open_10 rfl (lv_at hl 2 rfl) ?_
  refine va_iast (D := (dC, dI)) hx hb hK hP hD hS 1 0 rfl rfl (vp_in_iff.mpr ⟨by omega, by omega⟩) dX0_open_11 (fun H locs hP hD hS => ?_)
  generalize e_g1 : (upd ag0 (aacc).toNatClampNeg p0) = g1 at hP hD
  obtain ⟨hP, hD⟩ := X_s (ws' := [eO h0 0 [.ref aq0, .ref aq1, .ref aq2, .ref aq3, .ref aq4, .ref aq5, .ref aq6, .int aacc, .long afees, .int amis, .int abel, .int aref, .int acau], eI aq0 ak0 8 g1, eI aq1 ak1 8 ag1, eI aq2 ak2 8 ag2, eI aq3 ak3 8 ag3, eI aq4 ak4 8 ag4, eI aq5 ak5 8 ag5, eI aq6 ak6 8 ag6]) hP hD rfl
  refine lv_aload_n hx hb dX0_open_12 rfl (lv_at hl 1 rfl) ?_
  refine va_get (D := (dC, dI)) (ci := 0) (v := .ref aq1) (C := RX0) (T := TX0) (N := 13) hx hb hts (fun w h => List.mem_cons_of_mem _ (inlX0 w h)) hown hK hP 0 rfl rfl 1 (by decide) (hts (.fieldLink RX0 15 "ClearingGates$Books" "balances" "[I") (List.mem_cons_of_mem _ mw_96)) (fun _ h9 => h9) rfl dX0_open_13 ?_
  refine lv_iload_n hx hb dX0_open_16 rfl (lv_at hl 0 rfl) ?_
  refine lv_iload_n hx hb dX0_open_17 rfl (lv_at hl 3 rfl) ?_
  refine va_iast (D := (dC, dI)) hx hb hK hP hD hS 2 1 rfl rfl (vp_in_iff.mpr ⟨by omega, by omega⟩) dX0_open_18 (fun H locs hP hD hS => ?_)
  generalize e_g2 : (upd ag1 (aacc).toNatClampNeg p1) = g2 at hP hD
  obtain ⟨hP, hD⟩ := X_s (ws' := [eO h0 0 [.ref aq0, .ref aq1, .ref aq2, .ref aq3, .ref aq4, .ref aq5, .ref aq6, .int aacc, .long afees, .int amis, .int abel, .int aref, .int acau], eI aq0 ak0 8 g1, eI aq1 ak1 8 g2, eI aq2 ak2 8 ag2, eI aq3 ak3 8 ag3, eI aq4 ak4 8 ag4, eI aq5 ak5 8 ag5, eI aq6 ak6 8 ag6]) hP hD rfl
  refine lv_aload_n hx hb dX0_open_19 rfl (lv_at hl 1 rfl) ?_
  refine va_get (D := (dC, dI)) (ci := 0) (v := .ref aq2) (C := RX0) (T := TX0) (N := 13) hx hb hts (fun w h => List.mem_cons_of_mem _ (inlX0 w h)) hown hK hP 0 rfl rfl 2 (by decide) (hts (.fieldLink RX0 18 "ClearingGates$Books" "limits" "[I") (List.mem_cons_of_mem _ mw_99)) (fun _ h9 => h9) rfl dX0_open_20 ?_
  refine lv_iload_n hx hb dX0_open_23 rfl (lv_at hl 0 rfl) ?_
  refine lv_iconst (v := 0) hx hb dX0_open_24 (by decide) ?_
  refine va_iast (D := (dC, dI)) hx hb hK hP hD hS 3 2 rfl rfl (vp_in_iff.mpr ⟨by omega, by omega⟩) dX0_open_25 (fun H locs hP hD hS => ?_)
  generalize e_g3 : (upd ag2 (aacc).toNatClampNeg 0) = g3 at hP hD
  obtain ⟨hP, hD⟩ := X_s (ws' := [eO h0 0 [.ref aq0, .ref aq1, .ref aq2, .ref aq3, .ref aq4, .ref aq5, .ref aq6, .int aacc, .long afees, .int amis, .int abel, .int aref, .int acau], eI aq0 ak0 8 g1, eI aq1 ak1 8 g2, eI aq2 ak2 8 g3, eI aq3 ak3 8 ag3, eI aq4 ak4 8 ag4, eI aq5 ak5 8 ag5, eI aq6 ak6 8 ag6]) hP hD rfl
  refine lv_aload_n hx hb dX0_open_26 rfl (lv_at hl 1 rfl) ?_
  refine va_get (D := (dC, dI)) (ci := 0) (v := .ref aq3) (C := RX0) (T := TX0) (N := 13) hx hb hts (fun w h => List.mem_cons_of_mem _ (inlX0 w h)) hown hK hP 0 rfl rfl 3 (by decide) (hts (.fieldLink RX0 21 "ClearingGates$Books" "gates" "[Z") (List.mem_cons_of_mem _ mw_101)) (fun _ h9 => h9) rfl dX0_open_27 ?_
  refine lv_iload_n hx hb dX0_open_30 rfl (lv_at hl 0 rfl) ?_
  refine lv_iconst (v := 1) hx hb dX0_open_31 (by decide) ?_
  refine va_zast (D := (dC, dI)) hx hb hK hP hD hS 4 3 rfl rfl (vp_in_iff.mpr ⟨by omega, by omega⟩) dX0_open_32 (fun H locs hP hD hS => ?_)
  generalize e_g4 : (upd ag3 (aacc).toNatClampNeg (vp_nar .boolean 1)) = g4 at hP hD
  obtain ⟨hP, hD⟩ := X_s (ws' := [eO h0 0 [.ref aq0, .ref aq1, .ref aq2, .ref aq3, .ref aq4, .ref aq5, .ref aq6, .int aacc, .long afees, .int amis, .int abel, .int aref, .int acau], eI aq0 ak0 8 g1, eI aq1 ak1 8 g2, eI aq2 ak2 8 g3, eI aq3 ak3 8 g4, eI aq4 ak4 8 ag4, eI aq5 ak5 8 ag5, eI aq6 ak6 8 ag6]) hP hD rfl
  refine lv_aload_n hx hb dX0_open_33 rfl (lv_at hl 1 rfl) ?_
  refine va_get (D := (dC, dI)) (ci := 0) (v := .ref aq4) (C := RX0) (T := TX0) (N := 13) hx hb hts (fun w h => List.mem_cons_of_mem _ (inlX0 w h)) hown hK hP 0 rfl rfl 4 (by decide) (hts (.fieldLink RX0 25 "ClearingGates$Books" "entries" "[I") (List.mem_cons_of_mem _ mw_103)) (fun _ h9 => h9) rfl dX0_open_34 ?_
  refine lv_iload_n hx hb dX0_open_37 rfl (lv_at hl 0 rfl) ?_
  refine lv_iconst (v := 0) hx hb dX0_open_38 (by decide) ?_
  refine va_iast (D := (dC, dI)) hx hb hK hP hD hS 5 4 rfl rfl (vp_in_iff.mpr ⟨by omega, by omega⟩) dX0_open_39 (fun H locs hP hD hS => ?_)
  generalize e_g5 : (upd ag4 (aacc).toNatClampNeg 0) = g5 at hP hD
  obtain ⟨hP, hD⟩ := X_s (ws' := [eO h0 0 [.ref aq0, .ref aq1, .ref aq2, .ref aq3, .ref aq4, .ref aq5, .ref aq6, .int aacc, .long afees, .int amis, .int abel, .int aref, .int acau], eI aq0 ak0 8 g1, eI aq1 ak1 8 g2, eI aq2 ak2 8 g3, eI aq3 ak3 8 g4, eI aq4 ak4 8 g5, eI aq5 ak5 8 ag5, eI aq6 ak6 8 ag6]) hP hD rfl
  refine lv_aload_n hx hb dX0_open_40 rfl (lv_at hl 1 rfl) ?_
  refine va_get (D := (dC, dI)) (ci := 0) (v := .ref aq5) (C := RX0) (T := TX0) (N := 13) hx hb hts (fun w h => List.mem_cons_of_mem _ (inlX0 w h)) hown hK hP 0 rfl rfl 5 (by decide) (hts (.fieldLink RX0 28 "ClearingGates$Books" "leavings" "[I") (List.mem_cons_of_mem _ mw_106)) (fun _ h9 => h9) rfl dX0_open_41 ?_
  refine lv_iload_n hx hb dX0_open_44 rfl (lv_at hl 0 rfl) ?_
  refine lv_iconst (v := 0) hx hb dX0_open_45 (by decide) ?_
  refine va_iast (D := (dC, dI)) hx hb hK hP hD hS 6 5 rfl rfl (vp_in_iff.mpr ⟨by omega, by omega⟩) dX0_open_46 (fun H locs hP hD hS => ?_)
  generalize e_g6 : (upd ag5 (aacc).toNatClampNeg 0) = g6 at hP hD
  obtain ⟨hP, hD⟩ := X_s (ws' := [eO h0 0 [.ref aq0, .ref aq1, .ref aq2, .ref aq3, .ref aq4, .ref aq5, .ref aq6, .int aacc, .long afees, .int amis, .int abel, .int aref, .int acau], eI aq0 ak0 8 g1, eI aq1 ak1 8 g2, eI aq2 ak2 8 g3, eI aq3 ak3 8 g4, eI aq4 ak4 8 g5, eI aq5 ak5 8 g6, eI aq6 ak6 8 ag6]) hP hD rfl
  refine lv_aload_n hx hb dX0_open_47 rfl (lv_at hl 1 rfl) ?_
  refine va_get (D := (dC, dI)) (ci := 0) (v := .ref aq6) (C := RX0) (T := TX0) (N := 13) hx hb hts (fun w h => List.mem_cons_of_mem _ (inlX0 w h)) hown hK hP 0 rfl rfl 6 (by decide) (hts (.fieldLink RX0 31 "ClearingGates$Books" "agains" "[I") (List.mem_cons_of_mem _ mw_109)) (fun _ h9 => h9) rfl dX0_open_48 ?_
  refine lv_iload_n hx hb dX0_open_51 rfl (lv_at hl 0 rfl) ?_
  refine lv_iconst (v := 0) hx hb dX0_open_52 (by decide) ?_
  refine va_iast (D := (dC, dI)) hx hb hK hP hD hS 7 6 rfl rfl (vp_in_iff.mpr ⟨by omega, by omega⟩) dX0_open_53 (fun H locs hP hD hS => ?_)
  generalize e_g7 : (upd ag6 (aacc).toNatClampNeg 0) = g7 at hP hD
  obtain ⟨hP, hD⟩ := X_s (ws' := [eO h0 0 [.ref aq0, .ref aq1, .ref aq2, .ref aq3, .ref aq4, .ref aq5, .ref aq6, .int aacc, .long afees, .int amis, .int abel, .int aref, .int acau], eI aq0 ak0 8 g1, eI aq1 ak1 8 g2, eI aq2 ak2 8 g3, eI aq3 ak3 8 g4, eI aq4 ak4 8 g5, eI aq5 ak5 8 g6, eI aq6 ak6 8 g7]) hP hD rfl
  refine lv_aload_n hx hb dX0_open_54 rfl (lv_at hl 1 rfl) ?_
  refine lv_dup hx hb dX0_open_55 rfl ?_
  refine va_get (D := (dC, dI)) (ci := 0) (v := .int aacc) (C := RX0) (T := TX0) (N := 13) hx hb hts (fun w h => List.mem_cons_of_mem _ (inlX0 w h)) hown hK hP 0 rfl rfl 7 (by decide) (hts (.fieldLink RX0 34 "ClearingGates$Books" "accounts" "I") (List.mem_cons_of_mem _ mw_112)) (fun _ h9 => h9) rfl dX0_open_56 ?_
  refine lv_iconst (v := 1) hx hb dX0_open_59 (by decide) ?_
  refine lv_iadd hx hb dX0_open_60 ?_
  refine lv_topi (fun z8 e_z8 => ?_)
  have t_z8 := i_add e_z8 (by omega) (by omega)
  refine va_put (D := (dC, dI)) (ci := 0) (v := .int z8) (ty := .int) (C := RX0) (T := TX0) (N := 13) hx hb hts (fun w h => List.mem_cons_of_mem _ (inlX0 w h)) tyX0 tyX0_ok nmX0 hown hK hP hD hS 0 rfl rfl 7 (by decide) (hts (.fieldLink RX0 34 "ClearingGates$Books" "accounts" "I") (List.mem_cons_of_mem _ mw_112)) (fun _ h9 => h9) rfl (by decide +kernel) rfl rfl (Nat.le_of_ble_eq_true rfl) dX0_open_61 (fun H locs hP hD hS => ?_)
  obtain ⟨hP, hD⟩ := X_s (ws' := [eO h0 0 [.ref aq0, .ref aq1, .ref aq2, .ref aq3, .ref aq4, .ref aq5, .ref aq6, .int z8, .long afees, .int amis, .int abel, .int aref, .int acau], eI aq0 ak0 8 g1, eI aq1 ak1 8 g2, eI aq2 ak2 8 g3, eI aq3 ak3 8 g4, eI aq4 ak4 8 g5, eI aq5 ak5 8 g6, eI aq6 ak6 8 g7]) hP hD rfl
  refine lv_iload_n hx hb dX0_open_64 rfl (lv_at hl 0 rfl) ?_
  rw [hQ9]
  exact W.iret (v := aacc) hx hb hr (fun t ht hW => ⟨⟨aacc, (), rfl, (by first | rfl | (simp only [if_pos, if_neg, *]; done)), g1, g2, g3, g4, g5, g6, g7, z8, (by omega), (by rw [← e_g1]; rfl), (by rw [← e_g2]; rfl), (by rw [← e_g3]; rfl), (by rw [← e_g4, nar1]; rfl), (by rw [← e_g5]; rfl), (by rw [← e_g6]; rfl), (by rw [← e_g7]; rfl), by rw [ht]; exact hP, va_K.moved hW.alike hK, hD⟩, hS.F ht⟩) hS.2.2 dX0_open_65

set_option maxRecDepth 100000 in
set_option maxHeartbeats 4000000 in
/-- Books.allMoney -/
theorem c_X0_allMoney (l : Launch) (dC : Nat → ClassId) (dI : Nat → Nat → Nat) (h0 : Nat) (v0 : Value) (qa : Nat) (v2 : Value) (v3 : Value) (v4 : Value) (v5 : Value) (v6 : Value) (acc : Int32) (fe : Int64) (v9 : Value) (v10 : Value) (v11 : Value) (v12 : Value) (ka : ClassId) (fa : Nat → Int32) (sz : Nat) (hacc : acc.toInt ≤ 8) : Met l yX0_allMoney wsX0_allMoney ({ frames := 0, cells := 0, slots := 0, locals := 0 }) (va_Pc [.ref h0] (fun U => U.heap.size = sz ∧ va_P (dC, dI) vwCl [eO h0 0 [v0, .ref qa, v2, v3, v4, v5, v6, .int acc, .long fe, v9, v10, v11, v12], eI qa ka 8 fa] U.heap ∧ va_K (dC, dI) vwCl [(ka, .int)] U ∧ va_D (fun _ => True) [eO h0 0 [v0, .ref qa, v2, v3, v4, v5, v6, .int acc, .long fe, v9, v10, v11, v12], eI qa ka 8 fa])) (va_Ql (fun (r : Int64) (_ : Unit) => True) (fun (_ : Unit) (t : State) => va_P (dC, dI) vwCl [eO h0 0 [v0, .ref qa, v2, v3, v4, v5, v6, .int acc, .long fe, v9, v10, v11, v12], eI qa ka 8 fa] t.heap ∧ va_K (dC, dI) vwCl [(ka, .int)] t ∧ va_D (va_A [eO h0 0 [v0, .ref qa, v2, v3, v4, v5, v6, .int acc, .long fe, v9, v10, v11, v12], eI qa ka 8 fa] sz) [eO h0 0 [v0, .ref qa, v2, v3, v4, v5, v6, .int acc, .long fe, v9, v10, v11, v12], eI qa ka 8 fa]) (va_A [eO h0 0 [v0, .ref qa, v2, v3, v4, v5, v6, .int acc, .long fe, v9, v10, v11, v12], eI qa ka 8 fa] sz)) 0 0 (va_A [eO h0 0 [v0, .ref qa, v2, v3, v4, v5, v6, .int acc, .long fe, v9, v10, v11, v12], eI qa ka 8 fa] sz) := by
  refine Met.ofW (cc := cX0_allMoney) (maxL := 4) (ret := (some .long)) (by decide) rfl ?_
  intro p e s m args below meth c s₁ B hml hv
  obtain ⟨rfl, hsz, hP, hK, hD0⟩ := hv
  have hx := B.exec
  have hb := B.bytes
  have hr := B.returns
  have hts := atoms_spec (ws := wsX0_allMoney) B.pre
  have hown : s.vm.findClass RX0 = some m.cls := findClass_of_methodNamed B.named
  have hlocks := B.notSynchronized
  subst hsz
  have hD := hD0.self (sz := s.heap.size)
  generalize hAe : va_A [eO h0 0 [v0, .ref qa, v2, v3, v4, v5, v6, .int acc, .long fe, v9, v10, v11, v12], eI qa ka 8 fa] s.heap.size = A at hD ⊢
  have hA : ∀ q : Nat, s.heap.size ≤ q → A q := fun q h => by rw [← hAe]; exact Or.inr h
  have hS : va_S A s.heap s.heap [] := va_S.rf
  have hP : va_P (dC, dI) vwCl [eO h0 0 [v0, .ref qa, v2, v3, v4, v5, v6, .int acc, .long fe, v9, v10, v11, v12], eI qa ka 8 fa] s.heap := hP
  have hl := lv_entry ([.ref h0]) (n := 4) (Nat.le_of_ble_eq_true rfl)
  rw [lg_entry_eq]
  generalize (lg_sl ([.ref h0]) ++ List.replicate (4 - (lg_sl ([.ref h0])).length) Slot.unset).toArray = ls at hl ⊢
  have hl : lv_has ls 4 [(0, .ref h0)] := hl
  suffices key9 : ∀ Q9 : State → Prop, Q9 = (MQ below (va_Ql (fun (r : Int64) (_ : Unit) => True) (fun (_ : Unit) (t : State) => va_P (dC, dI) vwCl [eO h0 0 [v0, .ref qa, v2, v3, v4, v5, v6, .int acc, .long fe, v9, v10, v11, v12], eI qa ka 8 fa] t.heap ∧ va_K (dC, dI) vwCl [(ka, .int)] t ∧ va_D A [eO h0 0 [v0, .ref qa, v2, v3, v4, v5, v6, .int acc, .long fe, v9, v10, v11, v12], eI qa ka 8 fa]) A) (([.ref h0] : List Value).toArray) s 0 0 A) → W p l e ({ frames := 0, cells := 0, slots := 0, locals := 0 }) s m (([.ref h0] : List Value).toArray) below meth c s.heap [] 0 0 Q9 (F0 m 0 ls []) from key9 _ rfl
  intro Q9 hQ9
  refine lv_aload_n hx hb dX0_allMoney_0 rfl (lv_at hl 0 rfl) ?_
  refine va_get (D := (dC, dI)) (ci := 0) (v := .long fe) (C := RX0) (T := TX0) (N := 13) hx hb hts (fun w h => List.mem_cons_of_mem _ (inlX0 w h)) hown hK hP 0 rfl rfl 8 (by decide) (hts (.fieldLink RX0 51 "ClearingGates$Books" "fees" "J") (List.mem_cons_of_mem _ mw_114)) (fun _ h9 => h9) rfl dX0_allMoney_1 ?_
  refine lv_lstore_n (lv' := [(1, .long fe), (0, .ref h0)]) hx hb dX0_allMoney_4 rfl hl (by decide) rfl (fun ls hl => ?_)
  refine lv_iconst (v := 0) hx hb dX0_allMoney_5 (by decide) ?_
  refine lv_istore_n (lv' := [(3, .int 0), (1, .long fe), (0, .ref h0)]) hx hb dX0_allMoney_6 rfl hl (by decide) rfl (fun ls hl => ?_)
  have loop_7 : ∀ (n i_7 : Nat) (x_7 : Int32), i_7 ≤ 8 → 8 < i_7 + n → x_7 = nI i_7 → ∀ (al : Int64), ∀ (H : Heap) (locs : List Loc), va_K (dC, dI) vwCl [(ka, .int)] s → va_P (dC, dI) vwCl [eO h0 0 [v0, .ref qa, v2, v3, v4, v5, v6, .int acc, .long fe, v9, v10, v11, v12], eI qa ka 8 fa] H → va_D A [eO h0 0 [v0, .ref qa, v2, v3, v4, v5, v6, .int acc, .long fe, v9, v10, v11, v12], eI qa ka 8 fa] → va_S A s.heap H locs → ∀ (ls : Array Slot), lv_has ls 4 [(3, .int x_7), (1, .long al), (0, .ref h0)] → W p l e ({ frames := 0, cells := 0, slots := 0, locals := 0 }) s m (([.ref h0] : List Value).toArray) below meth c H locs 0 0 Q9 (F0 m 7 ls []) := by
    intro n
    induction n with
    | zero => intro i_7 x_7 h1 h2; exact absurd h2 (by omega)
    | succ n ih_7 =>
      intro i_7 x_7 hi_7 hn_7 e_x_7 al H locs hK hP hD hS ls hl
      have t_x_7 : x_7.toInt = (i_7 : Int) := by rw [e_x_7]; exact nI_toInt (by omega)
      refine lv_iload_n hx hb dX0_allMoney_7 rfl (lv_at hl 0 rfl) ?_
      refine lv_aload_n hx hb dX0_allMoney_8 rfl (lv_at hl 2 rfl) ?_
      refine va_get (D := (dC, dI)) (ci := 0) (v := .int acc) (C := RX0) (T := TX0) (N := 13) hx hb hts (fun w h => List.mem_cons_of_mem _ (inlX0 w h)) hown hK hP 0 rfl rfl 7 (by decide) (hts (.fieldLink RX0 34 "ClearingGates$Books" "accounts" "I") (List.mem_cons_of_mem _ mw_112)) (fun _ h9 => h9) rfl dX0_allMoney_9 ?_
      refine lv_icmp_ge (tgt := 31) hx hb dX0_allMoney_12 (by decide) (fun c1 => ?_) (fun c1 => ?_)
      · skip
        have f_c1 := i_le c1
        refine lv_lload_n hx hb dX0_allMoney_31 rfl (lv_at hl 1 rfl) ?_
        rw [hQ9]
        exact W.lret (v := al) hx hb hr (fun t ht hW => ⟨⟨al, (), rfl, (by first | rfl | trivial), by rw [ht]; exact hP, va_K.moved hW.alike hK, hD⟩, hS.F ht⟩) hS.2.2 dX0_allMoney_32
      · skip
        have f_c1 := i_nle c1
        refine lv_lload_n hx hb dX0_allMoney_15 rfl (lv_at hl 1 rfl) ?_
        refine lv_aload_n hx hb dX0_allMoney_16 rfl (lv_at hl 2 rfl) ?_
        refine va_get (D := (dC, dI)) (ci := 0) (v := .ref qa) (C := RX0) (T := TX0) (N := 13) hx hb hts (fun w h => List.mem_cons_of_mem _ (inlX0 w h)) hown hK hP 0 rfl rfl 1 (by decide) (hts (.fieldLink RX0 15 "ClearingGates$Books" "balances" "[I") (List.mem_cons_of_mem _ mw_96)) (fun _ h9 => h9) rfl dX0_allMoney_17 ?_
        refine lv_iload_n hx hb dX0_allMoney_20 rfl (lv_at hl 0 rfl) ?_
        refine va_iald (D := (dC, dI)) hx hb hK hP 1 0 rfl rfl (vp_in_iff.mpr ⟨by omega, by omega⟩) dX0_allMoney_21 ?_
        refine lv_topi (fun z2 e_z2 => ?_)
        refine lv_i2l (v := z2.toInt64) hx hb dX0_allMoney_22 rfl ?_
        have t_t3 := Int32.toInt_toInt64 z2
        refine lv_ladd hx hb dX0_allMoney_23 ?_
        refine lv_topl (fun z4 e_z4 => ?_)
        refine lv_lstore_n (lv' := [(1, .long z4), (3, .int x_7), (0, .ref h0)]) hx hb dX0_allMoney_24 rfl hl (by decide) rfl (fun ls hl => ?_)
        obtain ⟨x5, e_x5⟩ : ∃ yy : Int32, yy = x_7 + 1 := ⟨_, rfl⟩
        refine lv_iinc (v := x5) (lv' := [(3, .int x5), (1, .long z4), (0, .ref h0)]) hx hb dX0_allMoney_25 hl (k := 1) rfl (by rw [e_x5]; rfl) (by decide) rfl (fun ls hl => ?_)
        refine lv_goto (tgt := 7) hx hb dX0_allMoney_28 (by decide) ?_
        exact ih_7 (i_7 + 1) x5 (by omega) (by omega) (by rw [e_x5, e_x_7]; exact nI_1 i_7) z4  _ _ (K_s hK [(0, 1)] rfl) (P_s hP [(0, 2)] rfl) (D_s hD [(0, 2)] 2 rfl (by decide +kernel) rfl) hS ls (lv_sub hl [0, 1, 2] rfl)
  exact loop_7 (8 + 1) 0 0 (by omega) (by omega) rfl fe  _ _ hK hP hD hS ls hl

set_option maxRecDepth 100000 in
set_option maxHeartbeats 4000000 in
/-- Books.allEntries -/
theorem c_X0_allEntries (l : Launch) (dC : Nat → ClassId) (dI : Nat → Nat → Nat) (h0 : Nat) (v0 : Value) (v1 : Value) (v2 : Value) (v3 : Value) (qa : Nat) (v5 : Value) (v6 : Value) (acc : Int32) (v8 : Value) (v9 : Value) (v10 : Value) (v11 : Value) (v12 : Value) (ka : ClassId) (fa : Nat → Int32) (sz : Nat) (hacc : acc.toInt ≤ 8) : Met l yX0_allEntries wsX0_allEntries ({ frames := 0, cells := 0, slots := 0, locals := 0 }) (va_Pc [.ref h0] (fun U => U.heap.size = sz ∧ va_P (dC, dI) vwCl [eO h0 0 [v0, v1, v2, v3, .ref qa, v5, v6, .int acc, v8, v9, v10, v11, v12], eI qa ka 8 fa] U.heap ∧ va_K (dC, dI) vwCl [(ka, .int)] U ∧ va_D (fun _ => True) [eO h0 0 [v0, v1, v2, v3, .ref qa, v5, v6, .int acc, v8, v9, v10, v11, v12], eI qa ka 8 fa])) (va_Qi (fun (r : Int32) (_ : Unit) => True) (fun (_ : Unit) (t : State) => va_P (dC, dI) vwCl [eO h0 0 [v0, v1, v2, v3, .ref qa, v5, v6, .int acc, v8, v9, v10, v11, v12], eI qa ka 8 fa] t.heap ∧ va_K (dC, dI) vwCl [(ka, .int)] t ∧ va_D (va_A [eO h0 0 [v0, v1, v2, v3, .ref qa, v5, v6, .int acc, v8, v9, v10, v11, v12], eI qa ka 8 fa] sz) [eO h0 0 [v0, v1, v2, v3, .ref qa, v5, v6, .int acc, v8, v9, v10, v11, v12], eI qa ka 8 fa]) (va_A [eO h0 0 [v0, v1, v2, v3, .ref qa, v5, v6, .int acc, v8, v9, v10, v11, v12], eI qa ka 8 fa] sz)) 0 0 (va_A [eO h0 0 [v0, v1, v2, v3, .ref qa, v5, v6, .int acc, v8, v9, v10, v11, v12], eI qa ka 8 fa] sz) := by
  refine Met.ofW (cc := cX0_allEntries) (maxL := 3) (ret := (some .int)) (by decide) rfl ?_
  intro p e s m args below meth c s₁ B hml hv
  obtain ⟨rfl, hsz, hP, hK, hD0⟩ := hv
  have hx := B.exec
  have hb := B.bytes
  have hr := B.returns
  have hts := atoms_spec (ws := wsX0_allEntries) B.pre
  have hown : s.vm.findClass RX0 = some m.cls := findClass_of_methodNamed B.named
  have hlocks := B.notSynchronized
  subst hsz
  have hD := hD0.self (sz := s.heap.size)
  generalize hAe : va_A [eO h0 0 [v0, v1, v2, v3, .ref qa, v5, v6, .int acc, v8, v9, v10, v11, v12], eI qa ka 8 fa] s.heap.size = A at hD ⊢
  have hA : ∀ q : Nat, s.heap.size ≤ q → A q := fun q h => by rw [← hAe]; exact Or.inr h
  have hS : va_S A s.heap s.heap [] := va_S.rf
  have hP : va_P (dC, dI) vwCl [eO h0 0 [v0, v1, v2, v3, .ref qa, v5, v6, .int acc, v8, v9, v10, v11, v12], eI qa ka 8 fa] s.heap := hP
  have hl := lv_entry ([.ref h0]) (n := 3) (Nat.le_of_ble_eq_true rfl)
  rw [lg_entry_eq]
  generalize (lg_sl ([.ref h0]) ++ List.replicate (3 - (lg_sl ([.ref h0])).length) Slot.unset).toArray = ls at hl ⊢
  have hl : lv_has ls 3 [(0, .ref h0)] := hl
  suffices key9 : ∀ Q9 : State → Prop, Q9 = (MQ below (va_Qi (fun (r : Int32) (_ : Unit) => True) (fun (_ : Unit) (t : State) => va_P (dC, dI) vwCl [eO h0 0 [v0, v1, v2, v3, .ref qa, v5, v6, .int acc, v8, v9, v10, v11, v12], eI qa ka 8 fa] t.heap ∧ va_K (dC, dI) vwCl [(ka, .int)] t ∧ va_D A [eO h0 0 [v0, v1, v2, v3, .ref qa, v5, v6, .int acc, v8, v9, v10, v11, v12], eI qa ka 8 fa]) A) (([.ref h0] : List Value).toArray) s 0 0 A) → W p l e ({ frames := 0, cells := 0, slots := 0, locals := 0 }) s m (([.ref h0] : List Value).toArray) below meth c s.heap [] 0 0 Q9 (F0 m 0 ls []) from key9 _ rfl
  intro Q9 hQ9
  refine lv_iconst (v := 0) hx hb dX0_allEntries_0 (by decide) ?_
  refine lv_istore_n (lv' := [(1, .int 0), (0, .ref h0)]) hx hb dX0_allEntries_1 rfl hl (by decide) rfl (fun ls hl => ?_)
  refine lv_iconst (v := 0) hx hb dX0_allEntries_2 (by decide) ?_
  refine lv_istore_n (lv' := [(2, .int 0), (1, .int 0), (0, .ref h0)]) hx hb dX0_allEntries_3 rfl hl (by decide) rfl (fun ls hl => ?_)
  have loop_4 : ∀ (n i_4 : Nat) (x_4 : Int32), i_4 ≤ 8 → 8 < i_4 + n → x_4 = nI i_4 → ∀ (al : Int32), ∀ (H : Heap) (locs : List Loc), va_K (dC, dI) vwCl [(ka, .int)] s → va_P (dC, dI) vwCl [eO h0 0 [v0, v1, v2, v3, .ref qa, v5, v6, .int acc, v8, v9, v10, v11, v12], eI qa ka 8 fa] H → va_D A [eO h0 0 [v0, v1, v2, v3, .ref qa, v5, v6, .int acc, v8, v9, v10, v11, v12], eI qa ka 8 fa] → va_S A s.heap H locs → ∀ (ls : Array Slot), lv_has ls 3 [(2, .int x_4), (1, .int al), (0, .ref h0)] → W p l e ({ frames := 0, cells := 0, slots := 0, locals := 0 }) s m (([.ref h0] : List Value).toArray) below meth c H locs 0 0 Q9 (F0 m 4 ls []) := by
    intro n
    induction n with
    | zero => intro i_4 x_4 h1 h2; exact absurd h2 (by omega)
    | succ n ih_4 =>
      intro i_4 x_4 hi_4 hn_4 e_x_4 al H locs hK hP hD hS ls hl
      have t_x_4 : x_4.toInt = (i_4 : Int) := by rw [e_x_4]; exact nI_toInt (by omega)
      refine lv_iload_n hx hb dX0_allEntries_4 rfl (lv_at hl 0 rfl) ?_
      refine lv_aload_n hx hb dX0_allEntries_5 rfl (lv_at hl 2 rfl) ?_
      refine va_get (D := (dC, dI)) (ci := 0) (v := .int acc) (C := RX0) (T := TX0) (N := 13) hx hb hts (fun w h => List.mem_cons_of_mem _ (inlX0 w h)) hown hK hP 0 rfl rfl 7 (by decide) (hts (.fieldLink RX0 34 "ClearingGates$Books" "accounts" "I") (List.mem_cons_of_mem _ mw_112)) (fun _ h9 => h9) rfl dX0_allEntries_6 ?_
      refine lv_icmp_ge (tgt := 27) hx hb dX0_allEntries_9 (by decide) (fun c1 => ?_) (fun c1 => ?_)
      · skip
        have f_c1 := i_le c1
        refine lv_iload_n hx hb dX0_allEntries_27 rfl (lv_at hl 1 rfl) ?_
        rw [hQ9]
        exact W.iret (v := al) hx hb hr (fun t ht hW => ⟨⟨al, (), rfl, (by first | rfl | trivial), by rw [ht]; exact hP, va_K.moved hW.alike hK, hD⟩, hS.F ht⟩) hS.2.2 dX0_allEntries_28
      · skip
        have f_c1 := i_nle c1
        refine lv_iload_n hx hb dX0_allEntries_12 rfl (lv_at hl 1 rfl) ?_
        refine lv_aload_n hx hb dX0_allEntries_13 rfl (lv_at hl 2 rfl) ?_
        refine va_get (D := (dC, dI)) (ci := 0) (v := .ref qa) (C := RX0) (T := TX0) (N := 13) hx hb hts (fun w h => List.mem_cons_of_mem _ (inlX0 w h)) hown hK hP 0 rfl rfl 4 (by decide) (hts (.fieldLink RX0 25 "ClearingGates$Books" "entries" "[I") (List.mem_cons_of_mem _ mw_103)) (fun _ h9 => h9) rfl dX0_allEntries_14 ?_
        refine lv_iload_n hx hb dX0_allEntries_17 rfl (lv_at hl 0 rfl) ?_
        refine va_iald (D := (dC, dI)) hx hb hK hP 1 0 rfl rfl (vp_in_iff.mpr ⟨by omega, by omega⟩) dX0_allEntries_18 ?_
        refine lv_topi (fun z2 e_z2 => ?_)
        refine lv_iadd hx hb dX0_allEntries_19 ?_
        refine lv_topi (fun z3 e_z3 => ?_)
        refine lv_istore_n (lv' := [(1, .int z3), (2, .int x_4), (0, .ref h0)]) hx hb dX0_allEntries_20 rfl hl (by decide) rfl (fun ls hl => ?_)
        obtain ⟨x4, e_x4⟩ : ∃ yy : Int32, yy = x_4 + 1 := ⟨_, rfl⟩
        refine lv_iinc (v := x4) (lv' := [(2, .int x4), (1, .int z3), (0, .ref h0)]) hx hb dX0_allEntries_21 hl (k := 1) rfl (by rw [e_x4]; rfl) (by decide) rfl (fun ls hl => ?_)
        refine lv_goto (tgt := 4) hx hb dX0_allEntries_24 (by decide) ?_
        exact ih_4 (i_4 + 1) x4 (by omega) (by omega) (by rw [e_x4, e_x_4]; exact nI_1 i_4) z3  _ _ (K_s hK [(0, 1)] rfl) (P_s hP [(0, 2)] rfl) (D_s hD [(0, 2)] 2 rfl (by decide +kernel) rfl) hS ls (lv_sub hl [0, 1, 2] rfl)
  exact loop_4 (8 + 1) 0 0 (by omega) (by omega) rfl 0  _ _ hK hP hD hS ls hl

set_option maxRecDepth 100000 in
set_option maxHeartbeats 4000000 in
/-- Books.enterAll -/
theorem c_X0_enterAll (l : Launch) (dC : Nat → ClassId) (dI : Nat → Nat → Nat) (h0 : Nat) (v0 : Value) (v1 : Value) (v2 : Value) (v3 : Value) (qa : Nat) (v5 : Value) (v6 : Value) (acc : Int32) (v8 : Value) (v9 : Value) (v10 : Value) (v11 : Value) (v12 : Value) (ka : ClassId) (fa : Nat → Int32) (sz : Nat) (hacc : acc.toInt ≤ 8) : Met l yX0_enterAll wsX0_enterAll ({ frames := 0, cells := 0, slots := 0, locals := 0 }) (va_Pc [.ref h0] (fun U => U.heap.size = sz ∧ va_P (dC, dI) vwCl [eO h0 0 [v0, v1, v2, v3, .ref qa, v5, v6, .int acc, v8, v9, v10, v11, v12], eI qa ka 8 fa] U.heap ∧ va_K (dC, dI) vwCl [(ka, .int)] U ∧ va_D (fun _ => True) [eO h0 0 [v0, v1, v2, v3, .ref qa, v5, v6, .int acc, v8, v9, v10, v11, v12], eI qa ka 8 fa])) (va_Qv (fun (_ : Unit) => True) (fun (_ : Unit) (t : State) => ∃ (fa' : Nat → Int32), va_P (dC, dI) vwCl [eO h0 0 [v0, v1, v2, v3, .ref qa, v5, v6, .int acc, v8, v9, v10, v11, v12], eI qa ka 8 (fa')] t.heap ∧ va_K (dC, dI) vwCl [(ka, .int)] t ∧ va_D (va_A [eO h0 0 [v0, v1, v2, v3, .ref qa, v5, v6, .int acc, v8, v9, v10, v11, v12], eI qa ka 8 fa] sz) [eO h0 0 [v0, v1, v2, v3, .ref qa, v5, v6, .int acc, v8, v9, v10, v11, v12], eI qa ka 8 (fa')]) (va_A [eO h0 0 [v0, v1, v2, v3, .ref qa, v5, v6, .int acc, v8, v9, v10, v11, v12], eI qa ka 8 fa] sz)) 0 0 (va_A [eO h0 0 [v0, v1, v2, v3, .ref qa, v5, v6, .int acc, v8, v9, v10, v11, v12], eI qa ka 8 fa] sz) := by
  refine Met.ofW (cc := cX0_enterAll) (maxL := 2) (ret := none) (by decide) rfl ?_
  intro p e s m args below meth c s₁ B hml hv
  obtain ⟨rfl, hsz, hP, hK, hD0⟩ := hv
  have hx := B.exec
  have hb := B.bytes
  have hr := B.returns
  have hts := atoms_spec (ws := wsX0_enterAll) B.pre
  have hown : s.vm.findClass RX0 = some m.cls := findClass_of_methodNamed B.named
  have hlocks := B.notSynchronized
  subst hsz
  have hD := hD0.self (sz := s.heap.size)
  generalize hAe : va_A [eO h0 0 [v0, v1, v2, v3, .ref qa, v5, v6, .int acc, v8, v9, v10, v11, v12], eI qa ka 8 fa] s.heap.size = A at hD ⊢
  have hA : ∀ q : Nat, s.heap.size ≤ q → A q := fun q h => by rw [← hAe]; exact Or.inr h
  have hS : va_S A s.heap s.heap [] := va_S.rf
  have hP : va_P (dC, dI) vwCl [eO h0 0 [v0, v1, v2, v3, .ref qa, v5, v6, .int acc, v8, v9, v10, v11, v12], eI qa ka 8 fa] s.heap := hP
  have hl := lv_entry ([.ref h0]) (n := 2) (Nat.le_of_ble_eq_true rfl)
  rw [lg_entry_eq]
  generalize (lg_sl ([.ref h0]) ++ List.replicate (2 - (lg_sl ([.ref h0])).length) Slot.unset).toArray = ls at hl ⊢
  have hl : lv_has ls 2 [(0, .ref h0)] := hl
  suffices key9 : ∀ Q9 : State → Prop, Q9 = (MQ below (va_Qv (fun (_ : Unit) => True) (fun (_ : Unit) (t : State) => ∃ (fa' : Nat → Int32), va_P (dC, dI) vwCl [eO h0 0 [v0, v1, v2, v3, .ref qa, v5, v6, .int acc, v8, v9, v10, v11, v12], eI qa ka 8 (fa')] t.heap ∧ va_K (dC, dI) vwCl [(ka, .int)] t ∧ va_D A [eO h0 0 [v0, v1, v2, v3, .ref qa, v5, v6, .int acc, v8, v9, v10, v11, v12], eI qa ka 8 (fa')]) A) (([.ref h0] : List Value).toArray) s 0 0 A) → W p l e ({ frames := 0, cells := 0, slots := 0, locals := 0 }) s m (([.ref h0] : List Value).toArray) below meth c s.heap [] 0 0 Q9 (F0 m 0 ls []) from key9 _ rfl
  intro Q9 hQ9
  have k_1 : (1 : Int32).toInt = 1 := by decide
  refine lv_iconst (v := 0) hx hb dX0_enterAll_0 (by decide) ?_
  refine lv_istore_n (lv' := [(1, .int 0), (0, .ref h0)]) hx hb dX0_enterAll_1 rfl hl (by decide) rfl (fun ls hl => ?_)
  have loop_2 : ∀ (n i_2 : Nat) (x_2 : Int32), i_2 ≤ 8 → 8 < i_2 + n → x_2 = nI i_2 → ∀ (gi : Nat → Int32), ∀ (H : Heap) (locs : List Loc), va_K (dC, dI) vwCl [(ka, .int)] s → va_P (dC, dI) vwCl [eO h0 0 [v0, v1, v2, v3, .ref qa, v5, v6, .int acc, v8, v9, v10, v11, v12], eI qa ka 8 gi] H → va_D A [eO h0 0 [v0, v1, v2, v3, .ref qa, v5, v6, .int acc, v8, v9, v10, v11, v12], eI qa ka 8 gi] → va_S A s.heap H locs → ∀ (ls : Array Slot), lv_has ls 2 [(1, .int x_2), (0, .ref h0)] → W p l e ({ frames := 0, cells := 0, slots := 0, locals := 0 }) s m (([.ref h0] : List Value).toArray) below meth c H locs 0 0 Q9 (F0 m 2 ls []) := by
    intro n
    induction n with
    | zero => intro i_2 x_2 h1 h2; exact absurd h2 (by omega)
    | succ n ih_2 =>
      intro i_2 x_2 hi_2 hn_2 e_x_2 gi H locs hK hP hD hS ls hl
      have t_x_2 : x_2.toInt = (i_2 : Int) := by rw [e_x_2]; exact nI_toInt (by omega)
      refine lv_iload_n hx hb dX0_enterAll_2 rfl (lv_at hl 0 rfl) ?_
      refine lv_aload_n hx hb dX0_enterAll_3 rfl (lv_at hl 1 rfl) ?_
      refine va_get (D := (dC, dI)) (ci := 0) (v := .int acc) (C := RX0) (T := TX0) (N := 13) hx hb hts (fun w h => List.mem_cons_of_mem _ (inlX0 w h)) hown hK hP 0 rfl rfl 7 (by decide) (hts (.fieldLink RX0 34 "ClearingGates$Books" "accounts" "I") (List.mem_cons_of_mem _ mw_112)) (fun _ h9 => h9) rfl dX0_enterAll_4 ?_
      refine lv_icmp_ge (tgt := 26) hx hb dX0_enterAll_7 (by decide) (fun c1 => ?_) (fun c1 => ?_)
      · skip
        have f_c1 := i_le c1
        rw [hQ9]
        exact W.vret hx hb hr (fun t ht hW => ⟨⟨(), rfl, (by first | rfl | trivial), gi, by rw [ht]; exact hP, va_K.moved hW.alike hK, hD⟩, hS.F ht⟩) hS.2.2 dX0_enterAll_26
      · skip
        have f_c1 := i_nle c1
        refine lv_aload_n hx hb dX0_enterAll_10 rfl (lv_at hl 1 rfl) ?_
        refine va_get (D := (dC, dI)) (ci := 0) (v := .ref qa) (C := RX0) (T := TX0) (N := 13) hx hb hts (fun w h => List.mem_cons_of_mem _ (inlX0 w h)) hown hK hP 0 rfl rfl 4 (by decide) (hts (.fieldLink RX0 25 "ClearingGates$Books" "entries" "[I") (List.mem_cons_of_mem _ mw_103)) (fun _ h9 => h9) rfl dX0_enterAll_11 ?_
        refine lv_iload_n hx hb dX0_enterAll_14 rfl (lv_at hl 0 rfl) ?_
        refine lv_dup2_11 hx hb dX0_enterAll_15 rfl rfl ?_
        refine va_iald (D := (dC, dI)) hx hb hK hP 1 0 rfl rfl (vp_in_iff.mpr ⟨by omega, by omega⟩) dX0_enterAll_16 ?_
        refine lv_topi (fun z2 e_z2 => ?_)
        refine lv_iconst (v := 1) hx hb dX0_enterAll_17 (by decide) ?_
        refine lv_iadd hx hb dX0_enterAll_18 ?_
        refine lv_topi (fun z3 e_z3 => ?_)
        refine va_iast (D := (dC, dI)) hx hb hK hP hD hS 1 0 rfl rfl (vp_in_iff.mpr ⟨by omega, by omega⟩) dX0_enterAll_19 (fun H locs hP hD hS => ?_)
        generalize e_g4 : (upd gi (x_2).toNatClampNeg z3) = g4 at hP hD
        obtain ⟨hP, hD⟩ := X_s (ws' := [eO h0 0 [v0, v1, v2, v3, .ref qa, v5, v6, .int acc, v8, v9, v10, v11, v12], eI qa ka 8 g4]) hP hD rfl
        obtain ⟨x5, e_x5⟩ : ∃ yy : Int32, yy = x_2 + 1 := ⟨_, rfl⟩
        refine lv_iinc (v := x5) (lv' := [(1, .int x5), (0, .ref h0)]) hx hb dX0_enterAll_20 hl (k := 0) rfl (by rw [e_x5]; rfl) (by decide) rfl (fun ls hl => ?_)
        refine lv_goto (tgt := 2) hx hb dX0_enterAll_23 (by decide) ?_
        exact ih_2 (i_2 + 1) x5 (by omega) (by omega) (by rw [e_x5, e_x_2]; exact nI_1 i_2) g4  _ _ (K_s hK [(0, 1)] rfl) (P_s hP [(0, 2)] rfl) (D_s hD [(0, 2)] 2 rfl (by decide +kernel) rfl) hS ls (lv_sub hl [0, 1] rfl)
  exact loop_2 (8 + 1) 0 0 (by omega) (by omega) rfl fa  _ _ hK hP hD hS ls hl

set_option maxRecDepth 100000 in
set_option maxHeartbeats 4000000 in
/-- Books.leaveAll -/
theorem c_X0_leaveAll (l : Launch) (dC : Nat → ClassId) (dI : Nat → Nat → Nat) (h0 : Nat) (v0 : Value) (v1 : Value) (v2 : Value) (v3 : Value) (v4 : Value) (qa : Nat) (v6 : Value) (acc : Int32) (v8 : Value) (v9 : Value) (v10 : Value) (v11 : Value) (v12 : Value) (ka : ClassId) (fa : Nat → Int32) (sz : Nat) (h0a : 0 ≤ acc.toInt) (hacc : acc.toInt ≤ 8) : Met l yX0_leaveAll wsX0_leaveAll ({ frames := 0, cells := 0, slots := 0, locals := 0 }) (va_Pc [.ref h0] (fun U => U.heap.size = sz ∧ va_P (dC, dI) vwCl [eO h0 0 [v0, v1, v2, v3, v4, .ref qa, v6, .int acc, v8, v9, v10, v11, v12], eI qa ka 8 fa] U.heap ∧ va_K (dC, dI) vwCl [(ka, .int)] U ∧ va_D (fun _ => True) [eO h0 0 [v0, v1, v2, v3, v4, .ref qa, v6, .int acc, v8, v9, v10, v11, v12], eI qa ka 8 fa])) (va_Qv (fun (_ : Unit) => True) (fun (_ : Unit) (t : State) => ∃ (fa' : Nat → Int32), va_P (dC, dI) vwCl [eO h0 0 [v0, v1, v2, v3, v4, .ref qa, v6, .int acc, v8, v9, v10, v11, v12], eI qa ka 8 (fa')] t.heap ∧ va_K (dC, dI) vwCl [(ka, .int)] t ∧ va_D (va_A [eO h0 0 [v0, v1, v2, v3, v4, .ref qa, v6, .int acc, v8, v9, v10, v11, v12], eI qa ka 8 fa] sz) [eO h0 0 [v0, v1, v2, v3, v4, .ref qa, v6, .int acc, v8, v9, v10, v11, v12], eI qa ka 8 (fa')]) (va_A [eO h0 0 [v0, v1, v2, v3, v4, .ref qa, v6, .int acc, v8, v9, v10, v11, v12], eI qa ka 8 fa] sz)) 0 0 (va_A [eO h0 0 [v0, v1, v2, v3, v4, .ref qa, v6, .int acc, v8, v9, v10, v11, v12], eI qa ka 8 fa] sz) := by
  refine Met.ofW (cc := cX0_leaveAll) (maxL := 2) (ret := none) (by decide) rfl ?_
  intro p e s m args below meth c s₁ B hml hv
  obtain ⟨rfl, hsz, hP, hK, hD0⟩ := hv
  have hx := B.exec
  have hb := B.bytes
  have hr := B.returns
  have hts := atoms_spec (ws := wsX0_leaveAll) B.pre
  have hown : s.vm.findClass RX0 = some m.cls := findClass_of_methodNamed B.named
  have hlocks := B.notSynchronized
  subst hsz
  have hD := hD0.self (sz := s.heap.size)
  generalize hAe : va_A [eO h0 0 [v0, v1, v2, v3, v4, .ref qa, v6, .int acc, v8, v9, v10, v11, v12], eI qa ka 8 fa] s.heap.size = A at hD ⊢
  have hA : ∀ q : Nat, s.heap.size ≤ q → A q := fun q h => by rw [← hAe]; exact Or.inr h
  have hS : va_S A s.heap s.heap [] := va_S.rf
  have hP : va_P (dC, dI) vwCl [eO h0 0 [v0, v1, v2, v3, v4, .ref qa, v6, .int acc, v8, v9, v10, v11, v12], eI qa ka 8 fa] s.heap := hP
  have hl := lv_entry ([.ref h0]) (n := 2) (Nat.le_of_ble_eq_true rfl)
  rw [lg_entry_eq]
  generalize (lg_sl ([.ref h0]) ++ List.replicate (2 - (lg_sl ([.ref h0])).length) Slot.unset).toArray = ls at hl ⊢
  have hl : lv_has ls 2 [(0, .ref h0)] := hl
  suffices key9 : ∀ Q9 : State → Prop, Q9 = (MQ below (va_Qv (fun (_ : Unit) => True) (fun (_ : Unit) (t : State) => ∃ (fa' : Nat → Int32), va_P (dC, dI) vwCl [eO h0 0 [v0, v1, v2, v3, v4, .ref qa, v6, .int acc, v8, v9, v10, v11, v12], eI qa ka 8 (fa')] t.heap ∧ va_K (dC, dI) vwCl [(ka, .int)] t ∧ va_D A [eO h0 0 [v0, v1, v2, v3, v4, .ref qa, v6, .int acc, v8, v9, v10, v11, v12], eI qa ka 8 (fa')]) A) (([.ref h0] : List Value).toArray) s 0 0 A) → W p l e ({ frames := 0, cells := 0, slots := 0, locals := 0 }) s m (([.ref h0] : List Value).toArray) below meth c s.heap [] 0 0 Q9 (F0 m 0 ls []) from key9 _ rfl
  intro Q9 hQ9
  have k_m1 : ((-1) : Int32).toInt = (-1) := by decide
  have k_0 : (0 : Int32).toInt = 0 := by decide
  have k_1 : (1 : Int32).toInt = 1 := by decide
  refine lv_aload_n hx hb dX0_leaveAll_0 rfl (lv_at hl 0 rfl) ?_
  refine va_get (D := (dC, dI)) (ci := 0) (v := .int acc) (C := RX0) (T := TX0) (N := 13) hx hb hts (fun w h => List.mem_cons_of_mem _ (inlX0 w h)) hown hK hP 0 rfl rfl 7 (by decide) (hts (.fieldLink RX0 34 "ClearingGates$Books" "accounts" "I") (List.mem_cons_of_mem _ mw_112)) (fun _ h9 => h9) rfl dX0_leaveAll_1 ?_
  refine lv_iconst (v := 1) hx hb dX0_leaveAll_4 (by decide) ?_
  refine lv_isub hx hb dX0_leaveAll_5 ?_
  refine lv_topi (fun z1 e_z1 => ?_)
  have t_z1 := i_sub e_z1 (by omega) (by omega)
  refine lv_istore_n (lv' := [(1, .int z1), (0, .ref h0)]) hx hb dX0_leaveAll_6 rfl hl (by decide) rfl (fun ls hl => ?_)
  have loop_7 : ∀ (n : Nat) (x : Int32) (gi : Nat → Int32), (-1 ≤ x.toInt) → (x.toInt < 8) → (x.toInt + 1) < (n : Int) → ∀ (H : Heap) (locs : List Loc), va_K (dC, dI) vwCl [(ka, .int)] s → va_P (dC, dI) vwCl [eO h0 0 [v0, v1, v2, v3, v4, .ref qa, v6, .int acc, v8, v9, v10, v11, v12], eI qa ka 8 gi] H → va_D A [eO h0 0 [v0, v1, v2, v3, v4, .ref qa, v6, .int acc, v8, v9, v10, v11, v12], eI qa ka 8 gi] → va_S A s.heap H locs → ∀ (ls : Array Slot), lv_has ls 2 [(1, .int x), (0, .ref h0)] → W p l e ({ frames := 0, cells := 0, slots := 0, locals := 0 }) s m (([.ref h0] : List Value).toArray) below meth c H locs 0 0 Q9 (F0 m 7 ls []) := by
    intro n
    induction n with
    | zero => intro x gi i1 i2 hM_7; exfalso; omega
    | succ n ih_7 =>
      intro x gi i1 i2 hM_7 H locs hK hP hD hS ls hl
      refine lv_iload_n hx hb dX0_leaveAll_7 rfl (lv_at hl 0 rfl) ?_
      refine lv_if_lt (tgt := 27) hx hb dX0_leaveAll_8 (by decide) (fun c2 => ?_) (fun c2 => ?_)
      · skip
        have f_c2 := i_lt c2
        rw [hQ9]
        exact W.vret hx hb hr (fun t ht hW => ⟨⟨(), rfl, (by first | rfl | trivial), gi, by rw [ht]; exact hP, va_K.moved hW.alike hK, hD⟩, hS.F ht⟩) hS.2.2 dX0_leaveAll_27
      · skip
        have f_c2 := i_nlt c2
        refine lv_aload_n hx hb dX0_leaveAll_11 rfl (lv_at hl 1 rfl) ?_
        refine va_get (D := (dC, dI)) (ci := 0) (v := .ref qa) (C := RX0) (T := TX0) (N := 13) hx hb hts (fun w h => List.mem_cons_of_mem _ (inlX0 w h)) hown hK hP 0 rfl rfl 5 (by decide) (hts (.fieldLink RX0 28 "ClearingGates$Books" "leavings" "[I") (List.mem_cons_of_mem _ mw_106)) (fun _ h9 => h9) rfl dX0_leaveAll_12 ?_
        refine lv_iload_n hx hb dX0_leaveAll_15 rfl (lv_at hl 0 rfl) ?_
        refine lv_dup2_11 hx hb dX0_leaveAll_16 rfl rfl ?_
        refine va_iald (D := (dC, dI)) hx hb hK hP 1 0 rfl rfl (vp_in_iff.mpr ⟨by omega, by omega⟩) dX0_leaveAll_17 ?_
        refine lv_topi (fun z3 e_z3 => ?_)
        refine lv_iconst (v := 1) hx hb dX0_leaveAll_18 (by decide) ?_
        refine lv_iadd hx hb dX0_leaveAll_19 ?_
        refine lv_topi (fun z4 e_z4 => ?_)
        refine va_iast (D := (dC, dI)) hx hb hK hP hD hS 1 0 rfl rfl (vp_in_iff.mpr ⟨by omega, by omega⟩) dX0_leaveAll_20 (fun H locs hP hD hS => ?_)
        generalize e_g5 : (upd gi (x).toNatClampNeg z4) = g5 at hP hD
        obtain ⟨hP, hD⟩ := X_s (ws' := [eO h0 0 [v0, v1, v2, v3, v4, .ref qa, v6, .int acc, v8, v9, v10, v11, v12], eI qa ka 8 g5]) hP hD rfl
        obtain ⟨x6, e_x6⟩ : ∃ yy : Int32, yy = x + (-1) := ⟨_, rfl⟩
        refine lv_iinc (v := x6) (lv' := [(1, .int x6), (0, .ref h0)]) hx hb dX0_leaveAll_21 hl (k := 0) rfl (by rw [e_x6]; rfl) (by decide) rfl (fun ls hl => ?_)
        have t_x6 := i_add e_x6 (by omega) (by omega)
        refine lv_goto (tgt := 7) hx hb dX0_leaveAll_24 (by decide) ?_
        exact ih_7 x6 g5 (by first | assumption | omega) (by first | assumption | omega) (by omega) _ _ (K_s hK [(0, 1)] rfl) (P_s hP [(0, 2)] rfl) (D_s hD [(0, 2)] 2 rfl (by decide +kernel) rfl) hS ls (lv_sub hl [0, 1] rfl)
  exact loop_7 (1000) z1 fa (by first | assumption | omega) (by first | assumption | omega) (by omega) _ _ hK hP hD hS ls (lv_sub hl [0, 1] rfl)

set_option maxRecDepth 100000 in
set_option maxHeartbeats 4000000 in
/-- Books.becomeAs -/
theorem c_X0_becomeAs (l : Launch) (dC : Nat → ClassId) (dI : Nat → Nat → Nat) (h0 : Nat) (h1 : Nat) (aq0 : Nat) (aq1 : Nat) (aq2 : Nat) (aq3 : Nat) (aq4 : Nat) (aq5 : Nat) (aq6 : Nat) (aacc : Int32) (afees : Int64) (amis : Int32) (abel : Int32) (aref : Int32) (acau : Int32) (ak0 : ClassId) (ag0 : Nat → Int32) (ak1 : ClassId) (ag1 : Nat → Int32) (ak2 : ClassId) (ag2 : Nat → Int32) (ak3 : ClassId) (ag3 : Nat → Int32) (ak4 : ClassId) (ag4 : Nat → Int32) (ak5 : ClassId) (ag5 : Nat → Int32) (ak6 : ClassId) (ag6 : Nat → Int32) (bq0 : Nat) (bq1 : Nat) (bq2 : Nat) (bq3 : Nat) (bq4 : Nat) (bq5 : Nat) (bq6 : Nat) (bacc : Int32) (bfees : Int64) (bmis : Int32) (bbel : Int32) (bref : Int32) (bcau : Int32) (bk0 : ClassId) (bg0 : Nat → Int32) (bk1 : ClassId) (bg1 : Nat → Int32) (bk2 : ClassId) (bg2 : Nat → Int32) (bk3 : ClassId) (bg3 : Nat → Int32) (bk4 : ClassId) (bg4 : Nat → Int32) (bk5 : ClassId) (bg5 : Nat → Int32) (bk6 : ClassId) (bg6 : Nat → Int32) (sz : Nat) (h01 : ∀ j : Nat, j < 8 → (bg3 j).toInt = 0 ∨ (bg3 j).toInt = 1) : Met l yX0_becomeAs wsX0_becomeAs ({ frames := 1, cells := 0, slots := 0, locals := 60 }) (va_Pc [.ref h0, .ref h1] (fun U => U.heap.size = sz ∧ va_P (dC, dI) vwCl [eO h0 0 [.ref aq0, .ref aq1, .ref aq2, .ref aq3, .ref aq4, .ref aq5, .ref aq6, .int aacc, .long afees, .int amis, .int abel, .int aref, .int acau], eI aq0 ak0 8 ag0, eI aq1 ak1 8 ag1, eI aq2 ak2 8 ag2, eI aq3 ak3 8 ag3, eI aq4 ak4 8 ag4, eI aq5 ak5 8 ag5, eI aq6 ak6 8 ag6, eO h1 0 [.ref bq0, .ref bq1, .ref bq2, .ref bq3, .ref bq4, .ref bq5, .ref bq6, .int bacc, .long bfees, .int bmis, .int bbel, .int bref, .int bcau], eI bq0 bk0 8 bg0, eI bq1 bk1 8 bg1, eI bq2 bk2 8 bg2, eI bq3 bk3 8 bg3, eI bq4 bk4 8 bg4, eI bq5 bk5 8 bg5, eI bq6 bk6 8 bg6] U.heap ∧ va_K (dC, dI) vwCl [(ak0, .int), (ak1, .int), (ak2, .int), (ak3, .boolean), (ak4, .int), (ak5, .int), (ak6, .int), (bk0, .int), (bk1, .int), (bk2, .int), (bk3, .boolean), (bk4, .int), (bk5, .int), (bk6, .int)] U ∧ va_D (fun _ => True) [eO h0 0 [.ref aq0, .ref aq1, .ref aq2, .ref aq3, .ref aq4, .ref aq5, .ref aq6, .int aacc, .long afees, .int amis, .int abel, .int aref, .int acau], eI aq0 ak0 8 ag0, eI aq1 ak1 8 ag1, eI aq2 ak2 8 ag2, eI aq3 ak3 8 ag3, eI aq4 ak4 8 ag4, eI aq5 ak5 8 ag5, eI aq6 ak6 8 ag6, eO h1 0 [.ref bq0, .ref bq1, .ref bq2, .ref bq3, .ref bq4, .ref bq5, .ref bq6, .int bacc, .long bfees, .int bmis, .int bbel, .int bref, .int bcau], eI bq0 bk0 8 bg0, eI bq1 bk1 8 bg1, eI bq2 bk2 8 bg2, eI bq3 bk3 8 bg3, eI bq4 bk4 8 bg4, eI bq5 bk5 8 bg5, eI bq6 bk6 8 bg6])) (va_Qv (fun (_ : Unit) => True) (fun (_ : Unit) (t : State) => ∃ (ag0' : Nat → Int32), ∃ (ag1' : Nat → Int32), ∃ (ag2' : Nat → Int32), ∃ (ag3' : Nat → Int32), ∃ (ag4' : Nat → Int32), ∃ (ag5' : Nat → Int32), ∃ (ag6' : Nat → Int32), (∀ j : Nat, j < 8 → ag0' j = bg0 j) ∧ (∀ j : Nat, j < 8 → ag1' j = bg1 j) ∧ (∀ j : Nat, j < 8 → ag2' j = bg2 j) ∧ (∀ j : Nat, j < 8 → ag3' j = bg3 j) ∧ (∀ j : Nat, j < 8 → ag4' j = bg4 j) ∧ (∀ j : Nat, j < 8 → ag5' j = bg5 j) ∧ (∀ j : Nat, j < 8 → ag6' j = bg6 j) ∧ va_P (dC, dI) vwCl [eO h0 0 [.ref aq0, .ref aq1, .ref aq2, .ref aq3, .ref aq4, .ref aq5, .ref aq6, .int bacc, .long bfees, .int bmis, .int bbel, .int bref, .int bcau], eI aq0 ak0 8 (ag0'), eI aq1 ak1 8 (ag1'), eI aq2 ak2 8 (ag2'), eI aq3 ak3 8 (ag3'), eI aq4 ak4 8 (ag4'), eI aq5 ak5 8 (ag5'), eI aq6 ak6 8 (ag6'), eO h1 0 [.ref bq0, .ref bq1, .ref bq2, .ref bq3, .ref bq4, .ref bq5, .ref bq6, .int bacc, .long bfees, .int bmis, .int bbel, .int bref, .int bcau], eI bq0 bk0 8 bg0, eI bq1 bk1 8 bg1, eI bq2 bk2 8 bg2, eI bq3 bk3 8 bg3, eI bq4 bk4 8 bg4, eI bq5 bk5 8 bg5, eI bq6 bk6 8 bg6] t.heap ∧ va_K (dC, dI) vwCl [(ak0, .int), (ak1, .int), (ak2, .int), (ak3, .boolean), (ak4, .int), (ak5, .int), (ak6, .int), (bk0, .int), (bk1, .int), (bk2, .int), (bk3, .boolean), (bk4, .int), (bk5, .int), (bk6, .int)] t ∧ va_D (va_A [eO h0 0 [.ref aq0, .ref aq1, .ref aq2, .ref aq3, .ref aq4, .ref aq5, .ref aq6, .int aacc, .long afees, .int amis, .int abel, .int aref, .int acau], eI aq0 ak0 8 ag0, eI aq1 ak1 8 ag1, eI aq2 ak2 8 ag2, eI aq3 ak3 8 ag3, eI aq4 ak4 8 ag4, eI aq5 ak5 8 ag5, eI aq6 ak6 8 ag6, eO h1 0 [.ref bq0, .ref bq1, .ref bq2, .ref bq3, .ref bq4, .ref bq5, .ref bq6, .int bacc, .long bfees, .int bmis, .int bbel, .int bref, .int bcau], eI bq0 bk0 8 bg0, eI bq1 bk1 8 bg1, eI bq2 bk2 8 bg2, eI bq3 bk3 8 bg3, eI bq4 bk4 8 bg4, eI bq5 bk5 8 bg5, eI bq6 bk6 8 bg6] sz) [eO h0 0 [.ref aq0, .ref aq1, .ref aq2, .ref aq3, .ref aq4, .ref aq5, .ref aq6, .int bacc, .long bfees, .int bmis, .int bbel, .int bref, .int bcau], eI aq0 ak0 8 (ag0'), eI aq1 ak1 8 (ag1'), eI aq2 ak2 8 (ag2'), eI aq3 ak3 8 (ag3'), eI aq4 ak4 8 (ag4'), eI aq5 ak5 8 (ag5'), eI aq6 ak6 8 (ag6'), eO h1 0 [.ref bq0, .ref bq1, .ref bq2, .ref bq3, .ref bq4, .ref bq5, .ref bq6, .int bacc, .long bfees, .int bmis, .int bbel, .int bref, .int bcau], eI bq0 bk0 8 bg0, eI bq1 bk1 8 bg1, eI bq2 bk2 8 bg2, eI bq3 bk3 8 bg3, eI bq4 bk4 8 bg4, eI bq5 bk5 8 bg5, eI bq6 bk6 8 bg6]) (va_A [eO h0 0 [.ref aq0, .ref aq1, .ref aq2, .ref aq3, .ref aq4, .ref aq5, .ref aq6, .int aacc, .long afees, .int amis, .int abel, .int aref, .int acau], eI aq0 ak0 8 ag0, eI aq1 ak1 8 ag1, eI aq2 ak2 8 ag2, eI aq3 ak3 8 ag3, eI aq4 ak4 8 ag4, eI aq5 ak5 8 ag5, eI aq6 ak6 8 ag6, eO h1 0 [.ref bq0, .ref bq1, .ref bq2, .ref bq3, .ref bq4, .ref bq5, .ref bq6, .int bacc, .long bfees, .int bmis, .int bbel, .int bref, .int bcau], eI bq0 bk0 8 bg0, eI bq1 bk1 8 bg1, eI bq2 bk2 8 bg2, eI bq3 bk3 8 bg3, eI bq4 bk4 8 bg4, eI bq5 bk5 8 bg5, eI bq6 bk6 8 bg6] sz)) 0 0 (va_A [eO h0 0 [.ref aq0, .ref aq1, .ref aq2, .ref aq3, .ref aq4, .ref aq5, .ref aq6, .int aacc, .long afees, .int amis, .int abel, .int aref, .int acau], eI aq0 ak0 8 ag0, eI aq1 ak1 8 ag1, eI aq2 ak2 8 ag2, eI aq3 ak3 8 ag3, eI aq4 ak4 8 ag4, eI aq5 ak5 8 ag5, eI aq6 ak6 8 ag6, eO h1 0 [.ref bq0, .ref bq1, .ref bq2, .ref bq3, .ref bq4, .ref bq5, .ref bq6, .int bacc, .long bfees, .int bmis, .int bbel, .int bref, .int bcau], eI bq0 bk0 8 bg0, eI bq1 bk1 8 bg1, eI bq2 bk2 8 bg2, eI bq3 bk3 8 bg3, eI bq4 bk4 8 bg4, eI bq5 bk5 8 bg5, eI bq6 bk6 8 bg6] sz) := by
  refine Met.ofW (cc := cX0_becomeAs) (maxL := 3) (ret := none) (by decide) rfl ?_
  intro p e s m args below meth c s₁ B hml hv
  obtain ⟨rfl, hsz, hP, hK, hD0⟩ := hv
  have hx := B.exec
  have hb := B.bytes
  have hr := B.returns
  have hts := atoms_spec (ws := wsX0_becomeAs) B.pre
  have hown : s.vm.findClass RX0 = some m.cls := findClass_of_methodNamed B.named
  have hlocks := B.notSynchronized
  subst hsz
  have hD := hD0.self (sz := s.heap.size)
  generalize hAe : va_A [eO h0 0 [.ref aq0, .ref aq1, .ref aq2, .ref aq3, .ref aq4, .ref aq5, .ref aq6, .int aacc, .long afees, .int amis, .int abel, .int aref, .int acau], eI aq0 ak0 8 ag0, eI aq1 ak1 8 ag1, eI aq2 ak2 8 ag2, eI aq3 ak3 8 ag3, eI aq4 ak4 8 ag4, eI aq5 ak5 8 ag5, eI aq6 ak6 8 ag6, eO h1 0 [.ref bq0, .ref bq1, .ref bq2, .ref bq3, .ref bq4, .ref bq5, .ref bq6, .int bacc, .long bfees, .int bmis, .int bbel, .int bref, .int bcau], eI bq0 bk0 8 bg0, eI bq1 bk1 8 bg1, eI bq2 bk2 8 bg2, eI bq3 bk3 8 bg3, eI bq4 bk4 8 bg4, eI bq5 bk5 8 bg5, eI bq6 bk6 8 bg6] s.heap.size = A at hD ⊢
  have hA : ∀ q : Nat, s.heap.size ≤ q → A q := fun q h => by rw [← hAe]; exact Or.inr h
  have hS : va_S A s.heap s.heap [] := va_S.rf
  have hP : va_P (dC, dI) vwCl [eO h0 0 [.ref aq0, .ref aq1, .ref aq2, .ref aq3, .ref aq4, .ref aq5, .ref aq6, .int aacc, .long afees, .int amis, .int abel, .int aref, .int acau], eI aq0 ak0 8 ag0, eI aq1 ak1 8 ag1, eI aq2 ak2 8 ag2, eI aq3 ak3 8 ag3, eI aq4 ak4 8 ag4, eI aq5 ak5 8 ag5, eI aq6 ak6 8 ag6, eO h1 0 [.ref bq0, .ref bq1, .ref bq2, .ref bq3, .ref bq4, .ref bq5, .ref bq6, .int bacc, .long bfees, .int bmis, .int bbel, .int bref, .int bcau], eI bq0 bk0 8 bg0, eI bq1 bk1 8 bg1, eI bq2 bk2 8 bg2, eI bq3 bk3 8 bg3, eI bq4 bk4 8 bg4, eI bq5 bk5 8 bg5, eI bq6 bk6 8 bg6] s.heap := hP
  have hl := lv_entry ([.ref h0, .ref h1]) (n := 3) (Nat.le_of_ble_eq_true rfl)
  rw [lg_entry_eq]
  generalize (lg_sl ([.ref h0, .ref h1]) ++ List.replicate (3 - (lg_sl ([.ref h0, .ref h1])).length) Slot.unset).toArray = ls at hl ⊢
  have hl : lv_has ls 3 [(0, .ref h0), (1, .ref h1)] := hl
  suffices key9 : ∀ Q9 : State → Prop, Q9 = (MQ below (va_Qv (fun (_ : Unit) => True) (fun (_ : Unit) (t : State) => ∃ (ag0' : Nat → Int32), ∃ (ag1' : Nat → Int32), ∃ (ag2' : Nat → Int32), ∃ (ag3' : Nat → Int32), ∃ (ag4' : Nat → Int32), ∃ (ag5' : Nat → Int32), ∃ (ag6' : Nat → Int32), (∀ j : Nat, j < 8 → ag0' j = bg0 j) ∧ (∀ j : Nat, j < 8 → ag1' j = bg1 j) ∧ (∀ j : Nat, j < 8 → ag2' j = bg2 j) ∧ (∀ j : Nat, j < 8 → ag3' j = bg3 j) ∧ (∀ j : Nat, j < 8 → ag4' j = bg4 j) ∧ (∀ j : Nat, j < 8 → ag5' j = bg5 j) ∧ (∀ j : Nat, j < 8 → ag6' j = bg6 j) ∧ va_P (dC, dI) vwCl [eO h0 0 [.ref aq0, .ref aq1, .ref aq2, .ref aq3, .ref aq4, .ref aq5, .ref aq6, .int bacc, .long bfees, .int bmis, .int bbel, .int bref, .int bcau], eI aq0 ak0 8 (ag0'), eI aq1 ak1 8 (ag1'), eI aq2 ak2 8 (ag2'), eI aq3 ak3 8 (ag3'), eI aq4 ak4 8 (ag4'), eI aq5 ak5 8 (ag5'), eI aq6 ak6 8 (ag6'), eO h1 0 [.ref bq0, .ref bq1, .ref bq2, .ref bq3, .ref bq4, .ref bq5, .ref bq6, .int bacc, .long bfees, .int bmis, .int bbel, .int bref, .int bcau], eI bq0 bk0 8 bg0, eI bq1 bk1 8 bg1, eI bq2 bk2 8 bg2, eI bq3 bk3 8 bg3, eI bq4 bk4 8 bg4, eI bq5 bk5 8 bg5, eI bq6 bk6 8 bg6] t.heap ∧ va_K (dC, dI) vwCl [(ak0, .int), (ak1, .int), (ak2, .int), (ak3, .boolean), (ak4, .int), (ak5, .int), (ak6, .int), (bk0, .int), (bk1, .int), (bk2, .int), (bk3, .boolean), (bk4, .int), (bk5, .int), (bk6, .int)] t ∧ va_D A [eO h0 0 [.ref aq0, .ref aq1, .ref aq2, .ref aq3, .ref aq4, .ref aq5, .ref aq6, .int bacc, .long bfees, .int bmis, .int bbel, .int bref, .int bcau], eI aq0 ak0 8 (ag0'), eI aq1 ak1 8 (ag1'), eI aq2 ak2 8 (ag2'), eI aq3 ak3 8 (ag3'), eI aq4 ak4 8 (ag4'), eI aq5 ak5 8 (ag5'), eI aq6 ak6 8 (ag6'), eO h1 0 [.ref bq0, .ref bq1, .ref bq2, .ref bq3, .ref bq4, .ref bq5, .ref bq6, .int bacc, .long bfees, .int bmis, .int bbel, .int bref, .int bcau], eI bq0 bk0 8 bg0, eI bq1 bk1 8 bg1, eI bq2 bk2 8 bg2, eI bq3 bk3 8 bg3, eI bq4 bk4 8 bg4, eI bq5 bk5 8 bg5, eI bq6 bk6 8 bg6]) A) (([.ref h0, .ref h1] : List Value).toArray) s 0 0 A) → W p l e ({ frames := 1, cells := 0, slots := 0, locals := 60 }) s m (([.ref h0, .ref h1] : List Value).toArray) below meth c s.heap [] 0 0 Q9 (F0 m 0 ls []) from key9 _ rfl
  intro Q9 hQ9
  have k_0 : (0 : Int32).toInt = 0 := by decide
  have k_8 : (8 : Int32).toInt = 8 := by decide
  refine lv_aload_n hx hb dX0_becomeAs_0 rfl (lv_at hl 1 rfl) ?_
  refine va_get (D := (dC, dI)) (ci := 0) (v := .ref bq0) (C := RX0) (T := TX0) (N := 13) hx hb hts (fun w h => List.mem_cons_of_mem _ (inlX0 w h)) hown hK hP 8 rfl rfl 0 (by decide) (hts (.fieldLink RX0 9 "ClearingGates$Books" "kinds" "[I") (List.mem_cons_of_mem _ mw_94)) (fun _ h9 => h9) rfl dX0_becomeAs_1 ?_
  refine lv_iconst (v := 0) hx hb dX0_becomeAs_4 (by decide) ?_
  refine lv_aload_n hx hb dX0_becomeAs_5 rfl (lv_at hl 0 rfl) ?_
  refine va_get (D := (dC, dI)) (ci := 0) (v := .ref aq0) (C := RX0) (T := TX0) (N := 13) hx hb hts (fun w h => List.mem_cons_of_mem _ (inlX0 w h)) hown hK hP 0 rfl rfl 0 (by decide) (hts (.fieldLink RX0 9 "ClearingGates$Books" "kinds" "[I") (List.mem_cons_of_mem _ mw_94)) (fun _ h9 => h9) rfl dX0_becomeAs_6 ?_
  refine lv_iconst (v := 0) hx hb dX0_becomeAs_9 (by decide) ?_
  refine lv_bipush (v := 8) hx hb dX0_becomeAs_10 (by decide) ?_
  refine va_copyi (D := (dC, dI)) hx hb (hml.trans hl.1.symm) hown (hts (.methodLink RX0 55 arraycopyName) (List.mem_cons_of_mem _ mw_461)) (hts (.native arraycopyName) (List.mem_cons_of_mem _ mw_330)) (hts (.static arraycopyName) (List.mem_cons_of_mem _ mw_329)) (hts (.initialized "java/lang/System") (List.mem_cons_of_mem _ mw_80)) hK hP hD hS 9 1 7 0 rfl rfl rfl rfl rfl (by decide) (by decide) (by decide) (by decide) (by decide) (fun _ _ => rfl) (Nat.le_of_ble_eq_true rfl) (by decide) dX0_becomeAs_12 (fun H locs hP hD hS => ?_)
  generalize e_g1 : (va_cpy bg0 ag0 (0 : Int32).toNatClampNeg (0 : Int32).toNatClampNeg (8 : Int32).toNatClampNeg) = g1 at hP hD
  obtain ⟨hP, hD⟩ := X_s (ws' := [eO h0 0 [.ref aq0, .ref aq1, .ref aq2, .ref aq3, .ref aq4, .ref aq5, .ref aq6, .int aacc, .long afees, .int amis, .int abel, .int aref, .int acau], eI aq0 ak0 8 g1, eI aq1 ak1 8 ag1, eI aq2 ak2 8 ag2, eI aq3 ak3 8 ag3, eI aq4 ak4 8 ag4, eI aq5 ak5 8 ag5, eI aq6 ak6 8 ag6, eO h1 0 [.ref bq0, .ref bq1, .ref bq2, .ref bq3, .ref bq4, .ref bq5, .ref bq6, .int bacc, .long bfees, .int bmis, .int bbel, .int bref, .int bcau], eI bq0 bk0 8 bg0, eI bq1 bk1 8 bg1, eI bq2 bk2 8 bg2, eI bq3 bk3 8 bg3, eI bq4 bk4 8 bg4, eI bq5 bk5 8 bg5, eI bq6 bk6 8 bg6]) hP hD rfl
  refine lv_aload_n hx hb dX0_becomeAs_15 rfl (lv_at hl 1 rfl) ?_
  refine va_get (D := (dC, dI)) (ci := 0) (v := .ref bq1) (C := RX0) (T := TX0) (N := 13) hx hb hts (fun w h => List.mem_cons_of_mem _ (inlX0 w h)) hown hK hP 8 rfl rfl 1 (by decide) (hts (.fieldLink RX0 15 "ClearingGates$Books" "balances" "[I") (List.mem_cons_of_mem _ mw_96)) (fun _ h9 => h9) rfl dX0_becomeAs_16 ?_
  refine lv_iconst (v := 0) hx hb dX0_becomeAs_19 (by decide) ?_
  refine lv_aload_n hx hb dX0_becomeAs_20 rfl (lv_at hl 0 rfl) ?_
  refine va_get (D := (dC, dI)) (ci := 0) (v := .ref aq1) (C := RX0) (T := TX0) (N := 13) hx hb hts (fun w h => List.mem_cons_of_mem _ (inlX0 w h)) hown hK hP 0 rfl rfl 1 (by decide) (hts (.fieldLink RX0 15 "ClearingGates$Books" "balances" "[I") (List.mem_cons_of_mem _ mw_96)) (fun _ h9 => h9) rfl dX0_becomeAs_21 ?_
  refine lv_iconst (v := 0) hx hb dX0_becomeAs_24 (by decide) ?_
  refine lv_bipush (v := 8) hx hb dX0_becomeAs_25 (by decide) ?_
  refine va_copyi (D := (dC, dI)) hx hb (hml.trans hl.1.symm) hown (hts (.methodLink RX0 55 arraycopyName) (List.mem_cons_of_mem _ mw_461)) (hts (.native arraycopyName) (List.mem_cons_of_mem _ mw_330)) (hts (.static arraycopyName) (List.mem_cons_of_mem _ mw_329)) (hts (.initialized "java/lang/System") (List.mem_cons_of_mem _ mw_80)) hK hP hD hS 10 2 8 1 rfl rfl rfl rfl rfl (by decide) (by decide) (by decide) (by decide) (by decide) (fun _ _ => rfl) (Nat.le_of_ble_eq_true rfl) (by decide) dX0_becomeAs_27 (fun H locs hP hD hS => ?_)
  generalize e_g2 : (va_cpy bg1 ag1 (0 : Int32).toNatClampNeg (0 : Int32).toNatClampNeg (8 : Int32).toNatClampNeg) = g2 at hP hD
  obtain ⟨hP, hD⟩ := X_s (ws' := [eO h0 0 [.ref aq0, .ref aq1, .ref aq2, .ref aq3, .ref aq4, .ref aq5, .ref aq6, .int aacc, .long afees, .int amis, .int abel, .int aref, .int acau], eI aq0 ak0 8 g1, eI aq1 ak1 8 g2, eI aq2 ak2 8 ag2, eI aq3 ak3 8 ag3, eI aq4 ak4 8 ag4, eI aq5 ak5 8 ag5, eI aq6 ak6 8 ag6, eO h1 0 [.ref bq0, .ref bq1, .ref bq2, .ref bq3, .ref bq4, .ref bq5, .ref bq6, .int bacc, .long bfees, .int bmis, .int bbel, .int bref, .int bcau], eI bq0 bk0 8 bg0, eI bq1 bk1 8 bg1, eI bq2 bk2 8 bg2, eI bq3 bk3 8 bg3, eI bq4 bk4 8 bg4, eI bq5 bk5 8 bg5, eI bq6 bk6 8 bg6]) hP hD rfl
  refine lv_aload_n hx hb dX0_becomeAs_30 rfl (lv_at hl 1 rfl) ?_
  refine va_get (D := (dC, dI)) (ci := 0) (v := .ref bq2) (C := RX0) (T := TX0) (N := 13) hx hb hts (fun w h => List.mem_cons_of_mem _ (inlX0 w h)) hown hK hP 8 rfl rfl 2 (by decide) (hts (.fieldLink RX0 18 "ClearingGates$Books" "limits" "[I") (List.mem_cons_of_mem _ mw_99)) (fun _ h9 => h9) rfl dX0_becomeAs_31 ?_
  refine lv_iconst (v := 0) hx hb dX0_becomeAs_34 (by decide) ?_
  refine lv_aload_n hx hb dX0_becomeAs_35 rfl (lv_at hl 0 rfl) ?_
  refine va_get (D := (dC, dI)) (ci := 0) (v := .ref aq2) (C := RX0) (T := TX0) (N := 13) hx hb hts (fun w h => List.mem_cons_of_mem _ (inlX0 w h)) hown hK hP 0 rfl rfl 2 (by decide) (hts (.fieldLink RX0 18 "ClearingGates$Books" "limits" "[I") (List.mem_cons_of_mem _ mw_99)) (fun _ h9 => h9) rfl dX0_becomeAs_36 ?_
  refine lv_iconst (v := 0) hx hb dX0_becomeAs_39 (by decide) ?_
  refine lv_bipush (v := 8) hx hb dX0_becomeAs_40 (by decide) ?_
  refine va_copyi (D := (dC, dI)) hx hb (hml.trans hl.1.symm) hown (hts (.methodLink RX0 55 arraycopyName) (List.mem_cons_of_mem _ mw_461)) (hts (.native arraycopyName) (List.mem_cons_of_mem _ mw_330)) (hts (.static arraycopyName) (List.mem_cons_of_mem _ mw_329)) (hts (.initialized "java/lang/System") (List.mem_cons_of_mem _ mw_80)) hK hP hD hS 11 3 9 2 rfl rfl rfl rfl rfl (by decide) (by decide) (by decide) (by decide) (by decide) (fun _ _ => rfl) (Nat.le_of_ble_eq_true rfl) (by decide) dX0_becomeAs_42 (fun H locs hP hD hS => ?_)
  generalize e_g3 : (va_cpy bg2 ag2 (0 : Int32).toNatClampNeg (0 : Int32).toNatClampNeg (8 : Int32).toNatClampNeg) = g3 at hP hD
  obtain ⟨hP, hD⟩ := X_s (ws' := [eO h0 0 [.ref aq0, .ref aq1, .ref aq2, .ref aq3, .ref aq4, .ref aq5, .ref aq6, .int aacc, .long afees, .int amis, .int abel, .int aref, .int acau], eI aq0 ak0 8 g1, eI aq1 ak1 8 g2, eI aq2 ak2 8 g3, eI aq3 ak3 8 ag3, eI aq4 ak4 8 ag4, eI aq5 ak5 8 ag5, eI aq6 ak6 8 ag6, eO h1 0 [.ref bq0, .ref bq1, .ref bq2, .ref bq3, .ref bq4, .ref bq5, .ref bq6, .int bacc, .long bfees, .int bmis, .int bbel, .int bref, .int bcau], eI bq0 bk0 8 bg0, eI bq1 bk1 8 bg1, eI bq2 bk2 8 bg2, eI bq3 bk3 8 bg3, eI bq4 bk4 8 bg4, eI bq5 bk5 8 bg5, eI bq6 bk6 8 bg6]) hP hD rfl
  refine lv_aload_n hx hb dX0_becomeAs_45 rfl (lv_at hl 1 rfl) ?_
  refine va_get (D := (dC, dI)) (ci := 0) (v := .ref bq4) (C := RX0) (T := TX0) (N := 13) hx hb hts (fun w h => List.mem_cons_of_mem _ (inlX0 w h)) hown hK hP 8 rfl rfl 4 (by decide) (hts (.fieldLink RX0 25 "ClearingGates$Books" "entries" "[I") (List.mem_cons_of_mem _ mw_103)) (fun _ h9 => h9) rfl dX0_becomeAs_46 ?_
  refine lv_iconst (v := 0) hx hb dX0_becomeAs_49 (by decide) ?_
  refine lv_aload_n hx hb dX0_becomeAs_50 rfl (lv_at hl 0 rfl) ?_
  refine va_get (D := (dC, dI)) (ci := 0) (v := .ref aq4) (C := RX0) (T := TX0) (N := 13) hx hb hts (fun w h => List.mem_cons_of_mem _ (inlX0 w h)) hown hK hP 0 rfl rfl 4 (by decide) (hts (.fieldLink RX0 25 "ClearingGates$Books" "entries" "[I") (List.mem_cons_of_mem _ mw_103)) (fun _ h9 => h9) rfl dX0_becomeAs_51 ?_
  refine lv_iconst (v := 0) hx hb dX0_becomeAs_54 (by decide) ?_
  refine lv_bipush (v := 8) hx hb dX0_becomeAs_55 (by decide) ?_
  refine va_copyi (D := (dC, dI)) hx hb (hml.trans hl.1.symm) hown (hts (.methodLink RX0 55 arraycopyName) (List.mem_cons_of_mem _ mw_461)) (hts (.native arraycopyName) (List.mem_cons_of_mem _ mw_330)) (hts (.static arraycopyName) (List.mem_cons_of_mem _ mw_329)) (hts (.initialized "java/lang/System") (List.mem_cons_of_mem _ mw_80)) hK hP hD hS 13 5 11 4 rfl rfl rfl rfl rfl (by decide) (by decide) (by decide) (by decide) (by decide) (fun _ _ => rfl) (Nat.le_of_ble_eq_true rfl) (by decide) dX0_becomeAs_57 (fun H locs hP hD hS => ?_)
  generalize e_g4 : (va_cpy bg4 ag4 (0 : Int32).toNatClampNeg (0 : Int32).toNatClampNeg (8 : Int32).toNatClampNeg) = g4 at hP hD
  obtain ⟨hP, hD⟩ := X_s (ws' := [eO h0 0 [.ref aq0, .ref aq1, .ref aq2, .ref aq3, .ref aq4, .ref aq5, .ref aq6, .int aacc, .long afees, .int amis, .int abel, .int aref, .int acau], eI aq0 ak0 8 g1, eI aq1 ak1 8 g2, eI aq2 ak2 8 g3, eI aq3 ak3 8 ag3, eI aq4 ak4 8 g4, eI aq5 ak5 8 ag5, eI aq6 ak6 8 ag6, eO h1 0 [.ref bq0, .ref bq1, .ref bq2, .ref bq3, .ref bq4, .ref bq5, .ref bq6, .int bacc, .long bfees, .int bmis, .int bbel, .int bref, .int bcau], eI bq0 bk0 8 bg0, eI bq1 bk1 8 bg1, eI bq2 bk2 8 bg2, eI bq3 bk3 8 bg3, eI bq4 bk4 8 bg4, eI bq5 bk5 8 bg5, eI bq6 bk6 8 bg6]) hP hD rfl
  refine lv_aload_n hx hb dX0_becomeAs_60 rfl (lv_at hl 1 rfl) ?_
  refine va_get (D := (dC, dI)) (ci := 0) (v := .ref bq5) (C := RX0) (T := TX0) (N := 13) hx hb hts (fun w h => List.mem_cons_of_mem _ (inlX0 w h)) hown hK hP 8 rfl rfl 5 (by decide) (hts (.fieldLink RX0 28 "ClearingGates$Books" "leavings" "[I") (List.mem_cons_of_mem _ mw_106)) (fun _ h9 => h9) rfl dX0_becomeAs_61 ?_
  refine lv_iconst (v := 0) hx hb dX0_becomeAs_64 (by decide) ?_
  refine lv_aload_n hx hb dX0_becomeAs_65 rfl (lv_at hl 0 rfl) ?_
  refine va_get (D := (dC, dI)) (ci := 0) (v := .ref aq5) (C := RX0) (T := TX0) (N := 13) hx hb hts (fun w h => List.mem_cons_of_mem _ (inlX0 w h)) hown hK hP 0 rfl rfl 5 (by decide) (hts (.fieldLink RX0 28 "ClearingGates$Books" "leavings" "[I") (List.mem_cons_of_mem _ mw_106)) (fun _ h9 => h9) rfl dX0_becomeAs_66 ?_
  refine lv_iconst (v := 0) hx hb dX0_becomeAs_69 (by decide) ?_
  refine lv_bipush (v := 8) hx hb dX0_becomeAs_70 (by decide) ?_
  refine va_copyi (D := (dC, dI)) hx hb (hml.trans hl.1.symm) hown (hts (.methodLink RX0 55 arraycopyName) (List.mem_cons_of_mem _ mw_461)) (hts (.native arraycopyName) (List.mem_cons_of_mem _ mw_330)) (hts (.static arraycopyName) (List.mem_cons_of_mem _ mw_329)) (hts (.initialized "java/lang/System") (List.mem_cons_of_mem _ mw_80)) hK hP hD hS 14 6 12 5 rfl rfl rfl rfl rfl (by decide) (by decide) (by decide) (by decide) (by decide) (fun _ _ => rfl) (Nat.le_of_ble_eq_true rfl) (by decide) dX0_becomeAs_72 (fun H locs hP hD hS => ?_)
  generalize e_g5 : (va_cpy bg5 ag5 (0 : Int32).toNatClampNeg (0 : Int32).toNatClampNeg (8 : Int32).toNatClampNeg) = g5 at hP hD
  obtain ⟨hP, hD⟩ := X_s (ws' := [eO h0 0 [.ref aq0, .ref aq1, .ref aq2, .ref aq3, .ref aq4, .ref aq5, .ref aq6, .int aacc, .long afees, .int amis, .int abel, .int aref, .int acau], eI aq0 ak0 8 g1, eI aq1 ak1 8 g2, eI aq2 ak2 8 g3, eI aq3 ak3 8 ag3, eI aq4 ak4 8 g4, eI aq5 ak5 8 g5, eI aq6 ak6 8 ag6, eO h1 0 [.ref bq0, .ref bq1, .ref bq2, .ref bq3, .ref bq4, .ref bq5, .ref bq6, .int bacc, .long bfees, .int bmis, .int bbel, .int bref, .int bcau], eI bq0 bk0 8 bg0, eI bq1 bk1 8 bg1, eI bq2 bk2 8 bg2, eI bq3 bk3 8 bg3, eI bq4 bk4 8 bg4, eI bq5 bk5 8 bg5, eI bq6 bk6 8 bg6]) hP hD rfl
  refine lv_aload_n hx hb dX0_becomeAs_75 rfl (lv_at hl 1 rfl) ?_
  refine va_get (D := (dC, dI)) (ci := 0) (v := .ref bq6) (C := RX0) (T := TX0) (N := 13) hx hb hts (fun w h => List.mem_cons_of_mem _ (inlX0 w h)) hown hK hP 8 rfl rfl 6 (by decide) (hts (.fieldLink RX0 31 "ClearingGates$Books" "agains" "[I") (List.mem_cons_of_mem _ mw_109)) (fun _ h9 => h9) rfl dX0_becomeAs_76 ?_
  refine lv_iconst (v := 0) hx hb dX0_becomeAs_79 (by decide) ?_
  refine lv_aload_n hx hb dX0_becomeAs_80 rfl (lv_at hl 0 rfl) ?_
  refine va_get (D := (dC, dI)) (ci := 0) (v := .ref aq6) (C := RX0) (T := TX0) (N := 13) hx hb hts (fun w h => List.mem_cons_of_mem _ (inlX0 w h)) hown hK hP 0 rfl rfl 6 (by decide) (hts (.fieldLink RX0 31 "ClearingGates$Books" "agains" "[I") (List.mem_cons_of_mem _ mw_109)) (fun _ h9 => h9) rfl dX0_becomeAs_81 ?_
  refine lv_iconst (v := 0) hx hb dX0_becomeAs_84 (by decide) ?_
  refine lv_bipush (v := 8) hx hb dX0_becomeAs_85 (by decide) ?_
  refine va_copyi (D := (dC, dI)) hx hb (hml.trans hl.1.symm) hown (hts (.methodLink RX0 55 arraycopyName) (List.mem_cons_of_mem _ mw_461)) (hts (.native arraycopyName) (List.mem_cons_of_mem _ mw_330)) (hts (.static arraycopyName) (List.mem_cons_of_mem _ mw_329)) (hts (.initialized "java/lang/System") (List.mem_cons_of_mem _ mw_80)) hK hP hD hS 15 7 13 6 rfl rfl rfl rfl rfl (by decide) (by decide) (by decide) (by decide) (by decide) (fun _ _ => rfl) (Nat.le_of_ble_eq_true rfl) (by decide) dX0_becomeAs_87 (fun H locs hP hD hS => ?_)
  generalize e_g6 : (va_cpy bg6 ag6 (0 : Int32).toNatClampNeg (0 : Int32).toNatClampNeg (8 : Int32).toNatClampNeg) = g6 at hP hD
  obtain ⟨hP, hD⟩ := X_s (ws' := [eO h0 0 [.ref aq0, .ref aq1, .ref aq2, .ref aq3, .ref aq4, .ref aq5, .ref aq6, .int aacc, .long afees, .int amis, .int abel, .int aref, .int acau], eI aq0 ak0 8 g1, eI aq1 ak1 8 g2, eI aq2 ak2 8 g3, eI aq3 ak3 8 ag3, eI aq4 ak4 8 g4, eI aq5 ak5 8 g5, eI aq6 ak6 8 g6, eO h1 0 [.ref bq0, .ref bq1, .ref bq2, .ref bq3, .ref bq4, .ref bq5, .ref bq6, .int bacc, .long bfees, .int bmis, .int bbel, .int bref, .int bcau], eI bq0 bk0 8 bg0, eI bq1 bk1 8 bg1, eI bq2 bk2 8 bg2, eI bq3 bk3 8 bg3, eI bq4 bk4 8 bg4, eI bq5 bk5 8 bg5, eI bq6 bk6 8 bg6]) hP hD rfl
  refine lv_iconst (v := 0) hx hb dX0_becomeAs_90 (by decide) ?_
  refine lv_istore_n (lv' := [(2, .int 0), (0, .ref h0), (1, .ref h1)]) hx hb dX0_becomeAs_91 rfl hl (by decide) rfl (fun ls hl => ?_)
  have loop_92 : ∀ (n i_92 : Nat) (x_92 : Int32), i_92 ≤ 8 → 8 < i_92 + n → x_92 = nI i_92 → ∀ (gi : Nat → Int32), (∀ j : Nat, j < i_92 → gi j = bg3 j) → ∀ (H : Heap) (locs : List Loc), va_K (dC, dI) vwCl [(ak0, .int), (ak1, .int), (ak2, .int), (ak3, .boolean), (ak4, .int), (ak5, .int), (ak6, .int), (bk0, .int), (bk1, .int), (bk2, .int), (bk3, .boolean), (bk4, .int), (bk5, .int), (bk6, .int)] s → va_P (dC, dI) vwCl [eO h0 0 [.ref aq0, .ref aq1, .ref aq2, .ref aq3, .ref aq4, .ref aq5, .ref aq6, .int aacc, .long afees, .int amis, .int abel, .int aref, .int acau], eI aq0 ak0 8 g1, eI aq1 ak1 8 g2, eI aq2 ak2 8 g3, eI aq3 ak3 8 gi, eI aq4 ak4 8 g4, eI aq5 ak5 8 g5, eI aq6 ak6 8 g6, eO h1 0 [.ref bq0, .ref bq1, .ref bq2, .ref bq3, .ref bq4, .ref bq5, .ref bq6, .int bacc, .long bfees, .int bmis, .int bbel, .int bref, .int bcau], eI bq0 bk0 8 bg0, eI bq1 bk1 8 bg1, eI bq2 bk2 8 bg2, eI bq3 bk3 8 bg3, eI bq4 bk4 8 bg4, eI bq5 bk5 8 bg5, eI bq6 bk6 8 bg6] H → va_D A [eO h0 0 [.ref aq0, .ref aq1, .ref aq2, .ref aq3, .ref aq4, .ref aq5, .ref aq6, .int aacc, .long afees, .int amis, .int abel, .int aref, .int acau], eI aq0 ak0 8 g1, eI aq1 ak1 8 g2, eI aq2 ak2 8 g3, eI aq3 ak3 8 gi, eI aq4 ak4 8 g4, eI aq5 ak5 8 g5, eI aq6 ak6 8 g6, eO h1 0 [.ref bq0, .ref bq1, .ref bq2, .ref bq3, .ref bq4, .ref bq5, .ref bq6, .int bacc, .long bfees, .int bmis, .int bbel, .int bref, .int bcau], eI bq0 bk0 8 bg0, eI bq1 bk1 8 bg1, eI bq2 bk2 8 bg2, eI bq3 bk3 8 bg3, eI bq4 bk4 8 bg4, eI bq5 bk5 8 bg5, eI bq6 bk6 8 bg6] → va_S A s.heap H locs → ∀ (ls : Array Slot), lv_has ls 3 [(2, .int x_92), (0, .ref h0), (1, .ref h1)] → W p l e ({ frames := 1, cells := 0, slots := 0, locals := 60 }) s m (([.ref h0, .ref h1] : List Value).toArray) below meth c H locs 0 0 Q9 (F0 m 92 ls []) := by
    intro n
    induction n with
    | zero => intro i_92 x_92 h1 h2; exact absurd h2 (by omega)
    | succ n ih_92 =>
      intro i_92 x_92 hi_92 hn_92 e_x_92 gi ig H locs hK hP hD hS ls hl
      have t_x_92 : x_92.toInt = (i_92 : Int) := by rw [e_x_92]; exact nI_toInt (by omega)
      refine lv_iload_n hx hb dX0_becomeAs_92 rfl (lv_at hl 0 rfl) ?_
      refine lv_bipush (v := 8) hx hb dX0_becomeAs_93 (by decide) ?_
      refine lv_icmp_ge (tgt := 116) hx hb dX0_becomeAs_95 (by decide) (fun c7 => ?_) (fun c7 => ?_)
      · skip
        have f_c7 := i_le c7
        refine lv_aload_n hx hb dX0_becomeAs_116 rfl (lv_at hl 1 rfl) ?_
        refine lv_aload_n hx hb dX0_becomeAs_117 rfl (lv_at hl 2 rfl) ?_
        refine va_get (D := (dC, dI)) (ci := 0) (v := .int bacc) (C := RX0) (T := TX0) (N := 13) hx hb hts (fun w h => List.mem_cons_of_mem _ (inlX0 w h)) hown hK hP 8 rfl rfl 7 (by decide) (hts (.fieldLink RX0 34 "ClearingGates$Books" "accounts" "I") (List.mem_cons_of_mem _ mw_112)) (fun _ h9 => h9) rfl dX0_becomeAs_118 ?_
        refine va_put (D := (dC, dI)) (ci := 0) (v := .int bacc) (ty := .int) (C := RX0) (T := TX0) (N := 13) hx hb hts (fun w h => List.mem_cons_of_mem _ (inlX0 w h)) tyX0 tyX0_ok nmX0 hown hK hP hD hS 0 rfl rfl 7 (by decide) (hts (.fieldLink RX0 34 "ClearingGates$Books" "accounts" "I") (List.mem_cons_of_mem _ mw_112)) (fun _ h9 => h9) rfl (by decide +kernel) rfl rfl (Nat.le_of_ble_eq_true rfl) dX0_becomeAs_121 (fun H locs hP hD hS => ?_)
        obtain ⟨hP, hD⟩ := X_s (ws' := [eO h0 0 [.ref aq0, .ref aq1, .ref aq2, .ref aq3, .ref aq4, .ref aq5, .ref aq6, .int bacc, .long afees, .int amis, .int abel, .int aref, .int acau], eI aq0 ak0 8 g1, eI aq1 ak1 8 g2, eI aq2 ak2 8 g3, eI aq3 ak3 8 gi, eI aq4 ak4 8 g4, eI aq5 ak5 8 g5, eI aq6 ak6 8 g6, eO h1 0 [.ref bq0, .ref bq1, .ref bq2, .ref bq3, .ref bq4, .ref bq5, .ref bq6, .int bacc, .long bfees, .int bmis, .int bbel, .int bref, .int bcau], eI bq0 bk0 8 bg0, eI bq1 bk1 8 bg1, eI bq2 bk2 8 bg2, eI bq3 bk3 8 bg3, eI bq4 bk4 8 bg4, eI bq5 bk5 8 bg5, eI bq6 bk6 8 bg6]) hP hD rfl
        refine lv_aload_n hx hb dX0_becomeAs_124 rfl (lv_at hl 1 rfl) ?_
        refine lv_aload_n hx hb dX0_becomeAs_125 rfl (lv_at hl 2 rfl) ?_
        refine va_get (D := (dC, dI)) (ci := 0) (v := .long bfees) (C := RX0) (T := TX0) (N := 13) hx hb hts (fun w h => List.mem_cons_of_mem _ (inlX0 w h)) hown hK hP 8 rfl rfl 8 (by decide) (hts (.fieldLink RX0 51 "ClearingGates$Books" "fees" "J") (List.mem_cons_of_mem _ mw_114)) (fun _ h9 => h9) rfl dX0_becomeAs_126 ?_
        refine va_put (D := (dC, dI)) (ci := 0) (v := .long bfees) (ty := .long) (C := RX0) (T := TX0) (N := 13) hx hb hts (fun w h => List.mem_cons_of_mem _ (inlX0 w h)) tyX0 tyX0_ok nmX0 hown hK hP hD hS 0 rfl rfl 8 (by decide) (hts (.fieldLink RX0 51 "ClearingGates$Books" "fees" "J") (List.mem_cons_of_mem _ mw_114)) (fun _ h9 => h9) rfl (by decide +kernel) rfl rfl (Nat.le_of_ble_eq_true rfl) dX0_becomeAs_129 (fun H locs hP hD hS => ?_)
        obtain ⟨hP, hD⟩ := X_s (ws' := [eO h0 0 [.ref aq0, .ref aq1, .ref aq2, .ref aq3, .ref aq4, .ref aq5, .ref aq6, .int bacc, .long bfees, .int amis, .int abel, .int aref, .int acau], eI aq0 ak0 8 g1, eI aq1 ak1 8 g2, eI aq2 ak2 8 g3, eI aq3 ak3 8 gi, eI aq4 ak4 8 g4, eI aq5 ak5 8 g5, eI aq6 ak6 8 g6, eO h1 0 [.ref bq0, .ref bq1, .ref bq2, .ref bq3, .ref bq4, .ref bq5, .ref bq6, .int bacc, .long bfees, .int bmis, .int bbel, .int bref, .int bcau], eI bq0 bk0 8 bg0, eI bq1 bk1 8 bg1, eI bq2 bk2 8 bg2, eI bq3 bk3 8 bg3, eI bq4 bk4 8 bg4, eI bq5 bk5 8 bg5, eI bq6 bk6 8 bg6]) hP hD rfl
        refine lv_aload_n hx hb dX0_becomeAs_132 rfl (lv_at hl 1 rfl) ?_
        refine lv_aload_n hx hb dX0_becomeAs_133 rfl (lv_at hl 2 rfl) ?_
        refine va_get (D := (dC, dI)) (ci := 0) (v := .int bmis) (C := RX0) (T := TX0) (N := 13) hx hb hts (fun w h => List.mem_cons_of_mem _ (inlX0 w h)) hown hK hP 8 rfl rfl 9 (by decide) (hts (.fieldLink RX0 61 "ClearingGates$Books" "missed" "I") (List.mem_cons_of_mem _ mw_119)) (fun _ h9 => h9) rfl dX0_becomeAs_134 ?_
        refine va_put (D := (dC, dI)) (ci := 0) (v := .int bmis) (ty := .int) (C := RX0) (T := TX0) (N := 13) hx hb hts (fun w h => List.mem_cons_of_mem _ (inlX0 w h)) tyX0 tyX0_ok nmX0 hown hK hP hD hS 0 rfl rfl 9 (by decide) (hts (.fieldLink RX0 61 "ClearingGates$Books" "missed" "I") (List.mem_cons_of_mem _ mw_119)) (fun _ h9 => h9) rfl (by decide +kernel) rfl rfl (Nat.le_of_ble_eq_true rfl) dX0_becomeAs_137 (fun H locs hP hD hS => ?_)
        obtain ⟨hP, hD⟩ := X_s (ws' := [eO h0 0 [.ref aq0, .ref aq1, .ref aq2, .ref aq3, .ref aq4, .ref aq5, .ref aq6, .int bacc, .long bfees, .int bmis, .int abel, .int aref, .int acau], eI aq0 ak0 8 g1, eI aq1 ak1 8 g2, eI aq2 ak2 8 g3, eI aq3 ak3 8 gi, eI aq4 ak4 8 g4, eI aq5 ak5 8 g5, eI aq6 ak6 8 g6, eO h1 0 [.ref bq0, .ref bq1, .ref bq2, .ref bq3, .ref bq4, .ref bq5, .ref bq6, .int bacc, .long bfees, .int bmis, .int bbel, .int bref, .int bcau], eI bq0 bk0 8 bg0, eI bq1 bk1 8 bg1, eI bq2 bk2 8 bg2, eI bq3 bk3 8 bg3, eI bq4 bk4 8 bg4, eI bq5 bk5 8 bg5, eI bq6 bk6 8 bg6]) hP hD rfl
        refine lv_aload_n hx hb dX0_becomeAs_140 rfl (lv_at hl 1 rfl) ?_
        refine lv_aload_n hx hb dX0_becomeAs_141 rfl (lv_at hl 2 rfl) ?_
        refine va_get (D := (dC, dI)) (ci := 0) (v := .int bbel) (C := RX0) (T := TX0) (N := 13) hx hb hts (fun w h => List.mem_cons_of_mem _ (inlX0 w h)) hown hK hP 8 rfl rfl 10 (by decide) (hts (.fieldLink RX0 64 "ClearingGates$Books" "bells" "I") (List.mem_cons_of_mem _ mw_122)) (fun _ h9 => h9) rfl dX0_becomeAs_142 ?_
        refine va_put (D := (dC, dI)) (ci := 0) (v := .int bbel) (ty := .int) (C := RX0) (T := TX0) (N := 13) hx hb hts (fun w h => List.mem_cons_of_mem _ (inlX0 w h)) tyX0 tyX0_ok nmX0 hown hK hP hD hS 0 rfl rfl 10 (by decide) (hts (.fieldLink RX0 64 "ClearingGates$Books" "bells" "I") (List.mem_cons_of_mem _ mw_122)) (fun _ h9 => h9) rfl (by decide +kernel) rfl rfl (Nat.le_of_ble_eq_true rfl) dX0_becomeAs_145 (fun H locs hP hD hS => ?_)
        obtain ⟨hP, hD⟩ := X_s (ws' := [eO h0 0 [.ref aq0, .ref aq1, .ref aq2, .ref aq3, .ref aq4, .ref aq5, .ref aq6, .int bacc, .long bfees, .int bmis, .int bbel, .int aref, .int acau], eI aq0 ak0 8 g1, eI aq1 ak1 8 g2, eI aq2 ak2 8 g3, eI aq3 ak3 8 gi, eI aq4 ak4 8 g4, eI aq5 ak5 8 g5, eI aq6 ak6 8 g6, eO h1 0 [.ref bq0, .ref bq1, .ref bq2, .ref bq3, .ref bq4, .ref bq5, .ref bq6, .int bacc, .long bfees, .int bmis, .int bbel, .int bref, .int bcau], eI bq0 bk0 8 bg0, eI bq1 bk1 8 bg1, eI bq2 bk2 8 bg2, eI bq3 bk3 8 bg3, eI bq4 bk4 8 bg4, eI bq5 bk5 8 bg5, eI bq6 bk6 8 bg6]) hP hD rfl
        refine lv_aload_n hx hb dX0_becomeAs_148 rfl (lv_at hl 1 rfl) ?_
        refine lv_aload_n hx hb dX0_becomeAs_149 rfl (lv_at hl 2 rfl) ?_
        refine va_get (D := (dC, dI)) (ci := 0) (v := .int bref) (C := RX0) (T := TX0) (N := 13) hx hb hts (fun w h => List.mem_cons_of_mem _ (inlX0 w h)) hown hK hP 8 rfl rfl 11 (by decide) (hts (.fieldLink RX0 67 "ClearingGates$Books" "refused" "I") (List.mem_cons_of_mem _ mw_125)) (fun _ h9 => h9) rfl dX0_becomeAs_150 ?_
        refine va_put (D := (dC, dI)) (ci := 0) (v := .int bref) (ty := .int) (C := RX0) (T := TX0) (N := 13) hx hb hts (fun w h => List.mem_cons_of_mem _ (inlX0 w h)) tyX0 tyX0_ok nmX0 hown hK hP hD hS 0 rfl rfl 11 (by decide) (hts (.fieldLink RX0 67 "ClearingGates$Books" "refused" "I") (List.mem_cons_of_mem _ mw_125)) (fun _ h9 => h9) rfl (by decide +kernel) rfl rfl (Nat.le_of_ble_eq_true rfl) dX0_becomeAs_153 (fun H locs hP hD hS => ?_)
        obtain ⟨hP, hD⟩ := X_s (ws' := [eO h0 0 [.ref aq0, .ref aq1, .ref aq2, .ref aq3, .ref aq4, .ref aq5, .ref aq6, .int bacc, .long bfees, .int bmis, .int bbel, .int bref, .int acau], eI aq0 ak0 8 g1, eI aq1 ak1 8 g2, eI aq2 ak2 8 g3, eI aq3 ak3 8 gi, eI aq4 ak4 8 g4, eI aq5 ak5 8 g5, eI aq6 ak6 8 g6, eO h1 0 [.ref bq0, .ref bq1, .ref bq2, .ref bq3, .ref bq4, .ref bq5, .ref bq6, .int bacc, .long bfees, .int bmis, .int bbel, .int bref, .int bcau], eI bq0 bk0 8 bg0, eI bq1 bk1 8 bg1, eI bq2 bk2 8 bg2, eI bq3 bk3 8 bg3, eI bq4 bk4 8 bg4, eI bq5 bk5 8 bg5, eI bq6 bk6 8 bg6]) hP hD rfl
        refine lv_aload_n hx hb dX0_becomeAs_156 rfl (lv_at hl 1 rfl) ?_
        refine lv_aload_n hx hb dX0_becomeAs_157 rfl (lv_at hl 2 rfl) ?_
        refine va_get (D := (dC, dI)) (ci := 0) (v := .int bcau) (C := RX0) (T := TX0) (N := 13) hx hb hts (fun w h => List.mem_cons_of_mem _ (inlX0 w h)) hown hK hP 8 rfl rfl 12 (by decide) (hts (.fieldLink RX0 70 "ClearingGates$Books" "caught" "I") (List.mem_cons_of_mem _ mw_128)) (fun _ h9 => h9) rfl dX0_becomeAs_158 ?_
        refine va_put (D := (dC, dI)) (ci := 0) (v := .int bcau) (ty := .int) (C := RX0) (T := TX0) (N := 13) hx hb hts (fun w h => List.mem_cons_of_mem _ (inlX0 w h)) tyX0 tyX0_ok nmX0 hown hK hP hD hS 0 rfl rfl 12 (by decide) (hts (.fieldLink RX0 70 "ClearingGates$Books" "caught" "I") (List.mem_cons_of_mem _ mw_128)) (fun _ h9 => h9) rfl (by decide +kernel) rfl rfl (Nat.le_of_ble_eq_true rfl) dX0_becomeAs_161 (fun H locs hP hD hS => ?_)
        obtain ⟨hP, hD⟩ := X_s (ws' := [eO h0 0 [.ref aq0, .ref aq1, .ref aq2, .ref aq3, .ref aq4, .ref aq5, .ref aq6, .int bacc, .long bfees, .int bmis, .int bbel, .int bref, .int bcau], eI aq0 ak0 8 g1, eI aq1 ak1 8 g2, eI aq2 ak2 8 g3, eI aq3 ak3 8 gi, eI aq4 ak4 8 g4, eI aq5 ak5 8 g5, eI aq6 ak6 8 g6, eO h1 0 [.ref bq0, .ref bq1, .ref bq2, .ref bq3, .ref bq4, .ref bq5, .ref bq6, .int bacc, .long bfees, .int bmis, .int bbel, .int bref, .int bcau], eI bq0 bk0 8 bg0, eI bq1 bk1 8 bg1, eI bq2 bk2 8 bg2, eI bq3 bk3 8 bg3, eI bq4 bk4 8 bg4, eI bq5 bk5 8 bg5, eI bq6 bk6 8 bg6]) hP hD rfl
        rw [hQ9]
        exact W.vret hx hb hr (fun t ht hW => ⟨⟨(), rfl, (by first | rfl | trivial), g1, g2, g3, gi, g4, g5, g6, (fun j hj => by rw [← e_g1]; exact cpy8 j hj), (fun j hj => by rw [← e_g2]; exact cpy8 j hj), (fun j hj => by rw [← e_g3]; exact cpy8 j hj), (fun j hj => ig j (by omega)), (fun j hj => by rw [← e_g4]; exact cpy8 j hj), (fun j hj => by rw [← e_g5]; exact cpy8 j hj), (fun j hj => by rw [← e_g6]; exact cpy8 j hj), by rw [ht]; exact hP, va_K.moved hW.alike hK, hD⟩, hS.F ht⟩) hS.2.2 dX0_becomeAs_164
      · skip
        have f_c7 := i_nle c7
        refine lv_aload_n hx hb dX0_becomeAs_98 rfl (lv_at hl 1 rfl) ?_
        refine va_get (D := (dC, dI)) (ci := 0) (v := .ref aq3) (C := RX0) (T := TX0) (N := 13) hx hb hts (fun w h => List.mem_cons_of_mem _ (inlX0 w h)) hown hK hP 0 rfl rfl 3 (by decide) (hts (.fieldLink RX0 21 "ClearingGates$Books" "gates" "[Z") (List.mem_cons_of_mem _ mw_101)) (fun _ h9 => h9) rfl dX0_becomeAs_99 ?_
        refine lv_iload_n hx hb dX0_becomeAs_102 rfl (lv_at hl 0 rfl) ?_
        refine lv_aload_n hx hb dX0_becomeAs_103 rfl (lv_at hl 2 rfl) ?_
        refine va_get (D := (dC, dI)) (ci := 0) (v := .ref bq3) (C := RX0) (T := TX0) (N := 13) hx hb hts (fun w h => List.mem_cons_of_mem _ (inlX0 w h)) hown hK hP 8 rfl rfl 3 (by decide) (hts (.fieldLink RX0 21 "ClearingGates$Books" "gates" "[Z") (List.mem_cons_of_mem _ mw_101)) (fun _ h9 => h9) rfl dX0_becomeAs_104 ?_
        refine lv_iload_n hx hb dX0_becomeAs_107 rfl (lv_at hl 0 rfl) ?_
        refine va_zald (D := (dC, dI)) hx hb hK hP 12 10 rfl rfl (vp_in_iff.mpr ⟨by omega, by omega⟩) dX0_becomeAs_108 ?_
        refine lv_topi (fun z8 e_z8 => ?_)
        have v_z8 : z8.toInt = 0 ∨ z8.toInt = 1 := by rw [e_z8]; exact h01 _ (i_natlt (by omega) (by omega))
        refine va_zast (D := (dC, dI)) hx hb hK hP hD hS 4 3 rfl rfl (vp_in_iff.mpr ⟨by omega, by omega⟩) dX0_becomeAs_109 (fun H locs hP hD hS => ?_)
        generalize e_g9 : (upd gi (x_92).toNatClampNeg (vp_nar .boolean z8)) = g9 at hP hD
        obtain ⟨hP, hD⟩ := X_s (ws' := [eO h0 0 [.ref aq0, .ref aq1, .ref aq2, .ref aq3, .ref aq4, .ref aq5, .ref aq6, .int aacc, .long afees, .int amis, .int abel, .int aref, .int acau], eI aq0 ak0 8 g1, eI aq1 ak1 8 g2, eI aq2 ak2 8 g3, eI aq3 ak3 8 g9, eI aq4 ak4 8 g4, eI aq5 ak5 8 g5, eI aq6 ak6 8 g6, eO h1 0 [.ref bq0, .ref bq1, .ref bq2, .ref bq3, .ref bq4, .ref bq5, .ref bq6, .int bacc, .long bfees, .int bmis, .int bbel, .int bref, .int bcau], eI bq0 bk0 8 bg0, eI bq1 bk1 8 bg1, eI bq2 bk2 8 bg2, eI bq3 bk3 8 bg3, eI bq4 bk4 8 bg4, eI bq5 bk5 8 bg5, eI bq6 bk6 8 bg6]) hP hD rfl
        obtain ⟨x10, e_x10⟩ : ∃ yy : Int32, yy = x_92 + 1 := ⟨_, rfl⟩
        refine lv_iinc (v := x10) (lv' := [(2, .int x10), (0, .ref h0), (1, .ref h1)]) hx hb dX0_becomeAs_110 hl (k := 0) rfl (by rw [e_x10]; rfl) (by decide) rfl (fun ls hl => ?_)
        refine lv_goto (tgt := 92) hx hb dX0_becomeAs_113 (by decide) ?_
        exact ih_92 (i_92 + 1) x10 (by omega) (by omega) (by rw [e_x10, e_x_92]; exact nI_1 i_92) g9 (cp01 t_x_92 v_z8 e_z8 e_g9 ig) _ _ (K_s hK [(0, 14)] rfl) (P_s hP [(0, 16)] rfl) (D_s hD [(0, 16)] 16 rfl (by decide +kernel) rfl) hS ls (lv_sub hl [0, 1, 2] rfl)
  exact loop_92 (8 + 1) 0 0 (by omega) (by omega) rfl ag3 (fun j hj => absurd hj (by omega)) _ _ hK hP hD hS ls hl
