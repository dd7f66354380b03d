set_option maxRecDepth 100000 in
set_option maxHeartbeats 4000000 in
/-- Debts.between -/
theorem c_X1_between (l : Launch) (dC : Nat → ClassId) (dI : Nat → Nat → Nat) (h0 : Nat) (p0 : Int32) (p1 : Int32) (qr : Nat) (kr : ClassId) (fr : Nat → Int32) (sz : Nat) (h1 : 0 ≤ p0.toInt) (h2 : p0.toInt < 8) (h3 : 0 ≤ p1.toInt) (h4 : p1.toInt < 8) : Met l yX1_between wsX1_between ({ frames := 0, cells := 0, slots := 0, locals := 0 }) (va_Pc [.ref h0, .int p0, .int p1] (fun U => U.heap.size = sz ∧ va_P (dC, dI) vwCl [eO h0 1 [.ref qr], eI qr kr 64 fr] U.heap ∧ va_K (dC, dI) vwCl [(kr, .int)] U ∧ va_D (fun _ => True) [eO h0 1 [.ref qr], eI qr kr 64 fr])) (va_Qi (fun (r : Int32) (_ : Unit) => True) (fun (_ : Unit) (t : State) => va_P (dC, dI) vwCl [eO h0 1 [.ref qr], eI qr kr 64 fr] t.heap ∧ va_K (dC, dI) vwCl [(kr, .int)] t ∧ va_D (va_A [eO h0 1 [.ref qr], eI qr kr 64 fr] sz) [eO h0 1 [.ref qr], eI qr kr 64 fr]) (va_A [eO h0 1 [.ref qr], eI qr kr 64 fr] sz)) 0 0 (va_A [eO h0 1 [.ref qr], eI qr kr 64 fr] sz) := by
  refine Met.ofW (cc := cX1_between) (maxL := 3) (ret := (some .int)) (by decide) rfl ?_
  intro p e s m args below meth c s₁ B hml hv
  obtain ⟨rfl, hsz, hP, hK, hD0⟩ := hv
  have hx := B.exec
  have hb := B.bytes
  have hr := B.returns
  have hts := atoms_spec (ws := wsX1_between) B.pre
  have hown : s.vm.findClass RX1 = some m.cls := findClass_of_methodNamed B.named
  have hlocks := B.notSynchronized
  subst hsz
  have hD := hD0.self (sz := s.heap.size)
  generalize hAe : va_A [eO h0 1 [.ref qr], eI qr kr 64 fr] s.heap.size = A at hD ⊢
  have hA : ∀ q : Nat, s.heap.size ≤ q → A q := fun q h => by rw [← hAe]; exact Or.inr h
  have hS : va_S A s.heap s.heap [] := va_S.rf
  have hP : va_P (dC, dI) vwCl [eO h0 1 [.ref qr], eI qr kr 64 fr] s.heap := hP
  have hl := lv_entry ([.ref h0, .int p0, .int p1]) (n := 3) (Nat.le_of_ble_eq_true rfl)
  rw [lg_entry_eq]
  generalize (lg_sl ([.ref h0, .int p0, .int p1]) ++ List.replicate (3 - (lg_sl ([.ref h0, .int p0, .int p1])).length) Slot.unset).toArray = ls at hl ⊢
  have hl : lv_has ls 3 [(0, .ref h0), (1, .int p0), (2, .int p1)] := hl
  suffices key9 : ∀ Q9 : State → Prop, Q9 = (MQ below (va_Qi (fun (r : Int32) (_ : Unit) => True) (fun (_ : Unit) (t : State) => va_P (dC, dI) vwCl [eO h0 1 [.ref qr], eI qr kr 64 fr] t.heap ∧ va_K (dC, dI) vwCl [(kr, .int)] t ∧ va_D A [eO h0 1 [.ref qr], eI qr kr 64 fr]) A) (([.ref h0, .int p0, .int p1] : List Value).toArray) s 0 0 A) → W p l e ({ frames := 0, cells := 0, slots := 0, locals := 0 }) s m (([.ref h0, .int p0, .int p1] : List Value).toArray) below meth c s.heap [] 0 0 Q9 (F0 m 0 ls []) from key9 _ rfl
  intro Q9 hQ9
  have k_8 : (8 : Int32).toInt = 8 := by decide
  refine lv_aload_n hx hb dX1_between_0 rfl (lv_at hl 0 rfl) ?_
  refine va_get (D := (dC, dI)) (ci := 1) (v := .ref qr) (C := RX1) (T := TX1) (N := 1) hx hb hts (fun w h => List.mem_cons_of_mem _ (inlX1 w h)) hown hK hP 0 rfl rfl 0 (by decide) (hts (.fieldLink RX1 9 "ClearingGates$Debts" "row" "[I") (List.mem_cons_of_mem _ mw_136)) (fun _ h9 => h9) rfl dX1_between_1 ?_
  refine lv_iload_n hx hb dX1_between_4 rfl (lv_at hl 1 rfl) ?_
  refine lv_bipush (v := 8) hx hb dX1_between_5 (by decide) ?_
  refine lv_imul hx hb dX1_between_7 ?_
  refine lv_topi (fun z1 e_z1 => ?_)
  have t_z1 := i_mul8 e_z1 (by omega) (by omega)
  refine lv_iload_n hx hb dX1_between_8 rfl (lv_at hl 2 rfl) ?_
  refine lv_iadd hx hb dX1_between_9 ?_
  refine lv_topi (fun z2 e_z2 => ?_)
  have t_z2 := i_add e_z2 (by omega) (by omega)
  refine va_iald (D := (dC, dI)) hx hb hK hP 1 0 rfl rfl (vp_in_iff.mpr ⟨by omega, by omega⟩) dX1_between_10 ?_
  refine lv_topi (fun z3 e_z3 => ?_)
  rw [hQ9]
  exact W.iret (v := z3) hx hb hr (fun t ht hW => ⟨⟨z3, (), rfl, (by first | rfl | trivial), by rw [ht]; exact hP, va_K.moved hW.alike hK, hD⟩, hS.F ht⟩) hS.2.2 dX1_between_11

set_option maxRecDepth 100000 in
set_option maxHeartbeats 4000000 in
/-- Debts.become -/
theorem c_X1_become (l : Launch) (dC : Nat → ClassId) (dI : Nat → Nat → Nat) (h0 : Nat) (p0 : Int32) (p1 : Int32) (p2 : Int32) (qr : Nat) (kr : ClassId) (fr : Nat → Int32) (sz : Nat) (h1 : 0 ≤ p0.toInt) (h2 : p0.toInt < 8) (h3 : 0 ≤ p1.toInt) (h4 : p1.toInt < 8) : Met l yX1_become wsX1_become ({ frames := 0, cells := 0, slots := 0, locals := 0 }) (va_Pc [.ref h0, .int p0, .int p1, .int p2] (fun U => U.heap.size = sz ∧ va_P (dC, dI) vwCl [eO h0 1 [.ref qr], eI qr kr 64 fr] U.heap ∧ va_K (dC, dI) vwCl [(kr, .int)] U ∧ va_D (fun _ => True) [eO h0 1 [.ref qr], eI qr kr 64 fr])) (va_Qv (fun (_ : Unit) => True) (fun (_ : Unit) (t : State) => ∃ (fr' : Nat → Int32), va_P (dC, dI) vwCl [eO h0 1 [.ref qr], eI qr kr 64 (fr')] t.heap ∧ va_K (dC, dI) vwCl [(kr, .int)] t ∧ va_D (va_A [eO h0 1 [.ref qr], eI qr kr 64 fr] sz) [eO h0 1 [.ref qr], eI qr kr 64 (fr')]) (va_A [eO h0 1 [.ref qr], eI qr kr 64 fr] sz)) 0 0 (va_A [eO h0 1 [.ref qr], eI qr kr 64 fr] sz) := by
  refine Met.ofW (cc := cX1_become) (maxL := 4) (ret := none) (by decide) rfl ?_
  intro p e s m args below meth c s₁ B hml hv
  obtain ⟨rfl, hsz, hP, hK, hD0⟩ := hv
  have hx := B.exec
  have hb := B.bytes
  have hr := B.returns
  have hts := atoms_spec (ws := wsX1_become) B.pre
  have hown : s.vm.findClass RX1 = some m.cls := findClass_of_methodNamed B.named
  have hlocks := B.notSynchronized
  subst hsz
  have hD := hD0.self (sz := s.heap.size)
  generalize hAe : va_A [eO h0 1 [.ref qr], eI qr kr 64 fr] s.heap.size = A at hD ⊢
  have hA : ∀ q : Nat, s.heap.size ≤ q → A q := fun q h => by rw [← hAe]; exact Or.inr h
  have hS : va_S A s.heap s.heap [] := va_S.rf
  have hP : va_P (dC, dI) vwCl [eO h0 1 [.ref qr], eI qr kr 64 fr] s.heap := hP
  have hl := lv_entry ([.ref h0, .int p0, .int p1, .int p2]) (n := 4) (Nat.le_of_ble_eq_true rfl)
  rw [lg_entry_eq]
  generalize (lg_sl ([.ref h0, .int p0, .int p1, .int p2]) ++ List.replicate (4 - (lg_sl ([.ref h0, .int p0, .int p1, .int p2])).length) Slot.unset).toArray = ls at hl ⊢
  have hl : lv_has ls 4 [(0, .ref h0), (1, .int p0), (2, .int p1), (3, .int p2)] := hl
  suffices key9 : ∀ Q9 : State → Prop, Q9 = (MQ below (va_Qv (fun (_ : Unit) => True) (fun (_ : Unit) (t : State) => ∃ (fr' : Nat → Int32), va_P (dC, dI) vwCl [eO h0 1 [.ref qr], eI qr kr 64 (fr')] t.heap ∧ va_K (dC, dI) vwCl [(kr, .int)] t ∧ va_D A [eO h0 1 [.ref qr], eI qr kr 64 (fr')]) A) (([.ref h0, .int p0, .int p1, .int p2] : List Value).toArray) s 0 0 A) → W p l e ({ frames := 0, cells := 0, slots := 0, locals := 0 }) s m (([.ref h0, .int p0, .int p1, .int p2] : List Value).toArray) below meth c s.heap [] 0 0 Q9 (F0 m 0 ls []) from key9 _ rfl
  intro Q9 hQ9
  have k_8 : (8 : Int32).toInt = 8 := by decide
  refine lv_aload_n hx hb dX1_become_0 rfl (lv_at hl 0 rfl) ?_
  refine va_get (D := (dC, dI)) (ci := 1) (v := .ref qr) (C := RX1) (T := TX1) (N := 1) hx hb hts (fun w h => List.mem_cons_of_mem _ (inlX1 w h)) hown hK hP 0 rfl rfl 0 (by decide) (hts (.fieldLink RX1 9 "ClearingGates$Debts" "row" "[I") (List.mem_cons_of_mem _ mw_136)) (fun _ h9 => h9) rfl dX1_become_1 ?_
  refine lv_iload_n hx hb dX1_become_4 rfl (lv_at hl 1 rfl) ?_
  refine lv_bipush (v := 8) hx hb dX1_become_5 (by decide) ?_
  refine lv_imul hx hb dX1_become_7 ?_
  refine lv_topi (fun z1 e_z1 => ?_)
  have t_z1 := i_mul8 e_z1 (by omega) (by omega)
  refine lv_iload_n hx hb dX1_become_8 rfl (lv_at hl 2 rfl) ?_
  refine lv_iadd hx hb dX1_become_9 ?_
  refine lv_topi (fun z2 e_z2 => ?_)
  have t_z2 := i_add e_z2 (by omega) (by omega)
  refine lv_iload_n hx hb dX1_become_10 rfl (lv_at hl 3 rfl) ?_
  refine va_iast (D := (dC, dI)) hx hb hK hP hD hS 1 0 rfl rfl (vp_in_iff.mpr ⟨by omega, by omega⟩) dX1_become_11 (fun H locs hP hD hS => ?_)
  generalize e_g3 : (upd fr (z2).toNatClampNeg p2) = g3 at hP hD
  obtain ⟨hP, hD⟩ := X_s (ws' := [eO h0 1 [.ref qr], eI qr kr 64 g3]) hP hD rfl
  rw [hQ9]
  exact W.vret hx hb hr (fun t ht hW => ⟨⟨(), rfl, (by first | rfl | trivial), g3, by rw [ht]; exact hP, va_K.moved hW.alike hK, hD⟩, hS.F ht⟩) hS.2.2 dX1_become_12

set_option maxRecDepth 100000 in
set_option maxHeartbeats 4000000 in
/-- Debts.total -/
theorem c_X1_total (l : Launch) (dC : Nat → ClassId) (dI : Nat → Nat → Nat) (h0 : Nat) (qr : Nat) (kr : ClassId) (fr : Nat → Int32) (sz : Nat) : Met l yX1_total wsX1_total ({ frames := 0, cells := 0, slots := 0, locals := 0 }) (va_Pc [.ref h0] (fun U => U.heap.size = sz ∧ va_P (dC, dI) vwCl [eO h0 1 [.ref qr], eI qr kr 64 fr] U.heap ∧ va_K (dC, dI) vwCl [(kr, .int)] U ∧ va_D (fun _ => True) [eO h0 1 [.ref qr], eI qr kr 64 fr])) (va_Ql (fun (r : Int64) (_ : Unit) => True) (fun (_ : Unit) (t : State) => va_P (dC, dI) vwCl [eO h0 1 [.ref qr], eI qr kr 64 fr] t.heap ∧ va_K (dC, dI) vwCl [(kr, .int)] t ∧ va_D (va_A [eO h0 1 [.ref qr], eI qr kr 64 fr] sz) [eO h0 1 [.ref qr], eI qr kr 64 fr]) (va_A [eO h0 1 [.ref qr], eI qr kr 64 fr] sz)) 0 0 (va_A [eO h0 1 [.ref qr], eI qr kr 64 fr] sz) := by
  refine Met.ofW (cc := cX1_total) (maxL := 4) (ret := (some .long)) (by decide) rfl ?_
  intro p e s m args below meth c s₁ B hml hv
  obtain ⟨rfl, hsz, hP, hK, hD0⟩ := hv
  have hx := B.exec
  have hb := B.bytes
  have hr := B.returns
  have hts := atoms_spec (ws := wsX1_total) B.pre
  have hown : s.vm.findClass RX1 = some m.cls := findClass_of_methodNamed B.named
  have hlocks := B.notSynchronized
  subst hsz
  have hD := hD0.self (sz := s.heap.size)
  generalize hAe : va_A [eO h0 1 [.ref qr], eI qr kr 64 fr] s.heap.size = A at hD ⊢
  have hA : ∀ q : Nat, s.heap.size ≤ q → A q := fun q h => by rw [← hAe]; exact Or.inr h
  have hS : va_S A s.heap s.heap [] := va_S.rf
  have hP : va_P (dC, dI) vwCl [eO h0 1 [.ref qr], eI qr kr 64 fr] s.heap := hP
  have hl := lv_entry ([.ref h0]) (n := 4) (Nat.le_of_ble_eq_true rfl)
  rw [lg_entry_eq]
  generalize (lg_sl ([.ref h0]) ++ List.replicate (4 - (lg_sl ([.ref h0])).length) Slot.unset).toArray = ls at hl ⊢
  have hl : lv_has ls 4 [(0, .ref h0)] := hl
  suffices key9 : ∀ Q9 : State → Prop, Q9 = (MQ below (va_Ql (fun (r : Int64) (_ : Unit) => True) (fun (_ : Unit) (t : State) => va_P (dC, dI) vwCl [eO h0 1 [.ref qr], eI qr kr 64 fr] t.heap ∧ va_K (dC, dI) vwCl [(kr, .int)] t ∧ va_D A [eO h0 1 [.ref qr], eI qr kr 64 fr]) A) (([.ref h0] : List Value).toArray) s 0 0 A) → W p l e ({ frames := 0, cells := 0, slots := 0, locals := 0 }) s m (([.ref h0] : List Value).toArray) below meth c s.heap [] 0 0 Q9 (F0 m 0 ls []) from key9 _ rfl
  intro Q9 hQ9
  have k_64 : (64 : Int32).toInt = 64 := by decide
  refine lv_lconst (v := 0) hx hb dX1_total_0 (by decide) ?_
  refine lv_lstore_n (lv' := [(1, .long 0), (0, .ref h0)]) hx hb dX1_total_1 rfl hl (by decide) rfl (fun ls hl => ?_)
  refine lv_iconst (v := 0) hx hb dX1_total_2 (by decide) ?_
  refine lv_istore_n (lv' := [(3, .int 0), (1, .long 0), (0, .ref h0)]) hx hb dX1_total_3 rfl hl (by decide) rfl (fun ls hl => ?_)
  have loop_4 : ∀ (n i_4 : Nat) (x_4 : Int32), i_4 ≤ 64 → 64 < i_4 + n → x_4 = nI i_4 → ∀ (al : Int64), ∀ (H : Heap) (locs : List Loc), va_K (dC, dI) vwCl [(kr, .int)] s → va_P (dC, dI) vwCl [eO h0 1 [.ref qr], eI qr kr 64 fr] H → va_D A [eO h0 1 [.ref qr], eI qr kr 64 fr] → va_S A s.heap H locs → ∀ (ls : Array Slot), lv_has ls 4 [(3, .int x_4), (1, .long al), (0, .ref h0)] → W p l e ({ frames := 0, cells := 0, slots := 0, locals := 0 }) s m (([.ref h0] : List Value).toArray) below meth c H locs 0 0 Q9 (F0 m 4 ls []) := by
    intro n
    induction n with
    | zero => intro i_4 x_4 h1 h2; exact absurd h2 (by omega)
    | succ n ih_4 =>
      intro i_4 x_4 hi_4 hn_4 e_x_4 al H locs hK hP hD hS ls hl
      have t_x_4 : x_4.toInt = (i_4 : Int) := by rw [e_x_4]; exact nI_toInt (by omega)
      refine lv_iload_n hx hb dX1_total_4 rfl (lv_at hl 0 rfl) ?_
      refine lv_aload_n hx hb dX1_total_5 rfl (lv_at hl 2 rfl) ?_
      refine va_get (D := (dC, dI)) (ci := 1) (v := .ref qr) (C := RX1) (T := TX1) (N := 1) hx hb hts (fun w h => List.mem_cons_of_mem _ (inlX1 w h)) hown hK hP 0 rfl rfl 0 (by decide) (hts (.fieldLink RX1 9 "ClearingGates$Debts" "row" "[I") (List.mem_cons_of_mem _ mw_136)) (fun _ h9 => h9) rfl dX1_total_6 ?_
      refine va_alen (D := (dC, dI)) (v := 64) hx hb hK hP 1 0 rfl rfl rfl dX1_total_9 ?_
      refine lv_icmp_ge (tgt := 29) hx hb dX1_total_10 (by decide) (fun c1 => ?_) (fun c1 => ?_)
      · skip
        have f_c1 := i_le c1
        refine lv_lload_n hx hb dX1_total_29 rfl (lv_at hl 1 rfl) ?_
        rw [hQ9]
        exact W.lret (v := al) hx hb hr (fun t ht hW => ⟨⟨al, (), rfl, (by first | rfl | trivial), by rw [ht]; exact hP, va_K.moved hW.alike hK, hD⟩, hS.F ht⟩) hS.2.2 dX1_total_30
      · skip
        have f_c1 := i_nle c1
        refine lv_lload_n hx hb dX1_total_13 rfl (lv_at hl 1 rfl) ?_
        refine lv_aload_n hx hb dX1_total_14 rfl (lv_at hl 2 rfl) ?_
        refine va_get (D := (dC, dI)) (ci := 1) (v := .ref qr) (C := RX1) (T := TX1) (N := 1) hx hb hts (fun w h => List.mem_cons_of_mem _ (inlX1 w h)) hown hK hP 0 rfl rfl 0 (by decide) (hts (.fieldLink RX1 9 "ClearingGates$Debts" "row" "[I") (List.mem_cons_of_mem _ mw_136)) (fun _ h9 => h9) rfl dX1_total_15 ?_
        refine lv_iload_n hx hb dX1_total_18 rfl (lv_at hl 0 rfl) ?_
        refine va_iald (D := (dC, dI)) hx hb hK hP 1 0 rfl rfl (vp_in_iff.mpr ⟨by omega, by omega⟩) dX1_total_19 ?_
        refine lv_topi (fun z2 e_z2 => ?_)
        refine lv_i2l (v := z2.toInt64) hx hb dX1_total_20 rfl ?_
        have t_t3 := Int32.toInt_toInt64 z2
        refine lv_ladd hx hb dX1_total_21 ?_
        refine lv_topl (fun z4 e_z4 => ?_)
        refine lv_lstore_n (lv' := [(1, .long z4), (3, .int x_4), (0, .ref h0)]) hx hb dX1_total_22 rfl hl (by decide) rfl (fun ls hl => ?_)
        obtain ⟨x5, e_x5⟩ : ∃ yy : Int32, yy = x_4 + 1 := ⟨_, rfl⟩
        refine lv_iinc (v := x5) (lv' := [(3, .int x5), (1, .long z4), (0, .ref h0)]) hx hb dX1_total_23 hl (k := 1) rfl (by rw [e_x5]; rfl) (by decide) rfl (fun ls hl => ?_)
        refine lv_goto (tgt := 4) hx hb dX1_total_26 (by decide) ?_
        exact ih_4 (i_4 + 1) x5 (by omega) (by omega) (by rw [e_x5, e_x_4]; exact nI_1 i_4) z4  _ _ (K_s hK [(0, 1)] rfl) (P_s hP [(0, 2)] rfl) (D_s hD [(0, 2)] 2 rfl (by decide +kernel) rfl) hS ls (lv_sub hl [0, 1, 2] rfl)
  exact loop_4 (64 + 1) 0 0 (by omega) (by omega) rfl 0  _ _ hK hP hD hS ls hl

set_option maxRecDepth 100000 in
set_option maxHeartbeats 4000000 in
/-- Debts.positionOf -/
theorem c_X1_positionOf (l : Launch) (dC : Nat → ClassId) (dI : Nat → Nat → Nat) (h0 : Nat) (p0 : Int32) (qr : Nat) (kr : ClassId) (fr : Nat → Int32) (sz : Nat) (h1 : 0 ≤ p0.toInt) (h2 : p0.toInt < 8) : Met l yX1_positionOf wsX1_positionOf ({ frames := 1, cells := 0, slots := 0, locals := 22 }) (va_Pc [.ref h0, .int p0] (fun U => U.heap.size = sz ∧ va_P (dC, dI) vwCl [eO h0 1 [.ref qr], eI qr kr 64 fr] U.heap ∧ va_K (dC, dI) vwCl [(kr, .int)] U ∧ va_D (fun _ => True) [eO h0 1 [.ref qr], eI qr kr 64 fr])) (va_Ql (fun (r : Int64) (_ : Unit) => True) (fun (_ : Unit) (t : State) => va_P (dC, dI) vwCl [eO h0 1 [.ref qr], eI qr kr 64 fr] t.heap ∧ va_K (dC, dI) vwCl [(kr, .int)] t ∧ va_D (va_A [eO h0 1 [.ref qr], eI qr kr 64 fr] sz) [eO h0 1 [.ref qr], eI qr kr 64 fr]) (va_A [eO h0 1 [.ref qr], eI qr kr 64 fr] sz)) 0 0 (va_A [eO h0 1 [.ref qr], eI qr kr 64 fr] sz) := by
  refine Met.ofW (cc := cX1_positionOf) (maxL := 5) (ret := (some .long)) (by decide) rfl ?_
  intro p e s m args below meth c s₁ B hml hv
  obtain ⟨rfl, hsz, hP, hK, hD0⟩ := hv
  have hx := B.exec
  have hb := B.bytes
  have hr := B.returns
  have hts := atoms_spec (ws := wsX1_positionOf) B.pre
  have hown : s.vm.findClass RX1 = some m.cls := findClass_of_methodNamed B.named
  have hlocks := B.notSynchronized
  subst hsz
  have hD := hD0.self (sz := s.heap.size)
  generalize hAe : va_A [eO h0 1 [.ref qr], eI qr kr 64 fr] s.heap.size = A at hD ⊢
  have hA : ∀ q : Nat, s.heap.size ≤ q → A q := fun q h => by rw [← hAe]; exact Or.inr h
  have hS : va_S A s.heap s.heap [] := va_S.rf
  have hP : va_P (dC, dI) vwCl [eO h0 1 [.ref qr], eI qr kr 64 fr] s.heap := hP
  have hl := lv_entry ([.ref h0, .int p0]) (n := 5) (Nat.le_of_ble_eq_true rfl)
  rw [lg_entry_eq]
  generalize (lg_sl ([.ref h0, .int p0]) ++ List.replicate (5 - (lg_sl ([.ref h0, .int p0])).length) Slot.unset).toArray = ls at hl ⊢
  have hl : lv_has ls 5 [(0, .ref h0), (1, .int p0)] := hl
  suffices key9 : ∀ Q9 : State → Prop, Q9 = (MQ below (va_Ql (fun (r : Int64) (_ : Unit) => True) (fun (_ : Unit) (t : State) => va_P (dC, dI) vwCl [eO h0 1 [.ref qr], eI qr kr 64 fr] t.heap ∧ va_K (dC, dI) vwCl [(kr, .int)] t ∧ va_D A [eO h0 1 [.ref qr], eI qr kr 64 fr]) A) (([.ref h0, .int p0] : List Value).toArray) s 0 0 A) → W p l e ({ frames := 1, cells := 0, slots := 0, locals := 22 }) s m (([.ref h0, .int p0] : List Value).toArray) below meth c s.heap [] 0 0 Q9 (F0 m 0 ls []) from key9 _ rfl
  intro Q9 hQ9
  have k_8 : (8 : Int32).toInt = 8 := by decide
  refine lv_lconst (v := 0) hx hb dX1_positionOf_0 (by decide) ?_
  refine lv_lstore_n (lv' := [(2, .long 0), (0, .ref h0), (1, .int p0)]) hx hb dX1_positionOf_1 rfl hl (by decide) rfl (fun ls hl => ?_)
  refine lv_iconst (v := 0) hx hb dX1_positionOf_2 (by decide) ?_
  refine lv_istore (lv' := [(4, .int 0), (2, .long 0), (0, .ref h0), (1, .int p0)]) hx hb dX1_positionOf_3 hl (by decide) rfl (fun ls hl => ?_)
  have loop_5 : ∀ (n i_5 : Nat) (x_5 : Int32), i_5 ≤ 8 → 8 < i_5 + n → x_5 = nI i_5 → ∀ (al : Int64), ∀ (H : Heap) (locs : List Loc), va_K (dC, dI) vwCl [(kr, .int)] s → va_P (dC, dI) vwCl [eO h0 1 [.ref qr], eI qr kr 64 fr] H → va_D A [eO h0 1 [.ref qr], eI qr kr 64 fr] → va_S A s.heap H locs → ∀ (ls : Array Slot), lv_has ls 5 [(4, .int x_5), (2, .long al), (0, .ref h0), (1, .int p0)] → W p l e ({ frames := 1, cells := 0, slots := 0, locals := 22 }) s m (([.ref h0, .int p0] : List Value).toArray) below meth c H locs 0 0 Q9 (F0 m 5 ls []) := by
    intro n
    induction n with
    | zero => intro i_5 x_5 h1 h2; exact absurd h2 (by omega)
    | succ n ih_5 =>
      intro i_5 x_5 hi_5 hn_5 e_x_5 al H locs hK hP hD hS ls hl
      have t_x_5 : x_5.toInt = (i_5 : Int) := by rw [e_x_5]; exact nI_toInt (by omega)
      refine lv_iload hx hb dX1_positionOf_5 (lv_at hl 0 rfl) ?_
      refine lv_bipush (v := 8) hx hb dX1_positionOf_7 (by decide) ?_
      refine lv_icmp_ge (tgt := 37) hx hb dX1_positionOf_9 (by decide) (fun c1 => ?_) (fun c1 => ?_)
      · skip
        have f_c1 := i_le c1
        refine lv_lload_n hx hb dX1_positionOf_37 rfl (lv_at hl 1 rfl) ?_
        rw [hQ9]
        exact W.lret (v := al) hx hb hr (fun t ht hW => ⟨⟨al, (), rfl, (by first | rfl | trivial), by rw [ht]; exact hP, va_K.moved hW.alike hK, hD⟩, hS.F ht⟩) hS.2.2 dX1_positionOf_38
      · skip
        have f_c1 := i_nle c1
        refine lv_lload_n hx hb dX1_positionOf_12 rfl (lv_at hl 1 rfl) ?_
        refine lv_aload_n hx hb dX1_positionOf_13 rfl (lv_at hl 2 rfl) ?_
        refine lv_iload hx hb dX1_positionOf_14 (lv_at hl 0 rfl) ?_
        refine lv_iload_n hx hb dX1_positionOf_16 rfl (lv_at hl 3 rfl) ?_
        obtain ⟨hPc, hDc, hFc, hCm, hNw⟩ := C_s (wc := [eO h0 1 [.ref qr], eI qr kr 64 fr]) hP hD hS hA [(0, 2)] 2 rfl (by decide +kernel) rfl
        have hKc := K_s (tys' := [(kr, .int)]) hK [(0, 1)] rfl
        refine va_calli (va_runV (As := [.int x_5, .int p0]) (rest := [.long al]) ⟨hx, hb, hml, hown, hts⟩ (c_X1_between l dC dI h0 x_5 p0 qr kr fr H.size (by first | assumption | omega) (by first | assumption | omega) h1 h2) (cwV 2 hts gX1_positionOf_X1_between rfl rfl rfl (by decide +kernel) ⟨Nat.le_of_ble_eq_true rfl, Nat.le_of_ble_eq_true rfl⟩) ⟨fun a U g mk q => by obtain ⟨q0, q1, qP, qK, qD⟩ := q; exact ⟨q0, q1, qP, va_K.moved (u := U) (U := U.calling g mk a) (Vm.Alike.refl U.vm) qK, qD⟩, va_recv (s := s) (q := (RX1, TX1, 1)) hKc hPc (ci := 1) (q0 := 0) rfl rfl, fun U hU hW => ⟨rfl, by rw [hU], by rw [hU]; exact hPc, va_K.moved hW.alike hKc, hDc.weaken (fun _ _ _ _ => trivial)⟩⟩ rfl rfl hl.1 rfl (lv_room (Nat.le_of_ble_eq_true rfl)) dX1_positionOf_17 ⟨Nat.le_of_ble_eq_true rfl, Nat.le_of_ble_eq_true rfl⟩) hS (fun q _ h => hFc q h) hFc (fun r2 u t H1 locs ht hvm hw hB hz1 hk1 hS => ?_)
        obtain ⟨hP1, hK1, hD1⟩ := hB
        rw [ht] at hP1
        have hK1 := va_K.moved hvm.symm hK1
        try dsimp only at hw
        obtain ⟨hP, hD⟩ := J_s (wL := [eO h0 1 [.ref qr], eI qr kr 64 fr]) hP hD [(0, 2)] [] hCm hNw (by decide +kernel) hk1 hFc hP1 hD1 rfl
        have hK := KJ_s (tys' := [(kr, .int)]) hK hK1 [] rfl
        generalize H1 = H at hP hS ⊢
        refine lv_aload_n hx hb dX1_positionOf_20 rfl (lv_at hl 2 rfl) ?_
        refine lv_iload_n hx hb dX1_positionOf_21 rfl (lv_at hl 3 rfl) ?_
        refine lv_iload hx hb dX1_positionOf_22 (lv_at hl 0 rfl) ?_
        obtain ⟨hPc, hDc, hFc, hCm, hNw⟩ := C_s (wc := [eO h0 1 [.ref qr], eI qr kr 64 fr]) hP hD hS hA [(0, 2)] 2 rfl (by decide +kernel) rfl
        have hKc := K_s (tys' := [(kr, .int)]) hK [(0, 1)] rfl
        refine va_calli (va_runV (As := [.int p0, .int x_5]) (rest := [.int r2, .long al]) ⟨hx, hb, hml, hown, hts⟩ (c_X1_between l dC dI h0 p0 x_5 qr kr fr H.size h1 h2 (by first | assumption | omega) (by first | assumption | omega)) (cwV 2 hts gX1_positionOf_X1_between rfl rfl rfl (by decide +kernel) ⟨Nat.le_of_ble_eq_true rfl, Nat.le_of_ble_eq_true rfl⟩) ⟨fun a U g mk q => by obtain ⟨q0, q1, qP, qK, qD⟩ := q; exact ⟨q0, q1, qP, va_K.moved (u := U) (U := U.calling g mk a) (Vm.Alike.refl U.vm) qK, qD⟩, va_recv (s := s) (q := (RX1, TX1, 1)) hKc hPc (ci := 1) (q0 := 0) rfl rfl, fun U hU hW => ⟨rfl, by rw [hU], by rw [hU]; exact hPc, va_K.moved hW.alike hKc, hDc.weaken (fun _ _ _ _ => trivial)⟩⟩ rfl rfl hl.1 rfl (lv_room (Nat.le_of_ble_eq_true rfl)) dX1_positionOf_24 ⟨Nat.le_of_ble_eq_true rfl, Nat.le_of_ble_eq_true rfl⟩) hS (fun q _ h => hFc q h) hFc (fun r3 u t H1 locs ht hvm hw hB hz1 hk1 hS => ?_)
        obtain ⟨hP1, hK1, hD1⟩ := hB
        rw [ht] at hP1
        have hK1 := va_K.moved hvm.symm hK1
        try dsimp only at hw
        obtain ⟨hP, hD⟩ := J_s (wL := [eO h0 1 [.ref qr], eI qr kr 64 fr]) hP hD [(0, 2)] [] hCm hNw (by decide +kernel) hk1 hFc hP1 hD1 rfl
        have hK := KJ_s (tys' := [(kr, .int)]) hK hK1 [] rfl
        generalize H1 = H at hP hS ⊢
        refine lv_isub hx hb dX1_positionOf_27 ?_
        refine lv_topi (fun z4 e_z4 => ?_)
        refine lv_i2l (v := z4.toInt64) hx hb dX1_positionOf_28 rfl ?_
        have t_t5 := Int32.toInt_toInt64 z4
        refine lv_ladd hx hb dX1_positionOf_29 ?_
        refine lv_topl (fun z6 e_z6 => ?_)
        refine lv_lstore_n (lv' := [(2, .long z6), (4, .int x_5), (0, .ref h0), (1, .int p0)]) hx hb dX1_positionOf_30 rfl hl (by decide) rfl (fun ls hl => ?_)
        obtain ⟨x7, e_x7⟩ : ∃ yy : Int32, yy = x_5 + 1 := ⟨_, rfl⟩
        refine lv_iinc (v := x7) (lv' := [(4, .int x7), (2, .long z6), (0, .ref h0), (1, .int p0)]) hx hb dX1_positionOf_31 hl (k := 1) rfl (by rw [e_x7]; rfl) (by decide) rfl (fun ls hl => ?_)
        refine lv_goto (tgt := 5) hx hb dX1_positionOf_34 (by decide) ?_
        exact ih_5 (i_5 + 1) x7 (by omega) (by omega) (by rw [e_x7, e_x_5]; exact nI_1 i_5) z6  _ _ (K_s hK [(0, 1)] rfl) (P_s hP [(0, 2)] rfl) (D_s hD [(0, 2)] 2 rfl (by decide +kernel) rfl) hS ls (lv_sub hl [0, 1, 2, 3] rfl)
  exact loop_5 (8 + 1) 0 0 (by omega) (by omega) rfl 0  _ _ hK hP hD hS ls hl

set_option maxRecDepth 100000 in
set_option maxHeartbeats 4000000 in
/-- Debts.becomeAs -/
theorem c_X1_becomeAs (l : Launch) (dC : Nat → ClassId) (dI : Nat → Nat → Nat) (h0 : Nat) (h1 : Nat) (qr : Nat) (kr : ClassId) (fr : Nat → Int32) (qs : Nat) (ks : ClassId) (fs : Nat → Int32) (sz : Nat) : Met l yX1_becomeAs wsX1_becomeAs ({ frames := 1, cells := 0, slots := 0, locals := 60 }) (va_Pc [.ref h0, .ref h1] (fun U => U.heap.size = sz ∧ va_P (dC, dI) vwCl [eO h0 1 [.ref qr], eI qr kr 64 fr, eO h1 1 [.ref qs], eI qs ks 64 fs] U.heap ∧ va_K (dC, dI) vwCl [(kr, .int), (ks, .int)] U ∧ va_D (fun _ => True) [eO h0 1 [.ref qr], eI qr kr 64 fr, eO h1 1 [.ref qs], eI qs ks 64 fs])) (va_Qv (fun (_ : Unit) => True) (fun (_ : Unit) (t : State) => ∃ (fr' : Nat → Int32), va_P (dC, dI) vwCl [eO h0 1 [.ref qr], eI qr kr 64 (fr'), eO h1 1 [.ref qs], eI qs ks 64 fs] t.heap ∧ va_K (dC, dI) vwCl [(kr, .int), (ks, .int)] t ∧ va_D (va_A [eO h0 1 [.ref qr], eI qr kr 64 fr, eO h1 1 [.ref qs], eI qs ks 64 fs] sz) [eO h0 1 [.ref qr], eI qr kr 64 (fr'), eO h1 1 [.ref qs], eI qs ks 64 fs]) (va_A [eO h0 1 [.ref qr], eI qr kr 64 fr, eO h1 1 [.ref qs], eI qs ks 64 fs] sz)) 0 0 (va_A [eO h0 1 [.ref qr], eI qr kr 64 fr, eO h1 1 [.ref qs], eI qs ks 64 fs] sz) := by
  refine Met.ofW (cc := cX1_becomeAs) (maxL := 2) (ret := none) (by decide) rfl ?_
  intro p e s m args below meth c s₁ B hml hv
  obtain ⟨rfl, hsz, hP, hK, hD0⟩ := hv
  have hx := B.exec
  have hb := B.bytes
  have hr := B.returns
  have hts := atoms_spec (ws := wsX1_becomeAs) B.pre
  have hown : s.vm.findClass RX1 = some m.cls := findClass_of_methodNamed B.named
  have hlocks := B.notSynchronized
  subst hsz
  have hD := hD0.self (sz := s.heap.size)
  generalize hAe : va_A [eO h0 1 [.ref qr], eI qr kr 64 fr, eO h1 1 [.ref qs], eI qs ks 64 fs] s.heap.size = A at hD ⊢
  have hA : ∀ q : Nat, s.heap.size ≤ q → A q := fun q h => by rw [← hAe]; exact Or.inr h
  have hS : va_S A s.heap s.heap [] := va_S.rf
  have hP : va_P (dC, dI) vwCl [eO h0 1 [.ref qr], eI qr kr 64 fr, eO h1 1 [.ref qs], eI qs ks 64 fs] s.heap := hP
  have hl := lv_entry ([.ref h0, .ref h1]) (n := 2) (Nat.le_of_ble_eq_true rfl)
  rw [lg_entry_eq]
  generalize (lg_sl ([.ref h0, .ref h1]) ++ List.replicate (2 - (lg_sl ([.ref h0, .ref h1])).length) Slot.unset).toArray = ls at hl ⊢
  have hl : lv_has ls 2 [(0, .ref h0), (1, .ref h1)] := hl
  suffices key9 : ∀ Q9 : State → Prop, Q9 = (MQ below (va_Qv (fun (_ : Unit) => True) (fun (_ : Unit) (t : State) => ∃ (fr' : Nat → Int32), va_P (dC, dI) vwCl [eO h0 1 [.ref qr], eI qr kr 64 (fr'), eO h1 1 [.ref qs], eI qs ks 64 fs] t.heap ∧ va_K (dC, dI) vwCl [(kr, .int), (ks, .int)] t ∧ va_D A [eO h0 1 [.ref qr], eI qr kr 64 (fr'), eO h1 1 [.ref qs], eI qs ks 64 fs]) A) (([.ref h0, .ref h1] : List Value).toArray) s 0 0 A) → W p l e ({ frames := 1, cells := 0, slots := 0, locals := 60 }) s m (([.ref h0, .ref h1] : List Value).toArray) below meth c s.heap [] 0 0 Q9 (F0 m 0 ls []) from key9 _ rfl
  intro Q9 hQ9
  have k_0 : (0 : Int32).toInt = 0 := by decide
  have k_64 : (64 : Int32).toInt = 64 := by decide
  refine lv_aload_n hx hb dX1_becomeAs_0 rfl (lv_at hl 1 rfl) ?_
  refine va_get (D := (dC, dI)) (ci := 1) (v := .ref qs) (C := RX1) (T := TX1) (N := 1) hx hb hts (fun w h => List.mem_cons_of_mem _ (inlX1 w h)) hown hK hP 2 rfl rfl 0 (by decide) (hts (.fieldLink RX1 9 "ClearingGates$Debts" "row" "[I") (List.mem_cons_of_mem _ mw_136)) (fun _ h9 => h9) rfl dX1_becomeAs_1 ?_
  refine lv_iconst (v := 0) hx hb dX1_becomeAs_4 (by decide) ?_
  refine lv_aload_n hx hb dX1_becomeAs_5 rfl (lv_at hl 0 rfl) ?_
  refine va_get (D := (dC, dI)) (ci := 1) (v := .ref qr) (C := RX1) (T := TX1) (N := 1) hx hb hts (fun w h => List.mem_cons_of_mem _ (inlX1 w h)) hown hK hP 0 rfl rfl 0 (by decide) (hts (.fieldLink RX1 9 "ClearingGates$Debts" "row" "[I") (List.mem_cons_of_mem _ mw_136)) (fun _ h9 => h9) rfl dX1_becomeAs_6 ?_
  refine lv_iconst (v := 0) hx hb dX1_becomeAs_9 (by decide) ?_
  refine lv_aload_n hx hb dX1_becomeAs_10 rfl (lv_at hl 0 rfl) ?_
  refine va_get (D := (dC, dI)) (ci := 1) (v := .ref qr) (C := RX1) (T := TX1) (N := 1) hx hb hts (fun w h => List.mem_cons_of_mem _ (inlX1 w h)) hown hK hP 0 rfl rfl 0 (by decide) (hts (.fieldLink RX1 9 "ClearingGates$Debts" "row" "[I") (List.mem_cons_of_mem _ mw_136)) (fun _ h9 => h9) rfl dX1_becomeAs_11 ?_
  refine va_alen (D := (dC, dI)) (v := 64) hx hb hK hP 1 0 rfl rfl rfl dX1_becomeAs_14 ?_
  refine va_copyi (D := (dC, dI)) hx hb (hml.trans hl.1.symm) hown (hts (.methodLink RX1 19 arraycopyName) (List.mem_cons_of_mem _ mw_567)) (hts (.native arraycopyName) (List.mem_cons_of_mem _ mw_330)) (hts (.static arraycopyName) (List.mem_cons_of_mem _ mw_329)) (hts (.initialized "java/lang/System") (List.mem_cons_of_mem _ mw_80)) hK hP hD hS 3 1 1 0 rfl rfl rfl rfl rfl (by decide) (by decide) (by decide) (by decide) (by decide) (fun _ _ => rfl) (Nat.le_of_ble_eq_true rfl) (by decide) dX1_becomeAs_15 (fun H locs hP hD hS => ?_)
  generalize e_g1 : (va_cpy fs fr (0 : Int32).toNatClampNeg (0 : Int32).toNatClampNeg (64 : Int32).toNatClampNeg) = g1 at hP hD
  obtain ⟨hP, hD⟩ := X_s (ws' := [eO h0 1 [.ref qr], eI qr kr 64 g1, eO h1 1 [.ref qs], eI qs ks 64 fs]) hP hD rfl
  rw [hQ9]
  exact W.vret hx hb hr (fun t ht hW => ⟨⟨(), rfl, (by first | rfl | trivial), g1, by rw [ht]; exact hP, va_K.moved hW.alike hK, hD⟩, hS.F ht⟩) hS.2.2 dX1_becomeAs_18
