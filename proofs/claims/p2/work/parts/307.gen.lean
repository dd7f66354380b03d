set_option maxRecDepth 100000 in
set_option maxHeartbeats 4000000 in
/-- Rings.behind -/
theorem c_X5_behind (l : Launch) (dC : Nat → ClassId) (dI : Nat → Nat → Nat) (h0 : Nat) (p0 : Int32) (qd : Nat) (qw : Nat) (wl : Int32) (qt : Nat) (kw : ClassId) (fw : Nat → Int32) (sz : Nat) (w1 : 0 < wl.toInt) (w2 : wl.toInt ≤ 8) (hw0 : ∀ k : Nat, (k : Int) < wl.toInt → inr8 (fw k)) (h1 : 0 ≤ p0.toInt) (h2 : p0.toInt < wl.toInt) : Met l yX5_behind wsX5_behind ({ frames := 0, cells := 0, slots := 0, locals := 0 }) (va_Pc [.ref h0, .int p0] (fun U => U.heap.size = sz ∧ va_P (dC, dI) vwCl [eO h0 4 [.ref qd, .ref qw, .int wl, .ref qt], eI qw kw 8 fw] U.heap ∧ va_K (dC, dI) vwCl [(kw, .int)] U ∧ va_D (fun _ => True) [eO h0 4 [.ref qd, .ref qw, .int wl, .ref qt], eI qw kw 8 fw])) (va_Qi (fun (r : Int32) (_ : Unit) => 0 ≤ r.toInt ∧ r.toInt < 8) (fun (_ : Unit) (t : State) => va_P (dC, dI) vwCl [eO h0 4 [.ref qd, .ref qw, .int wl, .ref qt], eI qw kw 8 fw] t.heap ∧ va_K (dC, dI) vwCl [(kw, .int)] t ∧ va_D (va_A [eO h0 4 [.ref qd, .ref qw, .int wl, .ref qt], eI qw kw 8 fw] sz) [eO h0 4 [.ref qd, .ref qw, .int wl, .ref qt], eI qw kw 8 fw]) (va_A [eO h0 4 [.ref qd, .ref qw, .int wl, .ref qt], eI qw kw 8 fw] sz)) 0 0 (va_A [eO h0 4 [.ref qd, .ref qw, .int wl, .ref qt], eI qw kw 8 fw] sz) := by
  refine Met.ofW (cc := cX5_behind) (maxL := 2) (ret := (some .int)) (by decide) rfl ?_
  intro p e s m args below meth c s₁ B hml hv
  obtain ⟨rfl, hsz, hP, hK, hD0⟩ := hv
  have hx := B.exec
  have hb := B.bytes
  have hr := B.returns
  have hts := atoms_spec (ws := wsX5_behind) B.pre
  have hown : s.vm.findClass RX5 = some m.cls := findClass_of_methodNamed B.named
  have hlocks := B.notSynchronized
  subst hsz
  have hD := hD0.self (sz := s.heap.size)
  generalize hAe : va_A [eO h0 4 [.ref qd, .ref qw, .int wl, .ref qt], eI qw kw 8 fw] s.heap.size = A at hD ⊢
  have hA : ∀ q : Nat, s.heap.size ≤ q → A q := fun q h => by rw [← hAe]; exact Or.inr h
  have hS : va_S A s.heap s.heap [] := va_S.rf
  have hP : va_P (dC, dI) vwCl [eO h0 4 [.ref qd, .ref qw, .int wl, .ref qt], eI qw kw 8 fw] s.heap := hP
  have hl := lv_entry ([.ref h0, .int p0]) (n := 2) (Nat.le_of_ble_eq_true rfl)
  rw [lg_entry_eq]
  generalize (lg_sl ([.ref h0, .int p0]) ++ List.replicate (2 - (lg_sl ([.ref h0, .int p0])).length) Slot.unset).toArray = ls at hl ⊢
  have hl : lv_has ls 2 [(0, .ref h0), (1, .int p0)] := hl
  suffices key9 : ∀ Q9 : State → Prop, Q9 = (MQ below (va_Qi (fun (r : Int32) (_ : Unit) => 0 ≤ r.toInt ∧ r.toInt < 8) (fun (_ : Unit) (t : State) => va_P (dC, dI) vwCl [eO h0 4 [.ref qd, .ref qw, .int wl, .ref qt], eI qw kw 8 fw] t.heap ∧ va_K (dC, dI) vwCl [(kw, .int)] t ∧ va_D A [eO h0 4 [.ref qd, .ref qw, .int wl, .ref qt], eI qw kw 8 fw]) A) (([.ref h0, .int p0] : List Value).toArray) s 0 0 A) → W p l e ({ frames := 0, cells := 0, slots := 0, locals := 0 }) s m (([.ref h0, .int p0] : List Value).toArray) below meth c s.heap [] 0 0 Q9 (F0 m 0 ls []) from key9 _ rfl
  intro Q9 hQ9
  have k_0 : (0 : Int32).toInt = 0 := by decide
  have k_1 : (1 : Int32).toInt = 1 := by decide
  refine lv_iload_n hx hb dX5_behind_0 rfl (lv_at hl 1 rfl) ?_
  refine lv_iconst (v := 1) hx hb dX5_behind_1 (by decide) ?_
  refine lv_iadd hx hb dX5_behind_2 ?_
  refine lv_topi (fun z1 e_z1 => ?_)
  have t_z1 := i_add e_z1 (by omega) (by omega)
  refine lv_aload_n hx hb dX5_behind_3 rfl (lv_at hl 0 rfl) ?_
  refine va_get (D := (dC, dI)) (ci := 4) (v := .int wl) (C := RX5) (T := TX5) (N := 4) hx hb hts (fun w h => List.mem_cons_of_mem _ (inlX5 w h)) hown hK hP 0 rfl rfl 2 (by decide) (hts (.fieldLink RX5 40 "ClearingGates$Rings" "wayLength" "I") (List.mem_cons_of_mem _ mw_145)) (fun _ h9 => h9) rfl dX5_behind_4 ?_
  refine lv_icmp_ge (tgt := 21) hx hb dX5_behind_7 (by decide) (fun c2 => ?_) (fun c2 => ?_)
  · skip
    have f_c2 := i_le c2
    refine lv_aload_n hx hb dX5_behind_21 rfl (lv_at hl 0 rfl) ?_
    refine va_get (D := (dC, dI)) (ci := 4) (v := .ref qw) (C := RX5) (T := TX5) (N := 4) hx hb hts (fun w h => List.mem_cons_of_mem _ (inlX5 w h)) hown hK hP 0 rfl rfl 1 (by decide) (hts (.fieldLink RX5 9 "ClearingGates$Rings" "way" "[I") (List.mem_cons_of_mem _ mw_144)) (fun _ h9 => h9) rfl dX5_behind_22 ?_
    refine lv_iconst (v := 0) hx hb dX5_behind_25 (by decide) ?_
    refine va_iald (D := (dC, dI)) hx hb hK hP 1 0 rfl rfl (vp_in_iff.mpr ⟨by decide, by decide⟩) dX5_behind_26 ?_
    refine lv_topi (fun z3 e_z3 => ?_)
    have w_z3 : inr8 z3 := by rw [e_z3]; exact hw0 _ (by rw [i_natZ (by omega)]; omega)
    obtain ⟨wa_z3, wb_z3⟩ := w_z3
    rw [hQ9]
    exact W.iret (v := z3) hx hb hr (fun t ht hW => ⟨⟨z3, (), rfl, ⟨by omega, by omega⟩, by rw [ht]; exact hP, va_K.moved hW.alike hK, hD⟩, hS.F ht⟩) hS.2.2 dX5_behind_27
  · skip
    have f_c2 := i_nle c2
    refine lv_aload_n hx hb dX5_behind_10 rfl (lv_at hl 0 rfl) ?_
    refine va_get (D := (dC, dI)) (ci := 4) (v := .ref qw) (C := RX5) (T := TX5) (N := 4) hx hb hts (fun w h => List.mem_cons_of_mem _ (inlX5 w h)) hown hK hP 0 rfl rfl 1 (by decide) (hts (.fieldLink RX5 9 "ClearingGates$Rings" "way" "[I") (List.mem_cons_of_mem _ mw_144)) (fun _ h9 => h9) rfl dX5_behind_11 ?_
    refine lv_iload_n hx hb dX5_behind_14 rfl (lv_at hl 1 rfl) ?_
    refine lv_iconst (v := 1) hx hb dX5_behind_15 (by decide) ?_
    refine lv_iadd hx hb dX5_behind_16 ?_
    refine lv_topi (fun z4 e_z4 => ?_)
    have t_z4 := i_add e_z4 (by omega) (by omega)
    refine va_iald (D := (dC, dI)) hx hb hK hP 1 0 rfl rfl (vp_in_iff.mpr ⟨by omega, by omega⟩) dX5_behind_17 ?_
    refine lv_topi (fun z5 e_z5 => ?_)
    have w_z5 : inr8 z5 := by rw [e_z5]; exact hw0 _ (by rw [i_natZ (by omega)]; omega)
    obtain ⟨wa_z5, wb_z5⟩ := w_z5
    refine lv_goto (tgt := 27) hx hb dX5_behind_18 (by decide) ?_
    rw [hQ9]
    exact W.iret (v := z5) hx hb hr (fun t ht hW => ⟨⟨z5, (), rfl, ⟨by omega, by omega⟩, by rw [ht]; exact hP, va_K.moved hW.alike hK, hD⟩, hS.F ht⟩) hS.2.2 dX5_behind_27

set_option maxRecDepth 100000 in
set_option maxHeartbeats 4000000 in
/-- Rings.cutFound -/
theorem c_X5_cutFound (l : Launch) (dC : Nat → ClassId) (dI : Nat → Nat → Nat) (h0 : Nat) (qd : Nat) (qw : Nat) (wl : Int32) (qt : Nat) (kw : ClassId) (fw : Nat → Int32) (kt : ClassId) (ft : Nat → Int32) (qr : Nat) (kr : ClassId) (fr : Nat → Int32) (sz : Nat) (w1 : 0 < wl.toInt) (w2 : wl.toInt ≤ 8) (hw0 : ∀ k : Nat, (k : Int) < wl.toInt → inr8 (fw k)) : Met l yX5_cutFound wsX5_cutFound ({ frames := 1, cells := 0, slots := 0, locals := 23 }) (va_Pc [.ref h0] (fun U => U.heap.size = sz ∧ va_P (dC, dI) vwCl [eO h0 4 [.ref qd, .ref qw, .int wl, .ref qt], eI qw kw 8 fw, eI qt kt 8 ft, eO qd 1 [.ref qr], eI qr kr 64 fr] U.heap ∧ va_K (dC, dI) vwCl [(kw, .int), (kt, .boolean), (kr, .int)] U ∧ va_D (fun _ => True) [eO h0 4 [.ref qd, .ref qw, .int wl, .ref qt], eI qw kw 8 fw, eI qt kt 8 ft, eO qd 1 [.ref qr], eI qr kr 64 fr])) (va_Qv (fun (_ : Unit) => True) (fun (_ : Unit) (t : State) => ∃ (fr' : Nat → Int32), va_P (dC, dI) vwCl [eO h0 4 [.ref qd, .ref qw, .int wl, .ref qt], eI qw kw 8 fw, eI qt kt 8 ft, eO qd 1 [.ref qr], eI qr kr 64 (fr')] t.heap ∧ va_K (dC, dI) vwCl [(kw, .int), (kt, .boolean), (kr, .int)] t ∧ va_D (va_A [eO h0 4 [.ref qd, .ref qw, .int wl, .ref qt], eI qw kw 8 fw, eI qt kt 8 ft, eO qd 1 [.ref qr], eI qr kr 64 fr] sz) [eO h0 4 [.ref qd, .ref qw, .int wl, .ref qt], eI qw kw 8 fw, eI qt kt 8 ft, eO qd 1 [.ref qr], eI qr kr 64 (fr')]) (va_A [eO h0 4 [.ref qd, .ref qw, .int wl, .ref qt], eI qw kw 8 fw, eI qt kt 8 ft, eO qd 1 [.ref qr], eI qr kr 64 fr] sz)) 0 0 (va_A [eO h0 4 [.ref qd, .ref qw, .int wl, .ref qt], eI qw kw 8 fw, eI qt kt 8 ft, eO qd 1 [.ref qr], eI qr kr 64 fr] sz) := by
  refine Met.ofW (cc := cX5_cutFound) (maxL := 4) (ret := none) (by decide) rfl ?_
  intro p e s m args below meth c s₁ B hml hv
  obtain ⟨rfl, hsz, hP, hK, hD0⟩ := hv
  have hx := B.exec
  have hb := B.bytes
  have hr := B.returns
  have hts := atoms_spec (ws := wsX5_cutFound) B.pre
  have hown : s.vm.findClass RX5 = some m.cls := findClass_of_methodNamed B.named
  have hlocks := B.notSynchronized
  subst hsz
  have hD := hD0.self (sz := s.heap.size)
  generalize hAe : va_A [eO h0 4 [.ref qd, .ref qw, .int wl, .ref qt], eI qw kw 8 fw, eI qt kt 8 ft, eO qd 1 [.ref qr], eI qr kr 64 fr] s.heap.size = A at hD ⊢
  have hA : ∀ q : Nat, s.heap.size ≤ q → A q := fun q h => by rw [← hAe]; exact Or.inr h
  have hS : va_S A s.heap s.heap [] := va_S.rf
  have hP : va_P (dC, dI) vwCl [eO h0 4 [.ref qd, .ref qw, .int wl, .ref qt], eI qw kw 8 fw, eI qt kt 8 ft, eO qd 1 [.ref qr], eI qr kr 64 fr] s.heap := hP
  have hl := lv_entry ([.ref h0]) (n := 4) (Nat.le_of_ble_eq_true rfl)
  rw [lg_entry_eq]
  generalize (lg_sl ([.ref h0]) ++ List.replicate (4 - (lg_sl ([.ref h0])).length) Slot.unset).toArray = ls at hl ⊢
  have hl : lv_has ls 4 [(0, .ref h0)] := hl
  suffices key9 : ∀ Q9 : State → Prop, Q9 = (MQ below (va_Qv (fun (_ : Unit) => True) (fun (_ : Unit) (t : State) => ∃ (fr' : Nat → Int32), va_P (dC, dI) vwCl [eO h0 4 [.ref qd, .ref qw, .int wl, .ref qt], eI qw kw 8 fw, eI qt kt 8 ft, eO qd 1 [.ref qr], eI qr kr 64 (fr')] t.heap ∧ va_K (dC, dI) vwCl [(kw, .int), (kt, .boolean), (kr, .int)] t ∧ va_D A [eO h0 4 [.ref qd, .ref qw, .int wl, .ref qt], eI qw kw 8 fw, eI qt kt 8 ft, eO qd 1 [.ref qr], eI qr kr 64 (fr')]) A) (([.ref h0] : List Value).toArray) s 0 0 A) → W p l e ({ frames := 1, cells := 0, slots := 0, locals := 23 }) s m (([.ref h0] : List Value).toArray) below meth c s.heap [] 0 0 Q9 (F0 m 0 ls []) from key9 _ rfl
  intro Q9 hQ9
  refine lv_ldc hx hb hown (hts (.constant RX5 44 (99999)) (List.mem_cons_of_mem _ mw_517)) dX5_cutFound_0 ?_
  refine lv_istore_n (lv' := [(1, .int 99999), (0, .ref h0)]) hx hb dX5_cutFound_2 rfl hl (by decide) rfl (fun ls hl => ?_)
  refine lv_iconst (v := 0) hx hb dX5_cutFound_3 (by decide) ?_
  refine lv_istore_n (lv' := [(2, .int 0), (1, .int 99999), (0, .ref h0)]) hx hb dX5_cutFound_4 rfl hl (by decide) rfl (fun ls hl => ?_)
  have loop_5 : ∀ (n i_5 : Nat) (x_5 : Int32), i_5 ≤ 8 → 8 < i_5 + n → x_5 = nI i_5 → ∀ (le : Int32), ∀ (H : Heap) (locs : List Loc), va_K (dC, dI) vwCl [(kw, .int), (kt, .boolean), (kr, .int)] s → va_P (dC, dI) vwCl [eO h0 4 [.ref qd, .ref qw, .int wl, .ref qt], eI qw kw 8 fw, eI qt kt 8 ft, eO qd 1 [.ref qr], eI qr kr 64 fr] H → va_D A [eO h0 4 [.ref qd, .ref qw, .int wl, .ref qt], eI qw kw 8 fw, eI qt kt 8 ft, eO qd 1 [.ref qr], eI qr kr 64 fr] → va_S A s.heap H locs → ∀ (ls : Array Slot), lv_has ls 4 [(2, .int x_5), (1, .int le), (0, .ref h0)] → W p l e ({ frames := 1, cells := 0, slots := 0, locals := 23 }) s m (([.ref h0] : List Value).toArray) below meth c H locs 0 0 Q9 (F0 m 5 ls []) := by
    intro n
    induction n with
    | zero => intro i_5 x_5 h1 h2; exact absurd h2 (by omega)
    | succ n ih_5 =>
      intro i_5 x_5 hi_5 hn_5 e_x_5 le H locs hK hP hD hS ls hl
      have t_x_5 : x_5.toInt = (i_5 : Int) := by rw [e_x_5]; exact nI_toInt (by omega)
      refine lv_iload_n hx hb dX5_cutFound_5 rfl (lv_at hl 0 rfl) ?_
      refine lv_aload_n hx hb dX5_cutFound_6 rfl (lv_at hl 2 rfl) ?_
      refine va_get (D := (dC, dI)) (ci := 4) (v := .int wl) (C := RX5) (T := TX5) (N := 4) hx hb hts (fun w h => List.mem_cons_of_mem _ (inlX5 w h)) hown hK hP 0 rfl rfl 2 (by decide) (hts (.fieldLink RX5 40 "ClearingGates$Rings" "wayLength" "I") (List.mem_cons_of_mem _ mw_145)) (fun _ h9 => h9) rfl dX5_cutFound_7 ?_
      refine lv_icmp_ge (tgt := 42) hx hb dX5_cutFound_10 (by decide) (fun c1 => ?_) (fun c1 => ?_)
      · skip
        have f_c1 := i_le c1
        refine lv_iconst (v := 0) hx hb dX5_cutFound_42 (by decide) ?_
        refine lv_istore_n (lv' := [(2, .int 0), (1, .int le), (0, .ref h0)]) hx hb dX5_cutFound_43 rfl hl (by decide) rfl (fun ls hl => ?_)
        have loop_44 : ∀ (n i_44 : Nat) (x_44 : Int32), i_44 ≤ 8 → 8 < i_44 + n → x_44 = nI i_44 → ∀ (gr : Nat → Int32), ∀ (H : Heap) (locs : List Loc), va_K (dC, dI) vwCl [(kw, .int), (kt, .boolean), (kr, .int)] s → va_P (dC, dI) vwCl [eO h0 4 [.ref qd, .ref qw, .int wl, .ref qt], eI qw kw 8 fw, eI qt kt 8 ft, eO qd 1 [.ref qr], eI qr kr 64 gr] H → va_D A [eO h0 4 [.ref qd, .ref qw, .int wl, .ref qt], eI qw kw 8 fw, eI qt kt 8 ft, eO qd 1 [.ref qr], eI qr kr 64 gr] → va_S A s.heap H locs → ∀ (ls : Array Slot), lv_has ls 4 [(2, .int x_44), (1, .int le), (0, .ref h0)] → W p l e ({ frames := 1, cells := 0, slots := 0, locals := 23 }) s m (([.ref h0] : List Value).toArray) below meth c H locs 0 0 Q9 (F0 m 44 ls []) := by
          intro n
          induction n with
          | zero => intro i_44 x_44 h1 h2; exact absurd h2 (by omega)
          | succ n ih_44 =>
            intro i_44 x_44 hi_44 hn_44 e_x_44 gr H locs hK hP hD hS ls hl
            have t_x_44 : x_44.toInt = (i_44 : Int) := by rw [e_x_44]; exact nI_toInt (by omega)
            refine lv_iload_n hx hb dX5_cutFound_44 rfl (lv_at hl 0 rfl) ?_
            refine lv_aload_n hx hb dX5_cutFound_45 rfl (lv_at hl 2 rfl) ?_
            refine va_get (D := (dC, dI)) (ci := 4) (v := .int wl) (C := RX5) (T := TX5) (N := 4) hx hb hts (fun w h => List.mem_cons_of_mem _ (inlX5 w h)) hown hK hP 0 rfl rfl 2 (by decide) (hts (.fieldLink RX5 40 "ClearingGates$Rings" "wayLength" "I") (List.mem_cons_of_mem _ mw_145)) (fun _ h9 => h9) rfl dX5_cutFound_46 ?_
            refine lv_icmp_ge (tgt := 98) hx hb dX5_cutFound_49 (by decide) (fun c2 => ?_) (fun c2 => ?_)
            · skip
              have f_c2 := i_le c2
              rw [hQ9]
              exact W.vret hx hb hr (fun t ht hW => ⟨⟨(), rfl, (by first | rfl | trivial), gr, by rw [ht]; exact hP, va_K.moved hW.alike hK, hD⟩, hS.F ht⟩) hS.2.2 dX5_cutFound_98
            · skip
              have f_c2 := i_nle c2
              refine lv_aload_n hx hb dX5_cutFound_52 rfl (lv_at hl 2 rfl) ?_
              refine va_get (D := (dC, dI)) (ci := 4) (v := .ref qd) (C := RX5) (T := TX5) (N := 4) hx hb hts (fun w h => List.mem_cons_of_mem _ (inlX5 w h)) hown hK hP 0 rfl rfl 0 (by decide) (hts (.fieldLink RX5 19 "ClearingGates$Rings" "debts" "LClearingGates$Debts;") (List.mem_cons_of_mem _ mw_143)) (fun _ h9 => h9) rfl dX5_cutFound_53 ?_
              refine lv_aload_n hx hb dX5_cutFound_56 rfl (lv_at hl 2 rfl) ?_
              refine va_get (D := (dC, dI)) (ci := 4) (v := .ref qw) (C := RX5) (T := TX5) (N := 4) hx hb hts (fun w h => List.mem_cons_of_mem _ (inlX5 w h)) hown hK hP 0 rfl rfl 1 (by decide) (hts (.fieldLink RX5 9 "ClearingGates$Rings" "way" "[I") (List.mem_cons_of_mem _ mw_144)) (fun _ h9 => h9) rfl dX5_cutFound_57 ?_
              refine lv_iload_n hx hb dX5_cutFound_60 rfl (lv_at hl 0 rfl) ?_
              refine va_iald (D := (dC, dI)) hx hb hK hP 1 0 rfl rfl (vp_in_iff.mpr ⟨by omega, by omega⟩) dX5_cutFound_61 ?_
              refine lv_topi (fun z3 e_z3 => ?_)
              have w_z3 : inr8 z3 := by rw [e_z3]; exact hw0 _ (by rw [i_natZ (by omega)]; omega)
              obtain ⟨wa_z3, wb_z3⟩ := w_z3
              refine lv_aload_n hx hb dX5_cutFound_62 rfl (lv_at hl 2 rfl) ?_
              refine lv_iload_n hx hb dX5_cutFound_63 rfl (lv_at hl 0 rfl) ?_
              obtain ⟨hPc, hDc, hFc, hCm, hNw⟩ := C_s (wc := [eO h0 4 [.ref qd, .ref qw, .int wl, .ref qt], eI qw kw 8 fw]) hP hD hS hA [(0, 2)] 5 rfl (by decide +kernel) rfl
              have hKc := K_s (tys' := [(kw, .int)]) hK [(0, 1)] rfl
              refine va_calli (va_runV (As := [.int x_44]) (rest := [.int z3, .ref qd]) ⟨hx, hb, hml, hown, hts⟩ (c_X5_behind l dC dI h0 x_44 qd qw wl qt kw fw H.size w1 w2 hw0 (by first | assumption | omega) (by first | assumption | omega)) (cwV 1 hts gX5_cutFound_X5_behind rfl rfl rfl (by decide +kernel) ⟨Nat.le_of_ble_eq_true rfl, Nat.le_of_ble_eq_true rfl⟩) ⟨fun a U g mk q => by obtain ⟨q0, q1, qP, qK, qD⟩ := q; exact ⟨q0, q1, qP, va_K.moved (u := U) (U := U.calling g mk a) (Vm.Alike.refl U.vm) qK, qD⟩, va_recv (s := s) (q := (RX5, TX5, 4)) hKc hPc (ci := 4) (q0 := 0) rfl rfl, fun U hU hW => ⟨rfl, by rw [hU], by rw [hU]; exact hPc, va_K.moved hW.alike hKc, hDc.weaken (fun _ _ _ _ => trivial)⟩⟩ rfl rfl hl.1 rfl (lv_room (Nat.le_of_ble_eq_true rfl)) dX5_cutFound_64 ⟨Nat.le_of_ble_eq_true rfl, Nat.le_of_ble_eq_true rfl⟩) hS (fun q _ h => hFc q h) hFc (fun r4 u t H1 locs ht hvm hw hB hz1 hk1 hS => ?_)
              obtain ⟨hP1, hK1, hD1⟩ := hB
              rw [ht] at hP1
              have hK1 := va_K.moved hvm.symm hK1
              try dsimp only at hw
              obtain ⟨hP, hD⟩ := J_s (wL := [eI qt kt 8 ft, eO qd 1 [.ref qr], eI qr kr 64 gr, eO h0 4 [.ref qd, .ref qw, .int wl, .ref qt], eI qw kw 8 fw]) hP hD [(0, 2)] [(2, 3)] hCm hNw (by decide +kernel) hk1 hFc hP1 hD1 rfl
              have hK := KJ_s (tys' := [(kt, .boolean), (kr, .int), (kw, .int)]) hK hK1 [(1, 2)] rfl
              generalize H1 = H at hP hS ⊢
              have h_r4 := hw
              obtain ⟨hPc, hDc, hFc, hCm, hNw⟩ := C_s (wc := [eO qd 1 [.ref qr], eI qr kr 64 gr]) hP hD hS hA [(1, 2)] 5 rfl (by decide +kernel) rfl
              have hKc := K_s (tys' := [(kr, .int)]) hK [(1, 1)] rfl
              refine va_calli (va_runV (As := [.int z3, .int r4]) (rest := []) ⟨hx, hb, hml, hown, hts⟩ (c_X1_between l dC dI qd z3 r4 qr kr gr H.size (by first | assumption | omega) (by first | assumption | omega) (by first | assumption | omega) (by first | assumption | omega)) (cwV 2 hts gX5_cutFound_X1_between rfl rfl rfl (by decide +kernel) ⟨Nat.le_of_ble_eq_true rfl, Nat.le_of_ble_eq_true rfl⟩) ⟨fun a U g mk q => by obtain ⟨q0, q1, qP, qK, qD⟩ := q; exact ⟨q0, q1, qP, va_K.moved (u := U) (U := U.calling g mk a) (Vm.Alike.refl U.vm) qK, qD⟩, va_recv (s := s) (q := (RX1, TX1, 1)) hKc hPc (ci := 1) (q0 := 0) rfl rfl, fun U hU hW => ⟨rfl, by rw [hU], by rw [hU]; exact hPc, va_K.moved hW.alike hKc, hDc.weaken (fun _ _ _ _ => trivial)⟩⟩ rfl rfl hl.1 rfl (lv_room (Nat.le_of_ble_eq_true rfl)) dX5_cutFound_67 ⟨Nat.le_of_ble_eq_true rfl, Nat.le_of_ble_eq_true rfl⟩) hS (fun q _ h => hFc q h) hFc (fun r5 u t H1 locs ht hvm hw hB hz1 hk1 hS => ?_)
              obtain ⟨hP1, hK1, hD1⟩ := hB
              rw [ht] at hP1
              have hK1 := va_K.moved hvm.symm hK1
              try dsimp only at hw
              obtain ⟨hP, hD⟩ := J_s (wL := [eI qt kt 8 ft, eO h0 4 [.ref qd, .ref qw, .int wl, .ref qt], eI qw kw 8 fw, eO qd 1 [.ref qr], eI qr kr 64 gr]) hP hD [(1, 2)] [(0, 1), (3, 2)] hCm hNw (by decide +kernel) hk1 hFc hP1 hD1 rfl
              have hK := KJ_s (tys' := [(kt, .boolean), (kw, .int), (kr, .int)]) hK hK1 [(0, 1), (2, 1)] rfl
              generalize H1 = H at hP hS ⊢
              refine lv_istore_n (lv' := [(3, .int r5), (2, .int x_44), (1, .int le), (0, .ref h0)]) hx hb dX5_cutFound_70 rfl hl (by decide) rfl (fun ls hl => ?_)
              refine lv_aload_n hx hb dX5_cutFound_71 rfl (lv_at hl 3 rfl) ?_
              refine va_get (D := (dC, dI)) (ci := 4) (v := .ref qd) (C := RX5) (T := TX5) (N := 4) hx hb hts (fun w h => List.mem_cons_of_mem _ (inlX5 w h)) hown hK hP 1 rfl rfl 0 (by decide) (hts (.fieldLink RX5 19 "ClearingGates$Rings" "debts" "LClearingGates$Debts;") (List.mem_cons_of_mem _ mw_143)) (fun _ h9 => h9) rfl dX5_cutFound_72 ?_
              refine lv_aload_n hx hb dX5_cutFound_75 rfl (lv_at hl 3 rfl) ?_
              refine va_get (D := (dC, dI)) (ci := 4) (v := .ref qw) (C := RX5) (T := TX5) (N := 4) hx hb hts (fun w h => List.mem_cons_of_mem _ (inlX5 w h)) hown hK hP 1 rfl rfl 1 (by decide) (hts (.fieldLink RX5 9 "ClearingGates$Rings" "way" "[I") (List.mem_cons_of_mem _ mw_144)) (fun _ h9 => h9) rfl dX5_cutFound_76 ?_
              refine lv_iload_n hx hb dX5_cutFound_79 rfl (lv_at hl 1 rfl) ?_
              refine va_iald (D := (dC, dI)) hx hb hK hP 2 1 rfl rfl (vp_in_iff.mpr ⟨by omega, by omega⟩) dX5_cutFound_80 ?_
              refine lv_topi (fun z6 e_z6 => ?_)
              have w_z6 : inr8 z6 := by rw [e_z6]; exact hw0 _ (by rw [i_natZ (by omega)]; omega)
              obtain ⟨wa_z6, wb_z6⟩ := w_z6
              refine lv_aload_n hx hb dX5_cutFound_81 rfl (lv_at hl 3 rfl) ?_
              refine lv_iload_n hx hb dX5_cutFound_82 rfl (lv_at hl 1 rfl) ?_
              obtain ⟨hPc, hDc, hFc, hCm, hNw⟩ := C_s (wc := [eO h0 4 [.ref qd, .ref qw, .int wl, .ref qt], eI qw kw 8 fw]) hP hD hS hA [(1, 2)] 5 rfl (by decide +kernel) rfl
              have hKc := K_s (tys' := [(kw, .int)]) hK [(1, 1)] rfl
              refine va_calli (va_runV (As := [.int x_44]) (rest := [.int z6, .ref qd]) ⟨hx, hb, hml, hown, hts⟩ (c_X5_behind l dC dI h0 x_44 qd qw wl qt kw fw H.size w1 w2 hw0 (by first | assumption | omega) (by first | assumption | omega)) (cwV 1 hts gX5_cutFound_X5_behind rfl rfl rfl (by decide +kernel) ⟨Nat.le_of_ble_eq_true rfl, Nat.le_of_ble_eq_true rfl⟩) ⟨fun a U g mk q => by obtain ⟨q0, q1, qP, qK, qD⟩ := q; exact ⟨q0, q1, qP, va_K.moved (u := U) (U := U.calling g mk a) (Vm.Alike.refl U.vm) qK, qD⟩, va_recv (s := s) (q := (RX5, TX5, 4)) hKc hPc (ci := 4) (q0 := 0) rfl rfl, fun U hU hW => ⟨rfl, by rw [hU], by rw [hU]; exact hPc, va_K.moved hW.alike hKc, hDc.weaken (fun _ _ _ _ => trivial)⟩⟩ rfl rfl hl.1 rfl (lv_room (Nat.le_of_ble_eq_true rfl)) dX5_cutFound_83 ⟨Nat.le_of_ble_eq_true rfl, Nat.le_of_ble_eq_true rfl⟩) hS (fun q _ h => hFc q h) hFc (fun r7 u t H1 locs ht hvm hw hB hz1 hk1 hS => ?_)
              obtain ⟨hP1, hK1, hD1⟩ := hB
              rw [ht] at hP1
              have hK1 := va_K.moved hvm.symm hK1
              try dsimp only at hw
              obtain ⟨hP, hD⟩ := J_s (wL := [eI qt kt 8 ft, eO qd 1 [.ref qr], eI qr kr 64 gr, eO h0 4 [.ref qd, .ref qw, .int wl, .ref qt], eI qw kw 8 fw]) hP hD [(1, 2)] [(0, 1), (3, 2)] hCm hNw (by decide +kernel) hk1 hFc hP1 hD1 rfl
              have hK := KJ_s (tys' := [(kt, .boolean), (kr, .int), (kw, .int)]) hK hK1 [(0, 1), (2, 1)] rfl
              generalize H1 = H at hP hS ⊢
              have h_r7 := hw
              refine lv_iload_n hx hb dX5_cutFound_86 rfl (lv_at hl 0 rfl) ?_
              refine lv_iload_n hx hb dX5_cutFound_87 rfl (lv_at hl 2 rfl) ?_
              refine lv_isub hx hb dX5_cutFound_88 ?_
              refine lv_topi (fun z8 e_z8 => ?_)
              obtain ⟨hPc, hDc, hFc, hCm, hNw⟩ := C_s (wc := [eO qd 1 [.ref qr], eI qr kr 64 gr]) hP hD hS hA [(1, 2)] 5 rfl (by decide +kernel) rfl
              have hKc := K_s (tys' := [(kr, .int)]) hK [(1, 1)] rfl
              refine va_callv (va_runV (As := [.int z6, .int r7, .int z8]) (rest := []) ⟨hx, hb, hml, hown, hts⟩ (c_X1_become l dC dI qd z6 r7 z8 qr kr gr H.size (by first | assumption | omega) (by first | assumption | omega) (by first | assumption | omega) (by first | assumption | omega)) (cwV 3 hts gX5_cutFound_X1_become rfl rfl rfl (by decide +kernel) ⟨Nat.le_of_ble_eq_true rfl, Nat.le_of_ble_eq_true rfl⟩) ⟨fun a U g mk q => by obtain ⟨q0, q1, qP, qK, qD⟩ := q; exact ⟨q0, q1, qP, va_K.moved (u := U) (U := U.calling g mk a) (Vm.Alike.refl U.vm) qK, qD⟩, va_recv (s := s) (q := (RX1, TX1, 1)) hKc hPc (ci := 1) (q0 := 0) rfl rfl, fun U hU hW => ⟨rfl, by rw [hU], by rw [hU]; exact hPc, va_K.moved hW.alike hKc, hDc.weaken (fun _ _ _ _ => trivial)⟩⟩ rfl rfl hl.1 rfl (lv_room (Nat.le_of_ble_eq_true rfl)) dX5_cutFound_89 ⟨Nat.le_of_ble_eq_true rfl, Nat.le_of_ble_eq_true rfl⟩) hS (fun q _ h => hFc q h) hFc (fun u t H1 locs ht hvm hw hB hz1 hk1 hS => ?_)
              obtain ⟨q10, hP1, hK1, hD1⟩ := hB
              rw [ht] at hP1
              have hK1 := va_K.moved hvm.symm hK1
              try dsimp only at hw
              obtain ⟨hP, hD⟩ := J_s (wL := [eI qt kt 8 ft, eO h0 4 [.ref qd, .ref qw, .int wl, .ref qt], eI qw kw 8 fw, eO qd 1 [.ref qr], eI qr kr 64 q10]) hP hD [(1, 2)] [(0, 1), (3, 2)] hCm hNw (by decide +kernel) hk1 hFc hP1 hD1 rfl
              have hK := KJ_s (tys' := [(kt, .boolean), (kw, .int), (kr, .int)]) hK hK1 [(0, 1), (2, 1)] rfl
              generalize H1 = H at hP hS ⊢
              obtain ⟨x11, e_x11⟩ : ∃ yy : Int32, yy = x_44 + 1 := ⟨_, rfl⟩
              refine lv_iinc (v := x11) (lv' := [(2, .int x11), (3, .int r5), (1, .int le), (0, .ref h0)]) hx hb dX5_cutFound_92 hl (k := 1) rfl (by rw [e_x11]; rfl) (by decide) rfl (fun ls hl => ?_)
              refine lv_goto (tgt := 44) hx hb dX5_cutFound_95 (by decide) ?_
              exact ih_44 (i_44 + 1) x11 (by omega) (by omega) (by rw [e_x11, e_x_44]; exact nI_1 i_44) q10  _ _ (K_s hK [(1, 1), (0, 1), (2, 1)] rfl) (P_s hP [(1, 2), (0, 1), (3, 2)] rfl) (D_s hD [(1, 2), (0, 1), (3, 2)] 5 rfl (by decide +kernel) rfl) hS ls (lv_sub hl [0, 2, 3] rfl)
        exact loop_44 (8 + 1) 0 0 (by omega) (by omega) rfl fr  _ _ hK hP hD hS ls hl
      · skip
        have f_c1 := i_nle c1
        refine lv_iload_n hx hb dX5_cutFound_13 rfl (lv_at hl 1 rfl) ?_
        refine lv_aload_n hx hb dX5_cutFound_14 rfl (lv_at hl 2 rfl) ?_
        refine va_get (D := (dC, dI)) (ci := 4) (v := .ref qd) (C := RX5) (T := TX5) (N := 4) hx hb hts (fun w h => List.mem_cons_of_mem _ (inlX5 w h)) hown hK hP 0 rfl rfl 0 (by decide) (hts (.fieldLink RX5 19 "ClearingGates$Rings" "debts" "LClearingGates$Debts;") (List.mem_cons_of_mem _ mw_143)) (fun _ h9 => h9) rfl dX5_cutFound_15 ?_
        refine lv_aload_n hx hb dX5_cutFound_18 rfl (lv_at hl 2 rfl) ?_
        refine va_get (D := (dC, dI)) (ci := 4) (v := .ref qw) (C := RX5) (T := TX5) (N := 4) hx hb hts (fun w h => List.mem_cons_of_mem _ (inlX5 w h)) hown hK hP 0 rfl rfl 1 (by decide) (hts (.fieldLink RX5 9 "ClearingGates$Rings" "way" "[I") (List.mem_cons_of_mem _ mw_144)) (fun _ h9 => h9) rfl dX5_cutFound_19 ?_
        refine lv_iload_n hx hb dX5_cutFound_22 rfl (lv_at hl 0 rfl) ?_
        refine va_iald (D := (dC, dI)) hx hb hK hP 1 0 rfl rfl (vp_in_iff.mpr ⟨by omega, by omega⟩) dX5_cutFound_23 ?_
        refine lv_topi (fun z12 e_z12 => ?_)
        have w_z12 : inr8 z12 := by rw [e_z12]; exact hw0 _ (by rw [i_natZ (by omega)]; omega)
        obtain ⟨wa_z12, wb_z12⟩ := w_z12
        refine lv_aload_n hx hb dX5_cutFound_24 rfl (lv_at hl 2 rfl) ?_
        refine lv_iload_n hx hb dX5_cutFound_25 rfl (lv_at hl 0 rfl) ?_
        obtain ⟨hPc, hDc, hFc, hCm, hNw⟩ := C_s (wc := [eO h0 4 [.ref qd, .ref qw, .int wl, .ref qt], eI qw kw 8 fw]) hP hD hS hA [(0, 2)] 5 rfl (by decide +kernel) rfl
        have hKc := K_s (tys' := [(kw, .int)]) hK [(0, 1)] rfl
        refine va_calli (va_runV (As := [.int x_5]) (rest := [.int z12, .ref qd, .int le]) ⟨hx, hb, hml, hown, hts⟩ (c_X5_behind l dC dI h0 x_5 qd qw wl qt kw fw H.size w1 w2 hw0 (by first | assumption | omega) (by first | assumption | omega)) (cwV 1 hts gX5_cutFound_X5_behind rfl rfl rfl (by decide +kernel) ⟨Nat.le_of_ble_eq_true rfl, Nat.le_of_ble_eq_true rfl⟩) ⟨fun a U g mk q => by obtain ⟨q0, q1, qP, qK, qD⟩ := q; exact ⟨q0, q1, qP, va_K.moved (u := U) (U := U.calling g mk a) (Vm.Alike.refl U.vm) qK, qD⟩, va_recv (s := s) (q := (RX5, TX5, 4)) hKc hPc (ci := 4) (q0 := 0) rfl rfl, fun U hU hW => ⟨rfl, by rw [hU], by rw [hU]; exact hPc, va_K.moved hW.alike hKc, hDc.weaken (fun _ _ _ _ => trivial)⟩⟩ rfl rfl hl.1 rfl (lv_room (Nat.le_of_ble_eq_true rfl)) dX5_cutFound_26 ⟨Nat.le_of_ble_eq_true rfl, Nat.le_of_ble_eq_true rfl⟩) hS (fun q _ h => hFc q h) hFc (fun r13 u t H1 locs ht hvm hw hB hz1 hk1 hS => ?_)
        obtain ⟨hP1, hK1, hD1⟩ := hB
        rw [ht] at hP1
        have hK1 := va_K.moved hvm.symm hK1
        try dsimp only at hw
        obtain ⟨hP, hD⟩ := J_s (wL := [eI qt kt 8 ft, eO qd 1 [.ref qr], eI qr kr 64 fr, eO h0 4 [.ref qd, .ref qw, .int wl, .ref qt], eI qw kw 8 fw]) hP hD [(0, 2)] [(2, 3)] hCm hNw (by decide +kernel) hk1 hFc hP1 hD1 rfl
        have hK := KJ_s (tys' := [(kt, .boolean), (kr, .int), (kw, .int)]) hK hK1 [(1, 2)] rfl
        generalize H1 = H at hP hS ⊢
        have h_r13 := hw
        obtain ⟨hPc, hDc, hFc, hCm, hNw⟩ := C_s (wc := [eO qd 1 [.ref qr], eI qr kr 64 fr]) hP hD hS hA [(1, 2)] 5 rfl (by decide +kernel) rfl
        have hKc := K_s (tys' := [(kr, .int)]) hK [(1, 1)] rfl
        refine va_calli (va_runV (As := [.int z12, .int r13]) (rest := [.int le]) ⟨hx, hb, hml, hown, hts⟩ (c_X1_between l dC dI qd z12 r13 qr kr fr H.size (by first | assumption | omega) (by first | assumption | omega) (by first | assumption | omega) (by first | assumption | omega)) (cwV 2 hts gX5_cutFound_X1_between rfl rfl rfl (by decide +kernel) ⟨Nat.le_of_ble_eq_true rfl, Nat.le_of_ble_eq_true rfl⟩) ⟨fun a U g mk q => by obtain ⟨q0, q1, qP, qK, qD⟩ := q; exact ⟨q0, q1, qP, va_K.moved (u := U) (U := U.calling g mk a) (Vm.Alike.refl U.vm) qK, qD⟩, va_recv (s := s) (q := (RX1, TX1, 1)) hKc hPc (ci := 1) (q0 := 0) rfl rfl, fun U hU hW => ⟨rfl, by rw [hU], by rw [hU]; exact hPc, va_K.moved hW.alike hKc, hDc.weaken (fun _ _ _ _ => trivial)⟩⟩ rfl rfl hl.1 rfl (lv_room (Nat.le_of_ble_eq_true rfl)) dX5_cutFound_29 ⟨Nat.le_of_ble_eq_true rfl, Nat.le_of_ble_eq_true rfl⟩) hS (fun q _ h => hFc q h) hFc (fun r14 u t H1 locs ht hvm hw hB hz1 hk1 hS => ?_)
        obtain ⟨hP1, hK1, hD1⟩ := hB
        rw [ht] at hP1
        have hK1 := va_K.moved hvm.symm hK1
        try dsimp only at hw
        obtain ⟨hP, hD⟩ := J_s (wL := [eI qt kt 8 ft, eO h0 4 [.ref qd, .ref qw, .int wl, .ref qt], eI qw kw 8 fw, eO qd 1 [.ref qr], eI qr kr 64 fr]) hP hD [(1, 2)] [(0, 1), (3, 2)] hCm hNw (by decide +kernel) hk1 hFc hP1 hD1 rfl
        have hK := KJ_s (tys' := [(kt, .boolean), (kw, .int), (kr, .int)]) hK hK1 [(0, 1), (2, 1)] rfl
        generalize H1 = H at hP hS ⊢
        refine va_mmin hx hb (hml.trans hl.1.symm) hown (hts (.methodLink RX5 49 Lib.Math.min.name) (List.mem_cons_of_mem _ mw_521)) (hts (.static Lib.Math.min.name) (List.mem_cons_of_mem _ mw_288)) (hts (.initialized "java/lang/Math") (List.mem_cons_of_mem _ mw_79)) (hts (.code Lib.Math.min.name Lib.Math.min.code 2 (some .int)) (List.mem_cons_of_mem _ mw_289)) (Nat.le_of_ble_eq_true rfl) (Nat.le_of_ble_eq_true rfl) (Nat.le_of_ble_eq_true rfl) (Nat.le_of_ble_eq_true rfl) dX5_cutFound_32 ?_
        refine lv_topi (fun z15 e_z15 => ?_)
        have t_z15 := i_min e_z15
        refine lv_istore_n (lv' := [(1, .int z15), (2, .int x_5), (0, .ref h0)]) hx hb dX5_cutFound_35 rfl hl (by decide) rfl (fun ls hl => ?_)
        obtain ⟨x16, e_x16⟩ : ∃ yy : Int32, yy = x_5 + 1 := ⟨_, rfl⟩
        refine lv_iinc (v := x16) (lv' := [(2, .int x16), (1, .int z15), (0, .ref h0)]) hx hb dX5_cutFound_36 hl (k := 1) rfl (by rw [e_x16]; rfl) (by decide) rfl (fun ls hl => ?_)
        refine lv_goto (tgt := 5) hx hb dX5_cutFound_39 (by decide) ?_
        exact ih_5 (i_5 + 1) x16 (by omega) (by omega) (by rw [e_x16, e_x_5]; exact nI_1 i_5) z15  _ _ (K_s hK [(1, 1), (0, 1), (2, 1)] rfl) (P_s hP [(1, 2), (0, 1), (3, 2)] rfl) (D_s hD [(1, 2), (0, 1), (3, 2)] 5 rfl (by decide +kernel) rfl) hS ls (lv_sub hl [0, 1, 2] rfl)
  exact loop_5 (8 + 1) 0 0 (by omega) (by omega) rfl 99999  _ _ hK hP hD hS ls hl

set_option maxRecDepth 100000 in
set_option maxHeartbeats 4000000 in
/-- Rings.findsFirst -/
theorem c_X5_findsFirst (l : Launch) (dC : Nat → ClassId) (dI : Nat → Nat → Nat) (h0 : Nat) (p0 : Int32) (qd : Nat) (qw : Nat) (wl : Int32) (qt : Nat) (kw : ClassId) (fw : Nat → Int32) (kt : ClassId) (ft : Nat → Int32) (qr : Nat) (kr : ClassId) (fr : Nat → Int32) (sz : Nat) (h5 : 0 ≤ p0.toInt) (h6 : p0.toInt ≤ 8) : Met l yX5_findsFirst wsX5_findsFirst ({ frames := 9, cells := 0, slots := 0, locals := 225 }) (va_Pc [.ref h0, .int p0] (fun U => U.heap.size = sz ∧ va_P (dC, dI) vwCl [eO h0 4 [.ref qd, .ref qw, .int wl, .ref qt], eI qw kw 8 fw, eI qt kt 8 ft, eO qd 1 [.ref qr], eI qr kr 64 fr] U.heap ∧ va_K (dC, dI) vwCl [(kw, .int), (kt, .boolean), (kr, .int)] U ∧ va_D (fun _ => True) [eO h0 4 [.ref qd, .ref qw, .int wl, .ref qt], eI qw kw 8 fw, eI qt kt 8 ft, eO qd 1 [.ref qr], eI qr kr 64 fr])) (va_Qi (fun (r : Int32) (u : (Nat → Int32) × Int32 × (Nat → Int32)) => match u with | (fw2, wl2, ft2) => (r = 1 ∧ 0 < wl2.toInt ∧ wl2.toInt ≤ 8 ∧ (∀ k : Nat, (k : Int) < wl2.toInt → inr8 (fw2 k))) ∨ (r = 0 ∧ (0 : Int) ≤ 0)) (fun (u : (Nat → Int32) × Int32 × (Nat → Int32)) (t : State) => match u with | (fw2, wl2, ft2) => va_P (dC, dI) vwCl [eO h0 4 [.ref qd, .ref qw, .int wl2, .ref qt], eI qw kw 8 fw2, eI qt kt 8 ft2, eO qd 1 [.ref qr], eI qr kr 64 fr] t.heap ∧ va_K (dC, dI) vwCl [(kw, .int), (kt, .boolean), (kr, .int)] t ∧ va_D (va_A [eO h0 4 [.ref qd, .ref qw, .int wl, .ref qt], eI qw kw 8 fw, eI qt kt 8 ft, eO qd 1 [.ref qr], eI qr kr 64 fr] sz) [eO h0 4 [.ref qd, .ref qw, .int wl2, .ref qt], eI qw kw 8 fw2, eI qt kt 8 ft2, eO qd 1 [.ref qr], eI qr kr 64 fr]) (va_A [eO h0 4 [.ref qd, .ref qw, .int wl, .ref qt], eI qw kw 8 fw, eI qt kt 8 ft, eO qd 1 [.ref qr], eI qr kr 64 fr] sz)) 0 0 (va_A [eO h0 4 [.ref qd, .ref qw, .int wl, .ref qt], eI qw kw 8 fw, eI qt kt 8 ft, eO qd 1 [.ref qr], eI qr kr 64 fr] sz) := by
  refine Met.ofW (cc := cX5_findsFirst) (maxL := 4) (ret := (some .boolean)) (by decide) rfl ?_
  intro p e s m args below meth c s₁ B hml hv
  obtain ⟨rfl, hsz, hP, hK, hD0⟩ := hv
  have hx := B.exec
  have hb := B.bytes
  have hr := B.returns
  have hts := atoms_spec (ws := wsX5_findsFirst) B.pre
  have hown : s.vm.findClass RX5 = some m.cls := findClass_of_methodNamed B.named
  have hlocks := B.notSynchronized
  subst hsz
  have hD := hD0.self (sz := s.heap.size)
  generalize hAe : va_A [eO h0 4 [.ref qd, .ref qw, .int wl, .ref qt], eI qw kw 8 fw, eI qt kt 8 ft, eO qd 1 [.ref qr], eI qr kr 64 fr] s.heap.size = A at hD ⊢
  have hA : ∀ q : Nat, s.heap.size ≤ q → A q := fun q h => by rw [← hAe]; exact Or.inr h
  have hS : va_S A s.heap s.heap [] := va_S.rf
  have hP : va_P (dC, dI) vwCl [eO h0 4 [.ref qd, .ref qw, .int wl, .ref qt], eI qw kw 8 fw, eI qt kt 8 ft, eO qd 1 [.ref qr], eI qr kr 64 fr] s.heap := hP
  have hl := lv_entry ([.ref h0, .int p0]) (n := 4) (Nat.le_of_ble_eq_true rfl)
  rw [lg_entry_eq]
  generalize (lg_sl ([.ref h0, .int p0]) ++ List.replicate (4 - (lg_sl ([.ref h0, .int p0])).length) Slot.unset).toArray = ls at hl ⊢
  have hl : lv_has ls 4 [(0, .ref h0), (1, .int p0)] := hl
  suffices key9 : ∀ Q9 : State → Prop, Q9 = (MQ below (va_Qi (fun (r : Int32) (u : (Nat → Int32) × Int32 × (Nat → Int32)) => match u with | (fw2, wl2, ft2) => (r = 1 ∧ 0 < wl2.toInt ∧ wl2.toInt ≤ 8 ∧ (∀ k : Nat, (k : Int) < wl2.toInt → inr8 (fw2 k))) ∨ (r = 0 ∧ (0 : Int) ≤ 0)) (fun (u : (Nat → Int32) × Int32 × (Nat → Int32)) (t : State) => match u with | (fw2, wl2, ft2) => va_P (dC, dI) vwCl [eO h0 4 [.ref qd, .ref qw, .int wl2, .ref qt], eI qw kw 8 fw2, eI qt kt 8 ft2, eO qd 1 [.ref qr], eI qr kr 64 fr] t.heap ∧ va_K (dC, dI) vwCl [(kw, .int), (kt, .boolean), (kr, .int)] t ∧ va_D A [eO h0 4 [.ref qd, .ref qw, .int wl2, .ref qt], eI qw kw 8 fw2, eI qt kt 8 ft2, eO qd 1 [.ref qr], eI qr kr 64 fr]) A) (([.ref h0, .int p0] : List Value).toArray) s 0 0 A) → W p l e ({ frames := 9, cells := 0, slots := 0, locals := 225 }) s m (([.ref h0, .int p0] : List Value).toArray) below meth c s.heap [] 0 0 Q9 (F0 m 0 ls []) from key9 _ rfl
  intro Q9 hQ9
  have k_0 : (0 : Int32).toInt = 0 := by decide
  have k_1 : (1 : Int32).toInt = 1 := by decide
  refine lv_iconst (v := 0) hx hb dX5_findsFirst_0 (by decide) ?_
  refine lv_istore_n (lv' := [(2, .int 0), (0, .ref h0), (1, .int p0)]) hx hb dX5_findsFirst_1 rfl hl (by decide) rfl (fun ls hl => ?_)
  have loop_2 : ∀ (n i_2 : Nat) (x_2 : Int32), i_2 ≤ 8 → 8 < i_2 + n → x_2 = nI i_2 → ∀ (gw : Nat → Int32), ∀ (gt : Nat → Int32), ∀ (gl : Int32), ∀ (H : Heap) (locs : List Loc), va_K (dC, dI) vwCl [(kw, .int), (kt, .boolean), (kr, .int)] s → va_P (dC, dI) vwCl [eO h0 4 [.ref qd, .ref qw, .int gl, .ref qt], eI qw kw 8 gw, eI qt kt 8 gt, eO qd 1 [.ref qr], eI qr kr 64 fr] H → va_D A [eO h0 4 [.ref qd, .ref qw, .int gl, .ref qt], eI qw kw 8 gw, eI qt kt 8 gt, eO qd 1 [.ref qr], eI qr kr 64 fr] → va_S A s.heap H locs → ∀ (ls : Array Slot), lv_has ls 4 [(2, .int x_2), (0, .ref h0), (1, .int p0)] → W p l e ({ frames := 9, cells := 0, slots := 0, locals := 225 }) s m (([.ref h0, .int p0] : List Value).toArray) below meth c H locs 0 0 Q9 (F0 m 2 ls []) := by
    intro n
    induction n with
    | zero => intro i_2 x_2 h1 h2; exact absurd h2 (by omega)
    | succ n ih_2 =>
      intro i_2 x_2 hi_2 hn_2 e_x_2 gw gt gl H locs hK hP hD hS ls hl
      have t_x_2 : x_2.toInt = (i_2 : Int) := by rw [e_x_2]; exact nI_toInt (by omega)
      refine lv_iload_n hx hb dX5_findsFirst_2 rfl (lv_at hl 0 rfl) ?_
      refine lv_iload_n hx hb dX5_findsFirst_3 rfl (lv_at hl 2 rfl) ?_
      refine lv_icmp_ge (tgt := 46) hx hb dX5_findsFirst_4 (by decide) (fun c1 => ?_) (fun c1 => ?_)
      · skip
        have f_c1 := i_le c1
        refine lv_iconst (v := 0) hx hb dX5_findsFirst_46 (by decide) ?_
        rw [hQ9]
        exact W.zret (v := 0) hx hb hr (by decide) (fun t ht hW => ⟨⟨0, (gw, gl, gt), rfl, Or.inr ⟨rfl, by omega⟩, by rw [ht]; exact hP, va_K.moved hW.alike hK, hD⟩, hS.F ht⟩) hS.2.2 dX5_findsFirst_47
      · skip
        have f_c1 := i_nle c1
        refine lv_iconst (v := 0) hx hb dX5_findsFirst_7 (by decide) ?_
        refine lv_istore_n (lv' := [(3, .int 0), (2, .int x_2), (0, .ref h0), (1, .int p0)]) hx hb dX5_findsFirst_8 rfl hl (by decide) rfl (fun ls hl => ?_)
        have loop_9 : ∀ (n i_9 : Nat) (x_9 : Int32), i_9 ≤ 8 → 8 < i_9 + n → x_9 = nI i_9 → ∀ (gu : Nat → Int32), ∀ (H : Heap) (locs : List Loc), va_K (dC, dI) vwCl [(kw, .int), (kt, .boolean), (kr, .int)] s → va_P (dC, dI) vwCl [eO h0 4 [.ref qd, .ref qw, .int gl, .ref qt], eI qw kw 8 gw, eI qt kt 8 gu, eO qd 1 [.ref qr], eI qr kr 64 fr] H → va_D A [eO h0 4 [.ref qd, .ref qw, .int gl, .ref qt], eI qw kw 8 gw, eI qt kt 8 gu, eO qd 1 [.ref qr], eI qr kr 64 fr] → va_S A s.heap H locs → ∀ (ls : Array Slot), lv_has ls 4 [(3, .int x_9), (2, .int x_2), (0, .ref h0), (1, .int p0)] → W p l e ({ frames := 9, cells := 0, slots := 0, locals := 225 }) s m (([.ref h0, .int p0] : List Value).toArray) below meth c H locs 0 0 Q9 (F0 m 9 ls []) := by
          intro n
          induction n with
          | zero => intro i_9 x_9 h1 h2; exact absurd h2 (by omega)
          | succ n ih_9 =>
            intro i_9 x_9 hi_9 hn_9 e_x_9 gu H locs hK hP hD hS ls hl
            have t_x_9 : x_9.toInt = (i_9 : Int) := by rw [e_x_9]; exact nI_toInt (by omega)
            refine lv_iload_n hx hb dX5_findsFirst_9 rfl (lv_at hl 0 rfl) ?_
            refine lv_iload_n hx hb dX5_findsFirst_10 rfl (lv_at hl 3 rfl) ?_
            refine lv_icmp_ge (tgt := 27) hx hb dX5_findsFirst_11 (by decide) (fun c2 => ?_) (fun c2 => ?_)
            · skip
              have f_c2 := i_le c2
              refine lv_aload_n hx hb dX5_findsFirst_27 rfl (lv_at hl 2 rfl) ?_
              refine lv_iload_n hx hb dX5_findsFirst_28 rfl (lv_at hl 1 rfl) ?_
              refine lv_iload_n hx hb dX5_findsFirst_29 rfl (lv_at hl 1 rfl) ?_
              refine lv_iconst (v := 0) hx hb dX5_findsFirst_30 (by decide) ?_
              refine lv_iload_n hx hb dX5_findsFirst_31 rfl (lv_at hl 3 rfl) ?_
              obtain ⟨hPc, hDc, hFc, hCm, hNw⟩ := C_s (wc := [eO h0 4 [.ref qd, .ref qw, .int gl, .ref qt], eI qw kw 8 gw, eI qt kt 8 gu, eO qd 1 [.ref qr], eI qr kr 64 fr]) hP hD hS hA [(0, 5)] 5 rfl (by decide +kernel) rfl
              have hKc := K_s (tys' := [(kw, .int), (kt, .boolean), (kr, .int)]) hK [(0, 3)] rfl
              refine va_calli (va_runV (As := [.int x_2, .int x_2, .int 0, .int p0]) (rest := []) ⟨hx, hb, hml, hown, hts⟩ (c_X5_leadsBack_d0 l dC dI h0 x_2 x_2 p0 qd qw gl qt kw gw kt gu qr kr fr H.size (by first | assumption | omega) (by first | assumption | omega) (by first | assumption | omega) (by first | assumption | omega) h5 h6 (fun k hk => absurd hk (Nat.not_lt_zero k))) (cwV 4 hts gX5_findsFirst_X5_leadsBack rfl rfl rfl (by decide +kernel) ⟨Nat.le_of_ble_eq_true rfl, Nat.le_of_ble_eq_true rfl⟩) ⟨fun a U g mk q => by obtain ⟨q0, q1, qP, qK, qD⟩ := q; exact ⟨q0, q1, qP, va_K.moved (u := U) (U := U.calling g mk a) (Vm.Alike.refl U.vm) qK, qD⟩, va_recv (s := s) (q := (RX5, TX5, 4)) hKc hPc (ci := 4) (q0 := 0) rfl rfl, fun U hU hW => ⟨rfl, by rw [hU], by rw [hU]; exact hPc, va_K.moved hW.alike hKc, hDc.weaken (fun _ _ _ _ => trivial)⟩⟩ rfl rfl hl.1 rfl (lv_room (Nat.le_of_ble_eq_true rfl)) dX5_findsFirst_32 ⟨Nat.le_of_ble_eq_true rfl, Nat.le_of_ble_eq_true rfl⟩) hS (fun q _ h => hFc q h) hFc (fun r3 u t H1 locs ht hvm hw hB hz1 hk1 hS => ?_)
              obtain ⟨u4, u5, u6⟩ := u
              obtain ⟨hP1, hK1, hD1⟩ := hB
              rw [ht] at hP1
              have hK1 := va_K.moved hvm.symm hK1
              try dsimp only at hw
              obtain ⟨hP, hD⟩ := J_s (wL := [eO h0 4 [.ref qd, .ref qw, .int u5, .ref qt], eI qw kw 8 u4, eI qt kt 8 u6, eO qd 1 [.ref qr], eI qr kr 64 fr]) hP hD [(0, 5)] [] hCm hNw (by decide +kernel) hk1 hFc hP1 hD1 rfl
              have hK := KJ_s (tys' := [(kw, .int), (kt, .boolean), (kr, .int)]) hK hK1 [] rfl
              generalize H1 = H at hP hS ⊢
              rcases hw with ⟨e_r3, f_r3⟩ | ⟨e_r3, f_r3⟩
              · subst e_r3
                refine lv_if_eq (tgt := 40) hx hb dX5_findsFirst_35 (by decide) (fun c7 => absurd c7 (by decide)) (fun c7 => ?_)
                refine lv_iconst (v := 1) hx hb dX5_findsFirst_38 (by decide) ?_
                rw [hQ9]
                exact W.zret (v := 1) hx hb hr (by decide) (fun t ht hW => ⟨⟨1, (u4, u5, u6), rfl, Or.inl ⟨rfl, f_r3⟩, by rw [ht]; exact hP, va_K.moved hW.alike hK, hD⟩, hS.F ht⟩) hS.2.2 dX5_findsFirst_39
              · subst e_r3
                refine lv_if_eq (tgt := 40) hx hb dX5_findsFirst_35 (by decide) (fun c8 => ?_) (fun c8 => absurd (by decide) c8)
                obtain ⟨x9, e_x9⟩ : ∃ yy : Int32, yy = x_2 + 1 := ⟨_, rfl⟩
                refine lv_iinc (v := x9) (lv' := [(2, .int x9), (3, .int x_9), (0, .ref h0), (1, .int p0)]) hx hb dX5_findsFirst_40 hl (k := 1) rfl (by rw [e_x9]; rfl) (by decide) rfl (fun ls hl => ?_)
                refine lv_goto (tgt := 2) hx hb dX5_findsFirst_43 (by decide) ?_
                exact ih_2 (i_2 + 1) x9 (by omega) (by omega) (by rw [e_x9, e_x_2]; exact nI_1 i_2) u4 u6 u5  _ _ (K_s hK [(0, 3)] rfl) (P_s hP [(0, 5)] rfl) (D_s hD [(0, 5)] 5 rfl (by decide +kernel) rfl) hS ls (lv_sub hl [0, 2, 3] rfl)
            · skip
              have f_c2 := i_nle c2
              refine lv_aload_n hx hb dX5_findsFirst_14 rfl (lv_at hl 2 rfl) ?_
              refine va_get (D := (dC, dI)) (ci := 4) (v := .ref qt) (C := RX5) (T := TX5) (N := 4) hx hb hts (fun w h => List.mem_cons_of_mem _ (inlX5 w h)) hown hK hP 0 rfl rfl 3 (by decide) (hts (.fieldLink RX5 15 "ClearingGates$Rings" "tried" "[Z") (List.mem_cons_of_mem _ mw_146)) (fun _ h9 => h9) rfl dX5_findsFirst_15 ?_
              refine lv_iload_n hx hb dX5_findsFirst_18 rfl (lv_at hl 0 rfl) ?_
              refine lv_iconst (v := 0) hx hb dX5_findsFirst_19 (by decide) ?_
              refine va_zast (D := (dC, dI)) hx hb hK hP hD hS 2 1 rfl rfl (vp_in_iff.mpr ⟨by omega, by omega⟩) dX5_findsFirst_20 (fun H locs hP hD hS => ?_)
              generalize e_g10 : (upd gu (x_9).toNatClampNeg (vp_nar .boolean 0)) = g10 at hP hD
              obtain ⟨hP, hD⟩ := X_s (ws' := [eO h0 4 [.ref qd, .ref qw, .int gl, .ref qt], eI qw kw 8 gw, eI qt kt 8 g10, eO qd 1 [.ref qr], eI qr kr 64 fr]) hP hD rfl
              obtain ⟨x11, e_x11⟩ : ∃ yy : Int32, yy = x_9 + 1 := ⟨_, rfl⟩
              refine lv_iinc (v := x11) (lv' := [(3, .int x11), (2, .int x_2), (0, .ref h0), (1, .int p0)]) hx hb dX5_findsFirst_21 hl (k := 0) rfl (by rw [e_x11]; rfl) (by decide) rfl (fun ls hl => ?_)
              refine lv_goto (tgt := 9) hx hb dX5_findsFirst_24 (by decide) ?_
              exact ih_9 (i_9 + 1) x11 (by omega) (by omega) (by rw [e_x11, e_x_9]; exact nI_1 i_9) g10  _ _ (K_s hK [(0, 3)] rfl) (P_s hP [(0, 5)] rfl) (D_s hD [(0, 5)] 5 rfl (by decide +kernel) rfl) hS ls (lv_sub hl [0, 1, 2, 3] rfl)
        exact loop_9 (8 + 1) 0 0 (by omega) (by omega) rfl gt  _ _ hK hP hD hS ls hl
  exact loop_2 (8 + 1) 0 0 (by omega) (by omega) rfl fw ft wl  _ _ hK hP hD hS ls hl

set_option maxRecDepth 100000 in
set_option maxHeartbeats 4000000 in
/-- Rings.cutAll -/
theorem c_X5_cutAll (l : Launch) (dC : Nat → ClassId) (dI : Nat → Nat → Nat) (h0 : Nat) (p0 : Int32) (qd : Nat) (qw : Nat) (wl : Int32) (qt : Nat) (kw : ClassId) (fw : Nat → Int32) (kt : ClassId) (ft : Nat → Int32) (qr : Nat) (kr : ClassId) (fr : Nat → Int32) (sz : Nat) (h5 : 0 ≤ p0.toInt) (h6 : p0.toInt ≤ 8) : Met l yX5_cutAll wsX5_cutAll ({ frames := 10, cells := 0, slots := 0, locals := 248 }) (va_Pc [.ref h0, .int p0] (fun U => U.heap.size = sz ∧ va_P (dC, dI) vwCl [eO h0 4 [.ref qd, .ref qw, .int wl, .ref qt], eI qw kw 8 fw, eI qt kt 8 ft, eO qd 1 [.ref qr], eI qr kr 64 fr] U.heap ∧ va_K (dC, dI) vwCl [(kw, .int), (kt, .boolean), (kr, .int)] U ∧ va_D (fun _ => True) [eO h0 4 [.ref qd, .ref qw, .int wl, .ref qt], eI qw kw 8 fw, eI qt kt 8 ft, eO qd 1 [.ref qr], eI qr kr 64 fr])) (va_Qi (fun (r : Int32) (u : (Nat → Int32) × Int32 × (Nat → Int32) × (Nat → Int32)) => match u with | (fw2, wl2, ft2, fr2) => True) (fun (u : (Nat → Int32) × Int32 × (Nat → Int32) × (Nat → Int32)) (t : State) => match u with | (fw2, wl2, ft2, fr2) => va_P (dC, dI) vwCl [eO h0 4 [.ref qd, .ref qw, .int wl2, .ref qt], eI qw kw 8 fw2, eI qt kt 8 ft2, eO qd 1 [.ref qr], eI qr kr 64 fr2] t.heap ∧ va_K (dC, dI) vwCl [(kw, .int), (kt, .boolean), (kr, .int)] t ∧ va_D (va_A [eO h0 4 [.ref qd, .ref qw, .int wl, .ref qt], eI qw kw 8 fw, eI qt kt 8 ft, eO qd 1 [.ref qr], eI qr kr 64 fr] sz) [eO h0 4 [.ref qd, .ref qw, .int wl2, .ref qt], eI qw kw 8 fw2, eI qt kt 8 ft2, eO qd 1 [.ref qr], eI qr kr 64 fr2]) (va_A [eO h0 4 [.ref qd, .ref qw, .int wl, .ref qt], eI qw kw 8 fw, eI qt kt 8 ft, eO qd 1 [.ref qr], eI qr kr 64 fr] sz)) 0 0 (va_A [eO h0 4 [.ref qd, .ref qw, .int wl, .ref qt], eI qw kw 8 fw, eI qt kt 8 ft, eO qd 1 [.ref qr], eI qr kr 64 fr] sz) := by
  refine Met.ofW (cc := cX5_cutAll) (maxL := 3) (ret := (some .int)) (by decide) rfl ?_
  intro p e s m args below meth c s₁ B hml hv
  obtain ⟨rfl, hsz, hP, hK, hD0⟩ := hv
  have hx := B.exec
  have hb := B.bytes
  have hr := B.returns
  have hts := atoms_spec (ws := wsX5_cutAll) B.pre
  have hown : s.vm.findClass RX5 = some m.cls := findClass_of_methodNamed B.named
  have hlocks := B.notSynchronized
  subst hsz
  have hD := hD0.self (sz := s.heap.size)
  generalize hAe : va_A [eO h0 4 [.ref qd, .ref qw, .int wl, .ref qt], eI qw kw 8 fw, eI qt kt 8 ft, eO qd 1 [.ref qr], eI qr kr 64 fr] s.heap.size = A at hD ⊢
  have hA : ∀ q : Nat, s.heap.size ≤ q → A q := fun q h => by rw [← hAe]; exact Or.inr h
  have hS : va_S A s.heap s.heap [] := va_S.rf
  have hP : va_P (dC, dI) vwCl [eO h0 4 [.ref qd, .ref qw, .int wl, .ref qt], eI qw kw 8 fw, eI qt kt 8 ft, eO qd 1 [.ref qr], eI qr kr 64 fr] s.heap := hP
  have hl := lv_entry ([.ref h0, .int p0]) (n := 3) (Nat.le_of_ble_eq_true rfl)
  rw [lg_entry_eq]
  generalize (lg_sl ([.ref h0, .int p0]) ++ List.replicate (3 - (lg_sl ([.ref h0, .int p0])).length) Slot.unset).toArray = ls at hl ⊢
  have hl : lv_has ls 3 [(0, .ref h0), (1, .int p0)] := hl
  suffices key9 : ∀ Q9 : State → Prop, Q9 = (MQ below (va_Qi (fun (r : Int32) (u : (Nat → Int32) × Int32 × (Nat → Int32) × (Nat → Int32)) => match u with | (fw2, wl2, ft2, fr2) => True) (fun (u : (Nat → Int32) × Int32 × (Nat → Int32) × (Nat → Int32)) (t : State) => match u with | (fw2, wl2, ft2, fr2) => va_P (dC, dI) vwCl [eO h0 4 [.ref qd, .ref qw, .int wl2, .ref qt], eI qw kw 8 fw2, eI qt kt 8 ft2, eO qd 1 [.ref qr], eI qr kr 64 fr2] t.heap ∧ va_K (dC, dI) vwCl [(kw, .int), (kt, .boolean), (kr, .int)] t ∧ va_D A [eO h0 4 [.ref qd, .ref qw, .int wl2, .ref qt], eI qw kw 8 fw2, eI qt kt 8 ft2, eO qd 1 [.ref qr], eI qr kr 64 fr2]) A) (([.ref h0, .int p0] : List Value).toArray) s 0 0 A) → W p l e ({ frames := 10, cells := 0, slots := 0, locals := 248 }) s m (([.ref h0, .int p0] : List Value).toArray) below meth c s.heap [] 0 0 Q9 (F0 m 0 ls []) from key9 _ rfl
  intro Q9 hQ9
  have k_64 : (64 : Int32).toInt = 64 := by decide
  refine lv_iconst (v := 0) hx hb dX5_cutAll_0 (by decide) ?_
  refine lv_istore_n (lv' := [(2, .int 0), (0, .ref h0), (1, .int p0)]) hx hb dX5_cutAll_1 rfl hl (by decide) rfl (fun ls hl => ?_)
  have loop_2 : ∀ (n i_2 : Nat) (x_2 : Int32), i_2 ≤ 64 → 64 < i_2 + n → x_2 = nI i_2 → ∀ (gw : Nat → Int32), ∀ (gt : Nat → Int32), ∀ (gl : Int32), ∀ (gr : Nat → Int32), ∀ (H : Heap) (locs : List Loc), va_K (dC, dI) vwCl [(kw, .int), (kt, .boolean), (kr, .int)] s → va_P (dC, dI) vwCl [eO h0 4 [.ref qd, .ref qw, .int gl, .ref qt], eI qw kw 8 gw, eI qt kt 8 gt, eO qd 1 [.ref qr], eI qr kr 64 gr] H → va_D A [eO h0 4 [.ref qd, .ref qw, .int gl, .ref qt], eI qw kw 8 gw, eI qt kt 8 gt, eO qd 1 [.ref qr], eI qr kr 64 gr] → va_S A s.heap H locs → ∀ (ls : Array Slot), lv_has ls 3 [(2, .int x_2), (0, .ref h0), (1, .int p0)] → W p l e ({ frames := 10, cells := 0, slots := 0, locals := 248 }) s m (([.ref h0, .int p0] : List Value).toArray) below meth c H locs 0 0 Q9 (F0 m 2 ls []) := by
    intro n
    induction n with
    | zero => intro i_2 x_2 h1 h2; exact absurd h2 (by omega)
    | succ n ih_2 =>
      intro i_2 x_2 hi_2 hn_2 e_x_2 gw gt gl gr H locs hK hP hD hS ls hl
      have t_x_2 : x_2.toInt = (i_2 : Int) := by rw [e_x_2]; exact nI_toInt (by omega)
      refine lv_iload_n hx hb dX5_cutAll_2 rfl (lv_at hl 0 rfl) ?_
      refine lv_bipush (v := 64) hx hb dX5_cutAll_3 (by decide) ?_
      refine lv_icmp_ge (tgt := 28) hx hb dX5_cutAll_5 (by decide) (fun c1 => ?_) (fun c1 => ?_)
      · skip
        have f_c1 := i_le c1
        refine lv_bipush (v := 64) hx hb dX5_cutAll_28 (by decide) ?_
        rw [hQ9]
        exact W.iret (v := 64) hx hb hr (fun t ht hW => ⟨⟨64, (gw, gl, gt, gr), rfl, (by first | rfl | trivial), by rw [ht]; exact hP, va_K.moved hW.alike hK, hD⟩, hS.F ht⟩) hS.2.2 dX5_cutAll_30
      · skip
        have f_c1 := i_nle c1
        refine lv_aload_n hx hb dX5_cutAll_8 rfl (lv_at hl 1 rfl) ?_
        refine lv_iload_n hx hb dX5_cutAll_9 rfl (lv_at hl 2 rfl) ?_
        obtain ⟨hPc, hDc, hFc, hCm, hNw⟩ := C_s (wc := [eO h0 4 [.ref qd, .ref qw, .int gl, .ref qt], eI qw kw 8 gw, eI qt kt 8 gt, eO qd 1 [.ref qr], eI qr kr 64 gr]) hP hD hS hA [(0, 5)] 5 rfl (by decide +kernel) rfl
        have hKc := K_s (tys' := [(kw, .int), (kt, .boolean), (kr, .int)]) hK [(0, 3)] rfl
        refine va_calli (va_runV (As := [.int p0]) (rest := []) ⟨hx, hb, hml, hown, hts⟩ (c_X5_findsFirst l dC dI h0 p0 qd qw gl qt kw gw kt gt qr kr gr H.size h5 h6) (cwV 1 hts gX5_cutAll_X5_findsFirst rfl rfl rfl (by decide +kernel) ⟨Nat.le_of_ble_eq_true rfl, Nat.le_of_ble_eq_true rfl⟩) ⟨fun a U g mk q => by obtain ⟨q0, q1, qP, qK, qD⟩ := q; exact ⟨q0, q1, qP, va_K.moved (u := U) (U := U.calling g mk a) (Vm.Alike.refl U.vm) qK, qD⟩, va_recv (s := s) (q := (RX5, TX5, 4)) hKc hPc (ci := 4) (q0 := 0) rfl rfl, fun U hU hW => ⟨rfl, by rw [hU], by rw [hU]; exact hPc, va_K.moved hW.alike hKc, hDc.weaken (fun _ _ _ _ => trivial)⟩⟩ rfl rfl hl.1 rfl (lv_room (Nat.le_of_ble_eq_true rfl)) dX5_cutAll_10 ⟨Nat.le_of_ble_eq_true rfl, Nat.le_of_ble_eq_true rfl⟩) hS (fun q _ h => hFc q h) hFc (fun r2 u t H1 locs ht hvm hw hB hz1 hk1 hS => ?_)
        obtain ⟨u3, u4, u5⟩ := u
        obtain ⟨hP1, hK1, hD1⟩ := hB
        rw [ht] at hP1
        have hK1 := va_K.moved hvm.symm hK1
        try dsimp only at hw
        obtain ⟨hP, hD⟩ := J_s (wL := [eO h0 4 [.ref qd, .ref qw, .int u4, .ref qt], eI qw kw 8 u3, eI qt kt 8 u5, eO qd 1 [.ref qr], eI qr kr 64 gr]) hP hD [(0, 5)] [] hCm hNw (by decide +kernel) hk1 hFc hP1 hD1 rfl
        have hK := KJ_s (tys' := [(kw, .int), (kt, .boolean), (kr, .int)]) hK hK1 [] rfl
        generalize H1 = H at hP hS ⊢
        rcases hw with ⟨e_r2, f_r2⟩ | ⟨e_r2, f_r2⟩
        · subst e_r2
          refine lv_if_ne (tgt := 18) hx hb dX5_cutAll_13 (by decide) (fun c6 => ?_) (fun c6 => absurd c6 (by decide))
          refine lv_aload_n hx hb dX5_cutAll_18 rfl (lv_at hl 1 rfl) ?_
          obtain ⟨hPc, hDc, hFc, hCm, hNw⟩ := C_s (wc := [eO h0 4 [.ref qd, .ref qw, .int u4, .ref qt], eI qw kw 8 u3, eI qt kt 8 u5, eO qd 1 [.ref qr], eI qr kr 64 gr]) hP hD hS hA [(0, 5)] 5 rfl (by decide +kernel) rfl
          have hKc := K_s (tys' := [(kw, .int), (kt, .boolean), (kr, .int)]) hK [(0, 3)] rfl
          refine va_callv (va_runV (As := []) (rest := []) ⟨hx, hb, hml, hown, hts⟩ (c_X5_cutFound l dC dI h0 qd qw u4 qt kw u3 kt u5 qr kr gr H.size (by omega) (by omega) f_r2.2.2) (cwV 0 hts gX5_cutAll_X5_cutFound rfl rfl rfl (by decide +kernel) ⟨Nat.le_of_ble_eq_true rfl, Nat.le_of_ble_eq_true rfl⟩) ⟨fun a U g mk q => by obtain ⟨q0, q1, qP, qK, qD⟩ := q; exact ⟨q0, q1, qP, va_K.moved (u := U) (U := U.calling g mk a) (Vm.Alike.refl U.vm) qK, qD⟩, va_recv (s := s) (q := (RX5, TX5, 4)) hKc hPc (ci := 4) (q0 := 0) rfl rfl, fun U hU hW => ⟨rfl, by rw [hU], by rw [hU]; exact hPc, va_K.moved hW.alike hKc, hDc.weaken (fun _ _ _ _ => trivial)⟩⟩ rfl rfl hl.1 rfl (lv_room (Nat.le_of_ble_eq_true rfl)) dX5_cutAll_19 ⟨Nat.le_of_ble_eq_true rfl, Nat.le_of_ble_eq_true rfl⟩) hS (fun q _ h => hFc q h) hFc (fun u t H1 locs ht hvm hw hB hz1 hk1 hS => ?_)
          obtain ⟨q8, hP1, hK1, hD1⟩ := hB
          rw [ht] at hP1
          have hK1 := va_K.moved hvm.symm hK1
          try dsimp only at hw
          obtain ⟨hP, hD⟩ := J_s (wL := [eO h0 4 [.ref qd, .ref qw, .int u4, .ref qt], eI qw kw 8 u3, eI qt kt 8 u5, eO qd 1 [.ref qr], eI qr kr 64 q8]) hP hD [(0, 5)] [] hCm hNw (by decide +kernel) hk1 hFc hP1 hD1 rfl
          have hK := KJ_s (tys' := [(kw, .int), (kt, .boolean), (kr, .int)]) hK hK1 [] rfl
          generalize H1 = H at hP hS ⊢
          obtain ⟨x9, e_x9⟩ : ∃ yy : Int32, yy = x_2 + 1 := ⟨_, rfl⟩
          refine lv_iinc (v := x9) (lv' := [(2, .int x9), (0, .ref h0), (1, .int p0)]) hx hb dX5_cutAll_22 hl (k := 0) rfl (by rw [e_x9]; rfl) (by decide) rfl (fun ls hl => ?_)
          refine lv_goto (tgt := 2) hx hb dX5_cutAll_25 (by decide) ?_
          exact ih_2 (i_2 + 1) x9 (by omega) (by omega) (by rw [e_x9, e_x_2]; exact nI_1 i_2) u3 u5 u4 q8  _ _ (K_s hK [(0, 3)] rfl) (P_s hP [(0, 5)] rfl) (D_s hD [(0, 5)] 5 rfl (by decide +kernel) rfl) hS ls (lv_sub hl [0, 1, 2] rfl)
        · subst e_r2
          refine lv_if_ne (tgt := 18) hx hb dX5_cutAll_13 (by decide) (fun c10 => absurd (by decide) c10) (fun c10 => ?_)
          refine lv_iload_n hx hb dX5_cutAll_16 rfl (lv_at hl 0 rfl) ?_
          rw [hQ9]
          exact W.iret (v := x_2) hx hb hr (fun t ht hW => ⟨⟨x_2, (u3, u4, u5, gr), rfl, (by first | rfl | trivial), by rw [ht]; exact hP, va_K.moved hW.alike hK, hD⟩, hS.F ht⟩) hS.2.2 dX5_cutAll_17
  exact loop_2 (64 + 1) 0 0 (by omega) (by omega) rfl fw ft wl fr  _ _ hK hP hD hS ls hl
