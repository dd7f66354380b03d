set_option maxRecDepth 100000 in
set_option maxHeartbeats 4000000 in
/-- net of the reference -/
theorem c_X10_net (l : Launch) (dC : Nat → ClassId) (dI : Nat → Nat → Nat) (h0 : Nat) (q_s : Nat) (v_fees : Int64) (q_thought : Nat) (v_thoughtFees : Int64) (q_image : Nat) (v_imageFees : Int64) (v_hasImage : Int32) (q_tape : Nat) (v_taped : Int32) (q_texts : Nat) (q_sizes : Nat) (v_programs : Int32) (q_imageTexts : Nat) (q_imageSizes : Nat) (v_imagePrograms : Int32) (v_here : Int32) (v_open : Int32) (v_running : Int32) (v_begun : Int32) (q_held : Nat) (q_marks : Nat) (v_markMany : Int32) (q_trace : Nat) (v_traced : Int32) (q_keptBalances : Nat) (q_keptFees : Nat) (v_deep : Int32) (q_way : Nat) (q_sorts : Nat) (q_rowMany : Nat) (q_items : Nat) (q_moved : Nat) (k_s : ClassId) (f_s : Nat → Int32) (k_way : ClassId) (f_way : Nat → Int32) (sz : Nat) (hms : ms f_s) : Met l yX10_net wsX10_net ({ frames := 24, cells := 0, slots := 0, locals := 947 }) (va_Pc [.ref h0] (fun U => U.heap.size = sz ∧ va_P (dC, dI) vwCl [eO h0 9 [.ref q_s, .long v_fees, .ref q_thought, .long v_thoughtFees, .ref q_image, .long v_imageFees, .int v_hasImage, .ref q_tape, .int v_taped, .ref q_texts, .ref q_sizes, .int v_programs, .ref q_imageTexts, .ref q_imageSizes, .int v_imagePrograms, .int v_here, .int v_open, .int v_running, .int v_begun, .ref q_held, .ref q_marks, .int v_markMany, .ref q_trace, .int v_traced, .ref q_keptBalances, .ref q_keptFees, .int v_deep, .ref q_way, .ref q_sorts, .ref q_rowMany, .ref q_items, .ref q_moved], eI q_s k_s 125 f_s, eI q_way k_way 8 f_way] U.heap ∧ va_K (dC, dI) vwCl [(k_s, .int), (k_way, .int)] U ∧ va_D (fun _ => True) [eO h0 9 [.ref q_s, .long v_fees, .ref q_thought, .long v_thoughtFees, .ref q_image, .long v_imageFees, .int v_hasImage, .ref q_tape, .int v_taped, .ref q_texts, .ref q_sizes, .int v_programs, .ref q_imageTexts, .ref q_imageSizes, .int v_imagePrograms, .int v_here, .int v_open, .int v_running, .int v_begun, .ref q_held, .ref q_marks, .int v_markMany, .ref q_trace, .int v_traced, .ref q_keptBalances, .ref q_keptFees, .int v_deep, .ref q_way, .ref q_sorts, .ref q_rowMany, .ref q_items, .ref q_moved], eI q_s k_s 125 f_s, eI q_way k_way 8 f_way])) (va_Qi (fun (r : Int32) (_ : Unit) => True) (fun (_ : Unit) (t : State) => ∃ (f_s' : Nat → Int32), ∃ (f_way' : Nat → Int32), (ms f_s') ∧ ((f_s' 60).toInt = (f_s 60).toInt) ∧ (Fb f_s' f_s) ∧ va_P (dC, dI) vwCl [eO h0 9 [.ref q_s, .long v_fees, .ref q_thought, .long v_thoughtFees, .ref q_image, .long v_imageFees, .int v_hasImage, .ref q_tape, .int v_taped, .ref q_texts, .ref q_sizes, .int v_programs, .ref q_imageTexts, .ref q_imageSizes, .int v_imagePrograms, .int v_here, .int v_open, .int v_running, .int v_begun, .ref q_held, .ref q_marks, .int v_markMany, .ref q_trace, .int v_traced, .ref q_keptBalances, .ref q_keptFees, .int v_deep, .ref q_way, .ref q_sorts, .ref q_rowMany, .ref q_items, .ref q_moved], eI q_s k_s 125 (f_s'), eI q_way k_way 8 (f_way')] t.heap ∧ va_K (dC, dI) vwCl [(k_s, .int), (k_way, .int)] t ∧ va_D (va_A [eO h0 9 [.ref q_s, .long v_fees, .ref q_thought, .long v_thoughtFees, .ref q_image, .long v_imageFees, .int v_hasImage, .ref q_tape, .int v_taped, .ref q_texts, .ref q_sizes, .int v_programs, .ref q_imageTexts, .ref q_imageSizes, .int v_imagePrograms, .int v_here, .int v_open, .int v_running, .int v_begun, .ref q_held, .ref q_marks, .int v_markMany, .ref q_trace, .int v_traced, .ref q_keptBalances, .ref q_keptFees, .int v_deep, .ref q_way, .ref q_sorts, .ref q_rowMany, .ref q_items, .ref q_moved], eI q_s k_s 125 f_s, eI q_way k_way 8 f_way] sz) [eO h0 9 [.ref q_s, .long v_fees, .ref q_thought, .long v_thoughtFees, .ref q_image, .long v_imageFees, .int v_hasImage, .ref q_tape, .int v_taped, .ref q_texts, .ref q_sizes, .int v_programs, .ref q_imageTexts, .ref q_imageSizes, .int v_imagePrograms, .int v_here, .int v_open, .int v_running, .int v_begun, .ref q_held, .ref q_marks, .int v_markMany, .ref q_trace, .int v_traced, .ref q_keptBalances, .ref q_keptFees, .int v_deep, .ref q_way, .ref q_sorts, .ref q_rowMany, .ref q_items, .ref q_moved], eI q_s k_s 125 (f_s'), eI q_way k_way 8 (f_way')]) (va_A [eO h0 9 [.ref q_s, .long v_fees, .ref q_thought, .long v_thoughtFees, .ref q_image, .long v_imageFees, .int v_hasImage, .ref q_tape, .int v_taped, .ref q_texts, .ref q_sizes, .int v_programs, .ref q_imageTexts, .ref q_imageSizes, .int v_imagePrograms, .int v_here, .int v_open, .int v_running, .int v_begun, .ref q_held, .ref q_marks, .int v_markMany, .ref q_trace, .int v_traced, .ref q_keptBalances, .ref q_keptFees, .int v_deep, .ref q_way, .ref q_sorts, .ref q_rowMany, .ref q_items, .ref q_moved], eI q_s k_s 125 f_s, eI q_way k_way 8 f_way] sz)) 0 0 (va_A [eO h0 9 [.ref q_s, .long v_fees, .ref q_thought, .long v_thoughtFees, .ref q_image, .long v_imageFees, .int v_hasImage, .ref q_tape, .int v_taped, .ref q_texts, .ref q_sizes, .int v_programs, .ref q_imageTexts, .ref q_imageSizes, .int v_imagePrograms, .int v_here, .int v_open, .int v_running, .int v_begun, .ref q_held, .ref q_marks, .int v_markMany, .ref q_trace, .int v_traced, .ref q_keptBalances, .ref q_keptFees, .int v_deep, .ref q_way, .ref q_sorts, .ref q_rowMany, .ref q_items, .ref q_moved], eI q_s k_s 125 f_s, eI q_way k_way 8 f_way] sz) := by
  refine Met.ofW (cc := cX10_net) (maxL := 5) (ret := (some .int)) (by decide) rfl ?_
  intro p e s m args below meth c s₁ B hml hv
  obtain ⟨rfl, hsz, hP, hK, hD0⟩ := hv
  have hx := B.exec
  have hb := B.bytes
  have hr := B.returns
  have hts := atoms_spec (ws := wsX10_net) B.pre
  have hown : s.vm.findClass RX10 = some m.cls := findClass_of_methodNamed B.named
  have hlocks := B.notSynchronized
  subst hsz
  have hD := hD0.self (sz := s.heap.size)
  generalize hAe : va_A [eO h0 9 [.ref q_s, .long v_fees, .ref q_thought, .long v_thoughtFees, .ref q_image, .long v_imageFees, .int v_hasImage, .ref q_tape, .int v_taped, .ref q_texts, .ref q_sizes, .int v_programs, .ref q_imageTexts, .ref q_imageSizes, .int v_imagePrograms, .int v_here, .int v_open, .int v_running, .int v_begun, .ref q_held, .ref q_marks, .int v_markMany, .ref q_trace, .int v_traced, .ref q_keptBalances, .ref q_keptFees, .int v_deep, .ref q_way, .ref q_sorts, .ref q_rowMany, .ref q_items, .ref q_moved], eI q_s k_s 125 f_s, eI q_way k_way 8 f_way] s.heap.size = A at hD ⊢
  have hA : ∀ q : Nat, s.heap.size ≤ q → A q := fun q h => by rw [← hAe]; exact Or.inr h
  have hS : va_S A s.heap s.heap [] := va_S.rf
  have hP : va_P (dC, dI) vwCl [eO h0 9 [.ref q_s, .long v_fees, .ref q_thought, .long v_thoughtFees, .ref q_image, .long v_imageFees, .int v_hasImage, .ref q_tape, .int v_taped, .ref q_texts, .ref q_sizes, .int v_programs, .ref q_imageTexts, .ref q_imageSizes, .int v_imagePrograms, .int v_here, .int v_open, .int v_running, .int v_begun, .ref q_held, .ref q_marks, .int v_markMany, .ref q_trace, .int v_traced, .ref q_keptBalances, .ref q_keptFees, .int v_deep, .ref q_way, .ref q_sorts, .ref q_rowMany, .ref q_items, .ref q_moved], eI q_s k_s 125 f_s, eI q_way k_way 8 f_way] s.heap := hP
  have hl := lv_entry ([.ref h0]) (n := 5) (Nat.le_of_ble_eq_true rfl)
  rw [lg_entry_eq]
  generalize (lg_sl ([.ref h0]) ++ List.replicate (5 - (lg_sl ([.ref h0])).length) Slot.unset).toArray = ls at hl ⊢
  have hl : lv_has ls 5 [(0, .ref h0)] := hl
  suffices key9 : ∀ Q9 : State → Prop, Q9 = (MQ below (va_Qi (fun (r : Int32) (_ : Unit) => True) (fun (_ : Unit) (t : State) => ∃ (f_s' : Nat → Int32), ∃ (f_way' : Nat → Int32), (ms f_s') ∧ ((f_s' 60).toInt = (f_s 60).toInt) ∧ (Fb f_s' f_s) ∧ va_P (dC, dI) vwCl [eO h0 9 [.ref q_s, .long v_fees, .ref q_thought, .long v_thoughtFees, .ref q_image, .long v_imageFees, .int v_hasImage, .ref q_tape, .int v_taped, .ref q_texts, .ref q_sizes, .int v_programs, .ref q_imageTexts, .ref q_imageSizes, .int v_imagePrograms, .int v_here, .int v_open, .int v_running, .int v_begun, .ref q_held, .ref q_marks, .int v_markMany, .ref q_trace, .int v_traced, .ref q_keptBalances, .ref q_keptFees, .int v_deep, .ref q_way, .ref q_sorts, .ref q_rowMany, .ref q_items, .ref q_moved], eI q_s k_s 125 (f_s'), eI q_way k_way 8 (f_way')] t.heap ∧ va_K (dC, dI) vwCl [(k_s, .int), (k_way, .int)] t ∧ va_D A [eO h0 9 [.ref q_s, .long v_fees, .ref q_thought, .long v_thoughtFees, .ref q_image, .long v_imageFees, .int v_hasImage, .ref q_tape, .int v_taped, .ref q_texts, .ref q_sizes, .int v_programs, .ref q_imageTexts, .ref q_imageSizes, .int v_imagePrograms, .int v_here, .int v_open, .int v_running, .int v_begun, .ref q_held, .ref q_marks, .int v_markMany, .ref q_trace, .int v_traced, .ref q_keptBalances, .ref q_keptFees, .int v_deep, .ref q_way, .ref q_sorts, .ref q_rowMany, .ref q_items, .ref q_moved], eI q_s k_s 125 (f_s'), eI q_way k_way 8 (f_way')]) A) (([.ref h0] : List Value).toArray) s 0 0 A) → W p l e ({ frames := 24, cells := 0, slots := 0, locals := 947 }) s m (([.ref h0] : List Value).toArray) below meth c s.heap [] 0 0 Q9 (F0 m 0 ls []) from key9 _ rfl
  intro Q9 hQ9
  have k_m3 : ((-3) : Int32).toInt = (-3) := by decide
  have k_0 : (0 : Int32).toInt = 0 := by decide
  have k_1 : (1 : Int32).toInt = 1 := by decide
  have k_8 : (8 : Int32).toInt = 8 := by decide
  have k_24 : (24 : Int32).toInt = 24 := by decide
  have k_32 : (32 : Int32).toInt = 32 := by decide
  have k_40 : (40 : Int32).toInt = 40 := by decide
  have k_61 : (61 : Int32).toInt = 61 := by decide
  have k_99999 : (99999 : Int32).toInt = 99999 := by decide
  obtain ⟨ha1, ha2, hown9⟩ := id hms
  refine lv_iconst (v := 0) hx hb dX10_net_0 (by decide) ?_
  refine lv_istore_n (lv' := [(1, .int 0), (0, .ref h0)]) hx hb dX10_net_1 rfl hl (by decide) rfl (fun ls hl => ?_)
  have loop_2 : ∀ (n i_2 : Nat) (x_2 : Int32), i_2 ≤ 8 → 8 < i_2 + n → x_2 = nI i_2 → ∀ (H : Heap) (locs : List Loc), va_K (dC, dI) vwCl [(k_s, .int), (k_way, .int)] s → va_P (dC, dI) vwCl [eO h0 9 [.ref q_s, .long v_fees, .ref q_thought, .long v_thoughtFees, .ref q_image, .long v_imageFees, .int v_hasImage, .ref q_tape, .int v_taped, .ref q_texts, .ref q_sizes, .int v_programs, .ref q_imageTexts, .ref q_imageSizes, .int v_imagePrograms, .int v_here, .int v_open, .int v_running, .int v_begun, .ref q_held, .ref q_marks, .int v_markMany, .ref q_trace, .int v_traced, .ref q_keptBalances, .ref q_keptFees, .int v_deep, .ref q_way, .ref q_sorts, .ref q_rowMany, .ref q_items, .ref q_moved], eI q_s k_s 125 f_s, eI q_way k_way 8 f_way] H → va_D A [eO h0 9 [.ref q_s, .long v_fees, .ref q_thought, .long v_thoughtFees, .ref q_image, .long v_imageFees, .int v_hasImage, .ref q_tape, .int v_taped, .ref q_texts, .ref q_sizes, .int v_programs, .ref q_imageTexts, .ref q_imageSizes, .int v_imagePrograms, .int v_here, .int v_open, .int v_running, .int v_begun, .ref q_held, .ref q_marks, .int v_markMany, .ref q_trace, .int v_traced, .ref q_keptBalances, .ref q_keptFees, .int v_deep, .ref q_way, .ref q_sorts, .ref q_rowMany, .ref q_items, .ref q_moved], eI q_s k_s 125 f_s, eI q_way k_way 8 f_way] → va_S A s.heap H locs → ∀ (ls : Array Slot), lv_has ls 5 [(1, .int x_2), (0, .ref h0)] → W p l e ({ frames := 24, cells := 0, slots := 0, locals := 947 }) s m (([.ref h0] : List Value).toArray) below meth c H locs 0 0 Q9 (F0 m 2 ls []) := by
    intro n
    induction n with
    | zero => intro i_2 x_2 h1 h2; exact absurd h2 (by omega)
    | succ n ih_2 =>
      intro i_2 x_2 hi_2 hn_2 e_x_2 H locs hK hP hD hS ls hl
      have t_x_2 : x_2.toInt = (i_2 : Int) := by rw [e_x_2]; exact nI_toInt (by omega)
      refine lv_iload_n hx hb dX10_net_2 rfl (lv_at hl 0 rfl) ?_
      refine lv_aload_n hx hb dX10_net_3 rfl (lv_at hl 1 rfl) ?_
      refine va_get (D := (dC, dI)) (ci := 9) (v := .ref q_s) (C := RX10) (T := TX10) (N := 32) hx hb hts (fun w h => List.mem_cons_of_mem _ (inlX10 w h)) hown hK hP 0 rfl rfl 0 (by decide) (hts (.fieldLink RX10 11 "ClearingGatesModel" "s" "[I") (List.mem_cons_of_mem _ mw_609)) (fun _ h9 => h9) rfl dX10_net_4 ?_
      refine lv_bipush (v := 60) hx hb dX10_net_7 (by decide) ?_
      refine va_iald (D := (dC, dI)) hx hb hK hP 1 0 rfl rfl (vp_in_iff.mpr ⟨by decide, by decide⟩) dX10_net_9 ?_
      refine lv_topi (fun z1 e_z1 => ?_)
      have a_z1 : z1.toInt = (f_s 60).toInt := by rw [e_z1]; rfl
      refine lv_icmp_ge (tgt := 34) hx hb dX10_net_10 (by decide) (fun c2 => ?_) (fun c2 => ?_)
      · skip
        have f_c2 := i_le c2
        refine lv_iconst (v := 0) hx hb dX10_net_34 (by decide) ?_
        refine lv_istore_n (lv' := [(1, .int 0), (0, .ref h0)]) hx hb dX10_net_35 rfl hl (by decide) rfl (fun ls hl => ?_)
        have loop_36 : ∀ (n : Nat) (x : Int32) (gs : Nat → Int32), (0 ≤ x.toInt ∧ x.toInt ≤ 8) → (ms gs) → ((gs 60).toInt = (f_s 60).toInt) → (Fb gs f_s) → (8 - x.toInt) < (n : Int) → ∀ (H : Heap) (locs : List Loc), va_K (dC, dI) vwCl [(k_s, .int), (k_way, .int)] s → va_P (dC, dI) vwCl [eO h0 9 [.ref q_s, .long v_fees, .ref q_thought, .long v_thoughtFees, .ref q_image, .long v_imageFees, .int v_hasImage, .ref q_tape, .int v_taped, .ref q_texts, .ref q_sizes, .int v_programs, .ref q_imageTexts, .ref q_imageSizes, .int v_imagePrograms, .int v_here, .int v_open, .int v_running, .int v_begun, .ref q_held, .ref q_marks, .int v_markMany, .ref q_trace, .int v_traced, .ref q_keptBalances, .ref q_keptFees, .int v_deep, .ref q_way, .ref q_sorts, .ref q_rowMany, .ref q_items, .ref q_moved], eI q_s k_s 125 gs, eI q_way k_way 8 f_way] H → va_D A [eO h0 9 [.ref q_s, .long v_fees, .ref q_thought, .long v_thoughtFees, .ref q_image, .long v_imageFees, .int v_hasImage, .ref q_tape, .int v_taped, .ref q_texts, .ref q_sizes, .int v_programs, .ref q_imageTexts, .ref q_imageSizes, .int v_imagePrograms, .int v_here, .int v_open, .int v_running, .int v_begun, .ref q_held, .ref q_marks, .int v_markMany, .ref q_trace, .int v_traced, .ref q_keptBalances, .ref q_keptFees, .int v_deep, .ref q_way, .ref q_sorts, .ref q_rowMany, .ref q_items, .ref q_moved], eI q_s k_s 125 gs, eI q_way k_way 8 f_way] → va_S A s.heap H locs → ∀ (ls : Array Slot), lv_has ls 5 [(1, .int x), (0, .ref h0)] → W p l e ({ frames := 24, cells := 0, slots := 0, locals := 947 }) s m (([.ref h0] : List Value).toArray) below meth c H locs 0 0 Q9 (F0 m 36 ls []) := by
          intro n
          induction n with
          | zero => intro x gs i1 im i60 ib hM_36; exfalso; omega
          | succ n ih_36 =>
            intro x gs i1 im i60 ib hM_36 H locs hK hP hD hS ls hl
            obtain ⟨ai1, ai2, ai3⟩ := id im
            refine lv_iload_n hx hb dX10_net_36 rfl (lv_at hl 0 rfl) ?_
            refine lv_aload_n hx hb dX10_net_37 rfl (lv_at hl 1 rfl) ?_
            refine va_get (D := (dC, dI)) (ci := 9) (v := .ref q_s) (C := RX10) (T := TX10) (N := 32) hx hb hts (fun w h => List.mem_cons_of_mem _ (inlX10 w h)) hown hK hP 0 rfl rfl 0 (by decide) (hts (.fieldLink RX10 11 "ClearingGatesModel" "s" "[I") (List.mem_cons_of_mem _ mw_609)) (fun _ h9 => h9) rfl dX10_net_38 ?_
            refine lv_bipush (v := 60) hx hb dX10_net_41 (by decide) ?_
            refine va_iald (D := (dC, dI)) hx hb hK hP 1 0 rfl rfl (vp_in_iff.mpr ⟨by decide, by decide⟩) dX10_net_43 ?_
            refine lv_topi (fun z3 e_z3 => ?_)
            have a_z3 : z3.toInt = (gs 60).toInt := by rw [e_z3]; rfl
            refine lv_icmp_ge (tgt := 79) hx hb dX10_net_44 (by decide) (fun c4 => ?_) (fun c4 => ?_)
            · skip
              have f_c4 := i_le c4
              refine lv_iconst (v := 0) hx hb dX10_net_79 (by decide) ?_
              refine lv_istore_n (lv' := [(1, .int 0), (0, .ref h0)]) hx hb dX10_net_80 rfl hl (by decide) rfl (fun ls hl => ?_)
              refine lv_aload_n hx hb dX10_net_81 rfl (lv_at hl 1 rfl) ?_
              obtain ⟨hPc, hDc, hFc, hCm, hNw⟩ := C_s (wc := [eO h0 9 [.ref q_s, .long v_fees, .ref q_thought, .long v_thoughtFees, .ref q_image, .long v_imageFees, .int v_hasImage, .ref q_tape, .int v_taped, .ref q_texts, .ref q_sizes, .int v_programs, .ref q_imageTexts, .ref q_imageSizes, .int v_imagePrograms, .int v_here, .int v_open, .int v_running, .int v_begun, .ref q_held, .ref q_marks, .int v_markMany, .ref q_trace, .int v_traced, .ref q_keptBalances, .ref q_keptFees, .int v_deep, .ref q_way, .ref q_sorts, .ref q_rowMany, .ref q_items, .ref q_moved], eI q_s k_s 125 gs, eI q_way k_way 8 f_way]) hP hD hS hA [(0, 3)] 3 rfl (by decide +kernel) rfl
              have hKc := K_s (tys' := [(k_s, .int), (k_way, .int)]) hK [(0, 2)] rfl
              refine va_calli (va_runV (As := []) (rest := []) ⟨hx, hb, hml, hown, hts⟩ (c_X10_firstRing l dC dI h0 q_s v_fees q_thought v_thoughtFees q_image v_imageFees v_hasImage q_tape v_taped q_texts q_sizes v_programs q_imageTexts q_imageSizes v_imagePrograms v_here v_open v_running v_begun q_held q_marks v_markMany q_trace v_traced q_keptBalances q_keptFees v_deep q_way q_sorts q_rowMany q_items q_moved k_s gs k_way f_way H.size (by first | assumption | omega)) (cwV 0 hts gX10_net_X10_firstRing rfl rfl rfl (by decide +kernel) ⟨Nat.le_of_ble_eq_true rfl, Nat.le_of_ble_eq_true rfl⟩) ⟨fun a U g mk q => by obtain ⟨q0, q1, qP, qK, qD⟩ := q; exact ⟨q0, q1, qP, va_K.moved (u := U) (U := U.calling g mk a) (Vm.Alike.refl U.vm) qK, qD⟩, va_recv (s := s) (q := (RX10, TX10, 32)) hKc hPc (ci := 9) (q0 := 0) rfl rfl, fun U hU hW => ⟨rfl, by rw [hU], by rw [hU]; exact hPc, va_K.moved hW.alike hKc, hDc.weaken (fun _ _ _ _ => trivial)⟩⟩ rfl rfl hl.1 rfl (lv_room (Nat.le_of_ble_eq_true rfl)) dX10_net_82 ⟨Nat.le_of_ble_eq_true rfl, Nat.le_of_ble_eq_true rfl⟩) hS (fun q _ h => hFc q h) hFc (fun r5 u t H1 locs ht hvm hw hB hz1 hk1 hS => ?_)
              obtain ⟨u6, rfl⟩ : ∃ z, z = u := ⟨_, rfl⟩
              obtain ⟨hP1, hK1, hD1⟩ := hB
              rw [ht] at hP1
              have hK1 := va_K.moved hvm.symm hK1
              try dsimp only at hw
              obtain ⟨hP, hD⟩ := J_s (wL := [eO h0 9 [.ref q_s, .long v_fees, .ref q_thought, .long v_thoughtFees, .ref q_image, .long v_imageFees, .int v_hasImage, .ref q_tape, .int v_taped, .ref q_texts, .ref q_sizes, .int v_programs, .ref q_imageTexts, .ref q_imageSizes, .int v_imagePrograms, .int v_here, .int v_open, .int v_running, .int v_begun, .ref q_held, .ref q_marks, .int v_markMany, .ref q_trace, .int v_traced, .ref q_keptBalances, .ref q_keptFees, .int v_deep, .ref q_way, .ref q_sorts, .ref q_rowMany, .ref q_items, .ref q_moved], eI q_s k_s 125 gs, eI q_way k_way 8 u6]) hP hD [(0, 3)] [] hCm hNw (by decide +kernel) hk1 hFc hP1 hD1 rfl
              have hK := KJ_s (tys' := [(k_s, .int), (k_way, .int)]) hK hK1 [] rfl
              generalize H1 = H at hP hS ⊢
              have h_r5 := hw
              refine lv_istore_n (lv' := [(2, .int r5), (1, .int 0), (0, .ref h0)]) hx hb dX10_net_85 rfl hl (by decide) rfl (fun ls hl => ?_)
              have loop_86 : ∀ (n : Nat) (ct : Int32) (sz_ : Int32) (gs : Nat → Int32) (gw : Nat → Int32), (ms gs) → (sz_.toInt ≤ 0 ∨ Rx gs gw sz_) → ((gs 60).toInt = (f_s 60).toInt) → (Fb gs f_s) → ((sm gs 64 : Int)) < (n : Int) → ∀ (H : Heap) (locs : List Loc), va_K (dC, dI) vwCl [(k_s, .int), (k_way, .int)] s → va_P (dC, dI) vwCl [eO h0 9 [.ref q_s, .long v_fees, .ref q_thought, .long v_thoughtFees, .ref q_image, .long v_imageFees, .int v_hasImage, .ref q_tape, .int v_taped, .ref q_texts, .ref q_sizes, .int v_programs, .ref q_imageTexts, .ref q_imageSizes, .int v_imagePrograms, .int v_here, .int v_open, .int v_running, .int v_begun, .ref q_held, .ref q_marks, .int v_markMany, .ref q_trace, .int v_traced, .ref q_keptBalances, .ref q_keptFees, .int v_deep, .ref q_way, .ref q_sorts, .ref q_rowMany, .ref q_items, .ref q_moved], eI q_s k_s 125 gs, eI q_way k_way 8 gw] H → va_D A [eO h0 9 [.ref q_s, .long v_fees, .ref q_thought, .long v_thoughtFees, .ref q_image, .long v_imageFees, .int v_hasImage, .ref q_tape, .int v_taped, .ref q_texts, .ref q_sizes, .int v_programs, .ref q_imageTexts, .ref q_imageSizes, .int v_imagePrograms, .int v_here, .int v_open, .int v_running, .int v_begun, .ref q_held, .ref q_marks, .int v_markMany, .ref q_trace, .int v_traced, .ref q_keptBalances, .ref q_keptFees, .int v_deep, .ref q_way, .ref q_sorts, .ref q_rowMany, .ref q_items, .ref q_moved], eI q_s k_s 125 gs, eI q_way k_way 8 gw] → va_S A s.heap H locs → ∀ (ls : Array Slot), lv_has ls 5 [(2, .int sz_), (1, .int ct), (0, .ref h0)] → W p l e ({ frames := 24, cells := 0, slots := 0, locals := 947 }) s m (([.ref h0] : List Value).toArray) below meth c H locs 0 0 Q9 (F0 m 86 ls []) := by
                intro n
                induction n with
                | zero => intro ct sz_ gs gw im2 ir i60 ib hM_86; exfalso; omega
                | succ n ih_86 =>
                  intro ct sz_ gs gw im2 ir i60 ib hM_86 H locs hK hP hD hS ls hl
                  obtain ⟨bi1, bi2, bi3⟩ := id im2
                  refine lv_iload_n hx hb dX10_net_86 rfl (lv_at hl 0 rfl) ?_
                  refine lv_if_le (tgt := 196) hx hb dX10_net_87 (by decide) (fun c7 => ?_) (fun c7 => ?_)
                  · skip
                    have f_c7 := i_le c7
                    refine lv_iload_n hx hb dX10_net_196 rfl (lv_at hl 1 rfl) ?_
                    rw [hQ9]
                    exact W.iret (v := ct) hx hb hr (fun t ht hW => ⟨⟨ct, (), rfl, (by first | rfl | trivial), gs, gw, (by first | assumption | omega | exact fz_rf _ | exact fb_rf _ | exact (fun _ _ _ => rfl)), (by first | assumption | omega | exact fz_rf _ | exact fb_rf _ | exact (fun _ _ _ => rfl)), (by first | assumption | omega | exact fz_rf _ | exact fb_rf _ | exact (fun _ _ _ => rfl)), by rw [ht]; exact hP, va_K.moved hW.alike hK, hD⟩, hS.F ht⟩) hS.2.2 dX10_net_197
                  · skip
                    have f_c7 := i_nle c7
                    obtain ⟨nq, hnq, hrg⟩ : ∃ j : Nat, sz_.toInt = (j : Int) ∧ Rg gs gw j := by rcases ir with q | q; exact absurd q (by omega); exact q
                    obtain ⟨g1, g2, g3, g4, g5⟩ := id hrg
                    refine lv_ldcw hx hb hown (hts (.constant RX10 269 (99999)) (List.mem_cons_of_mem _ mw_843)) dX10_net_90 ?_
                    refine lv_istore_n (lv' := [(3, .int 99999), (2, .int sz_), (1, .int ct), (0, .ref h0)]) hx hb dX10_net_93 rfl hl (by decide) rfl (fun ls hl => ?_)
                    refine lv_iconst (v := 0) hx hb dX10_net_94 (by decide) ?_
                    refine lv_istore (lv' := [(4, .int 0), (3, .int 99999), (2, .int sz_), (1, .int ct), (0, .ref h0)]) hx hb dX10_net_95 hl (by decide) rfl (fun ls hl => ?_)
                    have loop_97 : ∀ (n : Nat) (x : Int32) (le : Int32), (0 ≤ x.toInt ∧ x.toInt ≤ sz_.toInt) → (1 ≤ le.toInt ∧ le.toInt ≤ 99999) → (∀ k : Nat, (k : Int) < x.toInt → le.toInt ≤ od gs (gw k) (gw (nx nq k))) → (sz_.toInt - x.toInt) < (n : Int) → ∀ (H : Heap) (locs : List Loc), va_K (dC, dI) vwCl [(k_s, .int), (k_way, .int)] s → va_P (dC, dI) vwCl [eO h0 9 [.ref q_s, .long v_fees, .ref q_thought, .long v_thoughtFees, .ref q_image, .long v_imageFees, .int v_hasImage, .ref q_tape, .int v_taped, .ref q_texts, .ref q_sizes, .int v_programs, .ref q_imageTexts, .ref q_imageSizes, .int v_imagePrograms, .int v_here, .int v_open, .int v_running, .int v_begun, .ref q_held, .ref q_marks, .int v_markMany, .ref q_trace, .int v_traced, .ref q_keptBalances, .ref q_keptFees, .int v_deep, .ref q_way, .ref q_sorts, .ref q_rowMany, .ref q_items, .ref q_moved], eI q_s k_s 125 gs, eI q_way k_way 8 gw] H → va_D A [eO h0 9 [.ref q_s, .long v_fees, .ref q_thought, .long v_thoughtFees, .ref q_image, .long v_imageFees, .int v_hasImage, .ref q_tape, .int v_taped, .ref q_texts, .ref q_sizes, .int v_programs, .ref q_imageTexts, .ref q_imageSizes, .int v_imagePrograms, .int v_here, .int v_open, .int v_running, .int v_begun, .ref q_held, .ref q_marks, .int v_markMany, .ref q_trace, .int v_traced, .ref q_keptBalances, .ref q_keptFees, .int v_deep, .ref q_way, .ref q_sorts, .ref q_rowMany, .ref q_items, .ref q_moved], eI q_s k_s 125 gs, eI q_way k_way 8 gw] → va_S A s.heap H locs → ∀ (ls : Array Slot), lv_has ls 5 [(4, .int x), (3, .int le), (2, .int sz_), (1, .int ct), (0, .ref h0)] → W p l e ({ frames := 24, cells := 0, slots := 0, locals := 947 }) s m (([.ref h0] : List Value).toArray) below meth c H locs 0 0 Q9 (F0 m 97 ls []) := by
                      intro n
                      induction n with
                      | zero => intro x le q1 q2 q3 hM_97; exfalso; omega
                      | succ n ih_97 =>
                        intro x le q1 q2 q3 hM_97 H locs hK hP hD hS ls hl
                        refine lv_iload hx hb dX10_net_97 (lv_at hl 0 rfl) ?_
                        refine lv_iload_n hx hb dX10_net_99 rfl (lv_at hl 2 rfl) ?_
                        refine lv_icmp_ge (tgt := 136) hx hb dX10_net_100 (by decide) (fun c8 => ?_) (fun c8 => ?_)
                        · skip
                          have f_c8 := i_le c8
                          refine lv_iconst (v := 0) hx hb dX10_net_136 (by decide) ?_
                          refine lv_istore (lv' := [(4, .int 0), (3, .int le), (2, .int sz_), (1, .int ct), (0, .ref h0)]) hx hb dX10_net_137 hl (by decide) rfl (fun ls hl => ?_)
                          have loop_139 : ∀ (n : Nat) (x : Int32) (ks : Nat → Int32), (0 ≤ x.toInt ∧ x.toInt ≤ sz_.toInt) → (ms ks) → ((sm ks 64 : Int) + x.toInt ≤ sm gs 64) → (∀ k : Nat, x.toInt ≤ (k : Int) → k < nq → od ks (gw k) (gw (nx nq k)) = od gs (gw k) (gw (nx nq k))) → ((ks 60).toInt = (f_s 60).toInt) → (Fb ks f_s) → (sz_.toInt - x.toInt) < (n : Int) → ∀ (H : Heap) (locs : List Loc), va_K (dC, dI) vwCl [(k_s, .int), (k_way, .int)] s → va_P (dC, dI) vwCl [eO h0 9 [.ref q_s, .long v_fees, .ref q_thought, .long v_thoughtFees, .ref q_image, .long v_imageFees, .int v_hasImage, .ref q_tape, .int v_taped, .ref q_texts, .ref q_sizes, .int v_programs, .ref q_imageTexts, .ref q_imageSizes, .int v_imagePrograms, .int v_here, .int v_open, .int v_running, .int v_begun, .ref q_held, .ref q_marks, .int v_markMany, .ref q_trace, .int v_traced, .ref q_keptBalances, .ref q_keptFees, .int v_deep, .ref q_way, .ref q_sorts, .ref q_rowMany, .ref q_items, .ref q_moved], eI q_s k_s 125 ks, eI q_way k_way 8 gw] H → va_D A [eO h0 9 [.ref q_s, .long v_fees, .ref q_thought, .long v_thoughtFees, .ref q_image, .long v_imageFees, .int v_hasImage, .ref q_tape, .int v_taped, .ref q_texts, .ref q_sizes, .int v_programs, .ref q_imageTexts, .ref q_imageSizes, .int v_imagePrograms, .int v_here, .int v_open, .int v_running, .int v_begun, .ref q_held, .ref q_marks, .int v_markMany, .ref q_trace, .int v_traced, .ref q_keptBalances, .ref q_keptFees, .int v_deep, .ref q_way, .ref q_sorts, .ref q_rowMany, .ref q_items, .ref q_moved], eI q_s k_s 125 ks, eI q_way k_way 8 gw] → va_S A s.heap H locs → ∀ (ls : Array Slot), lv_has ls 5 [(4, .int x), (3, .int le), (2, .int sz_), (1, .int ct), (0, .ref h0)] → W p l e ({ frames := 24, cells := 0, slots := 0, locals := 947 }) s m (([.ref h0] : List Value).toArray) below meth c H locs 0 0 Q9 (F0 m 139 ls []) := by
                            intro n
                            induction n with
                            | zero => intro x ks r1 r2 r3 r4 i60 ib hM_139; exfalso; omega
                            | succ n ih_139 =>
                              intro x ks r1 r2 r3 r4 i60 ib hM_139 H locs hK hP hD hS ls hl
                              obtain ⟨ci1, ci2, ci3⟩ := id r2
                              refine lv_iload hx hb dX10_net_139 (lv_at hl 0 rfl) ?_
                              refine lv_iload_n hx hb dX10_net_141 rfl (lv_at hl 2 rfl) ?_
                              refine lv_icmp_ge (tgt := 185) hx hb dX10_net_142 (by decide) (fun c9 => ?_) (fun c9 => ?_)
                              · skip
                                have f_c9 := i_le c9
                                obtain ⟨x10, e_x10⟩ : ∃ yy : Int32, yy = ct + 1 := ⟨_, rfl⟩
                                refine lv_iinc (v := x10) (lv' := [(1, .int x10), (4, .int x), (3, .int le), (2, .int sz_), (0, .ref h0)]) hx hb dX10_net_185 hl (k := 3) rfl (by rw [e_x10]; rfl) (by decide) rfl (fun ls hl => ?_)
                                (first | have t_x10 := i_add e_x10 (by omega) (by omega) | skip)
                                refine lv_aload_n hx hb dX10_net_188 rfl (lv_at hl 4 rfl) ?_
                                obtain ⟨hPc, hDc, hFc, hCm, hNw⟩ := C_s (wc := [eO h0 9 [.ref q_s, .long v_fees, .ref q_thought, .long v_thoughtFees, .ref q_image, .long v_imageFees, .int v_hasImage, .ref q_tape, .int v_taped, .ref q_texts, .ref q_sizes, .int v_programs, .ref q_imageTexts, .ref q_imageSizes, .int v_imagePrograms, .int v_here, .int v_open, .int v_running, .int v_begun, .ref q_held, .ref q_marks, .int v_markMany, .ref q_trace, .int v_traced, .ref q_keptBalances, .ref q_keptFees, .int v_deep, .ref q_way, .ref q_sorts, .ref q_rowMany, .ref q_items, .ref q_moved], eI q_s k_s 125 ks, eI q_way k_way 8 gw]) hP hD hS hA [(0, 3)] 3 rfl (by decide +kernel) rfl
                                have hKc := K_s (tys' := [(k_s, .int), (k_way, .int)]) hK [(0, 2)] rfl
                                refine va_calli (va_runV (As := []) (rest := []) ⟨hx, hb, hml, hown, hts⟩ (c_X10_firstRing l dC dI h0 q_s v_fees q_thought v_thoughtFees q_image v_imageFees v_hasImage q_tape v_taped q_texts q_sizes v_programs q_imageTexts q_imageSizes v_imagePrograms v_here v_open v_running v_begun q_held q_marks v_markMany q_trace v_traced q_keptBalances q_keptFees v_deep q_way q_sorts q_rowMany q_items q_moved k_s ks k_way gw H.size (by first | assumption | omega)) (cwV 0 hts gX10_net_X10_firstRing rfl rfl rfl (by decide +kernel) ⟨Nat.le_of_ble_eq_true rfl, Nat.le_of_ble_eq_true rfl⟩) ⟨fun a U g mk q => by obtain ⟨q0, q1, qP, qK, qD⟩ := q; exact ⟨q0, q1, qP, va_K.moved (u := U) (U := U.calling g mk a) (Vm.Alike.refl U.vm) qK, qD⟩, va_recv (s := s) (q := (RX10, TX10, 32)) hKc hPc (ci := 9) (q0 := 0) rfl rfl, fun U hU hW => ⟨rfl, by rw [hU], by rw [hU]; exact hPc, va_K.moved hW.alike hKc, hDc.weaken (fun _ _ _ _ => trivial)⟩⟩ rfl rfl hl.1 rfl (lv_room (Nat.le_of_ble_eq_true rfl)) dX10_net_189 ⟨Nat.le_of_ble_eq_true rfl, Nat.le_of_ble_eq_true rfl⟩) hS (fun q _ h => hFc q h) hFc (fun r11 u t H1 locs ht hvm hw hB hz1 hk1 hS => ?_)
                                obtain ⟨u12, rfl⟩ : ∃ z, z = u := ⟨_, rfl⟩
                                obtain ⟨hP1, hK1, hD1⟩ := hB
                                rw [ht] at hP1
                                have hK1 := va_K.moved hvm.symm hK1
                                try dsimp only at hw
                                obtain ⟨hP, hD⟩ := J_s (wL := [eO h0 9 [.ref q_s, .long v_fees, .ref q_thought, .long v_thoughtFees, .ref q_image, .long v_imageFees, .int v_hasImage, .ref q_tape, .int v_taped, .ref q_texts, .ref q_sizes, .int v_programs, .ref q_imageTexts, .ref q_imageSizes, .int v_imagePrograms, .int v_here, .int v_open, .int v_running, .int v_begun, .ref q_held, .ref q_marks, .int v_markMany, .ref q_trace, .int v_traced, .ref q_keptBalances, .ref q_keptFees, .int v_deep, .ref q_way, .ref q_sorts, .ref q_rowMany, .ref q_items, .ref q_moved], eI q_s k_s 125 ks, eI q_way k_way 8 u12]) hP hD [(0, 3)] [] hCm hNw (by decide +kernel) hk1 hFc hP1 hD1 rfl
                                have hK := KJ_s (tys' := [(k_s, .int), (k_way, .int)]) hK hK1 [] rfl
                                generalize H1 = H at hP hS ⊢
                                have h_r11 := hw
                                refine lv_istore_n (lv' := [(2, .int r11), (1, .int x10), (4, .int x), (3, .int le), (0, .ref h0)]) hx hb dX10_net_192 rfl hl (by decide) rfl (fun ls hl => ?_)
                                refine lv_goto (tgt := 86) hx hb dX10_net_193 (by decide) ?_
                                exact ih_86 x10 r11 ks u12 (by first | assumption | omega | exact fz_rf _ | exact fb_rf _ | exact (fun _ _ _ => rfl)) (by first | assumption | omega | exact fz_rf _ | exact fb_rf _ | exact (fun _ _ _ => rfl)) (by first | assumption | omega | exact fz_rf _ | exact fb_rf _ | exact (fun _ _ _ => rfl)) (by first | assumption | omega | exact fz_rf _ | exact fb_rf _ | exact (fun _ _ _ => rfl)) (by omega) _ _ (K_s hK [(0, 2)] rfl) (P_s hP [(0, 3)] rfl) (D_s hD [(0, 3)] 3 rfl (by decide +kernel) rfl) hS ls (lv_sub hl [0, 1, 4] rfl)
                              · skip
                                have f_c9 := i_nle c9
                                obtain ⟨xn, hxn⟩ : ∃ xn : Nat, x.toInt = (xn : Int) := ⟨x.toInt.toNat, by omega⟩
                                refine lv_aload_n hx hb dX10_net_145 rfl (lv_at hl 4 rfl) ?_
                                refine va_get (D := (dC, dI)) (ci := 9) (v := .ref q_s) (C := RX10) (T := TX10) (N := 32) hx hb hts (fun w h => List.mem_cons_of_mem _ (inlX10 w h)) hown hK hP 0 rfl rfl 0 (by decide) (hts (.fieldLink RX10 11 "ClearingGatesModel" "s" "[I") (List.mem_cons_of_mem _ mw_609)) (fun _ h9 => h9) rfl dX10_net_146 ?_
                                refine lv_bipush (v := 61) hx hb dX10_net_149 (by decide) ?_
                                refine lv_bipush (v := 8) hx hb dX10_net_151 (by decide) ?_
                                refine lv_aload_n hx hb dX10_net_153 rfl (lv_at hl 4 rfl) ?_
                                refine va_get (D := (dC, dI)) (ci := 9) (v := .ref q_way) (C := RX10) (T := TX10) (N := 32) hx hb hts (fun w h => List.mem_cons_of_mem _ (inlX10 w h)) hown hK hP 0 rfl rfl 27 (by decide) (hts (.fieldLink RX10 52 "ClearingGatesModel" "way" "[I") (List.mem_cons_of_mem _ mw_636)) (fun _ h9 => h9) rfl dX10_net_154 ?_
                                refine lv_iload hx hb dX10_net_157 (lv_at hl 0 rfl) ?_
                                refine va_iald (D := (dC, dI)) hx hb hK hP 2 1 rfl rfl (vp_in_iff.mpr ⟨by omega, by omega⟩) dX10_net_159 ?_
                                refine lv_topi (fun z13 e_z13 => ?_)
                                have w_z13 : z13 = gw xn := by rw [e_z13, i_nat hxn]
                                obtain ⟨ra_z13, rb_z13⟩ : 0 ≤ z13.toInt ∧ z13.toInt < 8 := by rw [w_z13]; exact g3 xn (by omega)
                                refine lv_imul hx hb dX10_net_160 ?_
                                refine lv_topi (fun z14 e_z14 => ?_)
                                have t_z14 := i_mulc e_z14 k_8 (by omega) (by omega)
                                refine lv_iadd hx hb dX10_net_161 ?_
                                refine lv_topi (fun z15 e_z15 => ?_)
                                (first | have t_z15 := i_add e_z15 (by omega) (by omega) | skip)
                                refine lv_aload_n hx hb dX10_net_162 rfl (lv_at hl 4 rfl) ?_
                                refine va_get (D := (dC, dI)) (ci := 9) (v := .ref q_way) (C := RX10) (T := TX10) (N := 32) hx hb hts (fun w h => List.mem_cons_of_mem _ (inlX10 w h)) hown hK hP 0 rfl rfl 27 (by decide) (hts (.fieldLink RX10 52 "ClearingGatesModel" "way" "[I") (List.mem_cons_of_mem _ mw_636)) (fun _ h9 => h9) rfl dX10_net_163 ?_
                                refine lv_iload hx hb dX10_net_166 (lv_at hl 0 rfl) ?_
                                refine lv_iconst (v := 1) hx hb dX10_net_168 (by decide) ?_
                                refine lv_iadd hx hb dX10_net_169 ?_
                                refine lv_topi (fun z16 e_z16 => ?_)
                                (first | have t_z16 := i_add e_z16 (by omega) (by omega) | skip)
                                refine lv_iload_n hx hb dX10_net_170 rfl (lv_at hl 2 rfl) ?_
                                refine lv_irem hx hb dX10_net_171 (fun q => by have := i_eq q; omega) ?_
                                refine lv_topi (fun z17 e_z17 => ?_)
                                have t_z17 := i_rem8 e_z17 (by omega) (by omega) (by omega) (by omega)
                                refine va_iald (D := (dC, dI)) hx hb hK hP 2 1 rfl rfl (vp_in_iff.mpr ⟨by omega, by omega⟩) dX10_net_172 ?_
                                refine lv_topi (fun z18 e_z18 => ?_)
                                have n_z18 : z17.toInt = ((nx nq xn : Nat) : Int) := by unfold nx; split <;> omega
                                have w_z18 : z18 = gw (nx nq xn) := by rw [e_z18, i_nat n_z18]
                                obtain ⟨ra_z18, rb_z18⟩ : 0 ≤ z18.toInt ∧ z18.toInt < 8 := by rw [w_z18]; exact g3 _ (by unfold nx; split <;> omega)
                                refine lv_iadd hx hb dX10_net_173 ?_
                                refine lv_topi (fun z19 e_z19 => ?_)
                                (first | have t_z19 := i_add e_z19 (by omega) (by omega) | skip)
                                refine lv_dup2_11 hx hb dX10_net_174 rfl rfl ?_
                                refine va_iald (D := (dC, dI)) hx hb hK hP 1 0 rfl rfl (vp_in_iff.mpr ⟨by omega, by omega⟩) dX10_net_175 ?_
                                refine lv_topi (fun z20 e_z20 => ?_)
                                have hod_z20 : z20.toInt = od ks (gw xn) (gw (nx nq xn)) := by rw [← w_z13, ← w_z18, e_z20, i_nat (k := 61 + 8 * z13.toInt.toNat + z18.toInt.toNat) (by omega)]; rfl
                                obtain ⟨hb0_z20, hb1_z20⟩ : 0 ≤ z20.toInt ∧ z20.toInt ≤ 99999 := by rw [e_z20, i_nat (k := 61 + 8 * z13.toInt.toNat + z18.toInt.toNat) (by omega)]; exact r2.2.2 _ (by omega) (by omega)
                                have hr4 := r4 xn (by omega) (by omega)
                                have hq3 := q3 xn (by omega)
                                refine lv_iload_n hx hb dX10_net_176 rfl (lv_at hl 1 rfl) ?_
                                refine lv_isub hx hb dX10_net_177 ?_
                                refine lv_topi (fun z21 e_z21 => ?_)
                                (first | have t_z21 := i_sub e_z21 (by omega) (by omega) | skip)
                                refine va_iast (D := (dC, dI)) hx hb hK hP hD hS 1 0 rfl rfl (vp_in_iff.mpr ⟨by omega, by omega⟩) dX10_net_178 (fun H locs hP hD hS => ?_)
                                generalize e_g22 : (upd ks (z19).toNatClampNeg z21) = g22 at hP hD
                                obtain ⟨hP, hD⟩ := X_s (ws' := [eO h0 9 [.ref q_s, .long v_fees, .ref q_thought, .long v_thoughtFees, .ref q_image, .long v_imageFees, .int v_hasImage, .ref q_tape, .int v_taped, .ref q_texts, .ref q_sizes, .int v_programs, .ref q_imageTexts, .ref q_imageSizes, .int v_imagePrograms, .int v_here, .int v_open, .int v_running, .int v_begun, .ref q_held, .ref q_marks, .int v_markMany, .ref q_trace, .int v_traced, .ref q_keptBalances, .ref q_keptFees, .int v_deep, .ref q_way, .ref q_sorts, .ref q_rowMany, .ref q_items, .ref q_moved], eI q_s k_s 125 g22, eI q_way k_way 8 gw]) hP hD rfl
                                have m_g22 : ms g22 := by rw [← e_g22]; first | exact ms_up (by assumption) (by omega) (by omega) | exact ms_60 (by assumption) (by omega) (by omega) (by omega) | exact ms_upo (by assumption) (by omega) (by omega) (by omega)
                                have a_g22 : (g22 60).toInt = (ks 60).toInt := by rw [← e_g22]; exact up_60 (by omega) (by omega)
                                obtain ⟨b_g22, c_g22, o_g22⟩ := id m_g22
                                have fs_g22 : Fb g22 f_s := by rw [← e_g22]; exact fb_up (by first | assumption | exact fb_rf _) (by omega)
                                obtain ⟨u1, u2⟩ := cut_1 (a := z13) (b := z18) (by omega) ⟨by omega, by omega⟩ ⟨by omega, by omega⟩ e_g22 (by omega) (by rw [w_z13, w_z18]; omega)
                                obtain ⟨x23, e_x23⟩ : ∃ yy : Int32, yy = x + 1 := ⟨_, rfl⟩
                                refine lv_iinc (v := x23) (lv' := [(4, .int x23), (3, .int le), (2, .int sz_), (1, .int ct), (0, .ref h0)]) hx hb dX10_net_179 hl (k := 0) rfl (by rw [e_x23]; rfl) (by decide) rfl (fun ls hl => ?_)
                                (first | have t_x23 := i_add e_x23 (by omega) (by omega) | skip)
                                refine lv_goto (tgt := 139) hx hb dX10_net_182 (by decide) ?_
                                exact ih_139 x23 g22 (by omega) (by assumption) (by omega) (fun k h1 h2 => (u2 (gw k) (gw (nx nq k)) (by rw [w_z13]; exact fun q => g4 xn k (by omega) h2 q.symm) (g3 k h2).1 (g3 _ (by unfold nx; split <;> omega)).1 (g3 _ (by unfold nx; split <;> omega)).2).trans (r4 k (by omega) h2)) (by first | assumption | omega | exact fz_rf _ | exact fb_rf _ | exact (fun _ _ _ => rfl)) (by first | assumption | omega | exact fz_rf _ | exact fb_rf _ | exact (fun _ _ _ => rfl)) (by omega) _ _ (K_s hK [(0, 2)] rfl) (P_s hP [(0, 3)] rfl) (D_s hD [(0, 3)] 3 rfl (by decide +kernel) rfl) hS ls (lv_sub hl [0, 1, 2, 3, 4] rfl)
                          exact loop_139 (1000) 0 gs (by omega) im2 (by omega) (fun _ _ _ => rfl) (by first | assumption | omega | exact fz_rf _ | exact fb_rf _ | exact (fun _ _ _ => rfl)) (by first | assumption | omega | exact fz_rf _ | exact fb_rf _ | exact (fun _ _ _ => rfl)) (by omega) _ _ hK hP hD hS ls (lv_sub hl [0, 1, 2, 3, 4] rfl)
                        · skip
                          have f_c8 := i_nle c8
                          obtain ⟨xn, hxn⟩ : ∃ xn : Nat, x.toInt = (xn : Int) := ⟨x.toInt.toNat, by omega⟩
                          refine lv_iload_n hx hb dX10_net_103 rfl (lv_at hl 1 rfl) ?_
                          refine lv_aload_n hx hb dX10_net_104 rfl (lv_at hl 4 rfl) ?_
                          refine lv_aload_n hx hb dX10_net_105 rfl (lv_at hl 4 rfl) ?_
                          refine va_get (D := (dC, dI)) (ci := 9) (v := .ref q_way) (C := RX10) (T := TX10) (N := 32) hx hb hts (fun w h => List.mem_cons_of_mem _ (inlX10 w h)) hown hK hP 0 rfl rfl 27 (by decide) (hts (.fieldLink RX10 52 "ClearingGatesModel" "way" "[I") (List.mem_cons_of_mem _ mw_636)) (fun _ h9 => h9) rfl dX10_net_106 ?_
                          refine lv_iload hx hb dX10_net_109 (lv_at hl 0 rfl) ?_
                          refine va_iald (D := (dC, dI)) hx hb hK hP 2 1 rfl rfl (vp_in_iff.mpr ⟨by omega, by omega⟩) dX10_net_111 ?_
                          refine lv_topi (fun z24 e_z24 => ?_)
                          have w_z24 : z24 = gw xn := by rw [e_z24, i_nat hxn]
                          obtain ⟨ra_z24, rb_z24⟩ : 0 ≤ z24.toInt ∧ z24.toInt < 8 := by rw [w_z24]; exact g3 xn (by omega)
                          refine lv_aload_n hx hb dX10_net_112 rfl (lv_at hl 4 rfl) ?_
                          refine va_get (D := (dC, dI)) (ci := 9) (v := .ref q_way) (C := RX10) (T := TX10) (N := 32) hx hb hts (fun w h => List.mem_cons_of_mem _ (inlX10 w h)) hown hK hP 0 rfl rfl 27 (by decide) (hts (.fieldLink RX10 52 "ClearingGatesModel" "way" "[I") (List.mem_cons_of_mem _ mw_636)) (fun _ h9 => h9) rfl dX10_net_113 ?_
                          refine lv_iload hx hb dX10_net_116 (lv_at hl 0 rfl) ?_
                          refine lv_iconst (v := 1) hx hb dX10_net_118 (by decide) ?_
                          refine lv_iadd hx hb dX10_net_119 ?_
                          refine lv_topi (fun z25 e_z25 => ?_)
                          (first | have t_z25 := i_add e_z25 (by omega) (by omega) | skip)
                          refine lv_iload_n hx hb dX10_net_120 rfl (lv_at hl 2 rfl) ?_
                          refine lv_irem hx hb dX10_net_121 (fun q => by have := i_eq q; omega) ?_
                          refine lv_topi (fun z26 e_z26 => ?_)
                          have t_z26 := i_rem8 e_z26 (by omega) (by omega) (by omega) (by omega)
                          refine va_iald (D := (dC, dI)) hx hb hK hP 2 1 rfl rfl (vp_in_iff.mpr ⟨by omega, by omega⟩) dX10_net_122 ?_
                          refine lv_topi (fun z27 e_z27 => ?_)
                          have n_z27 : z26.toInt = ((nx nq xn : Nat) : Int) := by unfold nx; split <;> omega
                          have w_z27 : z27 = gw (nx nq xn) := by rw [e_z27, i_nat n_z27]
                          obtain ⟨ra_z27, rb_z27⟩ : 0 ≤ z27.toInt ∧ z27.toInt < 8 := by rw [w_z27]; exact g3 _ (by unfold nx; split <;> omega)
                          obtain ⟨hPc, hDc, hFc, hCm, hNw⟩ := C_s (wc := [eO h0 9 [.ref q_s, .long v_fees, .ref q_thought, .long v_thoughtFees, .ref q_image, .long v_imageFees, .int v_hasImage, .ref q_tape, .int v_taped, .ref q_texts, .ref q_sizes, .int v_programs, .ref q_imageTexts, .ref q_imageSizes, .int v_imagePrograms, .int v_here, .int v_open, .int v_running, .int v_begun, .ref q_held, .ref q_marks, .int v_markMany, .ref q_trace, .int v_traced, .ref q_keptBalances, .ref q_keptFees, .int v_deep, .ref q_way, .ref q_sorts, .ref q_rowMany, .ref q_items, .ref q_moved], eI q_s k_s 125 gs]) hP hD hS hA [(0, 2)] 3 rfl (by decide +kernel) rfl
                          have hKc := K_s (tys' := [(k_s, .int)]) hK [(0, 1)] rfl
                          refine va_calli (va_runV (As := [.int z24, .int z27]) (rest := [.int le]) ⟨hx, hb, hml, hown, hts⟩ (c_X10_owedTo l dC dI h0 z24 z27 q_s v_fees q_thought v_thoughtFees q_image v_imageFees v_hasImage q_tape v_taped q_texts q_sizes v_programs q_imageTexts q_imageSizes v_imagePrograms v_here v_open v_running v_begun q_held q_marks v_markMany q_trace v_traced q_keptBalances q_keptFees v_deep q_way q_sorts q_rowMany q_items q_moved k_s gs H.size (by first | assumption | omega) (by first | assumption | omega) (by first | assumption | omega) (by first | assumption | omega)) (cwV 2 hts gX10_net_X10_owedTo rfl rfl rfl (by decide +kernel) ⟨Nat.le_of_ble_eq_true rfl, Nat.le_of_ble_eq_true rfl⟩) ⟨fun a U g mk q => by obtain ⟨q0, q1, qP, qK, qD⟩ := q; exact ⟨q0, q1, qP, va_K.moved (u := U) (U := U.calling g mk a) (Vm.Alike.refl U.vm) qK, qD⟩, va_recv (s := s) (q := (RX10, TX10, 32)) hKc hPc (ci := 9) (q0 := 0) rfl rfl, fun U hU hW => ⟨rfl, by rw [hU], by rw [hU]; exact hPc, va_K.moved hW.alike hKc, hDc.weaken (fun _ _ _ _ => trivial)⟩⟩ rfl rfl hl.1 rfl (lv_room (Nat.le_of_ble_eq_true rfl)) dX10_net_123 ⟨Nat.le_of_ble_eq_true rfl, Nat.le_of_ble_eq_true rfl⟩) hS (fun q _ h => hFc q h) hFc (fun r28 u t H1 locs ht hvm hw hB hz1 hk1 hS => ?_)
                          obtain ⟨hP1, hK1, hD1⟩ := hB
                          rw [ht] at hP1
                          have hK1 := va_K.moved hvm.symm hK1
                          try dsimp only at hw
                          obtain ⟨hP, hD⟩ := J_s (wL := [eI q_way k_way 8 gw, eO h0 9 [.ref q_s, .long v_fees, .ref q_thought, .long v_thoughtFees, .ref q_image, .long v_imageFees, .int v_hasImage, .ref q_tape, .int v_taped, .ref q_texts, .ref q_sizes, .int v_programs, .ref q_imageTexts, .ref q_imageSizes, .int v_imagePrograms, .int v_here, .int v_open, .int v_running, .int v_begun, .ref q_held, .ref q_marks, .int v_markMany, .ref q_trace, .int v_traced, .ref q_keptBalances, .ref q_keptFees, .int v_deep, .ref q_way, .ref q_sorts, .ref q_rowMany, .ref q_items, .ref q_moved], eI q_s k_s 125 gs]) hP hD [(0, 2)] [(2, 1)] hCm hNw (by decide +kernel) hk1 hFc hP1 hD1 rfl
                          have hK := KJ_s (tys' := [(k_way, .int), (k_s, .int)]) hK hK1 [(1, 1)] rfl
                          generalize H1 = H at hP hS ⊢
                          have hod_r28 : od gs (gw xn) (gw (nx nq xn)) = r28.toInt := by rw [← w_z24, ← w_z27]; unfold od; rw [hw]
                          have hpos := g5 xn (by omega)
                          have h_r28 := hw
                          have t_r28 := i_eq hw
                          refine va_mmin hx hb (hml.trans hl.1.symm) hown (hts (.methodLink RX10 222 Lib.Math.min.name) (List.mem_cons_of_mem _ mw_787)) (hts (.static Lib.Math.min.name) (List.mem_cons_of_mem _ mw_288)) (hts (.initialized "java/lang/Math") (List.mem_cons_of_mem _ mw_79)) (hts (.code Lib.Math.min.name Lib.Math.min.code 2 (some .int)) (List.mem_cons_of_mem _ mw_289)) (Nat.le_of_ble_eq_true rfl) (Nat.le_of_ble_eq_true rfl) (Nat.le_of_ble_eq_true rfl) (Nat.le_of_ble_eq_true rfl) dX10_net_126 ?_
                          refine lv_topi (fun z29 e_z29 => ?_)
                          have t_z29 := i_min e_z29
                          refine lv_istore_n (lv' := [(3, .int z29), (4, .int x), (2, .int sz_), (1, .int ct), (0, .ref h0)]) hx hb dX10_net_129 rfl hl (by decide) rfl (fun ls hl => ?_)
                          obtain ⟨x30, e_x30⟩ : ∃ yy : Int32, yy = x + 1 := ⟨_, rfl⟩
                          refine lv_iinc (v := x30) (lv' := [(4, .int x30), (3, .int z29), (2, .int sz_), (1, .int ct), (0, .ref h0)]) hx hb dX10_net_130 hl (k := 1) rfl (by rw [e_x30]; rfl) (by decide) rfl (fun ls hl => ?_)
                          (first | have t_x30 := i_add e_x30 (by omega) (by omega) | skip)
                          refine lv_goto (tgt := 97) hx hb dX10_net_133 (by decide) ?_
                          exact ih_97 x30 z29 (by omega) (by omega) (fun k hk => by rcases Nat.lt_or_ge k xn with w | w; have := q3 k (by omega); omega; obtain rfl : k = xn := (by omega); omega) (by omega) _ _ (K_s hK [(1, 1), (0, 1)] rfl) (P_s hP [(1, 2), (0, 1)] rfl) (D_s hD [(1, 2), (0, 1)] 3 rfl (by decide +kernel) rfl) hS ls (lv_sub hl [0, 1, 2, 3, 4] rfl)
                    exact loop_97 (1000) 0 99999 (by omega) (by omega) (fun k hk => absurd hk (by omega)) (by omega) _ _ hK hP hD hS ls (lv_sub hl [0, 1, 2, 3, 4] rfl)
              exact loop_86 (sm gs 64 + 1) 0 r5 gs u6 (by first | assumption | omega | exact fz_rf _ | exact fb_rf _ | exact (fun _ _ _ => rfl)) (by first | assumption | omega | exact fz_rf _ | exact fb_rf _ | exact (fun _ _ _ => rfl)) (by first | assumption | omega | exact fz_rf _ | exact fb_rf _ | exact (fun _ _ _ => rfl)) (by first | assumption | omega | exact fz_rf _ | exact fb_rf _ | exact (fun _ _ _ => rfl)) (by omega) _ _ hK hP hD hS ls (lv_sub hl [0, 1, 2] rfl)
            · skip
              have f_c4 := i_nle c4
              refine lv_aload_n hx hb dX10_net_47 rfl (lv_at hl 1 rfl) ?_
              refine va_get (D := (dC, dI)) (ci := 9) (v := .ref q_s) (C := RX10) (T := TX10) (N := 32) hx hb hts (fun w h => List.mem_cons_of_mem _ (inlX10 w h)) hown hK hP 0 rfl rfl 0 (by decide) (hts (.fieldLink RX10 11 "ClearingGatesModel" "s" "[I") (List.mem_cons_of_mem _ mw_609)) (fun _ h9 => h9) rfl dX10_net_48 ?_
              refine lv_bipush (v := 32) hx hb dX10_net_51 (by decide) ?_
              refine lv_iload_n hx hb dX10_net_53 rfl (lv_at hl 0 rfl) ?_
              refine lv_iadd hx hb dX10_net_54 ?_
              refine lv_topi (fun z31 e_z31 => ?_)
              (first | have t_z31 := i_add e_z31 (by omega) (by omega) | skip)
              refine lv_dup2_11 hx hb dX10_net_55 rfl rfl ?_
              refine va_iald (D := (dC, dI)) hx hb hK hP 1 0 rfl rfl (vp_in_iff.mpr ⟨by omega, by omega⟩) dX10_net_56 ?_
              refine lv_topi (fun z32 e_z32 => ?_)
              refine lv_iconst (v := 1) hx hb dX10_net_57 (by decide) ?_
              refine lv_iadd hx hb dX10_net_58 ?_
              refine lv_topi (fun z33 e_z33 => ?_)
              (first | have t_z33 := i_add e_z33 (by omega) (by omega) | skip)
              refine va_iast (D := (dC, dI)) hx hb hK hP hD hS 1 0 rfl rfl (vp_in_iff.mpr ⟨by omega, by omega⟩) dX10_net_59 (fun H locs hP hD hS => ?_)
              generalize e_g34 : (upd gs (z31).toNatClampNeg z33) = g34 at hP hD
              obtain ⟨hP, hD⟩ := X_s (ws' := [eO h0 9 [.ref q_s, .long v_fees, .ref q_thought, .long v_thoughtFees, .ref q_image, .long v_imageFees, .int v_hasImage, .ref q_tape, .int v_taped, .ref q_texts, .ref q_sizes, .int v_programs, .ref q_imageTexts, .ref q_imageSizes, .int v_imagePrograms, .int v_here, .int v_open, .int v_running, .int v_begun, .ref q_held, .ref q_marks, .int v_markMany, .ref q_trace, .int v_traced, .ref q_keptBalances, .ref q_keptFees, .int v_deep, .ref q_way, .ref q_sorts, .ref q_rowMany, .ref q_items, .ref q_moved], eI q_s k_s 125 g34, eI q_way k_way 8 f_way]) hP hD rfl
              have m_g34 : ms g34 := by rw [← e_g34]; first | exact ms_up (by assumption) (by omega) (by omega) | exact ms_60 (by assumption) (by omega) (by omega) (by omega) | exact ms_upo (by assumption) (by omega) (by omega) (by omega)
              have a_g34 : (g34 60).toInt = (gs 60).toInt := by rw [← e_g34]; exact up_60 (by omega) (by omega)
              obtain ⟨b_g34, c_g34, o_g34⟩ := id m_g34
              have fs_g34 : Fb g34 f_s := by rw [← e_g34]; exact fb_up (by first | assumption | exact fb_rf _) (by omega)
              refine lv_aload_n hx hb dX10_net_60 rfl (lv_at hl 1 rfl) ?_
              refine va_get (D := (dC, dI)) (ci := 9) (v := .ref q_s) (C := RX10) (T := TX10) (N := 32) hx hb hts (fun w h => List.mem_cons_of_mem _ (inlX10 w h)) hown hK hP 0 rfl rfl 0 (by decide) (hts (.fieldLink RX10 11 "ClearingGatesModel" "s" "[I") (List.mem_cons_of_mem _ mw_609)) (fun _ h9 => h9) rfl dX10_net_61 ?_
              refine lv_bipush (v := 40) hx hb dX10_net_64 (by decide) ?_
              refine lv_iload_n hx hb dX10_net_66 rfl (lv_at hl 0 rfl) ?_
              refine lv_iadd hx hb dX10_net_67 ?_
              refine lv_topi (fun z35 e_z35 => ?_)
              (first | have t_z35 := i_add e_z35 (by omega) (by omega) | skip)
              refine lv_dup2_11 hx hb dX10_net_68 rfl rfl ?_
              refine va_iald (D := (dC, dI)) hx hb hK hP 1 0 rfl rfl (vp_in_iff.mpr ⟨by omega, by omega⟩) dX10_net_69 ?_
              refine lv_topi (fun z36 e_z36 => ?_)
              refine lv_iconst (v := 1) hx hb dX10_net_70 (by decide) ?_
              refine lv_iadd hx hb dX10_net_71 ?_
              refine lv_topi (fun z37 e_z37 => ?_)
              (first | have t_z37 := i_add e_z37 (by omega) (by omega) | skip)
              refine va_iast (D := (dC, dI)) hx hb hK hP hD hS 1 0 rfl rfl (vp_in_iff.mpr ⟨by omega, by omega⟩) dX10_net_72 (fun H locs hP hD hS => ?_)
              generalize e_g38 : (upd g34 (z35).toNatClampNeg z37) = g38 at hP hD
              obtain ⟨hP, hD⟩ := X_s (ws' := [eO h0 9 [.ref q_s, .long v_fees, .ref q_thought, .long v_thoughtFees, .ref q_image, .long v_imageFees, .int v_hasImage, .ref q_tape, .int v_taped, .ref q_texts, .ref q_sizes, .int v_programs, .ref q_imageTexts, .ref q_imageSizes, .int v_imagePrograms, .int v_here, .int v_open, .int v_running, .int v_begun, .ref q_held, .ref q_marks, .int v_markMany, .ref q_trace, .int v_traced, .ref q_keptBalances, .ref q_keptFees, .int v_deep, .ref q_way, .ref q_sorts, .ref q_rowMany, .ref q_items, .ref q_moved], eI q_s k_s 125 g38, eI q_way k_way 8 f_way]) hP hD rfl
              have m_g38 : ms g38 := by rw [← e_g38]; first | exact ms_up (by assumption) (by omega) (by omega) | exact ms_60 (by assumption) (by omega) (by omega) (by omega) | exact ms_upo (by assumption) (by omega) (by omega) (by omega)
              have a_g38 : (g38 60).toInt = (g34 60).toInt := by rw [← e_g38]; exact up_60 (by omega) (by omega)
              obtain ⟨b_g38, c_g38, o_g38⟩ := id m_g38
              have fs_g38 : Fb g38 f_s := by rw [← e_g38]; exact fb_up (by first | assumption | exact fb_rf _) (by omega)
              obtain ⟨x39, e_x39⟩ : ∃ yy : Int32, yy = x + 1 := ⟨_, rfl⟩
              refine lv_iinc (v := x39) (lv' := [(1, .int x39), (0, .ref h0)]) hx hb dX10_net_73 hl (k := 0) rfl (by rw [e_x39]; rfl) (by decide) rfl (fun ls hl => ?_)
              (first | have t_x39 := i_add e_x39 (by omega) (by omega) | skip)
              refine lv_goto (tgt := 36) hx hb dX10_net_76 (by decide) ?_
              exact ih_36 x39 g38 (by first | assumption | omega | exact fz_rf _ | exact fb_rf _ | exact (fun _ _ _ => rfl)) (by first | assumption | omega | exact fz_rf _ | exact fb_rf _ | exact (fun _ _ _ => rfl)) (by first | assumption | omega | exact fz_rf _ | exact fb_rf _ | exact (fun _ _ _ => rfl)) (by first | assumption | omega | exact fz_rf _ | exact fb_rf _ | exact (fun _ _ _ => rfl)) (by omega) _ _ (K_s hK [(0, 2)] rfl) (P_s hP [(0, 3)] rfl) (D_s hD [(0, 3)] 3 rfl (by decide +kernel) rfl) hS ls (lv_sub hl [0, 1] rfl)
        exact loop_36 (1000) 0 f_s (by first | assumption | omega | exact fz_rf _ | exact fb_rf _ | exact (fun _ _ _ => rfl)) (by first | assumption | omega | exact fz_rf _ | exact fb_rf _ | exact (fun _ _ _ => rfl)) (by first | assumption | omega | exact fz_rf _ | exact fb_rf _ | exact (fun _ _ _ => rfl)) (by first | assumption | omega | exact fz_rf _ | exact fb_rf _ | exact (fun _ _ _ => rfl)) (by omega) _ _ hK hP hD hS ls (lv_sub hl [0, 1] rfl)
      · skip
        have f_c2 := i_nle c2
        refine lv_aload_n hx hb dX10_net_13 rfl (lv_at hl 1 rfl) ?_
        refine va_get (D := (dC, dI)) (ci := 9) (v := .ref q_s) (C := RX10) (T := TX10) (N := 32) hx hb hts (fun w h => List.mem_cons_of_mem _ (inlX10 w h)) hown hK hP 0 rfl rfl 0 (by decide) (hts (.fieldLink RX10 11 "ClearingGatesModel" "s" "[I") (List.mem_cons_of_mem _ mw_609)) (fun _ h9 => h9) rfl dX10_net_14 ?_
        refine lv_bipush (v := 24) hx hb dX10_net_17 (by decide) ?_
        refine lv_iload_n hx hb dX10_net_19 rfl (lv_at hl 0 rfl) ?_
        refine lv_iadd hx hb dX10_net_20 ?_
        refine lv_topi (fun z40 e_z40 => ?_)
        (first | have t_z40 := i_add e_z40 (by omega) (by omega) | skip)
        refine va_iald (D := (dC, dI)) hx hb hK hP 1 0 rfl rfl (vp_in_iff.mpr ⟨by omega, by omega⟩) dX10_net_21 ?_
        refine lv_topi (fun z41 e_z41 => ?_)
        refine lv_if_ne (tgt := 28) hx hb dX10_net_22 (by decide) (fun c42 => ?_) (fun c42 => ?_)
        · skip
          have f_c42 := i_ne c42
          obtain ⟨x43, e_x43⟩ : ∃ yy : Int32, yy = x_2 + 1 := ⟨_, rfl⟩
          refine lv_iinc (v := x43) (lv' := [(1, .int x43), (0, .ref h0)]) hx hb dX10_net_28 hl (k := 0) rfl (by rw [e_x43]; rfl) (by decide) rfl (fun ls hl => ?_)
          (first | have t_x43 := i_add e_x43 (by omega) (by omega) | skip)
          refine lv_goto (tgt := 2) hx hb dX10_net_31 (by decide) ?_
          exact ih_2 (i_2 + 1) x43 (by omega) (by omega) (by rw [e_x43, e_x_2]; exact nI_1 i_2)   _ _ (K_s hK [(0, 2)] rfl) (P_s hP [(0, 3)] rfl) (D_s hD [(0, 3)] 3 rfl (by decide +kernel) rfl) hS ls (lv_sub hl [0, 1] rfl)
        · skip
          have f_c42 := i_eq c42
          refine lv_bipush (v := -3) hx hb dX10_net_25 (by decide) ?_
          rw [hQ9]
          exact W.iret (v := (-3)) hx hb hr (fun t ht hW => ⟨⟨(-3), (), rfl, (by first | rfl | trivial), f_s, f_way, (by first | assumption | omega | exact fz_rf _ | exact fb_rf _ | exact (fun _ _ _ => rfl)), (by first | assumption | omega | exact fz_rf _ | exact fb_rf _ | exact (fun _ _ _ => rfl)), (by first | assumption | omega | exact fz_rf _ | exact fb_rf _ | exact (fun _ _ _ => rfl)), by rw [ht]; exact hP, va_K.moved hW.alike hK, hD⟩, hS.F ht⟩) hS.2.2 dX10_net_27
  exact loop_2 (8 + 1) 0 0 (by omega) (by omega) rfl   _ _ hK hP hD hS ls hl
