set_option maxRecDepth 100000 in
set_option maxHeartbeats 4000000 in
/-- program of the reference -/
theorem c_X10_program (l : Launch) (dC : Nat → ClassId) (dI : Nat → Nat → Nat) (h0 : Nat) (q_s : Nat) (v_fees : Int64) (q_thought : Nat) (v_thoughtFees : Int64) (q_image : Nat) (v_imageFees : Int64) (v_hasImage : Int32) (q_tape : Nat) (v_taped : Int32) (q_texts : Nat) (q_sizes : Nat) (v_programs : Int32) (q_imageTexts : Nat) (q_imageSizes : Nat) (v_imagePrograms : Int32) (v_here : Int32) (v_open : Int32) (v_running : Int32) (v_begun : Int32) (q_held : Nat) (q_marks : Nat) (v_markMany : Int32) (q_trace : Nat) (v_traced : Int32) (q_keptBalances : Nat) (q_keptFees : Nat) (v_deep : Int32) (q_way : Nat) (q_sorts : Nat) (q_rowMany : Nat) (q_items : Nat) (q_moved : Nat) (k_tape : ClassId) (f_tape : Nat → Int32) (k_texts : ClassId) (f_texts : Nat → Int32) (k_sizes : ClassId) (f_sizes : Nat → Int32) (sz : Nat) (hpg1 : 0 ≤ v_programs.toInt) (hpg2 : v_programs.toInt ≤ 4) (ht1 : 0 ≤ v_taped.toInt) (ht2 : v_taped.toInt ≤ 80) (hwf : WF f_texts f_sizes v_programs.toInt.toNat) : Met l yX10_program wsX10_program ({ frames := 51, cells := 0, slots := 0, locals := 1822 }) (va_Pc [.ref h0] (fun U => U.heap.size = sz ∧ va_P (dC, dI) vwCl [eO h0 9 [.ref q_s, .long v_fees, .ref q_thought, .long v_thoughtFees, .ref q_image, .long v_imageFees, .int v_hasImage, .ref q_tape, .int v_taped, .ref q_texts, .ref q_sizes, .int v_programs, .ref q_imageTexts, .ref q_imageSizes, .int v_imagePrograms, .int v_here, .int v_open, .int v_running, .int v_begun, .ref q_held, .ref q_marks, .int v_markMany, .ref q_trace, .int v_traced, .ref q_keptBalances, .ref q_keptFees, .int v_deep, .ref q_way, .ref q_sorts, .ref q_rowMany, .ref q_items, .ref q_moved], eI q_tape k_tape 80 f_tape, eI q_texts k_texts 320 f_texts, eI q_sizes k_sizes 4 f_sizes] U.heap ∧ va_K (dC, dI) vwCl [(k_tape, .int), (k_texts, .int), (k_sizes, .int)] U ∧ va_D (fun _ => True) [eO h0 9 [.ref q_s, .long v_fees, .ref q_thought, .long v_thoughtFees, .ref q_image, .long v_imageFees, .int v_hasImage, .ref q_tape, .int v_taped, .ref q_texts, .ref q_sizes, .int v_programs, .ref q_imageTexts, .ref q_imageSizes, .int v_imagePrograms, .int v_here, .int v_open, .int v_running, .int v_begun, .ref q_held, .ref q_marks, .int v_markMany, .ref q_trace, .int v_traced, .ref q_keptBalances, .ref q_keptFees, .int v_deep, .ref q_way, .ref q_sorts, .ref q_rowMany, .ref q_items, .ref q_moved], eI q_tape k_tape 80 f_tape, eI q_texts k_texts 320 f_texts, eI q_sizes k_sizes 4 f_sizes])) (va_Qi (fun (r : Int32) (_ : Unit) => True) (fun (_ : Unit) (t : State) => ∃ (f_texts' : Nat → Int32), ∃ (f_sizes' : Nat → Int32), ∃ (v_programs' : Int32), ∃ (v_taped' : Int32), ∃ (v_here' : Int32), ∃ (v_open' : Int32), (0 ≤ v_taped'.toInt) ∧ (v_taped'.toInt ≤ 80) ∧ (0 ≤ v_programs'.toInt) ∧ (v_programs'.toInt ≤ 4) ∧ (WF f_texts' f_sizes' v_programs'.toInt.toNat) ∧ va_P (dC, dI) vwCl [eO h0 9 [.ref q_s, .long v_fees, .ref q_thought, .long v_thoughtFees, .ref q_image, .long v_imageFees, .int v_hasImage, .ref q_tape, .int v_taped', .ref q_texts, .ref q_sizes, .int v_programs', .ref q_imageTexts, .ref q_imageSizes, .int v_imagePrograms, .int v_here', .int v_open', .int v_running, .int v_begun, .ref q_held, .ref q_marks, .int v_markMany, .ref q_trace, .int v_traced, .ref q_keptBalances, .ref q_keptFees, .int v_deep, .ref q_way, .ref q_sorts, .ref q_rowMany, .ref q_items, .ref q_moved], eI q_tape k_tape 80 f_tape, eI q_texts k_texts 320 (f_texts'), eI q_sizes k_sizes 4 (f_sizes')] t.heap ∧ va_K (dC, dI) vwCl [(k_tape, .int), (k_texts, .int), (k_sizes, .int)] t ∧ va_D (va_A [eO h0 9 [.ref q_s, .long v_fees, .ref q_thought, .long v_thoughtFees, .ref q_image, .long v_imageFees, .int v_hasImage, .ref q_tape, .int v_taped, .ref q_texts, .ref q_sizes, .int v_programs, .ref q_imageTexts, .ref q_imageSizes, .int v_imagePrograms, .int v_here, .int v_open, .int v_running, .int v_begun, .ref q_held, .ref q_marks, .int v_markMany, .ref q_trace, .int v_traced, .ref q_keptBalances, .ref q_keptFees, .int v_deep, .ref q_way, .ref q_sorts, .ref q_rowMany, .ref q_items, .ref q_moved], eI q_tape k_tape 80 f_tape, eI q_texts k_texts 320 f_texts, eI q_sizes k_sizes 4 f_sizes] sz) [eO h0 9 [.ref q_s, .long v_fees, .ref q_thought, .long v_thoughtFees, .ref q_image, .long v_imageFees, .int v_hasImage, .ref q_tape, .int v_taped', .ref q_texts, .ref q_sizes, .int v_programs', .ref q_imageTexts, .ref q_imageSizes, .int v_imagePrograms, .int v_here', .int v_open', .int v_running, .int v_begun, .ref q_held, .ref q_marks, .int v_markMany, .ref q_trace, .int v_traced, .ref q_keptBalances, .ref q_keptFees, .int v_deep, .ref q_way, .ref q_sorts, .ref q_rowMany, .ref q_items, .ref q_moved], eI q_tape k_tape 80 f_tape, eI q_texts k_texts 320 (f_texts'), eI q_sizes k_sizes 4 (f_sizes')]) (va_A [eO h0 9 [.ref q_s, .long v_fees, .ref q_thought, .long v_thoughtFees, .ref q_image, .long v_imageFees, .int v_hasImage, .ref q_tape, .int v_taped, .ref q_texts, .ref q_sizes, .int v_programs, .ref q_imageTexts, .ref q_imageSizes, .int v_imagePrograms, .int v_here, .int v_open, .int v_running, .int v_begun, .ref q_held, .ref q_marks, .int v_markMany, .ref q_trace, .int v_traced, .ref q_keptBalances, .ref q_keptFees, .int v_deep, .ref q_way, .ref q_sorts, .ref q_rowMany, .ref q_items, .ref q_moved], eI q_tape k_tape 80 f_tape, eI q_texts k_texts 320 f_texts, eI q_sizes k_sizes 4 f_sizes] sz)) 0 0 (va_A [eO h0 9 [.ref q_s, .long v_fees, .ref q_thought, .long v_thoughtFees, .ref q_image, .long v_imageFees, .int v_hasImage, .ref q_tape, .int v_taped, .ref q_texts, .ref q_sizes, .int v_programs, .ref q_imageTexts, .ref q_imageSizes, .int v_imagePrograms, .int v_here, .int v_open, .int v_running, .int v_begun, .ref q_held, .ref q_marks, .int v_markMany, .ref q_trace, .int v_traced, .ref q_keptBalances, .ref q_keptFees, .int v_deep, .ref q_way, .ref q_sorts, .ref q_rowMany, .ref q_items, .ref q_moved], eI q_tape k_tape 80 f_tape, eI q_texts k_texts 320 f_texts, eI q_sizes k_sizes 4 f_sizes] sz) := by
  refine Met.ofW (cc := cX10_program) (maxL := 4) (ret := (some .int)) (by decide) rfl ?_
  intro p e s m args below meth c s₁ B hml hv
  obtain ⟨rfl, hsz, hP, hK, hD0⟩ := hv
  have hx := B.exec
  have hb := B.bytes
  have hr := B.returns
  have hts := atoms_spec (ws := wsX10_program) B.pre
  have hown : s.vm.findClass RX10 = some m.cls := findClass_of_methodNamed B.named
  have hlocks := B.notSynchronized
  subst hsz
  have hD := hD0.self (sz := s.heap.size)
  generalize hAe : va_A [eO h0 9 [.ref q_s, .long v_fees, .ref q_thought, .long v_thoughtFees, .ref q_image, .long v_imageFees, .int v_hasImage, .ref q_tape, .int v_taped, .ref q_texts, .ref q_sizes, .int v_programs, .ref q_imageTexts, .ref q_imageSizes, .int v_imagePrograms, .int v_here, .int v_open, .int v_running, .int v_begun, .ref q_held, .ref q_marks, .int v_markMany, .ref q_trace, .int v_traced, .ref q_keptBalances, .ref q_keptFees, .int v_deep, .ref q_way, .ref q_sorts, .ref q_rowMany, .ref q_items, .ref q_moved], eI q_tape k_tape 80 f_tape, eI q_texts k_texts 320 f_texts, eI q_sizes k_sizes 4 f_sizes] s.heap.size = A at hD ⊢
  have hA : ∀ q : Nat, s.heap.size ≤ q → A q := fun q h => by rw [← hAe]; exact Or.inr h
  have hS : va_S A s.heap s.heap [] := va_S.rf
  have hP : va_P (dC, dI) vwCl [eO h0 9 [.ref q_s, .long v_fees, .ref q_thought, .long v_thoughtFees, .ref q_image, .long v_imageFees, .int v_hasImage, .ref q_tape, .int v_taped, .ref q_texts, .ref q_sizes, .int v_programs, .ref q_imageTexts, .ref q_imageSizes, .int v_imagePrograms, .int v_here, .int v_open, .int v_running, .int v_begun, .ref q_held, .ref q_marks, .int v_markMany, .ref q_trace, .int v_traced, .ref q_keptBalances, .ref q_keptFees, .int v_deep, .ref q_way, .ref q_sorts, .ref q_rowMany, .ref q_items, .ref q_moved], eI q_tape k_tape 80 f_tape, eI q_texts k_texts 320 f_texts, eI q_sizes k_sizes 4 f_sizes] s.heap := hP
  have hl := lv_entry ([.ref h0]) (n := 4) (Nat.le_of_ble_eq_true rfl)
  rw [lg_entry_eq]
  generalize (lg_sl ([.ref h0]) ++ List.replicate (4 - (lg_sl ([.ref h0])).length) Slot.unset).toArray = ls at hl ⊢
  have hl : lv_has ls 4 [(0, .ref h0)] := hl
  suffices key9 : ∀ Q9 : State → Prop, Q9 = (MQ below (va_Qi (fun (r : Int32) (_ : Unit) => True) (fun (_ : Unit) (t : State) => ∃ (f_texts' : Nat → Int32), ∃ (f_sizes' : Nat → Int32), ∃ (v_programs' : Int32), ∃ (v_taped' : Int32), ∃ (v_here' : Int32), ∃ (v_open' : Int32), (0 ≤ v_taped'.toInt) ∧ (v_taped'.toInt ≤ 80) ∧ (0 ≤ v_programs'.toInt) ∧ (v_programs'.toInt ≤ 4) ∧ (WF f_texts' f_sizes' v_programs'.toInt.toNat) ∧ va_P (dC, dI) vwCl [eO h0 9 [.ref q_s, .long v_fees, .ref q_thought, .long v_thoughtFees, .ref q_image, .long v_imageFees, .int v_hasImage, .ref q_tape, .int v_taped', .ref q_texts, .ref q_sizes, .int v_programs', .ref q_imageTexts, .ref q_imageSizes, .int v_imagePrograms, .int v_here', .int v_open', .int v_running, .int v_begun, .ref q_held, .ref q_marks, .int v_markMany, .ref q_trace, .int v_traced, .ref q_keptBalances, .ref q_keptFees, .int v_deep, .ref q_way, .ref q_sorts, .ref q_rowMany, .ref q_items, .ref q_moved], eI q_tape k_tape 80 f_tape, eI q_texts k_texts 320 (f_texts'), eI q_sizes k_sizes 4 (f_sizes')] t.heap ∧ va_K (dC, dI) vwCl [(k_tape, .int), (k_texts, .int), (k_sizes, .int)] t ∧ va_D A [eO h0 9 [.ref q_s, .long v_fees, .ref q_thought, .long v_thoughtFees, .ref q_image, .long v_imageFees, .int v_hasImage, .ref q_tape, .int v_taped', .ref q_texts, .ref q_sizes, .int v_programs', .ref q_imageTexts, .ref q_imageSizes, .int v_imagePrograms, .int v_here', .int v_open', .int v_running, .int v_begun, .ref q_held, .ref q_marks, .int v_markMany, .ref q_trace, .int v_traced, .ref q_keptBalances, .ref q_keptFees, .int v_deep, .ref q_way, .ref q_sorts, .ref q_rowMany, .ref q_items, .ref q_moved], eI q_tape k_tape 80 f_tape, eI q_texts k_texts 320 (f_texts'), eI q_sizes k_sizes 4 (f_sizes')]) A) (([.ref h0] : List Value).toArray) s 0 0 A) → W p l e ({ frames := 51, cells := 0, slots := 0, locals := 1822 }) s m (([.ref h0] : List Value).toArray) below meth c s.heap [] 0 0 Q9 (F0 m 0 ls []) from key9 _ rfl
  intro Q9 hQ9
  have k_m100 : ((-100) : Int32).toInt = (-100) := by decide
  have k_m4 : ((-4) : Int32).toInt = (-4) := by decide
  have k_0 : (0 : Int32).toInt = 0 := by decide
  have k_1 : (1 : Int32).toInt = 1 := by decide
  have k_4 : (4 : Int32).toInt = 4 := by decide
  have k_80 : (80 : Int32).toInt = 80 := by decide
  obtain ⟨n9, htn⟩ : ∃ n9 : Nat, v_taped.toInt = (n9 : Int) := ⟨v_taped.toInt.toNat, by omega⟩
  refine lv_aload_n hx hb dX10_program_0 rfl (lv_at hl 0 rfl) ?_
  refine va_get (D := (dC, dI)) (ci := 9) (v := .int v_programs) (C := RX10) (T := TX10) (N := 32) hx hb hts (fun w h => List.mem_cons_of_mem _ (inlX10 w h)) hown hK hP 0 rfl rfl 11 (by decide) (hts (.fieldLink RX10 100 "ClearingGatesModel" "programs" "I") (List.mem_cons_of_mem _ mw_620)) (fun _ h9 => h9) rfl dX10_program_1 ?_
  refine lv_iconst (v := 4) hx hb dX10_program_4 (by decide) ?_
  refine lv_icmp_ne (tgt := 11) hx hb dX10_program_5 (by decide) (fun c1 => ?_) (fun c1 => ?_)
  · skip
    have f_c1 := i_ne c1
    refine lv_aload_n hx hb dX10_program_11 rfl (lv_at hl 0 rfl) ?_
    refine lv_iconst (v := 0) hx hb dX10_program_12 (by decide) ?_
    refine va_put (D := (dC, dI)) (ci := 9) (v := .int 0) (ty := .int) (C := RX10) (T := TX10) (N := 32) hx hb hts (fun w h => List.mem_cons_of_mem _ (inlX10 w h)) tyX10 tyX10_ok nmX10 hown hK hP hD hS 0 rfl rfl 15 (by decide) (hts (.fieldLink RX10 124 "ClearingGatesModel" "here" "I") (List.mem_cons_of_mem _ mw_624)) (fun _ h9 => h9) rfl (by decide +kernel) rfl rfl (Nat.le_of_ble_eq_true rfl) dX10_program_13 (fun H locs hP hD hS => ?_)
    obtain ⟨hP, hD⟩ := X_s (ws' := [eO h0 9 [.ref q_s, .long v_fees, .ref q_thought, .long v_thoughtFees, .ref q_image, .long v_imageFees, .int v_hasImage, .ref q_tape, .int v_taped, .ref q_texts, .ref q_sizes, .int v_programs, .ref q_imageTexts, .ref q_imageSizes, .int v_imagePrograms, .int 0, .int v_open, .int v_running, .int v_begun, .ref q_held, .ref q_marks, .int v_markMany, .ref q_trace, .int v_traced, .ref q_keptBalances, .ref q_keptFees, .int v_deep, .ref q_way, .ref q_sorts, .ref q_rowMany, .ref q_items, .ref q_moved], eI q_tape k_tape 80 f_tape, eI q_texts k_texts 320 f_texts, eI q_sizes k_sizes 4 f_sizes]) hP hD rfl
    refine lv_aload_n hx hb dX10_program_16 rfl (lv_at hl 0 rfl) ?_
    refine lv_iconst (v := 0) hx hb dX10_program_17 (by decide) ?_
    refine va_put (D := (dC, dI)) (ci := 9) (v := .int 0) (ty := .int) (C := RX10) (T := TX10) (N := 32) hx hb hts (fun w h => List.mem_cons_of_mem _ (inlX10 w h)) tyX10 tyX10_ok nmX10 hown hK hP hD hS 0 rfl rfl 16 (by decide) (hts (.fieldLink RX10 131 "ClearingGatesModel" "open" "I") (List.mem_cons_of_mem _ mw_625)) (fun _ h9 => h9) rfl (by decide +kernel) rfl rfl (Nat.le_of_ble_eq_true rfl) dX10_program_18 (fun H locs hP hD hS => ?_)
    obtain ⟨hP, hD⟩ := X_s (ws' := [eO h0 9 [.ref q_s, .long v_fees, .ref q_thought, .long v_thoughtFees, .ref q_image, .long v_imageFees, .int v_hasImage, .ref q_tape, .int v_taped, .ref q_texts, .ref q_sizes, .int v_programs, .ref q_imageTexts, .ref q_imageSizes, .int v_imagePrograms, .int 0, .int 0, .int v_running, .int v_begun, .ref q_held, .ref q_marks, .int v_markMany, .ref q_trace, .int v_traced, .ref q_keptBalances, .ref q_keptFees, .int v_deep, .ref q_way, .ref q_sorts, .ref q_rowMany, .ref q_items, .ref q_moved], eI q_tape k_tape 80 f_tape, eI q_texts k_texts 320 f_texts, eI q_sizes k_sizes 4 f_sizes]) hP hD rfl
    refine lv_aload_n hx hb dX10_program_21 rfl (lv_at hl 0 rfl) ?_
    refine lv_iconst (v := 0) hx hb dX10_program_22 (by decide) ?_
    obtain ⟨hPc, hDc, hFc, hCm, hNw⟩ := C_s (wc := [eO h0 9 [.ref q_s, .long v_fees, .ref q_thought, .long v_thoughtFees, .ref q_image, .long v_imageFees, .int v_hasImage, .ref q_tape, .int v_taped, .ref q_texts, .ref q_sizes, .int v_programs, .ref q_imageTexts, .ref q_imageSizes, .int v_imagePrograms, .int 0, .int 0, .int v_running, .int v_begun, .ref q_held, .ref q_marks, .int v_markMany, .ref q_trace, .int v_traced, .ref q_keptBalances, .ref q_keptFees, .int v_deep, .ref q_way, .ref q_sorts, .ref q_rowMany, .ref q_items, .ref q_moved], eI q_tape k_tape 80 f_tape]) hP hD hS hA [(0, 2)] 4 rfl (by decide +kernel) rfl
    have hKc := K_s (tys' := [(k_tape, .int)]) hK [(0, 1)] rfl
    refine va_calli (va_runV (As := [.int 0]) (rest := []) ⟨hx, hb, hml, hown, hts⟩ ((kt_all l dC dI 8) h0 0 q_s v_fees q_thought v_thoughtFees q_image v_imageFees v_hasImage q_tape v_taped q_texts q_sizes v_programs q_imageTexts q_imageSizes v_imagePrograms 0 0 v_running v_begun q_held q_marks v_markMany q_trace v_traced q_keptBalances q_keptFees v_deep q_way q_sorts q_rowMany q_items q_moved k_tape f_tape 0 n9 H.size (by first | assumption | omega) (by first | assumption | omega) (by first | assumption | omega) (by first | assumption | omega) (by first | assumption | omega) (by first | assumption | omega)) (cwV 1 hts gX10_program_X10_takesItem rfl rfl rfl (by decide +kernel) ⟨Nat.le_of_ble_eq_true rfl, Nat.le_of_ble_eq_true rfl⟩) ⟨fun a U g mk q => by obtain ⟨q0, q1, qP, qK, qD⟩ := q; exact ⟨q0, q1, qP, va_K.moved (u := U) (U := U.calling g mk a) (Vm.Alike.refl U.vm) qK, qD⟩, va_recv (s := s) (q := (RX10, TX10, 32)) hKc hPc (ci := 9) (q0 := 0) rfl rfl, fun U hU hW => ⟨rfl, by rw [hU], by rw [hU]; exact hPc, va_K.moved hW.alike hKc, hDc.weaken (fun _ _ _ _ => trivial)⟩⟩ rfl rfl hl.1 rfl (lv_room (Nat.le_of_ble_eq_true rfl)) dX10_program_23 ⟨Nat.le_of_ble_eq_true rfl, Nat.le_of_ble_eq_true rfl⟩) hS (fun q _ h => hFc q h) hFc (fun r2 u t H1 locs ht hvm hw hB hz1 hk1 hS => ?_)
    obtain ⟨u3, u4⟩ := u
    obtain ⟨hP1, hK1, hD1⟩ := hB
    rw [ht] at hP1
    have hK1 := va_K.moved hvm.symm hK1
    try dsimp only at hw
    obtain ⟨hP, hD⟩ := J_s (wL := [eI q_texts k_texts 320 f_texts, eI q_sizes k_sizes 4 f_sizes, eO h0 9 [.ref q_s, .long v_fees, .ref q_thought, .long v_thoughtFees, .ref q_image, .long v_imageFees, .int v_hasImage, .ref q_tape, .int v_taped, .ref q_texts, .ref q_sizes, .int v_programs, .ref q_imageTexts, .ref q_imageSizes, .int v_imagePrograms, .int u3, .int u4, .int v_running, .int v_begun, .ref q_held, .ref q_marks, .int v_markMany, .ref q_trace, .int v_traced, .ref q_keptBalances, .ref q_keptFees, .int v_deep, .ref q_way, .ref q_sorts, .ref q_rowMany, .ref q_items, .ref q_moved], eI q_tape k_tape 80 f_tape]) hP hD [(0, 2)] [(2, 2)] hCm hNw (by decide +kernel) hk1 hFc hP1 hD1 rfl
    have hK := KJ_s (tys' := [(k_texts, .int), (k_sizes, .int), (k_tape, .int)]) hK hK1 [(1, 2)] rfl
    generalize H1 = H at hP hS ⊢
    rcases hw with ⟨e_r2, f_r2⟩ | ⟨e_r2, f_r2⟩
    · subst e_r2
      obtain ⟨hoq, e9, he9, hit9⟩ := f_r2
      have hl9 := it_lt _ _ _ hit9
      refine lv_istore_n (lv' := [(1, .int 1), (0, .ref h0)]) hx hb dX10_program_26 rfl hl (by decide) rfl (fun ls hl => ?_)
      have loop_27 : ∀ (n : Nat) (is : Int32) (hq9 : Int32) (ho : Int32) (fu : Int), (0 ≤ fu) → (is.toInt ≠ 0 → (n9 : Int) + 1 - hq9.toInt ≤ fu) → (is.toInt = 0 ∨ Pin f_tape n9 ho hq9) → (fu) < (n : Int) → ∀ (H : Heap) (locs : List Loc), va_K (dC, dI) vwCl [(k_texts, .int), (k_sizes, .int), (k_tape, .int)] s → va_P (dC, dI) vwCl [eI q_texts k_texts 320 f_texts, eI q_sizes k_sizes 4 f_sizes, eO h0 9 [.ref q_s, .long v_fees, .ref q_thought, .long v_thoughtFees, .ref q_image, .long v_imageFees, .int v_hasImage, .ref q_tape, .int v_taped, .ref q_texts, .ref q_sizes, .int v_programs, .ref q_imageTexts, .ref q_imageSizes, .int v_imagePrograms, .int hq9, .int ho, .int v_running, .int v_begun, .ref q_held, .ref q_marks, .int v_markMany, .ref q_trace, .int v_traced, .ref q_keptBalances, .ref q_keptFees, .int v_deep, .ref q_way, .ref q_sorts, .ref q_rowMany, .ref q_items, .ref q_moved], eI q_tape k_tape 80 f_tape] H → va_D A [eI q_texts k_texts 320 f_texts, eI q_sizes k_sizes 4 f_sizes, eO h0 9 [.ref q_s, .long v_fees, .ref q_thought, .long v_thoughtFees, .ref q_image, .long v_imageFees, .int v_hasImage, .ref q_tape, .int v_taped, .ref q_texts, .ref q_sizes, .int v_programs, .ref q_imageTexts, .ref q_imageSizes, .int v_imagePrograms, .int hq9, .int ho, .int v_running, .int v_begun, .ref q_held, .ref q_marks, .int v_markMany, .ref q_trace, .int v_traced, .ref q_keptBalances, .ref q_keptFees, .int v_deep, .ref q_way, .ref q_sorts, .ref q_rowMany, .ref q_items, .ref q_moved], eI q_tape k_tape 80 f_tape] → va_S A s.heap H locs → ∀ (ls : Array Slot), lv_has ls 4 [(1, .int is), (0, .ref h0)] → W p l e ({ frames := 51, cells := 0, slots := 0, locals := 1822 }) s m (([.ref h0] : List Value).toArray) below meth c H locs 0 0 Q9 (F0 m 27 ls []) := by
        intro n
        induction n with
        | zero => intro is hq9 ho fu j0 j1 j2 hM_27; exfalso; omega
        | succ n ih_27 =>
          intro is hq9 ho fu j0 j1 j2 hM_27 H locs hK hP hD hS ls hl
          refine lv_iload_n hx hb dX10_program_27 rfl (lv_at hl 0 rfl) ?_
          refine lv_if_eq (tgt := 51) hx hb dX10_program_28 (by decide) (fun c5 => ?_) (fun c5 => ?_)
          · skip
            have f_c5 := i_eq c5
            refine lv_aload_n hx hb dX10_program_51 rfl (lv_at hl 1 rfl) ?_
            refine va_get (D := (dC, dI)) (ci := 9) (v := .int v_taped) (C := RX10) (T := TX10) (N := 32) hx hb hts (fun w h => List.mem_cons_of_mem _ (inlX10 w h)) hown hK hP 2 rfl rfl 8 (by decide) (hts (.fieldLink RX10 107 "ClearingGatesModel" "taped" "I") (List.mem_cons_of_mem _ mw_617)) (fun _ h9 => h9) rfl dX10_program_52 ?_
            refine lv_istore_n (lv' := [(2, .int v_taped), (1, .int is), (0, .ref h0)]) hx hb dX10_program_55 rfl hl (by decide) rfl (fun ls hl => ?_)
            refine lv_aload_n hx hb dX10_program_56 rfl (lv_at hl 2 rfl) ?_
            refine lv_iconst (v := 0) hx hb dX10_program_57 (by decide) ?_
            refine va_put (D := (dC, dI)) (ci := 9) (v := .int 0) (ty := .int) (C := RX10) (T := TX10) (N := 32) hx hb hts (fun w h => List.mem_cons_of_mem _ (inlX10 w h)) tyX10 tyX10_ok nmX10 hown hK hP hD hS 2 rfl rfl 8 (by decide) (hts (.fieldLink RX10 107 "ClearingGatesModel" "taped" "I") (List.mem_cons_of_mem _ mw_617)) (fun _ h9 => h9) rfl (by decide +kernel) rfl rfl (Nat.le_of_ble_eq_true rfl) dX10_program_58 (fun H locs hP hD hS => ?_)
            obtain ⟨hP, hD⟩ := X_s (ws' := [eI q_texts k_texts 320 f_texts, eI q_sizes k_sizes 4 f_sizes, eO h0 9 [.ref q_s, .long v_fees, .ref q_thought, .long v_thoughtFees, .ref q_image, .long v_imageFees, .int v_hasImage, .ref q_tape, .int 0, .ref q_texts, .ref q_sizes, .int v_programs, .ref q_imageTexts, .ref q_imageSizes, .int v_imagePrograms, .int hq9, .int ho, .int v_running, .int v_begun, .ref q_held, .ref q_marks, .int v_markMany, .ref q_trace, .int v_traced, .ref q_keptBalances, .ref q_keptFees, .int v_deep, .ref q_way, .ref q_sorts, .ref q_rowMany, .ref q_items, .ref q_moved], eI q_tape k_tape 80 f_tape]) hP hD rfl
            refine lv_iload_n hx hb dX10_program_61 rfl (lv_at hl 1 rfl) ?_
            refine lv_if_ne (tgt := 73) hx hb dX10_program_62 (by decide) (fun c6 => ?_) (fun c6 => ?_)
            · skip
              have f_c6 := i_ne c6
              exfalso; omega
            · skip
              have f_c6 := i_eq c6
              refine lv_bipush (v := -100) hx hb dX10_program_65 (by decide) ?_
              refine lv_aload_n hx hb dX10_program_67 rfl (lv_at hl 2 rfl) ?_
              refine va_get (D := (dC, dI)) (ci := 9) (v := .int hq9) (C := RX10) (T := TX10) (N := 32) hx hb hts (fun w h => List.mem_cons_of_mem _ (inlX10 w h)) hown hK hP 2 rfl rfl 15 (by decide) (hts (.fieldLink RX10 124 "ClearingGatesModel" "here" "I") (List.mem_cons_of_mem _ mw_624)) (fun _ h9 => h9) rfl dX10_program_68 ?_
              refine lv_isub hx hb dX10_program_71 ?_
              refine lv_topi (fun z7 e_z7 => ?_)
              (first | have t_z7 := i_sub e_z7 (by omega) (by omega) | skip)
              rw [hQ9]
              exact W.iret (v := z7) hx hb hr (fun t ht hW => ⟨⟨z7, (), rfl, (by first | rfl | trivial), f_texts, f_sizes, v_programs, 0, hq9, ho, (by first | assumption | omega | exact fz_rf _ | exact fb_rf _ | exact (fun _ _ _ => rfl)), (by first | assumption | omega | exact fz_rf _ | exact fb_rf _ | exact (fun _ _ _ => rfl)), (by first | assumption | omega | exact fz_rf _ | exact fb_rf _ | exact (fun _ _ _ => rfl)), (by first | assumption | omega | exact fz_rf _ | exact fb_rf _ | exact (fun _ _ _ => rfl)), hwf, by rw [ht]; exact P_s hP [(2, 2), (0, 2)] rfl, va_K.moved hW.alike (K_s hK [(2, 1), (0, 2)] rfl), D_s hD [(2, 2), (0, 2)] 4 rfl (by decide +kernel) rfl⟩, hS.F ht⟩) hS.2.2 dX10_program_72
          · skip
            have f_c5 := i_ne c5
            obtain ⟨hoz, cx, jx, hjx, hjn, hsq⟩ : Pin f_tape n9 ho hq9 := by rcases j2 with q | q; exact absurd q (by omega); exact q
            refine lv_aload_n hx hb dX10_program_31 rfl (lv_at hl 1 rfl) ?_
            refine va_get (D := (dC, dI)) (ci := 9) (v := .int hq9) (C := RX10) (T := TX10) (N := 32) hx hb hts (fun w h => List.mem_cons_of_mem _ (inlX10 w h)) hown hK hP 2 rfl rfl 15 (by decide) (hts (.fieldLink RX10 124 "ClearingGatesModel" "here" "I") (List.mem_cons_of_mem _ mw_624)) (fun _ h9 => h9) rfl dX10_program_32 ?_
            refine lv_aload_n hx hb dX10_program_35 rfl (lv_at hl 1 rfl) ?_
            refine va_get (D := (dC, dI)) (ci := 9) (v := .int v_taped) (C := RX10) (T := TX10) (N := 32) hx hb hts (fun w h => List.mem_cons_of_mem _ (inlX10 w h)) hown hK hP 2 rfl rfl 8 (by decide) (hts (.fieldLink RX10 107 "ClearingGatesModel" "taped" "I") (List.mem_cons_of_mem _ mw_617)) (fun _ h9 => h9) rfl dX10_program_36 ?_
            refine lv_icmp_ge (tgt := 51) hx hb dX10_program_39 (by decide) (fun c8 => ?_) (fun c8 => ?_)
            · skip
              have f_c8 := i_le c8
              refine lv_aload_n hx hb dX10_program_51 rfl (lv_at hl 1 rfl) ?_
              refine va_get (D := (dC, dI)) (ci := 9) (v := .int v_taped) (C := RX10) (T := TX10) (N := 32) hx hb hts (fun w h => List.mem_cons_of_mem _ (inlX10 w h)) hown hK hP 2 rfl rfl 8 (by decide) (hts (.fieldLink RX10 107 "ClearingGatesModel" "taped" "I") (List.mem_cons_of_mem _ mw_617)) (fun _ h9 => h9) rfl dX10_program_52 ?_
              refine lv_istore_n (lv' := [(2, .int v_taped), (1, .int is), (0, .ref h0)]) hx hb dX10_program_55 rfl hl (by decide) rfl (fun ls hl => ?_)
              refine lv_aload_n hx hb dX10_program_56 rfl (lv_at hl 2 rfl) ?_
              refine lv_iconst (v := 0) hx hb dX10_program_57 (by decide) ?_
              refine va_put (D := (dC, dI)) (ci := 9) (v := .int 0) (ty := .int) (C := RX10) (T := TX10) (N := 32) hx hb hts (fun w h => List.mem_cons_of_mem _ (inlX10 w h)) tyX10 tyX10_ok nmX10 hown hK hP hD hS 2 rfl rfl 8 (by decide) (hts (.fieldLink RX10 107 "ClearingGatesModel" "taped" "I") (List.mem_cons_of_mem _ mw_617)) (fun _ h9 => h9) rfl (by decide +kernel) rfl rfl (Nat.le_of_ble_eq_true rfl) dX10_program_58 (fun H locs hP hD hS => ?_)
              obtain ⟨hP, hD⟩ := X_s (ws' := [eI q_texts k_texts 320 f_texts, eI q_sizes k_sizes 4 f_sizes, eO h0 9 [.ref q_s, .long v_fees, .ref q_thought, .long v_thoughtFees, .ref q_image, .long v_imageFees, .int v_hasImage, .ref q_tape, .int 0, .ref q_texts, .ref q_sizes, .int v_programs, .ref q_imageTexts, .ref q_imageSizes, .int v_imagePrograms, .int hq9, .int ho, .int v_running, .int v_begun, .ref q_held, .ref q_marks, .int v_markMany, .ref q_trace, .int v_traced, .ref q_keptBalances, .ref q_keptFees, .int v_deep, .ref q_way, .ref q_sorts, .ref q_rowMany, .ref q_items, .ref q_moved], eI q_tape k_tape 80 f_tape]) hP hD rfl
              refine lv_iload_n hx hb dX10_program_61 rfl (lv_at hl 1 rfl) ?_
              refine lv_if_ne (tgt := 73) hx hb dX10_program_62 (by decide) (fun c9 => ?_) (fun c9 => ?_)
              · skip
                have f_c9 := i_ne c9
                refine lv_iconst (v := 0) hx hb dX10_program_73 (by decide) ?_
                refine lv_istore_n (lv' := [(3, .int 0), (2, .int v_taped), (1, .int is), (0, .ref h0)]) hx hb dX10_program_74 rfl hl (by decide) rfl (fun ls hl => ?_)
                have loop_75 : ∀ (n : Nat) (x : Int32) (gt : Nat → Int32), (0 ≤ x.toInt ∧ x.toInt ≤ v_taped.toInt) → (∀ j : Nat, j < 80 * v_programs.toInt.toNat → gt j = f_texts j) → (∀ j : Nat, (j : Int) < x.toInt → gt (80 * v_programs.toInt.toNat + j) = f_tape j) → (v_taped.toInt - x.toInt) < (n : Int) → ∀ (H : Heap) (locs : List Loc), va_K (dC, dI) vwCl [(k_texts, .int), (k_sizes, .int), (k_tape, .int)] s → va_P (dC, dI) vwCl [eI q_texts k_texts 320 gt, eI q_sizes k_sizes 4 f_sizes, eO h0 9 [.ref q_s, .long v_fees, .ref q_thought, .long v_thoughtFees, .ref q_image, .long v_imageFees, .int v_hasImage, .ref q_tape, .int 0, .ref q_texts, .ref q_sizes, .int v_programs, .ref q_imageTexts, .ref q_imageSizes, .int v_imagePrograms, .int hq9, .int ho, .int v_running, .int v_begun, .ref q_held, .ref q_marks, .int v_markMany, .ref q_trace, .int v_traced, .ref q_keptBalances, .ref q_keptFees, .int v_deep, .ref q_way, .ref q_sorts, .ref q_rowMany, .ref q_items, .ref q_moved], eI q_tape k_tape 80 f_tape] H → va_D A [eI q_texts k_texts 320 gt, eI q_sizes k_sizes 4 f_sizes, eO h0 9 [.ref q_s, .long v_fees, .ref q_thought, .long v_thoughtFees, .ref q_image, .long v_imageFees, .int v_hasImage, .ref q_tape, .int 0, .ref q_texts, .ref q_sizes, .int v_programs, .ref q_imageTexts, .ref q_imageSizes, .int v_imagePrograms, .int hq9, .int ho, .int v_running, .int v_begun, .ref q_held, .ref q_marks, .int v_markMany, .ref q_trace, .int v_traced, .ref q_keptBalances, .ref q_keptFees, .int v_deep, .ref q_way, .ref q_sorts, .ref q_rowMany, .ref q_items, .ref q_moved], eI q_tape k_tape 80 f_tape] → va_S A s.heap H locs → ∀ (ls : Array Slot), lv_has ls 4 [(3, .int x), (2, .int v_taped), (1, .int is), (0, .ref h0)] → W p l e ({ frames := 51, cells := 0, slots := 0, locals := 1822 }) s m (([.ref h0] : List Value).toArray) below meth c H locs 0 0 Q9 (F0 m 75 ls []) := by
                  intro n
                  induction n with
                  | zero => intro x gt k1 it1 it2 hM_75; exfalso; omega
                  | succ n ih_75 =>
                    intro x gt k1 it1 it2 hM_75 H locs hK hP hD hS ls hl
                    refine lv_iload_n hx hb dX10_program_75 rfl (lv_at hl 0 rfl) ?_
                    refine lv_iload_n hx hb dX10_program_76 rfl (lv_at hl 1 rfl) ?_
                    refine lv_icmp_ge (tgt := 106) hx hb dX10_program_77 (by decide) (fun c10 => ?_) (fun c10 => ?_)
                    · skip
                      have f_c10 := i_le c10
                      refine lv_aload_n hx hb dX10_program_106 rfl (lv_at hl 3 rfl) ?_
                      refine va_get (D := (dC, dI)) (ci := 9) (v := .ref q_sizes) (C := RX10) (T := TX10) (N := 32) hx hb hts (fun w h => List.mem_cons_of_mem _ (inlX10 w h)) hown hK hP 2 rfl rfl 10 (by decide) (hts (.fieldLink RX10 27 "ClearingGatesModel" "sizes" "[I") (List.mem_cons_of_mem _ mw_619)) (fun _ h9 => h9) rfl dX10_program_107 ?_
                      refine lv_aload_n hx hb dX10_program_110 rfl (lv_at hl 3 rfl) ?_
                      refine va_get (D := (dC, dI)) (ci := 9) (v := .int v_programs) (C := RX10) (T := TX10) (N := 32) hx hb hts (fun w h => List.mem_cons_of_mem _ (inlX10 w h)) hown hK hP 2 rfl rfl 11 (by decide) (hts (.fieldLink RX10 100 "ClearingGatesModel" "programs" "I") (List.mem_cons_of_mem _ mw_620)) (fun _ h9 => h9) rfl dX10_program_111 ?_
                      refine lv_iload_n hx hb dX10_program_114 rfl (lv_at hl 1 rfl) ?_
                      refine va_iast (D := (dC, dI)) hx hb hK hP hD hS 1 1 rfl rfl (vp_in_iff.mpr ⟨by omega, by omega⟩) dX10_program_115 (fun H locs hP hD hS => ?_)
                      generalize e_g11 : (upd f_sizes (v_programs).toNatClampNeg v_taped) = g11 at hP hD
                      obtain ⟨hP, hD⟩ := X_s (ws' := [eI q_texts k_texts 320 gt, eI q_sizes k_sizes 4 g11, eO h0 9 [.ref q_s, .long v_fees, .ref q_thought, .long v_thoughtFees, .ref q_image, .long v_imageFees, .int v_hasImage, .ref q_tape, .int 0, .ref q_texts, .ref q_sizes, .int v_programs, .ref q_imageTexts, .ref q_imageSizes, .int v_imagePrograms, .int hq9, .int ho, .int v_running, .int v_begun, .ref q_held, .ref q_marks, .int v_markMany, .ref q_trace, .int v_traced, .ref q_keptBalances, .ref q_keptFees, .int v_deep, .ref q_way, .ref q_sorts, .ref q_rowMany, .ref q_items, .ref q_moved], eI q_tape k_tape 80 f_tape]) hP hD rfl
                      refine lv_aload_n hx hb dX10_program_116 rfl (lv_at hl 3 rfl) ?_
                      refine lv_dup hx hb dX10_program_117 rfl ?_
                      refine va_get (D := (dC, dI)) (ci := 9) (v := .int v_programs) (C := RX10) (T := TX10) (N := 32) hx hb hts (fun w h => List.mem_cons_of_mem _ (inlX10 w h)) hown hK hP 2 rfl rfl 11 (by decide) (hts (.fieldLink RX10 100 "ClearingGatesModel" "programs" "I") (List.mem_cons_of_mem _ mw_620)) (fun _ h9 => h9) rfl dX10_program_118 ?_
                      refine lv_iconst (v := 1) hx hb dX10_program_121 (by decide) ?_
                      refine lv_iadd hx hb dX10_program_122 ?_
                      refine lv_topi (fun z12 e_z12 => ?_)
                      (first | have t_z12 := i_add e_z12 (by omega) (by omega) | skip)
                      refine va_put (D := (dC, dI)) (ci := 9) (v := .int z12) (ty := .int) (C := RX10) (T := TX10) (N := 32) hx hb hts (fun w h => List.mem_cons_of_mem _ (inlX10 w h)) tyX10 tyX10_ok nmX10 hown hK hP hD hS 2 rfl rfl 11 (by decide) (hts (.fieldLink RX10 100 "ClearingGatesModel" "programs" "I") (List.mem_cons_of_mem _ mw_620)) (fun _ h9 => h9) rfl (by decide +kernel) rfl rfl (Nat.le_of_ble_eq_true rfl) dX10_program_123 (fun H locs hP hD hS => ?_)
                      obtain ⟨hP, hD⟩ := X_s (ws' := [eI q_texts k_texts 320 gt, eI q_sizes k_sizes 4 g11, eO h0 9 [.ref q_s, .long v_fees, .ref q_thought, .long v_thoughtFees, .ref q_image, .long v_imageFees, .int v_hasImage, .ref q_tape, .int 0, .ref q_texts, .ref q_sizes, .int z12, .ref q_imageTexts, .ref q_imageSizes, .int v_imagePrograms, .int hq9, .int ho, .int v_running, .int v_begun, .ref q_held, .ref q_marks, .int v_markMany, .ref q_trace, .int v_traced, .ref q_keptBalances, .ref q_keptFees, .int v_deep, .ref q_way, .ref q_sorts, .ref q_rowMany, .ref q_items, .ref q_moved], eI q_tape k_tape 80 f_tape]) hP hD rfl
                      refine lv_aload_n hx hb dX10_program_126 rfl (lv_at hl 3 rfl) ?_
                      refine va_get (D := (dC, dI)) (ci := 9) (v := .int z12) (C := RX10) (T := TX10) (N := 32) hx hb hts (fun w h => List.mem_cons_of_mem _ (inlX10 w h)) hown hK hP 2 rfl rfl 11 (by decide) (hts (.fieldLink RX10 100 "ClearingGatesModel" "programs" "I") (List.mem_cons_of_mem _ mw_620)) (fun _ h9 => h9) rfl dX10_program_127 ?_
                      refine lv_iconst (v := 1) hx hb dX10_program_130 (by decide) ?_
                      refine lv_isub hx hb dX10_program_131 ?_
                      refine lv_topi (fun z13 e_z13 => ?_)
                      (first | have t_z13 := i_sub e_z13 (by omega) (by omega) | skip)
                      rw [hQ9]
                      exact W.iret (v := z13) hx hb hr (fun t ht hW => ⟨⟨z13, (), rfl, (by first | rfl | trivial), gt, g11, z12, 0, hq9, ho, (by first | assumption | omega | exact fz_rf _ | exact fb_rf _ | exact (fun _ _ _ => rfl)), (by first | assumption | omega | exact fz_rf _ | exact fb_rf _ | exact (fun _ _ _ => rfl)), (by first | assumption | omega | exact fz_rf _ | exact fb_rf _ | exact (fun _ _ _ => rfl)), (by first | assumption | omega | exact fz_rf _ | exact fb_rf _ | exact (fun _ _ _ => rfl)), (by rw [← e_g11]; exact wf_2 hwf (by omega) it1 it2 (by omega) htn (by omega) (by obtain rfl : jx = n9 := (by omega); exact hsq) (by omega)), by rw [ht]; exact P_s hP [(2, 2), (0, 2)] rfl, va_K.moved hW.alike (K_s hK [(2, 1), (0, 2)] rfl), D_s hD [(2, 2), (0, 2)] 4 rfl (by decide +kernel) rfl⟩, hS.F ht⟩) hS.2.2 dX10_program_132
                    · skip
                      have f_c10 := i_nle c10
                      refine lv_aload_n hx hb dX10_program_80 rfl (lv_at hl 3 rfl) ?_
                      refine va_get (D := (dC, dI)) (ci := 9) (v := .ref q_texts) (C := RX10) (T := TX10) (N := 32) hx hb hts (fun w h => List.mem_cons_of_mem _ (inlX10 w h)) hown hK hP 2 rfl rfl 9 (by decide) (hts (.fieldLink RX10 24 "ClearingGatesModel" "texts" "[I") (List.mem_cons_of_mem _ mw_618)) (fun _ h9 => h9) rfl dX10_program_81 ?_
                      refine lv_bipush (v := 80) hx hb dX10_program_84 (by decide) ?_
                      refine lv_aload_n hx hb dX10_program_86 rfl (lv_at hl 3 rfl) ?_
                      refine va_get (D := (dC, dI)) (ci := 9) (v := .int v_programs) (C := RX10) (T := TX10) (N := 32) hx hb hts (fun w h => List.mem_cons_of_mem _ (inlX10 w h)) hown hK hP 2 rfl rfl 11 (by decide) (hts (.fieldLink RX10 100 "ClearingGatesModel" "programs" "I") (List.mem_cons_of_mem _ mw_620)) (fun _ h9 => h9) rfl dX10_program_87 ?_
                      refine lv_imul hx hb dX10_program_90 ?_
                      refine lv_topi (fun z14 e_z14 => ?_)
                      have t_z14 := i_mulc e_z14 k_80 (by omega) (by omega)
                      refine lv_iload_n hx hb dX10_program_91 rfl (lv_at hl 0 rfl) ?_
                      refine lv_iadd hx hb dX10_program_92 ?_
                      refine lv_topi (fun z15 e_z15 => ?_)
                      (first | have t_z15 := i_add e_z15 (by omega) (by omega) | skip)
                      refine lv_aload_n hx hb dX10_program_93 rfl (lv_at hl 3 rfl) ?_
                      refine va_get (D := (dC, dI)) (ci := 9) (v := .ref q_tape) (C := RX10) (T := TX10) (N := 32) hx hb hts (fun w h => List.mem_cons_of_mem _ (inlX10 w h)) hown hK hP 2 rfl rfl 7 (by decide) (hts (.fieldLink RX10 21 "ClearingGatesModel" "tape" "[I") (List.mem_cons_of_mem _ mw_616)) (fun _ h9 => h9) rfl dX10_program_94 ?_
                      refine lv_iload_n hx hb dX10_program_97 rfl (lv_at hl 0 rfl) ?_
                      refine va_iald (D := (dC, dI)) hx hb hK hP 3 2 rfl rfl (vp_in_iff.mpr ⟨by omega, by omega⟩) dX10_program_98 ?_
                      refine lv_topi (fun z16 e_z16 => ?_)
                      refine va_iast (D := (dC, dI)) hx hb hK hP hD hS 0 0 rfl rfl (vp_in_iff.mpr ⟨by omega, by omega⟩) dX10_program_99 (fun H locs hP hD hS => ?_)
                      generalize e_g17 : (upd gt (z15).toNatClampNeg z16) = g17 at hP hD
                      obtain ⟨hP, hD⟩ := X_s (ws' := [eI q_texts k_texts 320 g17, eI q_sizes k_sizes 4 f_sizes, eO h0 9 [.ref q_s, .long v_fees, .ref q_thought, .long v_thoughtFees, .ref q_image, .long v_imageFees, .int v_hasImage, .ref q_tape, .int 0, .ref q_texts, .ref q_sizes, .int v_programs, .ref q_imageTexts, .ref q_imageSizes, .int v_imagePrograms, .int hq9, .int ho, .int v_running, .int v_begun, .ref q_held, .ref q_marks, .int v_markMany, .ref q_trace, .int v_traced, .ref q_keptBalances, .ref q_keptFees, .int v_deep, .ref q_way, .ref q_sorts, .ref q_rowMany, .ref q_items, .ref q_moved], eI q_tape k_tape 80 f_tape]) hP hD rfl
                      obtain ⟨x18, e_x18⟩ : ∃ yy : Int32, yy = x + 1 := ⟨_, rfl⟩
                      refine lv_iinc (v := x18) (lv' := [(3, .int x18), (2, .int v_taped), (1, .int is), (0, .ref h0)]) hx hb dX10_program_100 hl (k := 0) rfl (by rw [e_x18]; rfl) (by decide) rfl (fun ls hl => ?_)
                      (first | have t_x18 := i_add e_x18 (by omega) (by omega) | skip)
                      refine lv_goto (tgt := 75) hx hb dX10_program_103 (by decide) ?_
                      exact ih_75 x18 g17 (by omega) (by rw [← e_g17]; exact tx_1 (x := x) (by omega) (by omega) it1) (by rw [← e_g17]; exact tx_2 (x := x) (by omega) (by omega) (by omega) e_z16 it2) (by omega) _ _ (K_s hK [(0, 3)] rfl) (P_s hP [(0, 4)] rfl) (D_s hD [(0, 4)] 4 rfl (by decide +kernel) rfl) hS ls (lv_sub hl [0, 1, 2, 3] rfl)
                exact loop_75 (1000) 0 f_texts (by omega) (fun _ _ => rfl) (fun j hj => absurd hj (by omega)) (by omega) _ _ hK hP hD hS ls (lv_sub hl [0, 1, 2, 3] rfl)
              · skip
                have f_c9 := i_eq c9
                exfalso; omega
            · skip
              have f_c8 := i_nle c8
              refine lv_aload_n hx hb dX10_program_42 rfl (lv_at hl 1 rfl) ?_
              refine lv_iconst (v := 0) hx hb dX10_program_43 (by decide) ?_
              obtain ⟨hPc, hDc, hFc, hCm, hNw⟩ := C_s (wc := [eO h0 9 [.ref q_s, .long v_fees, .ref q_thought, .long v_thoughtFees, .ref q_image, .long v_imageFees, .int v_hasImage, .ref q_tape, .int v_taped, .ref q_texts, .ref q_sizes, .int v_programs, .ref q_imageTexts, .ref q_imageSizes, .int v_imagePrograms, .int hq9, .int ho, .int v_running, .int v_begun, .ref q_held, .ref q_marks, .int v_markMany, .ref q_trace, .int v_traced, .ref q_keptBalances, .ref q_keptFees, .int v_deep, .ref q_way, .ref q_sorts, .ref q_rowMany, .ref q_items, .ref q_moved], eI q_tape k_tape 80 f_tape]) hP hD hS hA [(2, 2)] 4 rfl (by decide +kernel) rfl
              have hKc := K_s (tys' := [(k_tape, .int)]) hK [(2, 1)] rfl
              refine va_calli (va_runV (As := [.int 0]) (rest := []) ⟨hx, hb, hml, hown, hts⟩ ((kt_all l dC dI 8) h0 0 q_s v_fees q_thought v_thoughtFees q_image v_imageFees v_hasImage q_tape v_taped q_texts q_sizes v_programs q_imageTexts q_imageSizes v_imagePrograms hq9 ho v_running v_begun q_held q_marks v_markMany q_trace v_traced q_keptBalances q_keptFees v_deep q_way q_sorts q_rowMany q_items q_moved k_tape f_tape jx n9 H.size (by first | assumption | omega) (by first | assumption | omega) (by first | assumption | omega) (by first | assumption | omega) (by first | assumption | omega) (by first | assumption | omega)) (cwV 1 hts gX10_program_X10_takesItem rfl rfl rfl (by decide +kernel) ⟨Nat.le_of_ble_eq_true rfl, Nat.le_of_ble_eq_true rfl⟩) ⟨fun a U g mk q => by obtain ⟨q0, q1, qP, qK, qD⟩ := q; exact ⟨q0, q1, qP, va_K.moved (u := U) (U := U.calling g mk a) (Vm.Alike.refl U.vm) qK, qD⟩, va_recv (s := s) (q := (RX10, TX10, 32)) hKc hPc (ci := 9) (q0 := 0) rfl rfl, fun U hU hW => ⟨rfl, by rw [hU], by rw [hU]; exact hPc, va_K.moved hW.alike hKc, hDc.weaken (fun _ _ _ _ => trivial)⟩⟩ rfl rfl hl.1 rfl (lv_room (Nat.le_of_ble_eq_true rfl)) dX10_program_44 ⟨Nat.le_of_ble_eq_true rfl, Nat.le_of_ble_eq_true rfl⟩) hS (fun q _ h => hFc q h) hFc (fun r19 u t H1 locs ht hvm hw hB hz1 hk1 hS => ?_)
              obtain ⟨u20, u21⟩ := u
              obtain ⟨hP1, hK1, hD1⟩ := hB
              rw [ht] at hP1
              have hK1 := va_K.moved hvm.symm hK1
              try dsimp only at hw
              obtain ⟨hP, hD⟩ := J_s (wL := [eI q_texts k_texts 320 f_texts, eI q_sizes k_sizes 4 f_sizes, eO h0 9 [.ref q_s, .long v_fees, .ref q_thought, .long v_thoughtFees, .ref q_image, .long v_imageFees, .int v_hasImage, .ref q_tape, .int v_taped, .ref q_texts, .ref q_sizes, .int v_programs, .ref q_imageTexts, .ref q_imageSizes, .int v_imagePrograms, .int u20, .int u21, .int v_running, .int v_begun, .ref q_held, .ref q_marks, .int v_markMany, .ref q_trace, .int v_traced, .ref q_keptBalances, .ref q_keptFees, .int v_deep, .ref q_way, .ref q_sorts, .ref q_rowMany, .ref q_items, .ref q_moved], eI q_tape k_tape 80 f_tape]) hP hD [(2, 2)] [(0, 2)] hCm hNw (by decide +kernel) hk1 hFc hP1 hD1 rfl
              have hK := KJ_s (tys' := [(k_texts, .int), (k_sizes, .int), (k_tape, .int)]) hK hK1 [(0, 2)] rfl
              generalize H1 = H at hP hS ⊢
              rcases hw with ⟨e_r19, f_r19⟩ | ⟨e_r19, f_r19⟩
              · subst e_r19
                obtain ⟨hoq, e9, he9, hit9⟩ := f_r19
                have hl9 := it_lt _ _ _ hit9
                refine lv_istore_n (lv' := [(1, .int 1), (0, .ref h0)]) hx hb dX10_program_47 rfl hl (by decide) rfl (fun ls hl => ?_)
                refine lv_goto (tgt := 27) hx hb dX10_program_48 (by decide) ?_
                exact ih_27 1 u20 u21 (fu - 1) (by omega) (by omega) (Or.inr ⟨by omega, cx + 1, e9, he9, by omega, sq_snoc cx 0 jx e9 hsq hit9⟩) (by omega) _ _ (K_s hK [(0, 3)] rfl) (P_s hP [(0, 4)] rfl) (D_s hD [(0, 4)] 4 rfl (by decide +kernel) rfl) hS ls (lv_sub hl [0, 1] rfl)
              · subst e_r19
                refine lv_istore_n (lv' := [(1, .int 0), (0, .ref h0)]) hx hb dX10_program_47 rfl hl (by decide) rfl (fun ls hl => ?_)
                refine lv_goto (tgt := 27) hx hb dX10_program_48 (by decide) ?_
                exact ih_27 0 u20 u21 (fu - 1) (by omega) (by omega) (Or.inl rfl) (by omega) _ _ (K_s hK [(0, 3)] rfl) (P_s hP [(0, 4)] rfl) (D_s hD [(0, 4)] 4 rfl (by decide +kernel) rfl) hS ls (lv_sub hl [0, 1] rfl)
      exact loop_27 (1000) 1 u3 u4 ((n9 : Int) + 1) (by omega) (by omega) (Or.inr ⟨by omega, 1, e9, he9, by omega, e9, hit9, rfl⟩) (by omega) _ _ hK hP hD hS ls (lv_sub hl [0, 1] rfl)
    · subst e_r2
      refine lv_istore_n (lv' := [(1, .int 0), (0, .ref h0)]) hx hb dX10_program_26 rfl hl (by decide) rfl (fun ls hl => ?_)
      have loop_27 : ∀ (n : Nat) (is : Int32) (hq9 : Int32) (ho : Int32) (fu : Int), (0 ≤ fu) → (is.toInt ≠ 0 → (n9 : Int) + 1 - hq9.toInt ≤ fu) → (is.toInt = 0 ∨ Pin f_tape n9 ho hq9) → (fu) < (n : Int) → ∀ (H : Heap) (locs : List Loc), va_K (dC, dI) vwCl [(k_texts, .int), (k_sizes, .int), (k_tape, .int)] s → va_P (dC, dI) vwCl [eI q_texts k_texts 320 f_texts, eI q_sizes k_sizes 4 f_sizes, eO h0 9 [.ref q_s, .long v_fees, .ref q_thought, .long v_thoughtFees, .ref q_image, .long v_imageFees, .int v_hasImage, .ref q_tape, .int v_taped, .ref q_texts, .ref q_sizes, .int v_programs, .ref q_imageTexts, .ref q_imageSizes, .int v_imagePrograms, .int hq9, .int ho, .int v_running, .int v_begun, .ref q_held, .ref q_marks, .int v_markMany, .ref q_trace, .int v_traced, .ref q_keptBalances, .ref q_keptFees, .int v_deep, .ref q_way, .ref q_sorts, .ref q_rowMany, .ref q_items, .ref q_moved], eI q_tape k_tape 80 f_tape] H → va_D A [eI q_texts k_texts 320 f_texts, eI q_sizes k_sizes 4 f_sizes, eO h0 9 [.ref q_s, .long v_fees, .ref q_thought, .long v_thoughtFees, .ref q_image, .long v_imageFees, .int v_hasImage, .ref q_tape, .int v_taped, .ref q_texts, .ref q_sizes, .int v_programs, .ref q_imageTexts, .ref q_imageSizes, .int v_imagePrograms, .int hq9, .int ho, .int v_running, .int v_begun, .ref q_held, .ref q_marks, .int v_markMany, .ref q_trace, .int v_traced, .ref q_keptBalances, .ref q_keptFees, .int v_deep, .ref q_way, .ref q_sorts, .ref q_rowMany, .ref q_items, .ref q_moved], eI q_tape k_tape 80 f_tape] → va_S A s.heap H locs → ∀ (ls : Array Slot), lv_has ls 4 [(1, .int is), (0, .ref h0)] → W p l e ({ frames := 51, cells := 0, slots := 0, locals := 1822 }) s m (([.ref h0] : List Value).toArray) below meth c H locs 0 0 Q9 (F0 m 27 ls []) := by
        intro n
        induction n with
        | zero => intro is hq9 ho fu j0 j1 j2 hM_27; exfalso; omega
        | succ n ih_27 =>
          intro is hq9 ho fu j0 j1 j2 hM_27 H locs hK hP hD hS ls hl
          refine lv_iload_n hx hb dX10_program_27 rfl (lv_at hl 0 rfl) ?_
          refine lv_if_eq (tgt := 51) hx hb dX10_program_28 (by decide) (fun c22 => ?_) (fun c22 => ?_)
          · skip
            have f_c22 := i_eq c22
            refine lv_aload_n hx hb dX10_program_51 rfl (lv_at hl 1 rfl) ?_
            refine va_get (D := (dC, dI)) (ci := 9) (v := .int v_taped) (C := RX10) (T := TX10) (N := 32) hx hb hts (fun w h => List.mem_cons_of_mem _ (inlX10 w h)) hown hK hP 2 rfl rfl 8 (by decide) (hts (.fieldLink RX10 107 "ClearingGatesModel" "taped" "I") (List.mem_cons_of_mem _ mw_617)) (fun _ h9 => h9) rfl dX10_program_52 ?_
            refine lv_istore_n (lv' := [(2, .int v_taped), (1, .int is), (0, .ref h0)]) hx hb dX10_program_55 rfl hl (by decide) rfl (fun ls hl => ?_)
            refine lv_aload_n hx hb dX10_program_56 rfl (lv_at hl 2 rfl) ?_
            refine lv_iconst (v := 0) hx hb dX10_program_57 (by decide) ?_
            refine va_put (D := (dC, dI)) (ci := 9) (v := .int 0) (ty := .int) (C := RX10) (T := TX10) (N := 32) hx hb hts (fun w h => List.mem_cons_of_mem _ (inlX10 w h)) tyX10 tyX10_ok nmX10 hown hK hP hD hS 2 rfl rfl 8 (by decide) (hts (.fieldLink RX10 107 "ClearingGatesModel" "taped" "I") (List.mem_cons_of_mem _ mw_617)) (fun _ h9 => h9) rfl (by decide +kernel) rfl rfl (Nat.le_of_ble_eq_true rfl) dX10_program_58 (fun H locs hP hD hS => ?_)
            obtain ⟨hP, hD⟩ := X_s (ws' := [eI q_texts k_texts 320 f_texts, eI q_sizes k_sizes 4 f_sizes, eO h0 9 [.ref q_s, .long v_fees, .ref q_thought, .long v_thoughtFees, .ref q_image, .long v_imageFees, .int v_hasImage, .ref q_tape, .int 0, .ref q_texts, .ref q_sizes, .int v_programs, .ref q_imageTexts, .ref q_imageSizes, .int v_imagePrograms, .int hq9, .int ho, .int v_running, .int v_begun, .ref q_held, .ref q_marks, .int v_markMany, .ref q_trace, .int v_traced, .ref q_keptBalances, .ref q_keptFees, .int v_deep, .ref q_way, .ref q_sorts, .ref q_rowMany, .ref q_items, .ref q_moved], eI q_tape k_tape 80 f_tape]) hP hD rfl
            refine lv_iload_n hx hb dX10_program_61 rfl (lv_at hl 1 rfl) ?_
            refine lv_if_ne (tgt := 73) hx hb dX10_program_62 (by decide) (fun c23 => ?_) (fun c23 => ?_)
            · skip
              have f_c23 := i_ne c23
              exfalso; omega
            · skip
              have f_c23 := i_eq c23
              refine lv_bipush (v := -100) hx hb dX10_program_65 (by decide) ?_
              refine lv_aload_n hx hb dX10_program_67 rfl (lv_at hl 2 rfl) ?_
              refine va_get (D := (dC, dI)) (ci := 9) (v := .int hq9) (C := RX10) (T := TX10) (N := 32) hx hb hts (fun w h => List.mem_cons_of_mem _ (inlX10 w h)) hown hK hP 2 rfl rfl 15 (by decide) (hts (.fieldLink RX10 124 "ClearingGatesModel" "here" "I") (List.mem_cons_of_mem _ mw_624)) (fun _ h9 => h9) rfl dX10_program_68 ?_
              refine lv_isub hx hb dX10_program_71 ?_
              refine lv_topi (fun z24 e_z24 => ?_)
              (first | have t_z24 := i_sub e_z24 (by omega) (by omega) | skip)
              rw [hQ9]
              exact W.iret (v := z24) hx hb hr (fun t ht hW => ⟨⟨z24, (), rfl, (by first | rfl | trivial), f_texts, f_sizes, v_programs, 0, hq9, ho, (by first | assumption | omega | exact fz_rf _ | exact fb_rf _ | exact (fun _ _ _ => rfl)), (by first | assumption | omega | exact fz_rf _ | exact fb_rf _ | exact (fun _ _ _ => rfl)), (by first | assumption | omega | exact fz_rf _ | exact fb_rf _ | exact (fun _ _ _ => rfl)), (by first | assumption | omega | exact fz_rf _ | exact fb_rf _ | exact (fun _ _ _ => rfl)), hwf, by rw [ht]; exact P_s hP [(2, 2), (0, 2)] rfl, va_K.moved hW.alike (K_s hK [(2, 1), (0, 2)] rfl), D_s hD [(2, 2), (0, 2)] 4 rfl (by decide +kernel) rfl⟩, hS.F ht⟩) hS.2.2 dX10_program_72
          · skip
            have f_c22 := i_ne c22
            obtain ⟨hoz, cx, jx, hjx, hjn, hsq⟩ : Pin f_tape n9 ho hq9 := by rcases j2 with q | q; exact absurd q (by omega); exact q
            refine lv_aload_n hx hb dX10_program_31 rfl (lv_at hl 1 rfl) ?_
            refine va_get (D := (dC, dI)) (ci := 9) (v := .int hq9) (C := RX10) (T := TX10) (N := 32) hx hb hts (fun w h => List.mem_cons_of_mem _ (inlX10 w h)) hown hK hP 2 rfl rfl 15 (by decide) (hts (.fieldLink RX10 124 "ClearingGatesModel" "here" "I") (List.mem_cons_of_mem _ mw_624)) (fun _ h9 => h9) rfl dX10_program_32 ?_
            refine lv_aload_n hx hb dX10_program_35 rfl (lv_at hl 1 rfl) ?_
            refine va_get (D := (dC, dI)) (ci := 9) (v := .int v_taped) (C := RX10) (T := TX10) (N := 32) hx hb hts (fun w h => List.mem_cons_of_mem _ (inlX10 w h)) hown hK hP 2 rfl rfl 8 (by decide) (hts (.fieldLink RX10 107 "ClearingGatesModel" "taped" "I") (List.mem_cons_of_mem _ mw_617)) (fun _ h9 => h9) rfl dX10_program_36 ?_
            refine lv_icmp_ge (tgt := 51) hx hb dX10_program_39 (by decide) (fun c25 => ?_) (fun c25 => ?_)
            · skip
              have f_c25 := i_le c25
              refine lv_aload_n hx hb dX10_program_51 rfl (lv_at hl 1 rfl) ?_
              refine va_get (D := (dC, dI)) (ci := 9) (v := .int v_taped) (C := RX10) (T := TX10) (N := 32) hx hb hts (fun w h => List.mem_cons_of_mem _ (inlX10 w h)) hown hK hP 2 rfl rfl 8 (by decide) (hts (.fieldLink RX10 107 "ClearingGatesModel" "taped" "I") (List.mem_cons_of_mem _ mw_617)) (fun _ h9 => h9) rfl dX10_program_52 ?_
              refine lv_istore_n (lv' := [(2, .int v_taped), (1, .int is), (0, .ref h0)]) hx hb dX10_program_55 rfl hl (by decide) rfl (fun ls hl => ?_)
              refine lv_aload_n hx hb dX10_program_56 rfl (lv_at hl 2 rfl) ?_
              refine lv_iconst (v := 0) hx hb dX10_program_57 (by decide) ?_
              refine va_put (D := (dC, dI)) (ci := 9) (v := .int 0) (ty := .int) (C := RX10) (T := TX10) (N := 32) hx hb hts (fun w h => List.mem_cons_of_mem _ (inlX10 w h)) tyX10 tyX10_ok nmX10 hown hK hP hD hS 2 rfl rfl 8 (by decide) (hts (.fieldLink RX10 107 "ClearingGatesModel" "taped" "I") (List.mem_cons_of_mem _ mw_617)) (fun _ h9 => h9) rfl (by decide +kernel) rfl rfl (Nat.le_of_ble_eq_true rfl) dX10_program_58 (fun H locs hP hD hS => ?_)
              obtain ⟨hP, hD⟩ := X_s (ws' := [eI q_texts k_texts 320 f_texts, eI q_sizes k_sizes 4 f_sizes, eO h0 9 [.ref q_s, .long v_fees, .ref q_thought, .long v_thoughtFees, .ref q_image, .long v_imageFees, .int v_hasImage, .ref q_tape, .int 0, .ref q_texts, .ref q_sizes, .int v_programs, .ref q_imageTexts, .ref q_imageSizes, .int v_imagePrograms, .int hq9, .int ho, .int v_running, .int v_begun, .ref q_held, .ref q_marks, .int v_markMany, .ref q_trace, .int v_traced, .ref q_keptBalances, .ref q_keptFees, .int v_deep, .ref q_way, .ref q_sorts, .ref q_rowMany, .ref q_items, .ref q_moved], eI q_tape k_tape 80 f_tape]) hP hD rfl
              refine lv_iload_n hx hb dX10_program_61 rfl (lv_at hl 1 rfl) ?_
              refine lv_if_ne (tgt := 73) hx hb dX10_program_62 (by decide) (fun c26 => ?_) (fun c26 => ?_)
              · skip
                have f_c26 := i_ne c26
                refine lv_iconst (v := 0) hx hb dX10_program_73 (by decide) ?_
                refine lv_istore_n (lv' := [(3, .int 0), (2, .int v_taped), (1, .int is), (0, .ref h0)]) hx hb dX10_program_74 rfl hl (by decide) rfl (fun ls hl => ?_)
                have loop_75 : ∀ (n : Nat) (x : Int32) (gt : Nat → Int32), (0 ≤ x.toInt ∧ x.toInt ≤ v_taped.toInt) → (∀ j : Nat, j < 80 * v_programs.toInt.toNat → gt j = f_texts j) → (∀ j : Nat, (j : Int) < x.toInt → gt (80 * v_programs.toInt.toNat + j) = f_tape j) → (v_taped.toInt - x.toInt) < (n : Int) → ∀ (H : Heap) (locs : List Loc), va_K (dC, dI) vwCl [(k_texts, .int), (k_sizes, .int), (k_tape, .int)] s → va_P (dC, dI) vwCl [eI q_texts k_texts 320 gt, eI q_sizes k_sizes 4 f_sizes, eO h0 9 [.ref q_s, .long v_fees, .ref q_thought, .long v_thoughtFees, .ref q_image, .long v_imageFees, .int v_hasImage, .ref q_tape, .int 0, .ref q_texts, .ref q_sizes, .int v_programs, .ref q_imageTexts, .ref q_imageSizes, .int v_imagePrograms, .int hq9, .int ho, .int v_running, .int v_begun, .ref q_held, .ref q_marks, .int v_markMany, .ref q_trace, .int v_traced, .ref q_keptBalances, .ref q_keptFees, .int v_deep, .ref q_way, .ref q_sorts, .ref q_rowMany, .ref q_items, .ref q_moved], eI q_tape k_tape 80 f_tape] H → va_D A [eI q_texts k_texts 320 gt, eI q_sizes k_sizes 4 f_sizes, eO h0 9 [.ref q_s, .long v_fees, .ref q_thought, .long v_thoughtFees, .ref q_image, .long v_imageFees, .int v_hasImage, .ref q_tape, .int 0, .ref q_texts, .ref q_sizes, .int v_programs, .ref q_imageTexts, .ref q_imageSizes, .int v_imagePrograms, .int hq9, .int ho, .int v_running, .int v_begun, .ref q_held, .ref q_marks, .int v_markMany, .ref q_trace, .int v_traced, .ref q_keptBalances, .ref q_keptFees, .int v_deep, .ref q_way, .ref q_sorts, .ref q_rowMany, .ref q_items, .ref q_moved], eI q_tape k_tape 80 f_tape] → va_S A s.heap H locs → ∀ (ls : Array Slot), lv_has ls 4 [(3, .int x), (2, .int v_taped), (1, .int is), (0, .ref h0)] → W p l e ({ frames := 51, cells := 0, slots := 0, locals := 1822 }) s m (([.ref h0] : List Value).toArray) below meth c H locs 0 0 Q9 (F0 m 75 ls []) := by
                  intro n
                  induction n with
                  | zero => intro x gt k1 it1 it2 hM_75; exfalso; omega
                  | succ n ih_75 =>
                    intro x gt k1 it1 it2 hM_75 H locs hK hP hD hS ls hl
                    refine lv_iload_n hx hb dX10_program_75 rfl (lv_at hl 0 rfl) ?_
                    refine lv_iload_n hx hb dX10_program_76 rfl (lv_at hl 1 rfl) ?_
                    refine lv_icmp_ge (tgt := 106) hx hb dX10_program_77 (by decide) (fun c27 => ?_) (fun c27 => ?_)
                    · skip
                      have f_c27 := i_le c27
                      refine lv_aload_n hx hb dX10_program_106 rfl (lv_at hl 3 rfl) ?_
                      refine va_get (D := (dC, dI)) (ci := 9) (v := .ref q_sizes) (C := RX10) (T := TX10) (N := 32) hx hb hts (fun w h => List.mem_cons_of_mem _ (inlX10 w h)) hown hK hP 2 rfl rfl 10 (by decide) (hts (.fieldLink RX10 27 "ClearingGatesModel" "sizes" "[I") (List.mem_cons_of_mem _ mw_619)) (fun _ h9 => h9) rfl dX10_program_107 ?_
                      refine lv_aload_n hx hb dX10_program_110 rfl (lv_at hl 3 rfl) ?_
                      refine va_get (D := (dC, dI)) (ci := 9) (v := .int v_programs) (C := RX10) (T := TX10) (N := 32) hx hb hts (fun w h => List.mem_cons_of_mem _ (inlX10 w h)) hown hK hP 2 rfl rfl 11 (by decide) (hts (.fieldLink RX10 100 "ClearingGatesModel" "programs" "I") (List.mem_cons_of_mem _ mw_620)) (fun _ h9 => h9) rfl dX10_program_111 ?_
                      refine lv_iload_n hx hb dX10_program_114 rfl (lv_at hl 1 rfl) ?_
                      refine va_iast (D := (dC, dI)) hx hb hK hP hD hS 1 1 rfl rfl (vp_in_iff.mpr ⟨by omega, by omega⟩) dX10_program_115 (fun H locs hP hD hS => ?_)
                      generalize e_g28 : (upd f_sizes (v_programs).toNatClampNeg v_taped) = g28 at hP hD
                      obtain ⟨hP, hD⟩ := X_s (ws' := [eI q_texts k_texts 320 gt, eI q_sizes k_sizes 4 g28, eO h0 9 [.ref q_s, .long v_fees, .ref q_thought, .long v_thoughtFees, .ref q_image, .long v_imageFees, .int v_hasImage, .ref q_tape, .int 0, .ref q_texts, .ref q_sizes, .int v_programs, .ref q_imageTexts, .ref q_imageSizes, .int v_imagePrograms, .int hq9, .int ho, .int v_running, .int v_begun, .ref q_held, .ref q_marks, .int v_markMany, .ref q_trace, .int v_traced, .ref q_keptBalances, .ref q_keptFees, .int v_deep, .ref q_way, .ref q_sorts, .ref q_rowMany, .ref q_items, .ref q_moved], eI q_tape k_tape 80 f_tape]) hP hD rfl
                      refine lv_aload_n hx hb dX10_program_116 rfl (lv_at hl 3 rfl) ?_
                      refine lv_dup hx hb dX10_program_117 rfl ?_
                      refine va_get (D := (dC, dI)) (ci := 9) (v := .int v_programs) (C := RX10) (T := TX10) (N := 32) hx hb hts (fun w h => List.mem_cons_of_mem _ (inlX10 w h)) hown hK hP 2 rfl rfl 11 (by decide) (hts (.fieldLink RX10 100 "ClearingGatesModel" "programs" "I") (List.mem_cons_of_mem _ mw_620)) (fun _ h9 => h9) rfl dX10_program_118 ?_
                      refine lv_iconst (v := 1) hx hb dX10_program_121 (by decide) ?_
                      refine lv_iadd hx hb dX10_program_122 ?_
                      refine lv_topi (fun z29 e_z29 => ?_)
                      (first | have t_z29 := i_add e_z29 (by omega) (by omega) | skip)
                      refine va_put (D := (dC, dI)) (ci := 9) (v := .int z29) (ty := .int) (C := RX10) (T := TX10) (N := 32) hx hb hts (fun w h => List.mem_cons_of_mem _ (inlX10 w h)) tyX10 tyX10_ok nmX10 hown hK hP hD hS 2 rfl rfl 11 (by decide) (hts (.fieldLink RX10 100 "ClearingGatesModel" "programs" "I") (List.mem_cons_of_mem _ mw_620)) (fun _ h9 => h9) rfl (by decide +kernel) rfl rfl (Nat.le_of_ble_eq_true rfl) dX10_program_123 (fun H locs hP hD hS => ?_)
                      obtain ⟨hP, hD⟩ := X_s (ws' := [eI q_texts k_texts 320 gt, eI q_sizes k_sizes 4 g28, eO h0 9 [.ref q_s, .long v_fees, .ref q_thought, .long v_thoughtFees, .ref q_image, .long v_imageFees, .int v_hasImage, .ref q_tape, .int 0, .ref q_texts, .ref q_sizes, .int z29, .ref q_imageTexts, .ref q_imageSizes, .int v_imagePrograms, .int hq9, .int ho, .int v_running, .int v_begun, .ref q_held, .ref q_marks, .int v_markMany, .ref q_trace, .int v_traced, .ref q_keptBalances, .ref q_keptFees, .int v_deep, .ref q_way, .ref q_sorts, .ref q_rowMany, .ref q_items, .ref q_moved], eI q_tape k_tape 80 f_tape]) hP hD rfl
                      refine lv_aload_n hx hb dX10_program_126 rfl (lv_at hl 3 rfl) ?_
                      refine va_get (D := (dC, dI)) (ci := 9) (v := .int z29) (C := RX10) (T := TX10) (N := 32) hx hb hts (fun w h => List.mem_cons_of_mem _ (inlX10 w h)) hown hK hP 2 rfl rfl 11 (by decide) (hts (.fieldLink RX10 100 "ClearingGatesModel" "programs" "I") (List.mem_cons_of_mem _ mw_620)) (fun _ h9 => h9) rfl dX10_program_127 ?_
                      refine lv_iconst (v := 1) hx hb dX10_program_130 (by decide) ?_
                      refine lv_isub hx hb dX10_program_131 ?_
                      refine lv_topi (fun z30 e_z30 => ?_)
                      (first | have t_z30 := i_sub e_z30 (by omega) (by omega) | skip)
                      rw [hQ9]
                      exact W.iret (v := z30) hx hb hr (fun t ht hW => ⟨⟨z30, (), rfl, (by first | rfl | trivial), gt, g28, z29, 0, hq9, ho, (by first | assumption | omega | exact fz_rf _ | exact fb_rf _ | exact (fun _ _ _ => rfl)), (by first | assumption | omega | exact fz_rf _ | exact fb_rf _ | exact (fun _ _ _ => rfl)), (by first | assumption | omega | exact fz_rf _ | exact fb_rf _ | exact (fun _ _ _ => rfl)), (by first | assumption | omega | exact fz_rf _ | exact fb_rf _ | exact (fun _ _ _ => rfl)), (by rw [← e_g28]; exact wf_2 hwf (by omega) it1 it2 (by omega) htn (by omega) (by obtain rfl : jx = n9 := (by omega); exact hsq) (by omega)), by rw [ht]; exact P_s hP [(2, 2), (0, 2)] rfl, va_K.moved hW.alike (K_s hK [(2, 1), (0, 2)] rfl), D_s hD [(2, 2), (0, 2)] 4 rfl (by decide +kernel) rfl⟩, hS.F ht⟩) hS.2.2 dX10_program_132
                    · skip
                      have f_c27 := i_nle c27
                      refine lv_aload_n hx hb dX10_program_80 rfl (lv_at hl 3 rfl) ?_
                      refine va_get (D := (dC, dI)) (ci := 9) (v := .ref q_texts) (C := RX10) (T := TX10) (N := 32) hx hb hts (fun w h => List.mem_cons_of_mem _ (inlX10 w h)) hown hK hP 2 rfl rfl 9 (by decide) (hts (.fieldLink RX10 24 "ClearingGatesModel" "texts" "[I") (List.mem_cons_of_mem _ mw_618)) (fun _ h9 => h9) rfl dX10_program_81 ?_
                      refine lv_bipush (v := 80) hx hb dX10_program_84 (by decide) ?_
                      refine lv_aload_n hx hb dX10_program_86 rfl (lv_at hl 3 rfl) ?_
                      refine va_get (D := (dC, dI)) (ci := 9) (v := .int v_programs) (C := RX10) (T := TX10) (N := 32) hx hb hts (fun w h => List.mem_cons_of_mem _ (inlX10 w h)) hown hK hP 2 rfl rfl 11 (by decide) (hts (.fieldLink RX10 100 "ClearingGatesModel" "programs" "I") (List.mem_cons_of_mem _ mw_620)) (fun _ h9 => h9) rfl dX10_program_87 ?_
                      refine lv_imul hx hb dX10_program_90 ?_
                      refine lv_topi (fun z31 e_z31 => ?_)
                      have t_z31 := i_mulc e_z31 k_80 (by omega) (by omega)
                      refine lv_iload_n hx hb dX10_program_91 rfl (lv_at hl 0 rfl) ?_
                      refine lv_iadd hx hb dX10_program_92 ?_
                      refine lv_topi (fun z32 e_z32 => ?_)
                      (first | have t_z32 := i_add e_z32 (by omega) (by omega) | skip)
                      refine lv_aload_n hx hb dX10_program_93 rfl (lv_at hl 3 rfl) ?_
                      refine va_get (D := (dC, dI)) (ci := 9) (v := .ref q_tape) (C := RX10) (T := TX10) (N := 32) hx hb hts (fun w h => List.mem_cons_of_mem _ (inlX10 w h)) hown hK hP 2 rfl rfl 7 (by decide) (hts (.fieldLink RX10 21 "ClearingGatesModel" "tape" "[I") (List.mem_cons_of_mem _ mw_616)) (fun _ h9 => h9) rfl dX10_program_94 ?_
                      refine lv_iload_n hx hb dX10_program_97 rfl (lv_at hl 0 rfl) ?_
                      refine va_iald (D := (dC, dI)) hx hb hK hP 3 2 rfl rfl (vp_in_iff.mpr ⟨by omega, by omega⟩) dX10_program_98 ?_
                      refine lv_topi (fun z33 e_z33 => ?_)
                      refine va_iast (D := (dC, dI)) hx hb hK hP hD hS 0 0 rfl rfl (vp_in_iff.mpr ⟨by omega, by omega⟩) dX10_program_99 (fun H locs hP hD hS => ?_)
                      generalize e_g34 : (upd gt (z32).toNatClampNeg z33) = g34 at hP hD
                      obtain ⟨hP, hD⟩ := X_s (ws' := [eI q_texts k_texts 320 g34, eI q_sizes k_sizes 4 f_sizes, eO h0 9 [.ref q_s, .long v_fees, .ref q_thought, .long v_thoughtFees, .ref q_image, .long v_imageFees, .int v_hasImage, .ref q_tape, .int 0, .ref q_texts, .ref q_sizes, .int v_programs, .ref q_imageTexts, .ref q_imageSizes, .int v_imagePrograms, .int hq9, .int ho, .int v_running, .int v_begun, .ref q_held, .ref q_marks, .int v_markMany, .ref q_trace, .int v_traced, .ref q_keptBalances, .ref q_keptFees, .int v_deep, .ref q_way, .ref q_sorts, .ref q_rowMany, .ref q_items, .ref q_moved], eI q_tape k_tape 80 f_tape]) hP hD rfl
                      obtain ⟨x35, e_x35⟩ : ∃ yy : Int32, yy = x + 1 := ⟨_, rfl⟩
                      refine lv_iinc (v := x35) (lv' := [(3, .int x35), (2, .int v_taped), (1, .int is), (0, .ref h0)]) hx hb dX10_program_100 hl (k := 0) rfl (by rw [e_x35]; rfl) (by decide) rfl (fun ls hl => ?_)
                      (first | have t_x35 := i_add e_x35 (by omega) (by omega) | skip)
                      refine lv_goto (tgt := 75) hx hb dX10_program_103 (by decide) ?_
                      exact ih_75 x35 g34 (by omega) (by rw [← e_g34]; exact tx_1 (x := x) (by omega) (by omega) it1) (by rw [← e_g34]; exact tx_2 (x := x) (by omega) (by omega) (by omega) e_z33 it2) (by omega) _ _ (K_s hK [(0, 3)] rfl) (P_s hP [(0, 4)] rfl) (D_s hD [(0, 4)] 4 rfl (by decide +kernel) rfl) hS ls (lv_sub hl [0, 1, 2, 3] rfl)
                exact loop_75 (1000) 0 f_texts (by omega) (fun _ _ => rfl) (fun j hj => absurd hj (by omega)) (by omega) _ _ hK hP hD hS ls (lv_sub hl [0, 1, 2, 3] rfl)
              · skip
                have f_c26 := i_eq c26
                exfalso; omega
            · skip
              have f_c25 := i_nle c25
              refine lv_aload_n hx hb dX10_program_42 rfl (lv_at hl 1 rfl) ?_
              refine lv_iconst (v := 0) hx hb dX10_program_43 (by decide) ?_
              obtain ⟨hPc, hDc, hFc, hCm, hNw⟩ := C_s (wc := [eO h0 9 [.ref q_s, .long v_fees, .ref q_thought, .long v_thoughtFees, .ref q_image, .long v_imageFees, .int v_hasImage, .ref q_tape, .int v_taped, .ref q_texts, .ref q_sizes, .int v_programs, .ref q_imageTexts, .ref q_imageSizes, .int v_imagePrograms, .int hq9, .int ho, .int v_running, .int v_begun, .ref q_held, .ref q_marks, .int v_markMany, .ref q_trace, .int v_traced, .ref q_keptBalances, .ref q_keptFees, .int v_deep, .ref q_way, .ref q_sorts, .ref q_rowMany, .ref q_items, .ref q_moved], eI q_tape k_tape 80 f_tape]) hP hD hS hA [(2, 2)] 4 rfl (by decide +kernel) rfl
              have hKc := K_s (tys' := [(k_tape, .int)]) hK [(2, 1)] rfl
              refine va_calli (va_runV (As := [.int 0]) (rest := []) ⟨hx, hb, hml, hown, hts⟩ ((kt_all l dC dI 8) h0 0 q_s v_fees q_thought v_thoughtFees q_image v_imageFees v_hasImage q_tape v_taped q_texts q_sizes v_programs q_imageTexts q_imageSizes v_imagePrograms hq9 ho v_running v_begun q_held q_marks v_markMany q_trace v_traced q_keptBalances q_keptFees v_deep q_way q_sorts q_rowMany q_items q_moved k_tape f_tape jx n9 H.size (by first | assumption | omega) (by first | assumption | omega) (by first | assumption | omega) (by first | assumption | omega) (by first | assumption | omega) (by first | assumption | omega)) (cwV 1 hts gX10_program_X10_takesItem rfl rfl rfl (by decide +kernel) ⟨Nat.le_of_ble_eq_true rfl, Nat.le_of_ble_eq_true rfl⟩) ⟨fun a U g mk q => by obtain ⟨q0, q1, qP, qK, qD⟩ := q; exact ⟨q0, q1, qP, va_K.moved (u := U) (U := U.calling g mk a) (Vm.Alike.refl U.vm) qK, qD⟩, va_recv (s := s) (q := (RX10, TX10, 32)) hKc hPc (ci := 9) (q0 := 0) rfl rfl, fun U hU hW => ⟨rfl, by rw [hU], by rw [hU]; exact hPc, va_K.moved hW.alike hKc, hDc.weaken (fun _ _ _ _ => trivial)⟩⟩ rfl rfl hl.1 rfl (lv_room (Nat.le_of_ble_eq_true rfl)) dX10_program_44 ⟨Nat.le_of_ble_eq_true rfl, Nat.le_of_ble_eq_true rfl⟩) hS (fun q _ h => hFc q h) hFc (fun r36 u t H1 locs ht hvm hw hB hz1 hk1 hS => ?_)
              obtain ⟨u37, u38⟩ := u
              obtain ⟨hP1, hK1, hD1⟩ := hB
              rw [ht] at hP1
              have hK1 := va_K.moved hvm.symm hK1
              try dsimp only at hw
              obtain ⟨hP, hD⟩ := J_s (wL := [eI q_texts k_texts 320 f_texts, eI q_sizes k_sizes 4 f_sizes, eO h0 9 [.ref q_s, .long v_fees, .ref q_thought, .long v_thoughtFees, .ref q_image, .long v_imageFees, .int v_hasImage, .ref q_tape, .int v_taped, .ref q_texts, .ref q_sizes, .int v_programs, .ref q_imageTexts, .ref q_imageSizes, .int v_imagePrograms, .int u37, .int u38, .int v_running, .int v_begun, .ref q_held, .ref q_marks, .int v_markMany, .ref q_trace, .int v_traced, .ref q_keptBalances, .ref q_keptFees, .int v_deep, .ref q_way, .ref q_sorts, .ref q_rowMany, .ref q_items, .ref q_moved], eI q_tape k_tape 80 f_tape]) hP hD [(2, 2)] [(0, 2)] hCm hNw (by decide +kernel) hk1 hFc hP1 hD1 rfl
              have hK := KJ_s (tys' := [(k_texts, .int), (k_sizes, .int), (k_tape, .int)]) hK hK1 [(0, 2)] rfl
              generalize H1 = H at hP hS ⊢
              rcases hw with ⟨e_r36, f_r36⟩ | ⟨e_r36, f_r36⟩
              · subst e_r36
                obtain ⟨hoq, e9, he9, hit9⟩ := f_r36
                have hl9 := it_lt _ _ _ hit9
                refine lv_istore_n (lv' := [(1, .int 1), (0, .ref h0)]) hx hb dX10_program_47 rfl hl (by decide) rfl (fun ls hl => ?_)
                refine lv_goto (tgt := 27) hx hb dX10_program_48 (by decide) ?_
                exact ih_27 1 u37 u38 (fu - 1) (by omega) (by omega) (Or.inr ⟨by omega, cx + 1, e9, he9, by omega, sq_snoc cx 0 jx e9 hsq hit9⟩) (by omega) _ _ (K_s hK [(0, 3)] rfl) (P_s hP [(0, 4)] rfl) (D_s hD [(0, 4)] 4 rfl (by decide +kernel) rfl) hS ls (lv_sub hl [0, 1] rfl)
              · subst e_r36
                refine lv_istore_n (lv' := [(1, .int 0), (0, .ref h0)]) hx hb dX10_program_47 rfl hl (by decide) rfl (fun ls hl => ?_)
                refine lv_goto (tgt := 27) hx hb dX10_program_48 (by decide) ?_
                exact ih_27 0 u37 u38 (fu - 1) (by omega) (by omega) (Or.inl rfl) (by omega) _ _ (K_s hK [(0, 3)] rfl) (P_s hP [(0, 4)] rfl) (D_s hD [(0, 4)] 4 rfl (by decide +kernel) rfl) hS ls (lv_sub hl [0, 1] rfl)
      exact loop_27 (1000) 0 u3 u4 ((n9 : Int) + 1) (by omega) (by omega) (Or.inl rfl) (by omega) _ _ hK hP hD hS ls (lv_sub hl [0, 1] rfl)
  · skip
    have f_c1 := i_eq c1
    refine lv_bipush (v := -4) hx hb dX10_program_8 (by decide) ?_
    rw [hQ9]
    exact W.iret (v := (-4)) hx hb hr (fun t ht hW => ⟨⟨(-4), (), rfl, (by first | rfl | trivial), f_texts, f_sizes, v_programs, v_taped, v_here, v_open, (by first | assumption | omega | exact fz_rf _ | exact fb_rf _ | exact (fun _ _ _ => rfl)), (by first | assumption | omega | exact fz_rf _ | exact fb_rf _ | exact (fun _ _ _ => rfl)), (by first | assumption | omega | exact fz_rf _ | exact fb_rf _ | exact (fun _ _ _ => rfl)), (by first | assumption | omega | exact fz_rf _ | exact fb_rf _ | exact (fun _ _ _ => rfl)), hwf, by rw [ht]; exact hP, va_K.moved hW.alike hK, hD⟩, hS.F ht⟩) hS.2.2 dX10_program_10
