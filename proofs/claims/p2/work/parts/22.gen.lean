set_option maxRecDepth 100000 in
set_option maxHeartbeats 4000000 in
/-- feed of the reference -/
theorem c_X10_feed (l : Launch) (dC : Nat → ClassId) (dI : Nat → Nat → Nat) (h0 : Nat) (p0 : Int32) (p1 : Int32) (p2 : Int32) (p3 : Int32) (p4 : Int32) (p5 : Int32) (q_s : Nat) (v_fees : Int64) (q_thought : Nat) (v_thoughtFees : Int64) (q_image : Nat) (v_imageFees : Int64) (v_hasImage : Int32) (q_tape : Nat) (v_taped : Int32) (q_texts : Nat) (q_sizes : Nat) (v_programs : Int32) (q_imageTexts : Nat) (q_imageSizes : Nat) (v_imagePrograms : Int32) (v_here : Int32) (v_open : Int32) (v_running : Int32) (v_begun : Int32) (q_held : Nat) (q_marks : Nat) (v_markMany : Int32) (q_trace : Nat) (v_traced : Int32) (q_keptBalances : Nat) (q_keptFees : Nat) (v_deep : Int32) (q_way : Nat) (q_sorts : Nat) (q_rowMany : Nat) (q_items : Nat) (q_moved : Nat) (k_tape : ClassId) (f_tape : Nat → Int32) (sz : Nat) (ht1 : 0 ≤ v_taped.toInt) (ht2 : v_taped.toInt ≤ 80) : Met l yX10_feed wsX10_feed ({ frames := 2, cells := 0, slots := 0, locals := 45 }) (va_Pc [.ref h0, .int p0, .int p1, .int p2, .int p3, .int p4, .int p5] (fun U => U.heap.size = sz ∧ va_P (dC, dI) vwCl [eO h0 9 [.ref q_s, .long v_fees, .ref q_thought, .long v_thoughtFees, .ref q_image, .long v_imageFees, .int v_hasImage, .ref q_tape, .int v_taped, .ref q_texts, .ref q_sizes, .int v_programs, .ref q_imageTexts, .ref q_imageSizes, .int v_imagePrograms, .int v_here, .int v_open, .int v_running, .int v_begun, .ref q_held, .ref q_marks, .int v_markMany, .ref q_trace, .int v_traced, .ref q_keptBalances, .ref q_keptFees, .int v_deep, .ref q_way, .ref q_sorts, .ref q_rowMany, .ref q_items, .ref q_moved], eI q_tape k_tape 80 f_tape] U.heap ∧ va_K (dC, dI) vwCl [(k_tape, .int)] U ∧ va_D (fun _ => True) [eO h0 9 [.ref q_s, .long v_fees, .ref q_thought, .long v_thoughtFees, .ref q_image, .long v_imageFees, .int v_hasImage, .ref q_tape, .int v_taped, .ref q_texts, .ref q_sizes, .int v_programs, .ref q_imageTexts, .ref q_imageSizes, .int v_imagePrograms, .int v_here, .int v_open, .int v_running, .int v_begun, .ref q_held, .ref q_marks, .int v_markMany, .ref q_trace, .int v_traced, .ref q_keptBalances, .ref q_keptFees, .int v_deep, .ref q_way, .ref q_sorts, .ref q_rowMany, .ref q_items, .ref q_moved], eI q_tape k_tape 80 f_tape])) (va_Qi (fun (r : Int32) (_ : Unit) => True) (fun (_ : Unit) (t : State) => ∃ (f_tape' : Nat → Int32), ∃ (v_taped' : Int32), (0 ≤ v_taped'.toInt) ∧ (v_taped'.toInt ≤ 80) ∧ va_P (dC, dI) vwCl [eO h0 9 [.ref q_s, .long v_fees, .ref q_thought, .long v_thoughtFees, .ref q_image, .long v_imageFees, .int v_hasImage, .ref q_tape, .int v_taped', .ref q_texts, .ref q_sizes, .int v_programs, .ref q_imageTexts, .ref q_imageSizes, .int v_imagePrograms, .int v_here, .int v_open, .int v_running, .int v_begun, .ref q_held, .ref q_marks, .int v_markMany, .ref q_trace, .int v_traced, .ref q_keptBalances, .ref q_keptFees, .int v_deep, .ref q_way, .ref q_sorts, .ref q_rowMany, .ref q_items, .ref q_moved], eI q_tape k_tape 80 (f_tape')] t.heap ∧ va_K (dC, dI) vwCl [(k_tape, .int)] t ∧ va_D (va_A [eO h0 9 [.ref q_s, .long v_fees, .ref q_thought, .long v_thoughtFees, .ref q_image, .long v_imageFees, .int v_hasImage, .ref q_tape, .int v_taped, .ref q_texts, .ref q_sizes, .int v_programs, .ref q_imageTexts, .ref q_imageSizes, .int v_imagePrograms, .int v_here, .int v_open, .int v_running, .int v_begun, .ref q_held, .ref q_marks, .int v_markMany, .ref q_trace, .int v_traced, .ref q_keptBalances, .ref q_keptFees, .int v_deep, .ref q_way, .ref q_sorts, .ref q_rowMany, .ref q_items, .ref q_moved], eI q_tape k_tape 80 f_tape] sz) [eO h0 9 [.ref q_s, .long v_fees, .ref q_thought, .long v_thoughtFees, .ref q_image, .long v_imageFees, .int v_hasImage, .ref q_tape, .int v_taped', .ref q_texts, .ref q_sizes, .int v_programs, .ref q_imageTexts, .ref q_imageSizes, .int v_imagePrograms, .int v_here, .int v_open, .int v_running, .int v_begun, .ref q_held, .ref q_marks, .int v_markMany, .ref q_trace, .int v_traced, .ref q_keptBalances, .ref q_keptFees, .int v_deep, .ref q_way, .ref q_sorts, .ref q_rowMany, .ref q_items, .ref q_moved], eI q_tape k_tape 80 (f_tape')]) (va_A [eO h0 9 [.ref q_s, .long v_fees, .ref q_thought, .long v_thoughtFees, .ref q_image, .long v_imageFees, .int v_hasImage, .ref q_tape, .int v_taped, .ref q_texts, .ref q_sizes, .int v_programs, .ref q_imageTexts, .ref q_imageSizes, .int v_imagePrograms, .int v_here, .int v_open, .int v_running, .int v_begun, .ref q_held, .ref q_marks, .int v_markMany, .ref q_trace, .int v_traced, .ref q_keptBalances, .ref q_keptFees, .int v_deep, .ref q_way, .ref q_sorts, .ref q_rowMany, .ref q_items, .ref q_moved], eI q_tape k_tape 80 f_tape] sz)) 0 0 (va_A [eO h0 9 [.ref q_s, .long v_fees, .ref q_thought, .long v_thoughtFees, .ref q_image, .long v_imageFees, .int v_hasImage, .ref q_tape, .int v_taped, .ref q_texts, .ref q_sizes, .int v_programs, .ref q_imageTexts, .ref q_imageSizes, .int v_imagePrograms, .int v_here, .int v_open, .int v_running, .int v_begun, .ref q_held, .ref q_marks, .int v_markMany, .ref q_trace, .int v_traced, .ref q_keptBalances, .ref q_keptFees, .int v_deep, .ref q_way, .ref q_sorts, .ref q_rowMany, .ref q_items, .ref q_moved], eI q_tape k_tape 80 f_tape] sz) := by
  refine Met.ofW (cc := cX10_feed) (maxL := 8) (ret := (some .int)) (by decide) rfl ?_
  intro p e s m args below meth c s₁ B hml hv
  obtain ⟨rfl, hsz, hP, hK, hD0⟩ := hv
  have hx := B.exec
  have hb := B.bytes
  have hr := B.returns
  have hts := atoms_spec (ws := wsX10_feed) B.pre
  have hown : s.vm.findClass RX10 = some m.cls := findClass_of_methodNamed B.named
  have hlocks := B.notSynchronized
  subst hsz
  have hD := hD0.self (sz := s.heap.size)
  generalize hAe : va_A [eO h0 9 [.ref q_s, .long v_fees, .ref q_thought, .long v_thoughtFees, .ref q_image, .long v_imageFees, .int v_hasImage, .ref q_tape, .int v_taped, .ref q_texts, .ref q_sizes, .int v_programs, .ref q_imageTexts, .ref q_imageSizes, .int v_imagePrograms, .int v_here, .int v_open, .int v_running, .int v_begun, .ref q_held, .ref q_marks, .int v_markMany, .ref q_trace, .int v_traced, .ref q_keptBalances, .ref q_keptFees, .int v_deep, .ref q_way, .ref q_sorts, .ref q_rowMany, .ref q_items, .ref q_moved], eI q_tape k_tape 80 f_tape] s.heap.size = A at hD ⊢
  have hA : ∀ q : Nat, s.heap.size ≤ q → A q := fun q h => by rw [← hAe]; exact Or.inr h
  have hS : va_S A s.heap s.heap [] := va_S.rf
  have hP : va_P (dC, dI) vwCl [eO h0 9 [.ref q_s, .long v_fees, .ref q_thought, .long v_thoughtFees, .ref q_image, .long v_imageFees, .int v_hasImage, .ref q_tape, .int v_taped, .ref q_texts, .ref q_sizes, .int v_programs, .ref q_imageTexts, .ref q_imageSizes, .int v_imagePrograms, .int v_here, .int v_open, .int v_running, .int v_begun, .ref q_held, .ref q_marks, .int v_markMany, .ref q_trace, .int v_traced, .ref q_keptBalances, .ref q_keptFees, .int v_deep, .ref q_way, .ref q_sorts, .ref q_rowMany, .ref q_items, .ref q_moved], eI q_tape k_tape 80 f_tape] s.heap := hP
  have hl := lv_entry ([.ref h0, .int p0, .int p1, .int p2, .int p3, .int p4, .int p5]) (n := 8) (Nat.le_of_ble_eq_true rfl)
  rw [lg_entry_eq]
  generalize (lg_sl ([.ref h0, .int p0, .int p1, .int p2, .int p3, .int p4, .int p5]) ++ List.replicate (8 - (lg_sl ([.ref h0, .int p0, .int p1, .int p2, .int p3, .int p4, .int p5])).length) Slot.unset).toArray = ls at hl ⊢
  have hl : lv_has ls 8 [(0, .ref h0), (1, .int p0), (2, .int p1), (3, .int p2), (4, .int p3), (5, .int p4), (6, .int p5)] := hl
  suffices key9 : ∀ Q9 : State → Prop, Q9 = (MQ below (va_Qi (fun (r : Int32) (_ : Unit) => True) (fun (_ : Unit) (t : State) => ∃ (f_tape' : Nat → Int32), ∃ (v_taped' : Int32), (0 ≤ v_taped'.toInt) ∧ (v_taped'.toInt ≤ 80) ∧ va_P (dC, dI) vwCl [eO h0 9 [.ref q_s, .long v_fees, .ref q_thought, .long v_thoughtFees, .ref q_image, .long v_imageFees, .int v_hasImage, .ref q_tape, .int v_taped', .ref q_texts, .ref q_sizes, .int v_programs, .ref q_imageTexts, .ref q_imageSizes, .int v_imagePrograms, .int v_here, .int v_open, .int v_running, .int v_begun, .ref q_held, .ref q_marks, .int v_markMany, .ref q_trace, .int v_traced, .ref q_keptBalances, .ref q_keptFees, .int v_deep, .ref q_way, .ref q_sorts, .ref q_rowMany, .ref q_items, .ref q_moved], eI q_tape k_tape 80 (f_tape')] t.heap ∧ va_K (dC, dI) vwCl [(k_tape, .int)] t ∧ va_D A [eO h0 9 [.ref q_s, .long v_fees, .ref q_thought, .long v_thoughtFees, .ref q_image, .long v_imageFees, .int v_hasImage, .ref q_tape, .int v_taped', .ref q_texts, .ref q_sizes, .int v_programs, .ref q_imageTexts, .ref q_imageSizes, .int v_imagePrograms, .int v_here, .int v_open, .int v_running, .int v_begun, .ref q_held, .ref q_marks, .int v_markMany, .ref q_trace, .int v_traced, .ref q_keptBalances, .ref q_keptFees, .int v_deep, .ref q_way, .ref q_sorts, .ref q_rowMany, .ref q_items, .ref q_moved], eI q_tape k_tape 80 (f_tape')]) A) (([.ref h0, .int p0, .int p1, .int p2, .int p3, .int p4, .int p5] : List Value).toArray) s 0 0 A) → W p l e ({ frames := 2, cells := 0, slots := 0, locals := 45 }) s m (([.ref h0, .int p0, .int p1, .int p2, .int p3, .int p4, .int p5] : List Value).toArray) below meth c s.heap [] 0 0 Q9 (F0 m 0 ls []) from key9 _ rfl
  intro Q9 hQ9
  have k_m4 : ((-4) : Int32).toInt = (-4) := by decide
  have k_m2 : ((-2) : Int32).toInt = (-2) := by decide
  have k_0 : (0 : Int32).toInt = 0 := by decide
  have k_1 : (1 : Int32).toInt = 1 := by decide
  have k_2 : (2 : Int32).toInt = 2 := by decide
  have k_3 : (3 : Int32).toInt = 3 := by decide
  have k_80 : (80 : Int32).toInt = 80 := by decide
  have kl_1 : (1 : Int64).toInt = 1 := by decide
  have kl_5 : (5 : Int64).toInt = 5 := by decide
  refine lv_iload_n hx hb dX10_feed_0 rfl (lv_at hl 1 rfl) ?_
  refine lv_i2l (v := p0.toInt64) hx hb dX10_feed_1 rfl ?_
  have t_t1 := Int32.toInt_toInt64 p0
  refine lv_lconst (v := 1) hx hb dX10_feed_2 (by decide) ?_
  refine lv_ldc2 hx hb hown (hts (.constantLong RX10 119 (5)) (List.mem_cons_of_mem _ mw_703)) dX10_feed_3 ?_
  obtain ⟨hPc, hDc, hFc, hCm, hNw⟩ := C_s (wc := []) hP hD hS hA [] 2 rfl (by decide +kernel) rfl
  have hKc := K_s (tys' := []) hK [] rfl
  refine va_calli (va_runS (As := [.long p0.toInt64, .long 1, .long 5]) (rest := []) ⟨hx, hb, hml, hown, hts⟩ (c_X10_isIn l dC dI (p0.toInt64) 1 5 s.heap.size) (va_cwS 3 hts gX10_feed_X10_isIn rfl rfl rfl (by decide +kernel) ⟨Nat.le_of_ble_eq_true rfl, Nat.le_of_ble_eq_true rfl⟩) ⟨fun a U g mk q => by obtain ⟨q0, q1, qP, qK, qD⟩ := q; exact ⟨q0, q1, qP, va_K.moved (u := U) (U := U.calling g mk a) (Vm.Alike.refl U.vm) qK, qD⟩, fun U hU hW => ⟨rfl, by rw [hU], by rw [hU]; exact hPc, va_K.moved hW.alike hKc, hDc.weaken (fun _ _ _ _ => trivial)⟩⟩ rfl rfl hl.1 rfl (lv_room (Nat.le_of_ble_eq_true rfl)) dX10_feed_6 ⟨Nat.le_of_ble_eq_true rfl, Nat.le_of_ble_eq_true rfl⟩) hS (fun q _ h => hFc q h) hFc (fun r2 u t H1 locs ht hvm hw hB hz1 hk1 hS => ?_)
  obtain ⟨hP1, hK1, hD1⟩ := hB
  rw [ht] at hP1
  have hK1 := va_K.moved hvm.symm hK1
  try dsimp only at hw
  obtain ⟨hP, hD⟩ := J_s (wL := [eO h0 9 [.ref q_s, .long v_fees, .ref q_thought, .long v_thoughtFees, .ref q_image, .long v_imageFees, .int v_hasImage, .ref q_tape, .int v_taped, .ref q_texts, .ref q_sizes, .int v_programs, .ref q_imageTexts, .ref q_imageSizes, .int v_imagePrograms, .int v_here, .int v_open, .int v_running, .int v_begun, .ref q_held, .ref q_marks, .int v_markMany, .ref q_trace, .int v_traced, .ref q_keptBalances, .ref q_keptFees, .int v_deep, .ref q_way, .ref q_sorts, .ref q_rowMany, .ref q_items, .ref q_moved], eI q_tape k_tape 80 f_tape]) hP hD [] [(0, 2)] hCm hNw (by decide +kernel) hk1 hFc hP1 hD1 rfl
  have hK := KJ_s (tys' := [(k_tape, .int)]) hK hK1 [(0, 1)] rfl
  generalize H1 = H at hP hS ⊢
  rcases hw with ⟨e_r2, f_r2⟩ | ⟨e_r2, f_r2⟩
  · subst e_r2
    refine lv_if_eq (tgt := 50) hx hb dX10_feed_9 (by decide) (fun c3 => absurd c3 (by decide)) (fun c3 => ?_)
    refine lv_iload_n hx hb dX10_feed_12 rfl (lv_at hl 2 rfl) ?_
    obtain ⟨hPc, hDc, hFc, hCm, hNw⟩ := C_s (wc := []) hP hD hS hA [] 2 rfl (by decide +kernel) rfl
    have hKc := K_s (tys' := []) hK [] rfl
    refine va_calli (va_runS (As := [.int p1]) (rest := []) ⟨hx, hb, hml, hown, hts⟩ (c_X10_isByte l dC dI p1 H.size) (va_cwS 1 hts gX10_feed_X10_isByte rfl rfl rfl (by decide +kernel) ⟨Nat.le_of_ble_eq_true rfl, Nat.le_of_ble_eq_true rfl⟩) ⟨fun a U g mk q => by obtain ⟨q0, q1, qP, qK, qD⟩ := q; exact ⟨q0, q1, qP, va_K.moved (u := U) (U := U.calling g mk a) (Vm.Alike.refl U.vm) qK, qD⟩, fun U hU hW => ⟨rfl, by rw [hU], by rw [hU]; exact hPc, va_K.moved hW.alike hKc, hDc.weaken (fun _ _ _ _ => trivial)⟩⟩ rfl rfl hl.1 rfl (lv_room (Nat.le_of_ble_eq_true rfl)) dX10_feed_13 ⟨Nat.le_of_ble_eq_true rfl, Nat.le_of_ble_eq_true rfl⟩) hS (fun q _ h => hFc q h) hFc (fun r4 u t H1 locs ht hvm hw hB hz1 hk1 hS => ?_)
    obtain ⟨hP1, hK1, hD1⟩ := hB
    rw [ht] at hP1
    have hK1 := va_K.moved hvm.symm hK1
    try dsimp only at hw
    obtain ⟨hP, hD⟩ := J_s (wL := [eO h0 9 [.ref q_s, .long v_fees, .ref q_thought, .long v_thoughtFees, .ref q_image, .long v_imageFees, .int v_hasImage, .ref q_tape, .int v_taped, .ref q_texts, .ref q_sizes, .int v_programs, .ref q_imageTexts, .ref q_imageSizes, .int v_imagePrograms, .int v_here, .int v_open, .int v_running, .int v_begun, .ref q_held, .ref q_marks, .int v_markMany, .ref q_trace, .int v_traced, .ref q_keptBalances, .ref q_keptFees, .int v_deep, .ref q_way, .ref q_sorts, .ref q_rowMany, .ref q_items, .ref q_moved], eI q_tape k_tape 80 f_tape]) hP hD [] [(0, 2)] hCm hNw (by decide +kernel) hk1 hFc hP1 hD1 rfl
    have hK := KJ_s (tys' := [(k_tape, .int)]) hK hK1 [(0, 1)] rfl
    generalize H1 = H at hP hS ⊢
    rcases hw with ⟨e_r4, f_r4⟩ | ⟨e_r4, f_r4⟩
    · subst e_r4
      refine lv_if_eq (tgt := 50) hx hb dX10_feed_16 (by decide) (fun c5 => absurd c5 (by decide)) (fun c5 => ?_)
      refine lv_iload_n hx hb dX10_feed_19 rfl (lv_at hl 3 rfl) ?_
      obtain ⟨hPc, hDc, hFc, hCm, hNw⟩ := C_s (wc := []) hP hD hS hA [] 2 rfl (by decide +kernel) rfl
      have hKc := K_s (tys' := []) hK [] rfl
      refine va_calli (va_runS (As := [.int p2]) (rest := []) ⟨hx, hb, hml, hown, hts⟩ (c_X10_isByte l dC dI p2 H.size) (va_cwS 1 hts gX10_feed_X10_isByte rfl rfl rfl (by decide +kernel) ⟨Nat.le_of_ble_eq_true rfl, Nat.le_of_ble_eq_true rfl⟩) ⟨fun a U g mk q => by obtain ⟨q0, q1, qP, qK, qD⟩ := q; exact ⟨q0, q1, qP, va_K.moved (u := U) (U := U.calling g mk a) (Vm.Alike.refl U.vm) qK, qD⟩, fun U hU hW => ⟨rfl, by rw [hU], by rw [hU]; exact hPc, va_K.moved hW.alike hKc, hDc.weaken (fun _ _ _ _ => trivial)⟩⟩ rfl rfl hl.1 rfl (lv_room (Nat.le_of_ble_eq_true rfl)) dX10_feed_20 ⟨Nat.le_of_ble_eq_true rfl, Nat.le_of_ble_eq_true rfl⟩) hS (fun q _ h => hFc q h) hFc (fun r6 u t H1 locs ht hvm hw hB hz1 hk1 hS => ?_)
      obtain ⟨hP1, hK1, hD1⟩ := hB
      rw [ht] at hP1
      have hK1 := va_K.moved hvm.symm hK1
      try dsimp only at hw
      obtain ⟨hP, hD⟩ := J_s (wL := [eO h0 9 [.ref q_s, .long v_fees, .ref q_thought, .long v_thoughtFees, .ref q_image, .long v_imageFees, .int v_hasImage, .ref q_tape, .int v_taped, .ref q_texts, .ref q_sizes, .int v_programs, .ref q_imageTexts, .ref q_imageSizes, .int v_imagePrograms, .int v_here, .int v_open, .int v_running, .int v_begun, .ref q_held, .ref q_marks, .int v_markMany, .ref q_trace, .int v_traced, .ref q_keptBalances, .ref q_keptFees, .int v_deep, .ref q_way, .ref q_sorts, .ref q_rowMany, .ref q_items, .ref q_moved], eI q_tape k_tape 80 f_tape]) hP hD [] [(0, 2)] hCm hNw (by decide +kernel) hk1 hFc hP1 hD1 rfl
      have hK := KJ_s (tys' := [(k_tape, .int)]) hK hK1 [(0, 1)] rfl
      generalize H1 = H at hP hS ⊢
      rcases hw with ⟨e_r6, f_r6⟩ | ⟨e_r6, f_r6⟩
      · subst e_r6
        refine lv_if_eq (tgt := 50) hx hb dX10_feed_23 (by decide) (fun c7 => absurd c7 (by decide)) (fun c7 => ?_)
        refine lv_iload hx hb dX10_feed_26 (lv_at hl 4 rfl) ?_
        obtain ⟨hPc, hDc, hFc, hCm, hNw⟩ := C_s (wc := []) hP hD hS hA [] 2 rfl (by decide +kernel) rfl
        have hKc := K_s (tys' := []) hK [] rfl
        refine va_calli (va_runS (As := [.int p3]) (rest := []) ⟨hx, hb, hml, hown, hts⟩ (c_X10_isByte l dC dI p3 H.size) (va_cwS 1 hts gX10_feed_X10_isByte rfl rfl rfl (by decide +kernel) ⟨Nat.le_of_ble_eq_true rfl, Nat.le_of_ble_eq_true rfl⟩) ⟨fun a U g mk q => by obtain ⟨q0, q1, qP, qK, qD⟩ := q; exact ⟨q0, q1, qP, va_K.moved (u := U) (U := U.calling g mk a) (Vm.Alike.refl U.vm) qK, qD⟩, fun U hU hW => ⟨rfl, by rw [hU], by rw [hU]; exact hPc, va_K.moved hW.alike hKc, hDc.weaken (fun _ _ _ _ => trivial)⟩⟩ rfl rfl hl.1 rfl (lv_room (Nat.le_of_ble_eq_true rfl)) dX10_feed_28 ⟨Nat.le_of_ble_eq_true rfl, Nat.le_of_ble_eq_true rfl⟩) hS (fun q _ h => hFc q h) hFc (fun r8 u t H1 locs ht hvm hw hB hz1 hk1 hS => ?_)
        obtain ⟨hP1, hK1, hD1⟩ := hB
        rw [ht] at hP1
        have hK1 := va_K.moved hvm.symm hK1
        try dsimp only at hw
        obtain ⟨hP, hD⟩ := J_s (wL := [eO h0 9 [.ref q_s, .long v_fees, .ref q_thought, .long v_thoughtFees, .ref q_image, .long v_imageFees, .int v_hasImage, .ref q_tape, .int v_taped, .ref q_texts, .ref q_sizes, .int v_programs, .ref q_imageTexts, .ref q_imageSizes, .int v_imagePrograms, .int v_here, .int v_open, .int v_running, .int v_begun, .ref q_held, .ref q_marks, .int v_markMany, .ref q_trace, .int v_traced, .ref q_keptBalances, .ref q_keptFees, .int v_deep, .ref q_way, .ref q_sorts, .ref q_rowMany, .ref q_items, .ref q_moved], eI q_tape k_tape 80 f_tape]) hP hD [] [(0, 2)] hCm hNw (by decide +kernel) hk1 hFc hP1 hD1 rfl
        have hK := KJ_s (tys' := [(k_tape, .int)]) hK hK1 [(0, 1)] rfl
        generalize H1 = H at hP hS ⊢
        rcases hw with ⟨e_r8, f_r8⟩ | ⟨e_r8, f_r8⟩
        · subst e_r8
          refine lv_if_eq (tgt := 50) hx hb dX10_feed_31 (by decide) (fun c9 => absurd c9 (by decide)) (fun c9 => ?_)
          refine lv_iload hx hb dX10_feed_34 (lv_at hl 5 rfl) ?_
          obtain ⟨hPc, hDc, hFc, hCm, hNw⟩ := C_s (wc := []) hP hD hS hA [] 2 rfl (by decide +kernel) rfl
          have hKc := K_s (tys' := []) hK [] rfl
          refine va_calli (va_runS (As := [.int p4]) (rest := []) ⟨hx, hb, hml, hown, hts⟩ (c_X10_isByte l dC dI p4 H.size) (va_cwS 1 hts gX10_feed_X10_isByte rfl rfl rfl (by decide +kernel) ⟨Nat.le_of_ble_eq_true rfl, Nat.le_of_ble_eq_true rfl⟩) ⟨fun a U g mk q => by obtain ⟨q0, q1, qP, qK, qD⟩ := q; exact ⟨q0, q1, qP, va_K.moved (u := U) (U := U.calling g mk a) (Vm.Alike.refl U.vm) qK, qD⟩, fun U hU hW => ⟨rfl, by rw [hU], by rw [hU]; exact hPc, va_K.moved hW.alike hKc, hDc.weaken (fun _ _ _ _ => trivial)⟩⟩ rfl rfl hl.1 rfl (lv_room (Nat.le_of_ble_eq_true rfl)) dX10_feed_36 ⟨Nat.le_of_ble_eq_true rfl, Nat.le_of_ble_eq_true rfl⟩) hS (fun q _ h => hFc q h) hFc (fun r10 u t H1 locs ht hvm hw hB hz1 hk1 hS => ?_)
          obtain ⟨hP1, hK1, hD1⟩ := hB
          rw [ht] at hP1
          have hK1 := va_K.moved hvm.symm hK1
          try dsimp only at hw
          obtain ⟨hP, hD⟩ := J_s (wL := [eO h0 9 [.ref q_s, .long v_fees, .ref q_thought, .long v_thoughtFees, .ref q_image, .long v_imageFees, .int v_hasImage, .ref q_tape, .int v_taped, .ref q_texts, .ref q_sizes, .int v_programs, .ref q_imageTexts, .ref q_imageSizes, .int v_imagePrograms, .int v_here, .int v_open, .int v_running, .int v_begun, .ref q_held, .ref q_marks, .int v_markMany, .ref q_trace, .int v_traced, .ref q_keptBalances, .ref q_keptFees, .int v_deep, .ref q_way, .ref q_sorts, .ref q_rowMany, .ref q_items, .ref q_moved], eI q_tape k_tape 80 f_tape]) hP hD [] [(0, 2)] hCm hNw (by decide +kernel) hk1 hFc hP1 hD1 rfl
          have hK := KJ_s (tys' := [(k_tape, .int)]) hK hK1 [(0, 1)] rfl
          generalize H1 = H at hP hS ⊢
          rcases hw with ⟨e_r10, f_r10⟩ | ⟨e_r10, f_r10⟩
          · subst e_r10
            refine lv_if_eq (tgt := 50) hx hb dX10_feed_39 (by decide) (fun c11 => absurd c11 (by decide)) (fun c11 => ?_)
            refine lv_iload hx hb dX10_feed_42 (lv_at hl 6 rfl) ?_
            obtain ⟨hPc, hDc, hFc, hCm, hNw⟩ := C_s (wc := []) hP hD hS hA [] 2 rfl (by decide +kernel) rfl
            have hKc := K_s (tys' := []) hK [] rfl
            refine va_calli (va_runS (As := [.int p5]) (rest := []) ⟨hx, hb, hml, hown, hts⟩ (c_X10_isByte l dC dI p5 H.size) (va_cwS 1 hts gX10_feed_X10_isByte rfl rfl rfl (by decide +kernel) ⟨Nat.le_of_ble_eq_true rfl, Nat.le_of_ble_eq_true rfl⟩) ⟨fun a U g mk q => by obtain ⟨q0, q1, qP, qK, qD⟩ := q; exact ⟨q0, q1, qP, va_K.moved (u := U) (U := U.calling g mk a) (Vm.Alike.refl U.vm) qK, qD⟩, fun U hU hW => ⟨rfl, by rw [hU], by rw [hU]; exact hPc, va_K.moved hW.alike hKc, hDc.weaken (fun _ _ _ _ => trivial)⟩⟩ rfl rfl hl.1 rfl (lv_room (Nat.le_of_ble_eq_true rfl)) dX10_feed_44 ⟨Nat.le_of_ble_eq_true rfl, Nat.le_of_ble_eq_true rfl⟩) hS (fun q _ h => hFc q h) hFc (fun r12 u t H1 locs ht hvm hw hB hz1 hk1 hS => ?_)
            obtain ⟨hP1, hK1, hD1⟩ := hB
            rw [ht] at hP1
            have hK1 := va_K.moved hvm.symm hK1
            try dsimp only at hw
            obtain ⟨hP, hD⟩ := J_s (wL := [eO h0 9 [.ref q_s, .long v_fees, .ref q_thought, .long v_thoughtFees, .ref q_image, .long v_imageFees, .int v_hasImage, .ref q_tape, .int v_taped, .ref q_texts, .ref q_sizes, .int v_programs, .ref q_imageTexts, .ref q_imageSizes, .int v_imagePrograms, .int v_here, .int v_open, .int v_running, .int v_begun, .ref q_held, .ref q_marks, .int v_markMany, .ref q_trace, .int v_traced, .ref q_keptBalances, .ref q_keptFees, .int v_deep, .ref q_way, .ref q_sorts, .ref q_rowMany, .ref q_items, .ref q_moved], eI q_tape k_tape 80 f_tape]) hP hD [] [(0, 2)] hCm hNw (by decide +kernel) hk1 hFc hP1 hD1 rfl
            have hK := KJ_s (tys' := [(k_tape, .int)]) hK hK1 [(0, 1)] rfl
            generalize H1 = H at hP hS ⊢
            rcases hw with ⟨e_r12, f_r12⟩ | ⟨e_r12, f_r12⟩
            · subst e_r12
              refine lv_if_ne (tgt := 53) hx hb dX10_feed_47 (by decide) (fun c13 => ?_) (fun c13 => absurd c13 (by decide))
              refine lv_aload_n hx hb dX10_feed_53 rfl (lv_at hl 0 rfl) ?_
              refine va_get (D := (dC, dI)) (ci := 9) (v := .int v_taped) (C := RX10) (T := TX10) (N := 32) hx hb hts (fun w h => List.mem_cons_of_mem _ (inlX10 w h)) hown hK hP 0 rfl rfl 8 (by decide) (hts (.fieldLink RX10 107 "ClearingGatesModel" "taped" "I") (List.mem_cons_of_mem _ mw_617)) (fun _ h9 => h9) rfl dX10_feed_54 ?_
              refine lv_iload_n hx hb dX10_feed_57 rfl (lv_at hl 1 rfl) ?_
              refine lv_iadd hx hb dX10_feed_58 ?_
              refine lv_topi (fun z14 e_z14 => ?_)
              (first | have t_z14 := i_add e_z14 (by omega) (by omega) | skip)
              refine lv_bipush (v := 80) hx hb dX10_feed_59 (by decide) ?_
              refine lv_icmp_le (tgt := 67) hx hb dX10_feed_61 (by decide) (fun c15 => ?_) (fun c15 => ?_)
              · skip
                have f_c15 := i_le c15
                refine lv_iconst (v := 0) hx hb dX10_feed_67 (by decide) ?_
                refine lv_istore (lv' := [(7, .int 0), (0, .ref h0), (1, .int p0), (2, .int p1), (3, .int p2), (4, .int p3), (5, .int p4), (6, .int p5)]) hx hb dX10_feed_68 hl (by decide) rfl (fun ls hl => ?_)
                have loop_70 : ∀ (n : Nat) (x : Int32) (gi : Nat → Int32) (tz : Int32), (0 ≤ x.toInt) → (x.toInt ≤ p0.toInt) → (tz.toInt = v_taped.toInt + x.toInt) → (p0.toInt - x.toInt) < (n : Int) → ∀ (H : Heap) (locs : List Loc), va_K (dC, dI) vwCl [(k_tape, .int)] s → va_P (dC, dI) vwCl [eO h0 9 [.ref q_s, .long v_fees, .ref q_thought, .long v_thoughtFees, .ref q_image, .long v_imageFees, .int v_hasImage, .ref q_tape, .int tz, .ref q_texts, .ref q_sizes, .int v_programs, .ref q_imageTexts, .ref q_imageSizes, .int v_imagePrograms, .int v_here, .int v_open, .int v_running, .int v_begun, .ref q_held, .ref q_marks, .int v_markMany, .ref q_trace, .int v_traced, .ref q_keptBalances, .ref q_keptFees, .int v_deep, .ref q_way, .ref q_sorts, .ref q_rowMany, .ref q_items, .ref q_moved], eI q_tape k_tape 80 gi] H → va_D A [eO h0 9 [.ref q_s, .long v_fees, .ref q_thought, .long v_thoughtFees, .ref q_image, .long v_imageFees, .int v_hasImage, .ref q_tape, .int tz, .ref q_texts, .ref q_sizes, .int v_programs, .ref q_imageTexts, .ref q_imageSizes, .int v_imagePrograms, .int v_here, .int v_open, .int v_running, .int v_begun, .ref q_held, .ref q_marks, .int v_markMany, .ref q_trace, .int v_traced, .ref q_keptBalances, .ref q_keptFees, .int v_deep, .ref q_way, .ref q_sorts, .ref q_rowMany, .ref q_items, .ref q_moved], eI q_tape k_tape 80 gi] → va_S A s.heap H locs → ∀ (ls : Array Slot), lv_has ls 8 [(7, .int x), (0, .ref h0), (1, .int p0), (2, .int p1), (3, .int p2), (4, .int p3), (5, .int p4), (6, .int p5)] → W p l e ({ frames := 2, cells := 0, slots := 0, locals := 45 }) s m (([.ref h0, .int p0, .int p1, .int p2, .int p3, .int p4, .int p5] : List Value).toArray) below meth c H locs 0 0 Q9 (F0 m 70 ls []) := by
                  intro n
                  induction n with
                  | zero => intro x gi tz i1 i2 i3 hM_70; exfalso; omega
                  | succ n ih_70 =>
                    intro x gi tz i1 i2 i3 hM_70 H locs hK hP hD hS ls hl
                    refine lv_iload hx hb dX10_feed_70 (lv_at hl 0 rfl) ?_
                    refine lv_iload_n hx hb dX10_feed_72 rfl (lv_at hl 2 rfl) ?_
                    refine lv_icmp_ge (tgt := 144) hx hb dX10_feed_73 (by decide) (fun c16 => ?_) (fun c16 => ?_)
                    · skip
                      have f_c16 := i_le c16
                      refine lv_aload_n hx hb dX10_feed_144 rfl (lv_at hl 1 rfl) ?_
                      refine va_get (D := (dC, dI)) (ci := 9) (v := .int tz) (C := RX10) (T := TX10) (N := 32) hx hb hts (fun w h => List.mem_cons_of_mem _ (inlX10 w h)) hown hK hP 0 rfl rfl 8 (by decide) (hts (.fieldLink RX10 107 "ClearingGatesModel" "taped" "I") (List.mem_cons_of_mem _ mw_617)) (fun _ h9 => h9) rfl dX10_feed_145 ?_
                      rw [hQ9]
                      exact W.iret (v := tz) hx hb hr (fun t ht hW => ⟨⟨tz, (), rfl, (by first | rfl | trivial), gi, tz, (by first | assumption | omega | exact fz_rf _ | exact fb_rf _ | exact (fun _ _ _ => rfl)), (by first | assumption | omega | exact fz_rf _ | exact fb_rf _ | exact (fun _ _ _ => rfl)), by rw [ht]; exact hP, va_K.moved hW.alike hK, hD⟩, hS.F ht⟩) hS.2.2 dX10_feed_148
                    · skip
                      have f_c16 := i_nle c16
                      refine lv_aload_n hx hb dX10_feed_76 rfl (lv_at hl 1 rfl) ?_
                      refine va_get (D := (dC, dI)) (ci := 9) (v := .ref q_tape) (C := RX10) (T := TX10) (N := 32) hx hb hts (fun w h => List.mem_cons_of_mem _ (inlX10 w h)) hown hK hP 0 rfl rfl 7 (by decide) (hts (.fieldLink RX10 21 "ClearingGatesModel" "tape" "[I") (List.mem_cons_of_mem _ mw_616)) (fun _ h9 => h9) rfl dX10_feed_77 ?_
                      refine lv_aload_n hx hb dX10_feed_80 rfl (lv_at hl 1 rfl) ?_
                      refine va_get (D := (dC, dI)) (ci := 9) (v := .int tz) (C := RX10) (T := TX10) (N := 32) hx hb hts (fun w h => List.mem_cons_of_mem _ (inlX10 w h)) hown hK hP 0 rfl rfl 8 (by decide) (hts (.fieldLink RX10 107 "ClearingGatesModel" "taped" "I") (List.mem_cons_of_mem _ mw_617)) (fun _ h9 => h9) rfl dX10_feed_81 ?_
                      refine lv_iload hx hb dX10_feed_84 (lv_at hl 0 rfl) ?_
                      refine lv_if_ne (tgt := 93) hx hb dX10_feed_86 (by decide) (fun c17 => ?_) (fun c17 => ?_)
                      · skip
                        have f_c17 := i_ne c17
                        refine lv_iload hx hb dX10_feed_93 (lv_at hl 0 rfl) ?_
                        refine lv_iconst (v := 1) hx hb dX10_feed_95 (by decide) ?_
                        refine lv_icmp_ne (tgt := 103) hx hb dX10_feed_96 (by decide) (fun c18 => ?_) (fun c18 => ?_)
                        · skip
                          have f_c18 := i_ne c18
                          refine lv_iload hx hb dX10_feed_103 (lv_at hl 0 rfl) ?_
                          refine lv_iconst (v := 2) hx hb dX10_feed_105 (by decide) ?_
                          refine lv_icmp_ne (tgt := 114) hx hb dX10_feed_106 (by decide) (fun c19 => ?_) (fun c19 => ?_)
                          · skip
                            have f_c19 := i_ne c19
                            refine lv_iload hx hb dX10_feed_114 (lv_at hl 0 rfl) ?_
                            refine lv_iconst (v := 3) hx hb dX10_feed_116 (by decide) ?_
                            refine lv_icmp_ne (tgt := 125) hx hb dX10_feed_117 (by decide) (fun c20 => ?_) (fun c20 => ?_)
                            · skip
                              have f_c20 := i_ne c20
                              refine lv_iload hx hb dX10_feed_125 (lv_at hl 7 rfl) ?_
                              refine va_iast (D := (dC, dI)) hx hb hK hP hD hS 1 0 rfl rfl (vp_in_iff.mpr ⟨by omega, by omega⟩) dX10_feed_127 (fun H locs hP hD hS => ?_)
                              generalize e_g21 : (upd gi (tz).toNatClampNeg p5) = g21 at hP hD
                              obtain ⟨hP, hD⟩ := X_s (ws' := [eO h0 9 [.ref q_s, .long v_fees, .ref q_thought, .long v_thoughtFees, .ref q_image, .long v_imageFees, .int v_hasImage, .ref q_tape, .int tz, .ref q_texts, .ref q_sizes, .int v_programs, .ref q_imageTexts, .ref q_imageSizes, .int v_imagePrograms, .int v_here, .int v_open, .int v_running, .int v_begun, .ref q_held, .ref q_marks, .int v_markMany, .ref q_trace, .int v_traced, .ref q_keptBalances, .ref q_keptFees, .int v_deep, .ref q_way, .ref q_sorts, .ref q_rowMany, .ref q_items, .ref q_moved], eI q_tape k_tape 80 g21]) hP hD rfl
                              refine lv_aload_n hx hb dX10_feed_128 rfl (lv_at hl 1 rfl) ?_
                              refine lv_dup hx hb dX10_feed_129 rfl ?_
                              refine va_get (D := (dC, dI)) (ci := 9) (v := .int tz) (C := RX10) (T := TX10) (N := 32) hx hb hts (fun w h => List.mem_cons_of_mem _ (inlX10 w h)) hown hK hP 0 rfl rfl 8 (by decide) (hts (.fieldLink RX10 107 "ClearingGatesModel" "taped" "I") (List.mem_cons_of_mem _ mw_617)) (fun _ h9 => h9) rfl dX10_feed_130 ?_
                              refine lv_iconst (v := 1) hx hb dX10_feed_133 (by decide) ?_
                              refine lv_iadd hx hb dX10_feed_134 ?_
                              refine lv_topi (fun z22 e_z22 => ?_)
                              (first | have t_z22 := i_add e_z22 (by omega) (by omega) | skip)
                              refine va_put (D := (dC, dI)) (ci := 9) (v := .int z22) (ty := .int) (C := RX10) (T := TX10) (N := 32) hx hb hts (fun w h => List.mem_cons_of_mem _ (inlX10 w h)) tyX10 tyX10_ok nmX10 hown hK hP hD hS 0 rfl rfl 8 (by decide) (hts (.fieldLink RX10 107 "ClearingGatesModel" "taped" "I") (List.mem_cons_of_mem _ mw_617)) (fun _ h9 => h9) rfl (by decide +kernel) rfl rfl (Nat.le_of_ble_eq_true rfl) dX10_feed_135 (fun H locs hP hD hS => ?_)
                              obtain ⟨hP, hD⟩ := X_s (ws' := [eO h0 9 [.ref q_s, .long v_fees, .ref q_thought, .long v_thoughtFees, .ref q_image, .long v_imageFees, .int v_hasImage, .ref q_tape, .int z22, .ref q_texts, .ref q_sizes, .int v_programs, .ref q_imageTexts, .ref q_imageSizes, .int v_imagePrograms, .int v_here, .int v_open, .int v_running, .int v_begun, .ref q_held, .ref q_marks, .int v_markMany, .ref q_trace, .int v_traced, .ref q_keptBalances, .ref q_keptFees, .int v_deep, .ref q_way, .ref q_sorts, .ref q_rowMany, .ref q_items, .ref q_moved], eI q_tape k_tape 80 g21]) hP hD rfl
                              obtain ⟨x23, e_x23⟩ : ∃ yy : Int32, yy = x + 1 := ⟨_, rfl⟩
                              refine lv_iinc (v := x23) (lv' := [(7, .int x23), (0, .ref h0), (1, .int p0), (2, .int p1), (3, .int p2), (4, .int p3), (5, .int p4), (6, .int p5)]) hx hb dX10_feed_138 hl (k := 0) rfl (by rw [e_x23]; rfl) (by decide) rfl (fun ls hl => ?_)
                              (first | have t_x23 := i_add e_x23 (by omega) (by omega) | skip)
                              refine lv_goto (tgt := 70) hx hb dX10_feed_141 (by decide) ?_
                              exact ih_70 x23 g21 z22 (by first | assumption | omega | exact fz_rf _ | exact fb_rf _ | exact (fun _ _ _ => rfl)) (by first | assumption | omega | exact fz_rf _ | exact fb_rf _ | exact (fun _ _ _ => rfl)) (by first | assumption | omega | exact fz_rf _ | exact fb_rf _ | exact (fun _ _ _ => rfl)) (by omega) _ _ (K_s hK [(0, 1)] rfl) (P_s hP [(0, 2)] rfl) (D_s hD [(0, 2)] 2 rfl (by decide +kernel) rfl) hS ls (lv_sub hl [0, 1, 2, 3, 4, 5, 6, 7] rfl)
                            · skip
                              have f_c20 := i_eq c20
                              refine lv_iload hx hb dX10_feed_120 (lv_at hl 6 rfl) ?_
                              refine lv_goto (tgt := 127) hx hb dX10_feed_122 (by decide) ?_
                              refine va_iast (D := (dC, dI)) hx hb hK hP hD hS 1 0 rfl rfl (vp_in_iff.mpr ⟨by omega, by omega⟩) dX10_feed_127 (fun H locs hP hD hS => ?_)
                              generalize e_g24 : (upd gi (tz).toNatClampNeg p4) = g24 at hP hD
                              obtain ⟨hP, hD⟩ := X_s (ws' := [eO h0 9 [.ref q_s, .long v_fees, .ref q_thought, .long v_thoughtFees, .ref q_image, .long v_imageFees, .int v_hasImage, .ref q_tape, .int tz, .ref q_texts, .ref q_sizes, .int v_programs, .ref q_imageTexts, .ref q_imageSizes, .int v_imagePrograms, .int v_here, .int v_open, .int v_running, .int v_begun, .ref q_held, .ref q_marks, .int v_markMany, .ref q_trace, .int v_traced, .ref q_keptBalances, .ref q_keptFees, .int v_deep, .ref q_way, .ref q_sorts, .ref q_rowMany, .ref q_items, .ref q_moved], eI q_tape k_tape 80 g24]) hP hD rfl
                              refine lv_aload_n hx hb dX10_feed_128 rfl (lv_at hl 1 rfl) ?_
                              refine lv_dup hx hb dX10_feed_129 rfl ?_
                              refine va_get (D := (dC, dI)) (ci := 9) (v := .int tz) (C := RX10) (T := TX10) (N := 32) hx hb hts (fun w h => List.mem_cons_of_mem _ (inlX10 w h)) hown hK hP 0 rfl rfl 8 (by decide) (hts (.fieldLink RX10 107 "ClearingGatesModel" "taped" "I") (List.mem_cons_of_mem _ mw_617)) (fun _ h9 => h9) rfl dX10_feed_130 ?_
                              refine lv_iconst (v := 1) hx hb dX10_feed_133 (by decide) ?_
                              refine lv_iadd hx hb dX10_feed_134 ?_
                              refine lv_topi (fun z25 e_z25 => ?_)
                              (first | have t_z25 := i_add e_z25 (by omega) (by omega) | skip)
                              refine va_put (D := (dC, dI)) (ci := 9) (v := .int z25) (ty := .int) (C := RX10) (T := TX10) (N := 32) hx hb hts (fun w h => List.mem_cons_of_mem _ (inlX10 w h)) tyX10 tyX10_ok nmX10 hown hK hP hD hS 0 rfl rfl 8 (by decide) (hts (.fieldLink RX10 107 "ClearingGatesModel" "taped" "I") (List.mem_cons_of_mem _ mw_617)) (fun _ h9 => h9) rfl (by decide +kernel) rfl rfl (Nat.le_of_ble_eq_true rfl) dX10_feed_135 (fun H locs hP hD hS => ?_)
                              obtain ⟨hP, hD⟩ := X_s (ws' := [eO h0 9 [.ref q_s, .long v_fees, .ref q_thought, .long v_thoughtFees, .ref q_image, .long v_imageFees, .int v_hasImage, .ref q_tape, .int z25, .ref q_texts, .ref q_sizes, .int v_programs, .ref q_imageTexts, .ref q_imageSizes, .int v_imagePrograms, .int v_here, .int v_open, .int v_running, .int v_begun, .ref q_held, .ref q_marks, .int v_markMany, .ref q_trace, .int v_traced, .ref q_keptBalances, .ref q_keptFees, .int v_deep, .ref q_way, .ref q_sorts, .ref q_rowMany, .ref q_items, .ref q_moved], eI q_tape k_tape 80 g24]) hP hD rfl
                              obtain ⟨x26, e_x26⟩ : ∃ yy : Int32, yy = x + 1 := ⟨_, rfl⟩
                              refine lv_iinc (v := x26) (lv' := [(7, .int x26), (0, .ref h0), (1, .int p0), (2, .int p1), (3, .int p2), (4, .int p3), (5, .int p4), (6, .int p5)]) hx hb dX10_feed_138 hl (k := 0) rfl (by rw [e_x26]; rfl) (by decide) rfl (fun ls hl => ?_)
                              (first | have t_x26 := i_add e_x26 (by omega) (by omega) | skip)
                              refine lv_goto (tgt := 70) hx hb dX10_feed_141 (by decide) ?_
                              exact ih_70 x26 g24 z25 (by first | assumption | omega | exact fz_rf _ | exact fb_rf _ | exact (fun _ _ _ => rfl)) (by first | assumption | omega | exact fz_rf _ | exact fb_rf _ | exact (fun _ _ _ => rfl)) (by first | assumption | omega | exact fz_rf _ | exact fb_rf _ | exact (fun _ _ _ => rfl)) (by omega) _ _ (K_s hK [(0, 1)] rfl) (P_s hP [(0, 2)] rfl) (D_s hD [(0, 2)] 2 rfl (by decide +kernel) rfl) hS ls (lv_sub hl [0, 1, 2, 3, 4, 5, 6, 7] rfl)
                          · skip
                            have f_c19 := i_eq c19
                            refine lv_iload hx hb dX10_feed_109 (lv_at hl 5 rfl) ?_
                            refine lv_goto (tgt := 127) hx hb dX10_feed_111 (by decide) ?_
                            refine va_iast (D := (dC, dI)) hx hb hK hP hD hS 1 0 rfl rfl (vp_in_iff.mpr ⟨by omega, by omega⟩) dX10_feed_127 (fun H locs hP hD hS => ?_)
                            generalize e_g27 : (upd gi (tz).toNatClampNeg p3) = g27 at hP hD
                            obtain ⟨hP, hD⟩ := X_s (ws' := [eO h0 9 [.ref q_s, .long v_fees, .ref q_thought, .long v_thoughtFees, .ref q_image, .long v_imageFees, .int v_hasImage, .ref q_tape, .int tz, .ref q_texts, .ref q_sizes, .int v_programs, .ref q_imageTexts, .ref q_imageSizes, .int v_imagePrograms, .int v_here, .int v_open, .int v_running, .int v_begun, .ref q_held, .ref q_marks, .int v_markMany, .ref q_trace, .int v_traced, .ref q_keptBalances, .ref q_keptFees, .int v_deep, .ref q_way, .ref q_sorts, .ref q_rowMany, .ref q_items, .ref q_moved], eI q_tape k_tape 80 g27]) hP hD rfl
                            refine lv_aload_n hx hb dX10_feed_128 rfl (lv_at hl 1 rfl) ?_
                            refine lv_dup hx hb dX10_feed_129 rfl ?_
                            refine va_get (D := (dC, dI)) (ci := 9) (v := .int tz) (C := RX10) (T := TX10) (N := 32) hx hb hts (fun w h => List.mem_cons_of_mem _ (inlX10 w h)) hown hK hP 0 rfl rfl 8 (by decide) (hts (.fieldLink RX10 107 "ClearingGatesModel" "taped" "I") (List.mem_cons_of_mem _ mw_617)) (fun _ h9 => h9) rfl dX10_feed_130 ?_
                            refine lv_iconst (v := 1) hx hb dX10_feed_133 (by decide) ?_
                            refine lv_iadd hx hb dX10_feed_134 ?_
                            refine lv_topi (fun z28 e_z28 => ?_)
                            (first | have t_z28 := i_add e_z28 (by omega) (by omega) | skip)
                            refine va_put (D := (dC, dI)) (ci := 9) (v := .int z28) (ty := .int) (C := RX10) (T := TX10) (N := 32) hx hb hts (fun w h => List.mem_cons_of_mem _ (inlX10 w h)) tyX10 tyX10_ok nmX10 hown hK hP hD hS 0 rfl rfl 8 (by decide) (hts (.fieldLink RX10 107 "ClearingGatesModel" "taped" "I") (List.mem_cons_of_mem _ mw_617)) (fun _ h9 => h9) rfl (by decide +kernel) rfl rfl (Nat.le_of_ble_eq_true rfl) dX10_feed_135 (fun H locs hP hD hS => ?_)
                            obtain ⟨hP, hD⟩ := X_s (ws' := [eO h0 9 [.ref q_s, .long v_fees, .ref q_thought, .long v_thoughtFees, .ref q_image, .long v_imageFees, .int v_hasImage, .ref q_tape, .int z28, .ref q_texts, .ref q_sizes, .int v_programs, .ref q_imageTexts, .ref q_imageSizes, .int v_imagePrograms, .int v_here, .int v_open, .int v_running, .int v_begun, .ref q_held, .ref q_marks, .int v_markMany, .ref q_trace, .int v_traced, .ref q_keptBalances, .ref q_keptFees, .int v_deep, .ref q_way, .ref q_sorts, .ref q_rowMany, .ref q_items, .ref q_moved], eI q_tape k_tape 80 g27]) hP hD rfl
                            obtain ⟨x29, e_x29⟩ : ∃ yy : Int32, yy = x + 1 := ⟨_, rfl⟩
                            refine lv_iinc (v := x29) (lv' := [(7, .int x29), (0, .ref h0), (1, .int p0), (2, .int p1), (3, .int p2), (4, .int p3), (5, .int p4), (6, .int p5)]) hx hb dX10_feed_138 hl (k := 0) rfl (by rw [e_x29]; rfl) (by decide) rfl (fun ls hl => ?_)
                            (first | have t_x29 := i_add e_x29 (by omega) (by omega) | skip)
                            refine lv_goto (tgt := 70) hx hb dX10_feed_141 (by decide) ?_
                            exact ih_70 x29 g27 z28 (by first | assumption | omega | exact fz_rf _ | exact fb_rf _ | exact (fun _ _ _ => rfl)) (by first | assumption | omega | exact fz_rf _ | exact fb_rf _ | exact (fun _ _ _ => rfl)) (by first | assumption | omega | exact fz_rf _ | exact fb_rf _ | exact (fun _ _ _ => rfl)) (by omega) _ _ (K_s hK [(0, 1)] rfl) (P_s hP [(0, 2)] rfl) (D_s hD [(0, 2)] 2 rfl (by decide +kernel) rfl) hS ls (lv_sub hl [0, 1, 2, 3, 4, 5, 6, 7] rfl)
                        · skip
                          have f_c18 := i_eq c18
                          refine lv_iload_n hx hb dX10_feed_99 rfl (lv_at hl 4 rfl) ?_
                          refine lv_goto (tgt := 127) hx hb dX10_feed_100 (by decide) ?_
                          refine va_iast (D := (dC, dI)) hx hb hK hP hD hS 1 0 rfl rfl (vp_in_iff.mpr ⟨by omega, by omega⟩) dX10_feed_127 (fun H locs hP hD hS => ?_)
                          generalize e_g30 : (upd gi (tz).toNatClampNeg p2) = g30 at hP hD
                          obtain ⟨hP, hD⟩ := X_s (ws' := [eO h0 9 [.ref q_s, .long v_fees, .ref q_thought, .long v_thoughtFees, .ref q_image, .long v_imageFees, .int v_hasImage, .ref q_tape, .int tz, .ref q_texts, .ref q_sizes, .int v_programs, .ref q_imageTexts, .ref q_imageSizes, .int v_imagePrograms, .int v_here, .int v_open, .int v_running, .int v_begun, .ref q_held, .ref q_marks, .int v_markMany, .ref q_trace, .int v_traced, .ref q_keptBalances, .ref q_keptFees, .int v_deep, .ref q_way, .ref q_sorts, .ref q_rowMany, .ref q_items, .ref q_moved], eI q_tape k_tape 80 g30]) hP hD rfl
                          refine lv_aload_n hx hb dX10_feed_128 rfl (lv_at hl 1 rfl) ?_
                          refine lv_dup hx hb dX10_feed_129 rfl ?_
                          refine va_get (D := (dC, dI)) (ci := 9) (v := .int tz) (C := RX10) (T := TX10) (N := 32) hx hb hts (fun w h => List.mem_cons_of_mem _ (inlX10 w h)) hown hK hP 0 rfl rfl 8 (by decide) (hts (.fieldLink RX10 107 "ClearingGatesModel" "taped" "I") (List.mem_cons_of_mem _ mw_617)) (fun _ h9 => h9) rfl dX10_feed_130 ?_
                          refine lv_iconst (v := 1) hx hb dX10_feed_133 (by decide) ?_
                          refine lv_iadd hx hb dX10_feed_134 ?_
                          refine lv_topi (fun z31 e_z31 => ?_)
                          (first | have t_z31 := i_add e_z31 (by omega) (by omega) | skip)
                          refine va_put (D := (dC, dI)) (ci := 9) (v := .int z31) (ty := .int) (C := RX10) (T := TX10) (N := 32) hx hb hts (fun w h => List.mem_cons_of_mem _ (inlX10 w h)) tyX10 tyX10_ok nmX10 hown hK hP hD hS 0 rfl rfl 8 (by decide) (hts (.fieldLink RX10 107 "ClearingGatesModel" "taped" "I") (List.mem_cons_of_mem _ mw_617)) (fun _ h9 => h9) rfl (by decide +kernel) rfl rfl (Nat.le_of_ble_eq_true rfl) dX10_feed_135 (fun H locs hP hD hS => ?_)
                          obtain ⟨hP, hD⟩ := X_s (ws' := [eO h0 9 [.ref q_s, .long v_fees, .ref q_thought, .long v_thoughtFees, .ref q_image, .long v_imageFees, .int v_hasImage, .ref q_tape, .int z31, .ref q_texts, .ref q_sizes, .int v_programs, .ref q_imageTexts, .ref q_imageSizes, .int v_imagePrograms, .int v_here, .int v_open, .int v_running, .int v_begun, .ref q_held, .ref q_marks, .int v_markMany, .ref q_trace, .int v_traced, .ref q_keptBalances, .ref q_keptFees, .int v_deep, .ref q_way, .ref q_sorts, .ref q_rowMany, .ref q_items, .ref q_moved], eI q_tape k_tape 80 g30]) hP hD rfl
                          obtain ⟨x32, e_x32⟩ : ∃ yy : Int32, yy = x + 1 := ⟨_, rfl⟩
                          refine lv_iinc (v := x32) (lv' := [(7, .int x32), (0, .ref h0), (1, .int p0), (2, .int p1), (3, .int p2), (4, .int p3), (5, .int p4), (6, .int p5)]) hx hb dX10_feed_138 hl (k := 0) rfl (by rw [e_x32]; rfl) (by decide) rfl (fun ls hl => ?_)
                          (first | have t_x32 := i_add e_x32 (by omega) (by omega) | skip)
                          refine lv_goto (tgt := 70) hx hb dX10_feed_141 (by decide) ?_
                          exact ih_70 x32 g30 z31 (by first | assumption | omega | exact fz_rf _ | exact fb_rf _ | exact (fun _ _ _ => rfl)) (by first | assumption | omega | exact fz_rf _ | exact fb_rf _ | exact (fun _ _ _ => rfl)) (by first | assumption | omega | exact fz_rf _ | exact fb_rf _ | exact (fun _ _ _ => rfl)) (by omega) _ _ (K_s hK [(0, 1)] rfl) (P_s hP [(0, 2)] rfl) (D_s hD [(0, 2)] 2 rfl (by decide +kernel) rfl) hS ls (lv_sub hl [0, 1, 2, 3, 4, 5, 6, 7] rfl)
                      · skip
                        have f_c17 := i_eq c17
                        refine lv_iload_n hx hb dX10_feed_89 rfl (lv_at hl 3 rfl) ?_
                        refine lv_goto (tgt := 127) hx hb dX10_feed_90 (by decide) ?_
                        refine va_iast (D := (dC, dI)) hx hb hK hP hD hS 1 0 rfl rfl (vp_in_iff.mpr ⟨by omega, by omega⟩) dX10_feed_127 (fun H locs hP hD hS => ?_)
                        generalize e_g33 : (upd gi (tz).toNatClampNeg p1) = g33 at hP hD
                        obtain ⟨hP, hD⟩ := X_s (ws' := [eO h0 9 [.ref q_s, .long v_fees, .ref q_thought, .long v_thoughtFees, .ref q_image, .long v_imageFees, .int v_hasImage, .ref q_tape, .int tz, .ref q_texts, .ref q_sizes, .int v_programs, .ref q_imageTexts, .ref q_imageSizes, .int v_imagePrograms, .int v_here, .int v_open, .int v_running, .int v_begun, .ref q_held, .ref q_marks, .int v_markMany, .ref q_trace, .int v_traced, .ref q_keptBalances, .ref q_keptFees, .int v_deep, .ref q_way, .ref q_sorts, .ref q_rowMany, .ref q_items, .ref q_moved], eI q_tape k_tape 80 g33]) hP hD rfl
                        refine lv_aload_n hx hb dX10_feed_128 rfl (lv_at hl 1 rfl) ?_
                        refine lv_dup hx hb dX10_feed_129 rfl ?_
                        refine va_get (D := (dC, dI)) (ci := 9) (v := .int tz) (C := RX10) (T := TX10) (N := 32) hx hb hts (fun w h => List.mem_cons_of_mem _ (inlX10 w h)) hown hK hP 0 rfl rfl 8 (by decide) (hts (.fieldLink RX10 107 "ClearingGatesModel" "taped" "I") (List.mem_cons_of_mem _ mw_617)) (fun _ h9 => h9) rfl dX10_feed_130 ?_
                        refine lv_iconst (v := 1) hx hb dX10_feed_133 (by decide) ?_
                        refine lv_iadd hx hb dX10_feed_134 ?_
                        refine lv_topi (fun z34 e_z34 => ?_)
                        (first | have t_z34 := i_add e_z34 (by omega) (by omega) | skip)
                        refine va_put (D := (dC, dI)) (ci := 9) (v := .int z34) (ty := .int) (C := RX10) (T := TX10) (N := 32) hx hb hts (fun w h => List.mem_cons_of_mem _ (inlX10 w h)) tyX10 tyX10_ok nmX10 hown hK hP hD hS 0 rfl rfl 8 (by decide) (hts (.fieldLink RX10 107 "ClearingGatesModel" "taped" "I") (List.mem_cons_of_mem _ mw_617)) (fun _ h9 => h9) rfl (by decide +kernel) rfl rfl (Nat.le_of_ble_eq_true rfl) dX10_feed_135 (fun H locs hP hD hS => ?_)
                        obtain ⟨hP, hD⟩ := X_s (ws' := [eO h0 9 [.ref q_s, .long v_fees, .ref q_thought, .long v_thoughtFees, .ref q_image, .long v_imageFees, .int v_hasImage, .ref q_tape, .int z34, .ref q_texts, .ref q_sizes, .int v_programs, .ref q_imageTexts, .ref q_imageSizes, .int v_imagePrograms, .int v_here, .int v_open, .int v_running, .int v_begun, .ref q_held, .ref q_marks, .int v_markMany, .ref q_trace, .int v_traced, .ref q_keptBalances, .ref q_keptFees, .int v_deep, .ref q_way, .ref q_sorts, .ref q_rowMany, .ref q_items, .ref q_moved], eI q_tape k_tape 80 g33]) hP hD rfl
                        obtain ⟨x35, e_x35⟩ : ∃ yy : Int32, yy = x + 1 := ⟨_, rfl⟩
                        refine lv_iinc (v := x35) (lv' := [(7, .int x35), (0, .ref h0), (1, .int p0), (2, .int p1), (3, .int p2), (4, .int p3), (5, .int p4), (6, .int p5)]) hx hb dX10_feed_138 hl (k := 0) rfl (by rw [e_x35]; rfl) (by decide) rfl (fun ls hl => ?_)
                        (first | have t_x35 := i_add e_x35 (by omega) (by omega) | skip)
                        refine lv_goto (tgt := 70) hx hb dX10_feed_141 (by decide) ?_
                        exact ih_70 x35 g33 z34 (by first | assumption | omega | exact fz_rf _ | exact fb_rf _ | exact (fun _ _ _ => rfl)) (by first | assumption | omega | exact fz_rf _ | exact fb_rf _ | exact (fun _ _ _ => rfl)) (by first | assumption | omega | exact fz_rf _ | exact fb_rf _ | exact (fun _ _ _ => rfl)) (by omega) _ _ (K_s hK [(0, 1)] rfl) (P_s hP [(0, 2)] rfl) (D_s hD [(0, 2)] 2 rfl (by decide +kernel) rfl) hS ls (lv_sub hl [0, 1, 2, 3, 4, 5, 6, 7] rfl)
                exact loop_70 (1000) 0 f_tape v_taped (by first | assumption | omega | exact fz_rf _ | exact fb_rf _ | exact (fun _ _ _ => rfl)) (by first | assumption | omega | exact fz_rf _ | exact fb_rf _ | exact (fun _ _ _ => rfl)) (by first | assumption | omega | exact fz_rf _ | exact fb_rf _ | exact (fun _ _ _ => rfl)) (by omega) _ _ hK hP hD hS ls (lv_sub hl [0, 1, 2, 3, 4, 5, 6, 7] rfl)
              · skip
                have f_c15 := i_nle c15
                refine lv_bipush (v := -4) hx hb dX10_feed_64 (by decide) ?_
                rw [hQ9]
                exact W.iret (v := (-4)) hx hb hr (fun t ht hW => ⟨⟨(-4), (), rfl, (by first | rfl | trivial), f_tape, v_taped, (by first | assumption | omega | exact fz_rf _ | exact fb_rf _ | exact (fun _ _ _ => rfl)), (by first | assumption | omega | exact fz_rf _ | exact fb_rf _ | exact (fun _ _ _ => rfl)), by rw [ht]; exact hP, va_K.moved hW.alike hK, hD⟩, hS.F ht⟩) hS.2.2 dX10_feed_66
            · subst e_r12
              refine lv_if_ne (tgt := 53) hx hb dX10_feed_47 (by decide) (fun c36 => absurd (by decide) c36) (fun c36 => ?_)
              refine lv_bipush (v := -2) hx hb dX10_feed_50 (by decide) ?_
              rw [hQ9]
              exact W.iret (v := (-2)) hx hb hr (fun t ht hW => ⟨⟨(-2), (), rfl, (by first | rfl | trivial), f_tape, v_taped, (by first | assumption | omega | exact fz_rf _ | exact fb_rf _ | exact (fun _ _ _ => rfl)), (by first | assumption | omega | exact fz_rf _ | exact fb_rf _ | exact (fun _ _ _ => rfl)), by rw [ht]; exact hP, va_K.moved hW.alike hK, hD⟩, hS.F ht⟩) hS.2.2 dX10_feed_52
          · subst e_r10
            refine lv_if_eq (tgt := 50) hx hb dX10_feed_39 (by decide) (fun c37 => ?_) (fun c37 => absurd (by decide) c37)
            refine lv_bipush (v := -2) hx hb dX10_feed_50 (by decide) ?_
            rw [hQ9]
            exact W.iret (v := (-2)) hx hb hr (fun t ht hW => ⟨⟨(-2), (), rfl, (by first | rfl | trivial), f_tape, v_taped, (by first | assumption | omega | exact fz_rf _ | exact fb_rf _ | exact (fun _ _ _ => rfl)), (by first | assumption | omega | exact fz_rf _ | exact fb_rf _ | exact (fun _ _ _ => rfl)), by rw [ht]; exact hP, va_K.moved hW.alike hK, hD⟩, hS.F ht⟩) hS.2.2 dX10_feed_52
        · subst e_r8
          refine lv_if_eq (tgt := 50) hx hb dX10_feed_31 (by decide) (fun c38 => ?_) (fun c38 => absurd (by decide) c38)
          refine lv_bipush (v := -2) hx hb dX10_feed_50 (by decide) ?_
          rw [hQ9]
          exact W.iret (v := (-2)) hx hb hr (fun t ht hW => ⟨⟨(-2), (), rfl, (by first | rfl | trivial), f_tape, v_taped, (by first | assumption | omega | exact fz_rf _ | exact fb_rf _ | exact (fun _ _ _ => rfl)), (by first | assumption | omega | exact fz_rf _ | exact fb_rf _ | exact (fun _ _ _ => rfl)), by rw [ht]; exact hP, va_K.moved hW.alike hK, hD⟩, hS.F ht⟩) hS.2.2 dX10_feed_52
      · subst e_r6
        refine lv_if_eq (tgt := 50) hx hb dX10_feed_23 (by decide) (fun c39 => ?_) (fun c39 => absurd (by decide) c39)
        refine lv_bipush (v := -2) hx hb dX10_feed_50 (by decide) ?_
        rw [hQ9]
        exact W.iret (v := (-2)) hx hb hr (fun t ht hW => ⟨⟨(-2), (), rfl, (by first | rfl | trivial), f_tape, v_taped, (by first | assumption | omega | exact fz_rf _ | exact fb_rf _ | exact (fun _ _ _ => rfl)), (by first | assumption | omega | exact fz_rf _ | exact fb_rf _ | exact (fun _ _ _ => rfl)), by rw [ht]; exact hP, va_K.moved hW.alike hK, hD⟩, hS.F ht⟩) hS.2.2 dX10_feed_52
    · subst e_r4
      refine lv_if_eq (tgt := 50) hx hb dX10_feed_16 (by decide) (fun c40 => ?_) (fun c40 => absurd (by decide) c40)
      refine lv_bipush (v := -2) hx hb dX10_feed_50 (by decide) ?_
      rw [hQ9]
      exact W.iret (v := (-2)) hx hb hr (fun t ht hW => ⟨⟨(-2), (), rfl, (by first | rfl | trivial), f_tape, v_taped, (by first | assumption | omega | exact fz_rf _ | exact fb_rf _ | exact (fun _ _ _ => rfl)), (by first | assumption | omega | exact fz_rf _ | exact fb_rf _ | exact (fun _ _ _ => rfl)), by rw [ht]; exact hP, va_K.moved hW.alike hK, hD⟩, hS.F ht⟩) hS.2.2 dX10_feed_52
  · subst e_r2
    refine lv_if_eq (tgt := 50) hx hb dX10_feed_9 (by decide) (fun c41 => ?_) (fun c41 => absurd (by decide) c41)
    refine lv_bipush (v := -2) hx hb dX10_feed_50 (by decide) ?_
    rw [hQ9]
    exact W.iret (v := (-2)) hx hb hr (fun t ht hW => ⟨⟨(-2), (), rfl, (by first | rfl | trivial), f_tape, v_taped, (by first | assumption | omega | exact fz_rf _ | exact fb_rf _ | exact (fun _ _ _ => rfl)), (by first | assumption | omega | exact fz_rf _ | exact fb_rf _ | exact (fun _ _ _ => rfl)), by rw [ht]; exact hP, va_K.moved hW.alike hK, hD⟩, hS.F ht⟩) hS.2.2 dX10_feed_52

set_option maxRecDepth 100000 in
set_option maxHeartbeats 4000000 in
/-- sheet of the reference -/
theorem c_X10_sheet (l : Launch) (dC : Nat → ClassId) (dI : Nat → Nat → Nat) (h0 : Nat) (p0 : Int32) (p1 : Int32) (p2 : Int32) (q_s : Nat) (v_fees : Int64) (q_thought : Nat) (v_thoughtFees : Int64) (q_image : Nat) (v_imageFees : Int64) (v_hasImage : Int32) (q_tape : Nat) (v_taped : Int32) (q_texts : Nat) (q_sizes : Nat) (v_programs : Int32) (q_imageTexts : Nat) (q_imageSizes : Nat) (v_imagePrograms : Int32) (v_here : Int32) (v_open : Int32) (v_running : Int32) (v_begun : Int32) (q_held : Nat) (q_marks : Nat) (v_markMany : Int32) (q_trace : Nat) (v_traced : Int32) (q_keptBalances : Nat) (q_keptFees : Nat) (v_deep : Int32) (q_way : Nat) (q_sorts : Nat) (q_rowMany : Nat) (q_items : Nat) (q_moved : Nat) (k_sorts : ClassId) (f_sorts : Nat → Int32) (k_rowMany : ClassId) (f_rowMany : Nat → Int32) (k_items : ClassId) (f_items : Nat → Int32) (sz : Nat) (hrow : ∀ k : Nat, k < 4 → 0 ≤ (f_rowMany k).toInt ∧ (f_rowMany k).toInt ≤ 60) : Met l yX10_sheet wsX10_sheet ({ frames := 2, cells := 0, slots := 0, locals := 45 }) (va_Pc [.ref h0, .int p0, .int p1, .int p2] (fun U => U.heap.size = sz ∧ va_P (dC, dI) vwCl [eO h0 9 [.ref q_s, .long v_fees, .ref q_thought, .long v_thoughtFees, .ref q_image, .long v_imageFees, .int v_hasImage, .ref q_tape, .int v_taped, .ref q_texts, .ref q_sizes, .int v_programs, .ref q_imageTexts, .ref q_imageSizes, .int v_imagePrograms, .int v_here, .int v_open, .int v_running, .int v_begun, .ref q_held, .ref q_marks, .int v_markMany, .ref q_trace, .int v_traced, .ref q_keptBalances, .ref q_keptFees, .int v_deep, .ref q_way, .ref q_sorts, .ref q_rowMany, .ref q_items, .ref q_moved], eI q_sorts k_sorts 4 f_sorts, eI q_rowMany k_rowMany 4 f_rowMany, eI q_items k_items 240 f_items] U.heap ∧ va_K (dC, dI) vwCl [(k_sorts, .int), (k_rowMany, .int), (k_items, .int)] U ∧ va_D (fun _ => True) [eO h0 9 [.ref q_s, .long v_fees, .ref q_thought, .long v_thoughtFees, .ref q_image, .long v_imageFees, .int v_hasImage, .ref q_tape, .int v_taped, .ref q_texts, .ref q_sizes, .int v_programs, .ref q_imageTexts, .ref q_imageSizes, .int v_imagePrograms, .int v_here, .int v_open, .int v_running, .int v_begun, .ref q_held, .ref q_marks, .int v_markMany, .ref q_trace, .int v_traced, .ref q_keptBalances, .ref q_keptFees, .int v_deep, .ref q_way, .ref q_sorts, .ref q_rowMany, .ref q_items, .ref q_moved], eI q_sorts k_sorts 4 f_sorts, eI q_rowMany k_rowMany 4 f_rowMany, eI q_items k_items 240 f_items])) (va_Qi (fun (r : Int32) (_ : Unit) => (r = 1 ∧ (0 ≤ p0.toInt ∧ p0.toInt < 4 ∧ -1 ≤ p1.toInt ∧ p1.toInt ≤ 1 ∧ (p1.toInt = -1 ∨ p2.toInt ≤ 60)) ∧ ¬(p1.toInt ≠ -1 ∧ p2.toInt < 0)) ∨ (r = (-14) ∧ (0 ≤ p0.toInt ∧ p0.toInt < 4 ∧ -1 ≤ p1.toInt ∧ p1.toInt ≤ 1 ∧ (p1.toInt = -1 ∨ p2.toInt ≤ 60)) ∧ (p1.toInt ≠ -1 ∧ p2.toInt < 0)) ∨ (r = (-2) ∧ ¬(0 ≤ p0.toInt ∧ p0.toInt < 4 ∧ -1 ≤ p1.toInt ∧ p1.toInt ≤ 1 ∧ (p1.toInt = -1 ∨ p2.toInt ≤ 60)))) (fun (_ : Unit) (t : State) => ∃ (f_sorts' : Nat → Int32), ∃ (f_rowMany' : Nat → Int32), ∃ (f_items' : Nat → Int32), (∀ k : Nat, k < 4 → 0 ≤ (f_rowMany' k).toInt ∧ (f_rowMany' k).toInt ≤ 60) ∧ va_P (dC, dI) vwCl [eO h0 9 [.ref q_s, .long v_fees, .ref q_thought, .long v_thoughtFees, .ref q_image, .long v_imageFees, .int v_hasImage, .ref q_tape, .int v_taped, .ref q_texts, .ref q_sizes, .int v_programs, .ref q_imageTexts, .ref q_imageSizes, .int v_imagePrograms, .int v_here, .int v_open, .int v_running, .int v_begun, .ref q_held, .ref q_marks, .int v_markMany, .ref q_trace, .int v_traced, .ref q_keptBalances, .ref q_keptFees, .int v_deep, .ref q_way, .ref q_sorts, .ref q_rowMany, .ref q_items, .ref q_moved], eI q_sorts k_sorts 4 (f_sorts'), eI q_rowMany k_rowMany 4 (f_rowMany'), eI q_items k_items 240 (f_items')] t.heap ∧ va_K (dC, dI) vwCl [(k_sorts, .int), (k_rowMany, .int), (k_items, .int)] t ∧ va_D (va_A [eO h0 9 [.ref q_s, .long v_fees, .ref q_thought, .long v_thoughtFees, .ref q_image, .long v_imageFees, .int v_hasImage, .ref q_tape, .int v_taped, .ref q_texts, .ref q_sizes, .int v_programs, .ref q_imageTexts, .ref q_imageSizes, .int v_imagePrograms, .int v_here, .int v_open, .int v_running, .int v_begun, .ref q_held, .ref q_marks, .int v_markMany, .ref q_trace, .int v_traced, .ref q_keptBalances, .ref q_keptFees, .int v_deep, .ref q_way, .ref q_sorts, .ref q_rowMany, .ref q_items, .ref q_moved], eI q_sorts k_sorts 4 f_sorts, eI q_rowMany k_rowMany 4 f_rowMany, eI q_items k_items 240 f_items] sz) [eO h0 9 [.ref q_s, .long v_fees, .ref q_thought, .long v_thoughtFees, .ref q_image, .long v_imageFees, .int v_hasImage, .ref q_tape, .int v_taped, .ref q_texts, .ref q_sizes, .int v_programs, .ref q_imageTexts, .ref q_imageSizes, .int v_imagePrograms, .int v_here, .int v_open, .int v_running, .int v_begun, .ref q_held, .ref q_marks, .int v_markMany, .ref q_trace, .int v_traced, .ref q_keptBalances, .ref q_keptFees, .int v_deep, .ref q_way, .ref q_sorts, .ref q_rowMany, .ref q_items, .ref q_moved], eI q_sorts k_sorts 4 (f_sorts'), eI q_rowMany k_rowMany 4 (f_rowMany'), eI q_items k_items 240 (f_items')]) (va_A [eO h0 9 [.ref q_s, .long v_fees, .ref q_thought, .long v_thoughtFees, .ref q_image, .long v_imageFees, .int v_hasImage, .ref q_tape, .int v_taped, .ref q_texts, .ref q_sizes, .int v_programs, .ref q_imageTexts, .ref q_imageSizes, .int v_imagePrograms, .int v_here, .int v_open, .int v_running, .int v_begun, .ref q_held, .ref q_marks, .int v_markMany, .ref q_trace, .int v_traced, .ref q_keptBalances, .ref q_keptFees, .int v_deep, .ref q_way, .ref q_sorts, .ref q_rowMany, .ref q_items, .ref q_moved], eI q_sorts k_sorts 4 f_sorts, eI q_rowMany k_rowMany 4 f_rowMany, eI q_items k_items 240 f_items] sz)) 0 0 (va_A [eO h0 9 [.ref q_s, .long v_fees, .ref q_thought, .long v_thoughtFees, .ref q_image, .long v_imageFees, .int v_hasImage, .ref q_tape, .int v_taped, .ref q_texts, .ref q_sizes, .int v_programs, .ref q_imageTexts, .ref q_imageSizes, .int v_imagePrograms, .int v_here, .int v_open, .int v_running, .int v_begun, .ref q_held, .ref q_marks, .int v_markMany, .ref q_trace, .int v_traced, .ref q_keptBalances, .ref q_keptFees, .int v_deep, .ref q_way, .ref q_sorts, .ref q_rowMany, .ref q_items, .ref q_moved], eI q_sorts k_sorts 4 f_sorts, eI q_rowMany k_rowMany 4 f_rowMany, eI q_items k_items 240 f_items] sz) := by
  refine Met.ofW (cc := cX10_sheet) (maxL := 5) (ret := (some .int)) (by decide) rfl ?_
  intro p e s m args below meth c s₁ B hml hv
  obtain ⟨rfl, hsz, hP, hK, hD0⟩ := hv
  have hx := B.exec
  have hb := B.bytes
  have hr := B.returns
  have hts := atoms_spec (ws := wsX10_sheet) B.pre
  have hown : s.vm.findClass RX10 = some m.cls := findClass_of_methodNamed B.named
  have hlocks := B.notSynchronized
  subst hsz
  have hD := hD0.self (sz := s.heap.size)
  generalize hAe : va_A [eO h0 9 [.ref q_s, .long v_fees, .ref q_thought, .long v_thoughtFees, .ref q_image, .long v_imageFees, .int v_hasImage, .ref q_tape, .int v_taped, .ref q_texts, .ref q_sizes, .int v_programs, .ref q_imageTexts, .ref q_imageSizes, .int v_imagePrograms, .int v_here, .int v_open, .int v_running, .int v_begun, .ref q_held, .ref q_marks, .int v_markMany, .ref q_trace, .int v_traced, .ref q_keptBalances, .ref q_keptFees, .int v_deep, .ref q_way, .ref q_sorts, .ref q_rowMany, .ref q_items, .ref q_moved], eI q_sorts k_sorts 4 f_sorts, eI q_rowMany k_rowMany 4 f_rowMany, eI q_items k_items 240 f_items] s.heap.size = A at hD ⊢
  have hA : ∀ q : Nat, s.heap.size ≤ q → A q := fun q h => by rw [← hAe]; exact Or.inr h
  have hS : va_S A s.heap s.heap [] := va_S.rf
  have hP : va_P (dC, dI) vwCl [eO h0 9 [.ref q_s, .long v_fees, .ref q_thought, .long v_thoughtFees, .ref q_image, .long v_imageFees, .int v_hasImage, .ref q_tape, .int v_taped, .ref q_texts, .ref q_sizes, .int v_programs, .ref q_imageTexts, .ref q_imageSizes, .int v_imagePrograms, .int v_here, .int v_open, .int v_running, .int v_begun, .ref q_held, .ref q_marks, .int v_markMany, .ref q_trace, .int v_traced, .ref q_keptBalances, .ref q_keptFees, .int v_deep, .ref q_way, .ref q_sorts, .ref q_rowMany, .ref q_items, .ref q_moved], eI q_sorts k_sorts 4 f_sorts, eI q_rowMany k_rowMany 4 f_rowMany, eI q_items k_items 240 f_items] s.heap := hP
  have hl := lv_entry ([.ref h0, .int p0, .int p1, .int p2]) (n := 5) (Nat.le_of_ble_eq_true rfl)
  rw [lg_entry_eq]
  generalize (lg_sl ([.ref h0, .int p0, .int p1, .int p2]) ++ List.replicate (5 - (lg_sl ([.ref h0, .int p0, .int p1, .int p2])).length) Slot.unset).toArray = ls at hl ⊢
  have hl : lv_has ls 5 [(0, .ref h0), (1, .int p0), (2, .int p1), (3, .int p2)] := hl
  suffices key9 : ∀ Q9 : State → Prop, Q9 = (MQ below (va_Qi (fun (r : Int32) (_ : Unit) => (r = 1 ∧ (0 ≤ p0.toInt ∧ p0.toInt < 4 ∧ -1 ≤ p1.toInt ∧ p1.toInt ≤ 1 ∧ (p1.toInt = -1 ∨ p2.toInt ≤ 60)) ∧ ¬(p1.toInt ≠ -1 ∧ p2.toInt < 0)) ∨ (r = (-14) ∧ (0 ≤ p0.toInt ∧ p0.toInt < 4 ∧ -1 ≤ p1.toInt ∧ p1.toInt ≤ 1 ∧ (p1.toInt = -1 ∨ p2.toInt ≤ 60)) ∧ (p1.toInt ≠ -1 ∧ p2.toInt < 0)) ∨ (r = (-2) ∧ ¬(0 ≤ p0.toInt ∧ p0.toInt < 4 ∧ -1 ≤ p1.toInt ∧ p1.toInt ≤ 1 ∧ (p1.toInt = -1 ∨ p2.toInt ≤ 60)))) (fun (_ : Unit) (t : State) => ∃ (f_sorts' : Nat → Int32), ∃ (f_rowMany' : Nat → Int32), ∃ (f_items' : Nat → Int32), (∀ k : Nat, k < 4 → 0 ≤ (f_rowMany' k).toInt ∧ (f_rowMany' k).toInt ≤ 60) ∧ va_P (dC, dI) vwCl [eO h0 9 [.ref q_s, .long v_fees, .ref q_thought, .long v_thoughtFees, .ref q_image, .long v_imageFees, .int v_hasImage, .ref q_tape, .int v_taped, .ref q_texts, .ref q_sizes, .int v_programs, .ref q_imageTexts, .ref q_imageSizes, .int v_imagePrograms, .int v_here, .int v_open, .int v_running, .int v_begun, .ref q_held, .ref q_marks, .int v_markMany, .ref q_trace, .int v_traced, .ref q_keptBalances, .ref q_keptFees, .int v_deep, .ref q_way, .ref q_sorts, .ref q_rowMany, .ref q_items, .ref q_moved], eI q_sorts k_sorts 4 (f_sorts'), eI q_rowMany k_rowMany 4 (f_rowMany'), eI q_items k_items 240 (f_items')] t.heap ∧ va_K (dC, dI) vwCl [(k_sorts, .int), (k_rowMany, .int), (k_items, .int)] t ∧ va_D A [eO h0 9 [.ref q_s, .long v_fees, .ref q_thought, .long v_thoughtFees, .ref q_image, .long v_imageFees, .int v_hasImage, .ref q_tape, .int v_taped, .ref q_texts, .ref q_sizes, .int v_programs, .ref q_imageTexts, .ref q_imageSizes, .int v_imagePrograms, .int v_here, .int v_open, .int v_running, .int v_begun, .ref q_held, .ref q_marks, .int v_markMany, .ref q_trace, .int v_traced, .ref q_keptBalances, .ref q_keptFees, .int v_deep, .ref q_way, .ref q_sorts, .ref q_rowMany, .ref q_items, .ref q_moved], eI q_sorts k_sorts 4 (f_sorts'), eI q_rowMany k_rowMany 4 (f_rowMany'), eI q_items k_items 240 (f_items')]) A) (([.ref h0, .int p0, .int p1, .int p2] : List Value).toArray) s 0 0 A) → W p l e ({ frames := 2, cells := 0, slots := 0, locals := 45 }) s m (([.ref h0, .int p0, .int p1, .int p2] : List Value).toArray) below meth c s.heap [] 0 0 Q9 (F0 m 0 ls []) from key9 _ rfl
  intro Q9 hQ9
  have k_m14 : ((-14) : Int32).toInt = (-14) := by decide
  have k_m2 : ((-2) : Int32).toInt = (-2) := by decide
  have k_m1 : ((-1) : Int32).toInt = (-1) := by decide
  have k_0 : (0 : Int32).toInt = 0 := by decide
  have k_1 : (1 : Int32).toInt = 1 := by decide
  have k_60 : (60 : Int32).toInt = 60 := by decide
  have kl_m1 : ((-1) : Int64).toInt = (-1) := by decide
  have kl_1 : (1 : Int64).toInt = 1 := by decide
  refine lv_iload_n hx hb dX10_sheet_0 rfl (lv_at hl 1 rfl) ?_
  obtain ⟨hPc, hDc, hFc, hCm, hNw⟩ := C_s (wc := []) hP hD hS hA [] 4 rfl (by decide +kernel) rfl
  have hKc := K_s (tys' := []) hK [] rfl
  refine va_calli (va_runS (As := [.int p0]) (rest := []) ⟨hx, hb, hml, hown, hts⟩ (c_X10_isSheet l dC dI p0 s.heap.size) (va_cwS 1 hts gX10_sheet_X10_isSheet rfl rfl rfl (by decide +kernel) ⟨Nat.le_of_ble_eq_true rfl, Nat.le_of_ble_eq_true rfl⟩) ⟨fun a U g mk q => by obtain ⟨q0, q1, qP, qK, qD⟩ := q; exact ⟨q0, q1, qP, va_K.moved (u := U) (U := U.calling g mk a) (Vm.Alike.refl U.vm) qK, qD⟩, fun U hU hW => ⟨rfl, by rw [hU], by rw [hU]; exact hPc, va_K.moved hW.alike hKc, hDc.weaken (fun _ _ _ _ => trivial)⟩⟩ rfl rfl hl.1 rfl (lv_room (Nat.le_of_ble_eq_true rfl)) dX10_sheet_1 ⟨Nat.le_of_ble_eq_true rfl, Nat.le_of_ble_eq_true rfl⟩) hS (fun q _ h => hFc q h) hFc (fun r1 u t H1 locs ht hvm hw hB hz1 hk1 hS => ?_)
  obtain ⟨hP1, hK1, hD1⟩ := hB
  rw [ht] at hP1
  have hK1 := va_K.moved hvm.symm hK1
  try dsimp only at hw
  obtain ⟨hP, hD⟩ := J_s (wL := [eO h0 9 [.ref q_s, .long v_fees, .ref q_thought, .long v_thoughtFees, .ref q_image, .long v_imageFees, .int v_hasImage, .ref q_tape, .int v_taped, .ref q_texts, .ref q_sizes, .int v_programs, .ref q_imageTexts, .ref q_imageSizes, .int v_imagePrograms, .int v_here, .int v_open, .int v_running, .int v_begun, .ref q_held, .ref q_marks, .int v_markMany, .ref q_trace, .int v_traced, .ref q_keptBalances, .ref q_keptFees, .int v_deep, .ref q_way, .ref q_sorts, .ref q_rowMany, .ref q_items, .ref q_moved], eI q_sorts k_sorts 4 f_sorts, eI q_rowMany k_rowMany 4 f_rowMany, eI q_items k_items 240 f_items]) hP hD [] [(0, 4)] hCm hNw (by decide +kernel) hk1 hFc hP1 hD1 rfl
  have hK := KJ_s (tys' := [(k_sorts, .int), (k_rowMany, .int), (k_items, .int)]) hK hK1 [(0, 3)] rfl
  generalize H1 = H at hP hS ⊢
  rcases hw with ⟨e_r1, f_r1⟩ | ⟨e_r1, f_r1⟩
  · subst e_r1
    refine lv_if_eq (tgt := 30) hx hb dX10_sheet_4 (by decide) (fun c2 => absurd c2 (by decide)) (fun c2 => ?_)
    refine lv_iload_n hx hb dX10_sheet_7 rfl (lv_at hl 2 rfl) ?_
    refine lv_i2l (v := p1.toInt64) hx hb dX10_sheet_8 rfl ?_
    have t_t3 := Int32.toInt_toInt64 p1
    refine lv_ldc2 hx hb hown (hts (.constantLong RX10 293 (-1)) (List.mem_cons_of_mem _ mw_865)) dX10_sheet_9 ?_
    refine lv_lconst (v := 1) hx hb dX10_sheet_12 (by decide) ?_
    obtain ⟨hPc, hDc, hFc, hCm, hNw⟩ := C_s (wc := []) hP hD hS hA [] 4 rfl (by decide +kernel) rfl
    have hKc := K_s (tys' := []) hK [] rfl
    refine va_calli (va_runS (As := [.long p1.toInt64, .long (-1), .long 1]) (rest := []) ⟨hx, hb, hml, hown, hts⟩ (c_X10_isIn l dC dI (p1.toInt64) (-1) 1 H.size) (va_cwS 3 hts gX10_sheet_X10_isIn rfl rfl rfl (by decide +kernel) ⟨Nat.le_of_ble_eq_true rfl, Nat.le_of_ble_eq_true rfl⟩) ⟨fun a U g mk q => by obtain ⟨q0, q1, qP, qK, qD⟩ := q; exact ⟨q0, q1, qP, va_K.moved (u := U) (U := U.calling g mk a) (Vm.Alike.refl U.vm) qK, qD⟩, fun U hU hW => ⟨rfl, by rw [hU], by rw [hU]; exact hPc, va_K.moved hW.alike hKc, hDc.weaken (fun _ _ _ _ => trivial)⟩⟩ rfl rfl hl.1 rfl (lv_room (Nat.le_of_ble_eq_true rfl)) dX10_sheet_13 ⟨Nat.le_of_ble_eq_true rfl, Nat.le_of_ble_eq_true rfl⟩) hS (fun q _ h => hFc q h) hFc (fun r4 u t H1 locs ht hvm hw hB hz1 hk1 hS => ?_)
    obtain ⟨hP1, hK1, hD1⟩ := hB
    rw [ht] at hP1
    have hK1 := va_K.moved hvm.symm hK1
    try dsimp only at hw
    obtain ⟨hP, hD⟩ := J_s (wL := [eO h0 9 [.ref q_s, .long v_fees, .ref q_thought, .long v_thoughtFees, .ref q_image, .long v_imageFees, .int v_hasImage, .ref q_tape, .int v_taped, .ref q_texts, .ref q_sizes, .int v_programs, .ref q_imageTexts, .ref q_imageSizes, .int v_imagePrograms, .int v_here, .int v_open, .int v_running, .int v_begun, .ref q_held, .ref q_marks, .int v_markMany, .ref q_trace, .int v_traced, .ref q_keptBalances, .ref q_keptFees, .int v_deep, .ref q_way, .ref q_sorts, .ref q_rowMany, .ref q_items, .ref q_moved], eI q_sorts k_sorts 4 f_sorts, eI q_rowMany k_rowMany 4 f_rowMany, eI q_items k_items 240 f_items]) hP hD [] [(0, 4)] hCm hNw (by decide +kernel) hk1 hFc hP1 hD1 rfl
    have hK := KJ_s (tys' := [(k_sorts, .int), (k_rowMany, .int), (k_items, .int)]) hK hK1 [(0, 3)] rfl
    generalize H1 = H at hP hS ⊢
    rcases hw with ⟨e_r4, f_r4⟩ | ⟨e_r4, f_r4⟩
    · subst e_r4
      refine lv_if_eq (tgt := 30) hx hb dX10_sheet_16 (by decide) (fun c5 => absurd c5 (by decide)) (fun c5 => ?_)
      refine lv_iload_n hx hb dX10_sheet_19 rfl (lv_at hl 2 rfl) ?_
      refine lv_iconst (v := -1) hx hb dX10_sheet_20 (by decide) ?_
      refine lv_icmp_eq (tgt := 33) hx hb dX10_sheet_21 (by decide) (fun c6 => ?_) (fun c6 => ?_)
      · skip
        have f_c6 := i_eq c6
        refine lv_iload_n hx hb dX10_sheet_33 rfl (lv_at hl 2 rfl) ?_
        refine lv_iconst (v := -1) hx hb dX10_sheet_34 (by decide) ?_
        refine lv_icmp_eq (tgt := 45) hx hb dX10_sheet_35 (by decide) (fun c7 => ?_) (fun c7 => ?_)
        · skip
          have f_c7 := i_eq c7
          refine lv_aload_n hx hb dX10_sheet_45 rfl (lv_at hl 0 rfl) ?_
          refine va_get (D := (dC, dI)) (ci := 9) (v := .ref q_sorts) (C := RX10) (T := TX10) (N := 32) hx hb hts (fun w h => List.mem_cons_of_mem _ (inlX10 w h)) hown hK hP 0 rfl rfl 28 (by decide) (hts (.fieldLink RX10 55 "ClearingGatesModel" "sorts" "[I") (List.mem_cons_of_mem _ mw_637)) (fun _ h9 => h9) rfl dX10_sheet_46 ?_
          refine lv_iload_n hx hb dX10_sheet_49 rfl (lv_at hl 1 rfl) ?_
          refine lv_iload_n hx hb dX10_sheet_50 rfl (lv_at hl 2 rfl) ?_
          refine va_iast (D := (dC, dI)) hx hb hK hP hD hS 1 0 rfl rfl (vp_in_iff.mpr ⟨by omega, by omega⟩) dX10_sheet_51 (fun H locs hP hD hS => ?_)
          generalize e_g8 : (upd f_sorts (p0).toNatClampNeg p1) = g8 at hP hD
          obtain ⟨hP, hD⟩ := X_s (ws' := [eO h0 9 [.ref q_s, .long v_fees, .ref q_thought, .long v_thoughtFees, .ref q_image, .long v_imageFees, .int v_hasImage, .ref q_tape, .int v_taped, .ref q_texts, .ref q_sizes, .int v_programs, .ref q_imageTexts, .ref q_imageSizes, .int v_imagePrograms, .int v_here, .int v_open, .int v_running, .int v_begun, .ref q_held, .ref q_marks, .int v_markMany, .ref q_trace, .int v_traced, .ref q_keptBalances, .ref q_keptFees, .int v_deep, .ref q_way, .ref q_sorts, .ref q_rowMany, .ref q_items, .ref q_moved], eI q_sorts k_sorts 4 g8, eI q_rowMany k_rowMany 4 f_rowMany, eI q_items k_items 240 f_items]) hP hD rfl
          refine lv_aload_n hx hb dX10_sheet_52 rfl (lv_at hl 0 rfl) ?_
          refine va_get (D := (dC, dI)) (ci := 9) (v := .ref q_rowMany) (C := RX10) (T := TX10) (N := 32) hx hb hts (fun w h => List.mem_cons_of_mem _ (inlX10 w h)) hown hK hP 0 rfl rfl 29 (by decide) (hts (.fieldLink RX10 58 "ClearingGatesModel" "rowMany" "[I") (List.mem_cons_of_mem _ mw_638)) (fun _ h9 => h9) rfl dX10_sheet_53 ?_
          refine lv_iload_n hx hb dX10_sheet_56 rfl (lv_at hl 1 rfl) ?_
          refine lv_iload_n hx hb dX10_sheet_57 rfl (lv_at hl 2 rfl) ?_
          refine lv_iconst (v := -1) hx hb dX10_sheet_58 (by decide) ?_
          refine lv_icmp_ne (tgt := 66) hx hb dX10_sheet_59 (by decide) (fun c9 => ?_) (fun c9 => ?_)
          · skip
            have f_c9 := i_ne c9
            exfalso; omega
          · skip
            have f_c9 := i_eq c9
            refine lv_iconst (v := 0) hx hb dX10_sheet_62 (by decide) ?_
            refine lv_goto (tgt := 67) hx hb dX10_sheet_63 (by decide) ?_
            refine va_iast (D := (dC, dI)) hx hb hK hP hD hS 2 1 rfl rfl (vp_in_iff.mpr ⟨by omega, by omega⟩) dX10_sheet_67 (fun H locs hP hD hS => ?_)
            generalize e_g10 : (upd f_rowMany (p0).toNatClampNeg 0) = g10 at hP hD
            obtain ⟨hP, hD⟩ := X_s (ws' := [eO h0 9 [.ref q_s, .long v_fees, .ref q_thought, .long v_thoughtFees, .ref q_image, .long v_imageFees, .int v_hasImage, .ref q_tape, .int v_taped, .ref q_texts, .ref q_sizes, .int v_programs, .ref q_imageTexts, .ref q_imageSizes, .int v_imagePrograms, .int v_here, .int v_open, .int v_running, .int v_begun, .ref q_held, .ref q_marks, .int v_markMany, .ref q_trace, .int v_traced, .ref q_keptBalances, .ref q_keptFees, .int v_deep, .ref q_way, .ref q_sorts, .ref q_rowMany, .ref q_items, .ref q_moved], eI q_sorts k_sorts 4 g8, eI q_rowMany k_rowMany 4 g10, eI q_items k_items 240 f_items]) hP hD rfl
            refine lv_iconst (v := 0) hx hb dX10_sheet_68 (by decide) ?_
            refine lv_istore (lv' := [(4, .int 0), (0, .ref h0), (1, .int p0), (2, .int p1), (3, .int p2)]) hx hb dX10_sheet_69 hl (by decide) rfl (fun ls hl => ?_)
            have loop_71 : ∀ (n i_71 : Nat) (x_71 : Int32), i_71 ≤ 60 → 60 < i_71 + n → x_71 = nI i_71 → ∀ (gi : Nat → Int32), ∀ (H : Heap) (locs : List Loc), va_K (dC, dI) vwCl [(k_sorts, .int), (k_rowMany, .int), (k_items, .int)] s → va_P (dC, dI) vwCl [eO h0 9 [.ref q_s, .long v_fees, .ref q_thought, .long v_thoughtFees, .ref q_image, .long v_imageFees, .int v_hasImage, .ref q_tape, .int v_taped, .ref q_texts, .ref q_sizes, .int v_programs, .ref q_imageTexts, .ref q_imageSizes, .int v_imagePrograms, .int v_here, .int v_open, .int v_running, .int v_begun, .ref q_held, .ref q_marks, .int v_markMany, .ref q_trace, .int v_traced, .ref q_keptBalances, .ref q_keptFees, .int v_deep, .ref q_way, .ref q_sorts, .ref q_rowMany, .ref q_items, .ref q_moved], eI q_sorts k_sorts 4 g8, eI q_rowMany k_rowMany 4 g10, eI q_items k_items 240 gi] H → va_D A [eO h0 9 [.ref q_s, .long v_fees, .ref q_thought, .long v_thoughtFees, .ref q_image, .long v_imageFees, .int v_hasImage, .ref q_tape, .int v_taped, .ref q_texts, .ref q_sizes, .int v_programs, .ref q_imageTexts, .ref q_imageSizes, .int v_imagePrograms, .int v_here, .int v_open, .int v_running, .int v_begun, .ref q_held, .ref q_marks, .int v_markMany, .ref q_trace, .int v_traced, .ref q_keptBalances, .ref q_keptFees, .int v_deep, .ref q_way, .ref q_sorts, .ref q_rowMany, .ref q_items, .ref q_moved], eI q_sorts k_sorts 4 g8, eI q_rowMany k_rowMany 4 g10, eI q_items k_items 240 gi] → va_S A s.heap H locs → ∀ (ls : Array Slot), lv_has ls 5 [(4, .int x_71), (0, .ref h0), (1, .int p0), (2, .int p1), (3, .int p2)] → W p l e ({ frames := 2, cells := 0, slots := 0, locals := 45 }) s m (([.ref h0, .int p0, .int p1, .int p2] : List Value).toArray) below meth c H locs 0 0 Q9 (F0 m 71 ls []) := by
              intro n
              induction n with
              | zero => intro i_71 x_71 h1 h2; exact absurd h2 (by omega)
              | succ n ih_71 =>
                intro i_71 x_71 hi_71 hn_71 e_x_71 gi H locs hK hP hD hS ls hl
                have t_x_71 : x_71.toInt = (i_71 : Int) := by rw [e_x_71]; exact nI_toInt (by omega)
                refine lv_iload hx hb dX10_sheet_71 (lv_at hl 0 rfl) ?_
                refine lv_bipush (v := 60) hx hb dX10_sheet_73 (by decide) ?_
                refine lv_icmp_ge (tgt := 97) hx hb dX10_sheet_75 (by decide) (fun c11 => ?_) (fun c11 => ?_)
                · skip
                  have f_c11 := i_le c11
                  refine lv_iconst (v := 1) hx hb dX10_sheet_97 (by decide) ?_
                  rw [hQ9]
                  exact W.iret (v := 1) hx hb hr (fun t ht hW => ⟨⟨1, (), rfl, Or.inl ⟨rfl, by first | trivial | omega⟩, g8, g10, gi, (by rw [← e_g10]; exact up_row (by omega) (by omega) (by omega) (by omega) hrow), by rw [ht]; exact hP, va_K.moved hW.alike hK, hD⟩, hS.F ht⟩) hS.2.2 dX10_sheet_98
                · skip
                  have f_c11 := i_nle c11
                  refine lv_aload_n hx hb dX10_sheet_78 rfl (lv_at hl 1 rfl) ?_
                  refine va_get (D := (dC, dI)) (ci := 9) (v := .ref q_items) (C := RX10) (T := TX10) (N := 32) hx hb hts (fun w h => List.mem_cons_of_mem _ (inlX10 w h)) hown hK hP 0 rfl rfl 30 (by decide) (hts (.fieldLink RX10 61 "ClearingGatesModel" "items" "[I") (List.mem_cons_of_mem _ mw_639)) (fun _ h9 => h9) rfl dX10_sheet_79 ?_
                  refine lv_bipush (v := 60) hx hb dX10_sheet_82 (by decide) ?_
                  refine lv_iload_n hx hb dX10_sheet_84 rfl (lv_at hl 2 rfl) ?_
                  refine lv_imul hx hb dX10_sheet_85 ?_
                  refine lv_topi (fun z12 e_z12 => ?_)
                  have t_z12 := i_mulc e_z12 k_60 (by omega) (by omega)
                  refine lv_iload hx hb dX10_sheet_86 (lv_at hl 0 rfl) ?_
                  refine lv_iadd hx hb dX10_sheet_88 ?_
                  refine lv_topi (fun z13 e_z13 => ?_)
                  (first | have t_z13 := i_add e_z13 (by omega) (by omega) | skip)
                  refine lv_iconst (v := 0) hx hb dX10_sheet_89 (by decide) ?_
                  refine va_iast (D := (dC, dI)) hx hb hK hP hD hS 3 2 rfl rfl (vp_in_iff.mpr ⟨by omega, by omega⟩) dX10_sheet_90 (fun H locs hP hD hS => ?_)
                  generalize e_g14 : (upd gi (z13).toNatClampNeg 0) = g14 at hP hD
                  obtain ⟨hP, hD⟩ := X_s (ws' := [eO h0 9 [.ref q_s, .long v_fees, .ref q_thought, .long v_thoughtFees, .ref q_image, .long v_imageFees, .int v_hasImage, .ref q_tape, .int v_taped, .ref q_texts, .ref q_sizes, .int v_programs, .ref q_imageTexts, .ref q_imageSizes, .int v_imagePrograms, .int v_here, .int v_open, .int v_running, .int v_begun, .ref q_held, .ref q_marks, .int v_markMany, .ref q_trace, .int v_traced, .ref q_keptBalances, .ref q_keptFees, .int v_deep, .ref q_way, .ref q_sorts, .ref q_rowMany, .ref q_items, .ref q_moved], eI q_sorts k_sorts 4 g8, eI q_rowMany k_rowMany 4 g10, eI q_items k_items 240 g14]) hP hD rfl
                  obtain ⟨x15, e_x15⟩ : ∃ yy : Int32, yy = x_71 + 1 := ⟨_, rfl⟩
                  refine lv_iinc (v := x15) (lv' := [(4, .int x15), (0, .ref h0), (1, .int p0), (2, .int p1), (3, .int p2)]) hx hb dX10_sheet_91 hl (k := 0) rfl (by rw [e_x15]; rfl) (by decide) rfl (fun ls hl => ?_)
                  (first | have t_x15 := i_add e_x15 (by omega) (by omega) | skip)
                  refine lv_goto (tgt := 71) hx hb dX10_sheet_94 (by decide) ?_
                  exact ih_71 (i_71 + 1) x15 (by omega) (by omega) (by rw [e_x15, e_x_71]; exact nI_1 i_71) g14  _ _ (K_s hK [(0, 3)] rfl) (P_s hP [(0, 4)] rfl) (D_s hD [(0, 4)] 4 rfl (by decide +kernel) rfl) hS ls (lv_sub hl [0, 1, 2, 3, 4] rfl)
            exact loop_71 (60 + 1) 0 0 (by omega) (by omega) rfl f_items  _ _ hK hP hD hS ls hl
        · skip
          have f_c7 := i_ne c7
          exfalso; omega
      · skip
        have f_c6 := i_ne c6
        refine lv_iload_n hx hb dX10_sheet_24 rfl (lv_at hl 3 rfl) ?_
        refine lv_bipush (v := 60) hx hb dX10_sheet_25 (by decide) ?_
        refine lv_icmp_le (tgt := 33) hx hb dX10_sheet_27 (by decide) (fun c16 => ?_) (fun c16 => ?_)
        · skip
          have f_c16 := i_le c16
          refine lv_iload_n hx hb dX10_sheet_33 rfl (lv_at hl 2 rfl) ?_
          refine lv_iconst (v := -1) hx hb dX10_sheet_34 (by decide) ?_
          refine lv_icmp_eq (tgt := 45) hx hb dX10_sheet_35 (by decide) (fun c17 => ?_) (fun c17 => ?_)
          · skip
            have f_c17 := i_eq c17
            exfalso; omega
          · skip
            have f_c17 := i_ne c17
            refine lv_iload_n hx hb dX10_sheet_38 rfl (lv_at hl 3 rfl) ?_
            refine lv_if_ge (tgt := 45) hx hb dX10_sheet_39 (by decide) (fun c18 => ?_) (fun c18 => ?_)
            · skip
              have f_c18 := i_le c18
              refine lv_aload_n hx hb dX10_sheet_45 rfl (lv_at hl 0 rfl) ?_
              refine va_get (D := (dC, dI)) (ci := 9) (v := .ref q_sorts) (C := RX10) (T := TX10) (N := 32) hx hb hts (fun w h => List.mem_cons_of_mem _ (inlX10 w h)) hown hK hP 0 rfl rfl 28 (by decide) (hts (.fieldLink RX10 55 "ClearingGatesModel" "sorts" "[I") (List.mem_cons_of_mem _ mw_637)) (fun _ h9 => h9) rfl dX10_sheet_46 ?_
              refine lv_iload_n hx hb dX10_sheet_49 rfl (lv_at hl 1 rfl) ?_
              refine lv_iload_n hx hb dX10_sheet_50 rfl (lv_at hl 2 rfl) ?_
              refine va_iast (D := (dC, dI)) hx hb hK hP hD hS 1 0 rfl rfl (vp_in_iff.mpr ⟨by omega, by omega⟩) dX10_sheet_51 (fun H locs hP hD hS => ?_)
              generalize e_g19 : (upd f_sorts (p0).toNatClampNeg p1) = g19 at hP hD
              obtain ⟨hP, hD⟩ := X_s (ws' := [eO h0 9 [.ref q_s, .long v_fees, .ref q_thought, .long v_thoughtFees, .ref q_image, .long v_imageFees, .int v_hasImage, .ref q_tape, .int v_taped, .ref q_texts, .ref q_sizes, .int v_programs, .ref q_imageTexts, .ref q_imageSizes, .int v_imagePrograms, .int v_here, .int v_open, .int v_running, .int v_begun, .ref q_held, .ref q_marks, .int v_markMany, .ref q_trace, .int v_traced, .ref q_keptBalances, .ref q_keptFees, .int v_deep, .ref q_way, .ref q_sorts, .ref q_rowMany, .ref q_items, .ref q_moved], eI q_sorts k_sorts 4 g19, eI q_rowMany k_rowMany 4 f_rowMany, eI q_items k_items 240 f_items]) hP hD rfl
              refine lv_aload_n hx hb dX10_sheet_52 rfl (lv_at hl 0 rfl) ?_
              refine va_get (D := (dC, dI)) (ci := 9) (v := .ref q_rowMany) (C := RX10) (T := TX10) (N := 32) hx hb hts (fun w h => List.mem_cons_of_mem _ (inlX10 w h)) hown hK hP 0 rfl rfl 29 (by decide) (hts (.fieldLink RX10 58 "ClearingGatesModel" "rowMany" "[I") (List.mem_cons_of_mem _ mw_638)) (fun _ h9 => h9) rfl dX10_sheet_53 ?_
              refine lv_iload_n hx hb dX10_sheet_56 rfl (lv_at hl 1 rfl) ?_
              refine lv_iload_n hx hb dX10_sheet_57 rfl (lv_at hl 2 rfl) ?_
              refine lv_iconst (v := -1) hx hb dX10_sheet_58 (by decide) ?_
              refine lv_icmp_ne (tgt := 66) hx hb dX10_sheet_59 (by decide) (fun c20 => ?_) (fun c20 => ?_)
              · skip
                have f_c20 := i_ne c20
                refine lv_iload_n hx hb dX10_sheet_66 rfl (lv_at hl 3 rfl) ?_
                refine va_iast (D := (dC, dI)) hx hb hK hP hD hS 2 1 rfl rfl (vp_in_iff.mpr ⟨by omega, by omega⟩) dX10_sheet_67 (fun H locs hP hD hS => ?_)
                generalize e_g21 : (upd f_rowMany (p0).toNatClampNeg p2) = g21 at hP hD
                obtain ⟨hP, hD⟩ := X_s (ws' := [eO h0 9 [.ref q_s, .long v_fees, .ref q_thought, .long v_thoughtFees, .ref q_image, .long v_imageFees, .int v_hasImage, .ref q_tape, .int v_taped, .ref q_texts, .ref q_sizes, .int v_programs, .ref q_imageTexts, .ref q_imageSizes, .int v_imagePrograms, .int v_here, .int v_open, .int v_running, .int v_begun, .ref q_held, .ref q_marks, .int v_markMany, .ref q_trace, .int v_traced, .ref q_keptBalances, .ref q_keptFees, .int v_deep, .ref q_way, .ref q_sorts, .ref q_rowMany, .ref q_items, .ref q_moved], eI q_sorts k_sorts 4 g19, eI q_rowMany k_rowMany 4 g21, eI q_items k_items 240 f_items]) hP hD rfl
                refine lv_iconst (v := 0) hx hb dX10_sheet_68 (by decide) ?_
                refine lv_istore (lv' := [(4, .int 0), (0, .ref h0), (1, .int p0), (2, .int p1), (3, .int p2)]) hx hb dX10_sheet_69 hl (by decide) rfl (fun ls hl => ?_)
                have loop_71 : ∀ (n i_71 : Nat) (x_71 : Int32), i_71 ≤ 60 → 60 < i_71 + n → x_71 = nI i_71 → ∀ (gi : Nat → Int32), ∀ (H : Heap) (locs : List Loc), va_K (dC, dI) vwCl [(k_sorts, .int), (k_rowMany, .int), (k_items, .int)] s → va_P (dC, dI) vwCl [eO h0 9 [.ref q_s, .long v_fees, .ref q_thought, .long v_thoughtFees, .ref q_image, .long v_imageFees, .int v_hasImage, .ref q_tape, .int v_taped, .ref q_texts, .ref q_sizes, .int v_programs, .ref q_imageTexts, .ref q_imageSizes, .int v_imagePrograms, .int v_here, .int v_open, .int v_running, .int v_begun, .ref q_held, .ref q_marks, .int v_markMany, .ref q_trace, .int v_traced, .ref q_keptBalances, .ref q_keptFees, .int v_deep, .ref q_way, .ref q_sorts, .ref q_rowMany, .ref q_items, .ref q_moved], eI q_sorts k_sorts 4 g19, eI q_rowMany k_rowMany 4 g21, eI q_items k_items 240 gi] H → va_D A [eO h0 9 [.ref q_s, .long v_fees, .ref q_thought, .long v_thoughtFees, .ref q_image, .long v_imageFees, .int v_hasImage, .ref q_tape, .int v_taped, .ref q_texts, .ref q_sizes, .int v_programs, .ref q_imageTexts, .ref q_imageSizes, .int v_imagePrograms, .int v_here, .int v_open, .int v_running, .int v_begun, .ref q_held, .ref q_marks, .int v_markMany, .ref q_trace, .int v_traced, .ref q_keptBalances, .ref q_keptFees, .int v_deep, .ref q_way, .ref q_sorts, .ref q_rowMany, .ref q_items, .ref q_moved], eI q_sorts k_sorts 4 g19, eI q_rowMany k_rowMany 4 g21, eI q_items k_items 240 gi] → va_S A s.heap H locs → ∀ (ls : Array Slot), lv_has ls 5 [(4, .int x_71), (0, .ref h0), (1, .int p0), (2, .int p1), (3, .int p2)] → W p l e ({ frames := 2, cells := 0, slots := 0, locals := 45 }) s m (([.ref h0, .int p0, .int p1, .int p2] : List Value).toArray) below meth c H locs 0 0 Q9 (F0 m 71 ls []) := by
                  intro n
                  induction n with
                  | zero => intro i_71 x_71 h1 h2; exact absurd h2 (by omega)
                  | succ n ih_71 =>
                    intro i_71 x_71 hi_71 hn_71 e_x_71 gi H locs hK hP hD hS ls hl
                    have t_x_71 : x_71.toInt = (i_71 : Int) := by rw [e_x_71]; exact nI_toInt (by omega)
                    refine lv_iload hx hb dX10_sheet_71 (lv_at hl 0 rfl) ?_
                    refine lv_bipush (v := 60) hx hb dX10_sheet_73 (by decide) ?_
                    refine lv_icmp_ge (tgt := 97) hx hb dX10_sheet_75 (by decide) (fun c22 => ?_) (fun c22 => ?_)
                    · skip
                      have f_c22 := i_le c22
                      refine lv_iconst (v := 1) hx hb dX10_sheet_97 (by decide) ?_
                      rw [hQ9]
                      exact W.iret (v := 1) hx hb hr (fun t ht hW => ⟨⟨1, (), rfl, Or.inl ⟨rfl, by first | trivial | omega⟩, g19, g21, gi, (by rw [← e_g21]; exact up_row (by omega) (by omega) (by omega) (by omega) hrow), by rw [ht]; exact hP, va_K.moved hW.alike hK, hD⟩, hS.F ht⟩) hS.2.2 dX10_sheet_98
                    · skip
                      have f_c22 := i_nle c22
                      refine lv_aload_n hx hb dX10_sheet_78 rfl (lv_at hl 1 rfl) ?_
                      refine va_get (D := (dC, dI)) (ci := 9) (v := .ref q_items) (C := RX10) (T := TX10) (N := 32) hx hb hts (fun w h => List.mem_cons_of_mem _ (inlX10 w h)) hown hK hP 0 rfl rfl 30 (by decide) (hts (.fieldLink RX10 61 "ClearingGatesModel" "items" "[I") (List.mem_cons_of_mem _ mw_639)) (fun _ h9 => h9) rfl dX10_sheet_79 ?_
                      refine lv_bipush (v := 60) hx hb dX10_sheet_82 (by decide) ?_
                      refine lv_iload_n hx hb dX10_sheet_84 rfl (lv_at hl 2 rfl) ?_
                      refine lv_imul hx hb dX10_sheet_85 ?_
                      refine lv_topi (fun z23 e_z23 => ?_)
                      have t_z23 := i_mulc e_z23 k_60 (by omega) (by omega)
                      refine lv_iload hx hb dX10_sheet_86 (lv_at hl 0 rfl) ?_
                      refine lv_iadd hx hb dX10_sheet_88 ?_
                      refine lv_topi (fun z24 e_z24 => ?_)
                      (first | have t_z24 := i_add e_z24 (by omega) (by omega) | skip)
                      refine lv_iconst (v := 0) hx hb dX10_sheet_89 (by decide) ?_
                      refine va_iast (D := (dC, dI)) hx hb hK hP hD hS 3 2 rfl rfl (vp_in_iff.mpr ⟨by omega, by omega⟩) dX10_sheet_90 (fun H locs hP hD hS => ?_)
                      generalize e_g25 : (upd gi (z24).toNatClampNeg 0) = g25 at hP hD
                      obtain ⟨hP, hD⟩ := X_s (ws' := [eO h0 9 [.ref q_s, .long v_fees, .ref q_thought, .long v_thoughtFees, .ref q_image, .long v_imageFees, .int v_hasImage, .ref q_tape, .int v_taped, .ref q_texts, .ref q_sizes, .int v_programs, .ref q_imageTexts, .ref q_imageSizes, .int v_imagePrograms, .int v_here, .int v_open, .int v_running, .int v_begun, .ref q_held, .ref q_marks, .int v_markMany, .ref q_trace, .int v_traced, .ref q_keptBalances, .ref q_keptFees, .int v_deep, .ref q_way, .ref q_sorts, .ref q_rowMany, .ref q_items, .ref q_moved], eI q_sorts k_sorts 4 g19, eI q_rowMany k_rowMany 4 g21, eI q_items k_items 240 g25]) hP hD rfl
                      obtain ⟨x26, e_x26⟩ : ∃ yy : Int32, yy = x_71 + 1 := ⟨_, rfl⟩
                      refine lv_iinc (v := x26) (lv' := [(4, .int x26), (0, .ref h0), (1, .int p0), (2, .int p1), (3, .int p2)]) hx hb dX10_sheet_91 hl (k := 0) rfl (by rw [e_x26]; rfl) (by decide) rfl (fun ls hl => ?_)
                      (first | have t_x26 := i_add e_x26 (by omega) (by omega) | skip)
                      refine lv_goto (tgt := 71) hx hb dX10_sheet_94 (by decide) ?_
                      exact ih_71 (i_71 + 1) x26 (by omega) (by omega) (by rw [e_x26, e_x_71]; exact nI_1 i_71) g25  _ _ (K_s hK [(0, 3)] rfl) (P_s hP [(0, 4)] rfl) (D_s hD [(0, 4)] 4 rfl (by decide +kernel) rfl) hS ls (lv_sub hl [0, 1, 2, 3, 4] rfl)
                exact loop_71 (60 + 1) 0 0 (by omega) (by omega) rfl f_items  _ _ hK hP hD hS ls hl
              · skip
                have f_c20 := i_eq c20
                exfalso; omega
            · skip
              have f_c18 := i_nle c18
              refine lv_bipush (v := -14) hx hb dX10_sheet_42 (by decide) ?_
              rw [hQ9]
              exact W.iret (v := (-14)) hx hb hr (fun t ht hW => ⟨⟨(-14), (), rfl, Or.inr (Or.inl ⟨rfl, by first | trivial | omega⟩), f_sorts, f_rowMany, f_items, hrow, by rw [ht]; exact hP, va_K.moved hW.alike hK, hD⟩, hS.F ht⟩) hS.2.2 dX10_sheet_44
        · skip
          have f_c16 := i_nle c16
          refine lv_bipush (v := -2) hx hb dX10_sheet_30 (by decide) ?_
          rw [hQ9]
          exact W.iret (v := (-2)) hx hb hr (fun t ht hW => ⟨⟨(-2), (), rfl, Or.inr (Or.inr (⟨rfl, by first | trivial | omega⟩)), f_sorts, f_rowMany, f_items, hrow, by rw [ht]; exact hP, va_K.moved hW.alike hK, hD⟩, hS.F ht⟩) hS.2.2 dX10_sheet_32
    · subst e_r4
      refine lv_if_eq (tgt := 30) hx hb dX10_sheet_16 (by decide) (fun c27 => ?_) (fun c27 => absurd (by decide) c27)
      refine lv_bipush (v := -2) hx hb dX10_sheet_30 (by decide) ?_
      rw [hQ9]
      exact W.iret (v := (-2)) hx hb hr (fun t ht hW => ⟨⟨(-2), (), rfl, Or.inr (Or.inr (⟨rfl, by first | trivial | omega⟩)), f_sorts, f_rowMany, f_items, hrow, by rw [ht]; exact hP, va_K.moved hW.alike hK, hD⟩, hS.F ht⟩) hS.2.2 dX10_sheet_32
  · subst e_r1
    refine lv_if_eq (tgt := 30) hx hb dX10_sheet_4 (by decide) (fun c28 => ?_) (fun c28 => absurd (by decide) c28)
    refine lv_bipush (v := -2) hx hb dX10_sheet_30 (by decide) ?_
    rw [hQ9]
    exact W.iret (v := (-2)) hx hb hr (fun t ht hW => ⟨⟨(-2), (), rfl, Or.inr (Or.inr (⟨rfl, by first | trivial | omega⟩)), f_sorts, f_rowMany, f_items, hrow, by rw [ht]; exact hP, va_K.moved hW.alike hK, hD⟩, hS.F ht⟩) hS.2.2 dX10_sheet_32

set_option maxRecDepth 100000 in
set_option maxHeartbeats 4000000 in
/-- itemOf of the reference -/
theorem c_X10_itemOf (l : Launch) (dC : Nat → ClassId) (dI : Nat → Nat → Nat) (h0 : Nat) (p0 : Int32) (p1 : Int32) (q_s : Nat) (v_fees : Int64) (q_thought : Nat) (v_thoughtFees : Int64) (q_image : Nat) (v_imageFees : Int64) (v_hasImage : Int32) (q_tape : Nat) (v_taped : Int32) (q_texts : Nat) (q_sizes : Nat) (v_programs : Int32) (q_imageTexts : Nat) (q_imageSizes : Nat) (v_imagePrograms : Int32) (v_here : Int32) (v_open : Int32) (v_running : Int32) (v_begun : Int32) (q_held : Nat) (q_marks : Nat) (v_markMany : Int32) (q_trace : Nat) (v_traced : Int32) (q_keptBalances : Nat) (q_keptFees : Nat) (v_deep : Int32) (q_way : Nat) (q_sorts : Nat) (q_rowMany : Nat) (q_items : Nat) (q_moved : Nat) (k_items : ClassId) (f_items : Nat → Int32) (sz : Nat) (h1 : 0 ≤ p0.toInt) (h2 : p0.toInt < 4) (h3 : 0 ≤ p1.toInt) (h4 : p1.toInt < 60) : Met l yX10_itemOf wsX10_itemOf ({ frames := 0, cells := 0, slots := 0, locals := 0 }) (va_Pc [.ref h0, .int p0, .int p1] (fun U => U.heap.size = sz ∧ va_P (dC, dI) vwCl [eO h0 9 [.ref q_s, .long v_fees, .ref q_thought, .long v_thoughtFees, .ref q_image, .long v_imageFees, .int v_hasImage, .ref q_tape, .int v_taped, .ref q_texts, .ref q_sizes, .int v_programs, .ref q_imageTexts, .ref q_imageSizes, .int v_imagePrograms, .int v_here, .int v_open, .int v_running, .int v_begun, .ref q_held, .ref q_marks, .int v_markMany, .ref q_trace, .int v_traced, .ref q_keptBalances, .ref q_keptFees, .int v_deep, .ref q_way, .ref q_sorts, .ref q_rowMany, .ref q_items, .ref q_moved], eI q_items k_items 240 f_items] U.heap ∧ va_K (dC, dI) vwCl [(k_items, .int)] U ∧ va_D (fun _ => True) [eO h0 9 [.ref q_s, .long v_fees, .ref q_thought, .long v_thoughtFees, .ref q_image, .long v_imageFees, .int v_hasImage, .ref q_tape, .int v_taped, .ref q_texts, .ref q_sizes, .int v_programs, .ref q_imageTexts, .ref q_imageSizes, .int v_imagePrograms, .int v_here, .int v_open, .int v_running, .int v_begun, .ref q_held, .ref q_marks, .int v_markMany, .ref q_trace, .int v_traced, .ref q_keptBalances, .ref q_keptFees, .int v_deep, .ref q_way, .ref q_sorts, .ref q_rowMany, .ref q_items, .ref q_moved], eI q_items k_items 240 f_items])) (va_Qi (fun (r : Int32) (_ : Unit) => True) (fun (_ : Unit) (t : State) => va_P (dC, dI) vwCl [eO h0 9 [.ref q_s, .long v_fees, .ref q_thought, .long v_thoughtFees, .ref q_image, .long v_imageFees, .int v_hasImage, .ref q_tape, .int v_taped, .ref q_texts, .ref q_sizes, .int v_programs, .ref q_imageTexts, .ref q_imageSizes, .int v_imagePrograms, .int v_here, .int v_open, .int v_running, .int v_begun, .ref q_held, .ref q_marks, .int v_markMany, .ref q_trace, .int v_traced, .ref q_keptBalances, .ref q_keptFees, .int v_deep, .ref q_way, .ref q_sorts, .ref q_rowMany, .ref q_items, .ref q_moved], eI q_items k_items 240 f_items] t.heap ∧ va_K (dC, dI) vwCl [(k_items, .int)] t ∧ va_D (va_A [eO h0 9 [.ref q_s, .long v_fees, .ref q_thought, .long v_thoughtFees, .ref q_image, .long v_imageFees, .int v_hasImage, .ref q_tape, .int v_taped, .ref q_texts, .ref q_sizes, .int v_programs, .ref q_imageTexts, .ref q_imageSizes, .int v_imagePrograms, .int v_here, .int v_open, .int v_running, .int v_begun, .ref q_held, .ref q_marks, .int v_markMany, .ref q_trace, .int v_traced, .ref q_keptBalances, .ref q_keptFees, .int v_deep, .ref q_way, .ref q_sorts, .ref q_rowMany, .ref q_items, .ref q_moved], eI q_items k_items 240 f_items] sz) [eO h0 9 [.ref q_s, .long v_fees, .ref q_thought, .long v_thoughtFees, .ref q_image, .long v_imageFees, .int v_hasImage, .ref q_tape, .int v_taped, .ref q_texts, .ref q_sizes, .int v_programs, .ref q_imageTexts, .ref q_imageSizes, .int v_imagePrograms, .int v_here, .int v_open, .int v_running, .int v_begun, .ref q_held, .ref q_marks, .int v_markMany, .ref q_trace, .int v_traced, .ref q_keptBalances, .ref q_keptFees, .int v_deep, .ref q_way, .ref q_sorts, .ref q_rowMany, .ref q_items, .ref q_moved], eI q_items k_items 240 f_items]) (va_A [eO h0 9 [.ref q_s, .long v_fees, .ref q_thought, .long v_thoughtFees, .ref q_image, .long v_imageFees, .int v_hasImage, .ref q_tape, .int v_taped, .ref q_texts, .ref q_sizes, .int v_programs, .ref q_imageTexts, .ref q_imageSizes, .int v_imagePrograms, .int v_here, .int v_open, .int v_running, .int v_begun, .ref q_held, .ref q_marks, .int v_markMany, .ref q_trace, .int v_traced, .ref q_keptBalances, .ref q_keptFees, .int v_deep, .ref q_way, .ref q_sorts, .ref q_rowMany, .ref q_items, .ref q_moved], eI q_items k_items 240 f_items] sz)) 0 0 (va_A [eO h0 9 [.ref q_s, .long v_fees, .ref q_thought, .long v_thoughtFees, .ref q_image, .long v_imageFees, .int v_hasImage, .ref q_tape, .int v_taped, .ref q_texts, .ref q_sizes, .int v_programs, .ref q_imageTexts, .ref q_imageSizes, .int v_imagePrograms, .int v_here, .int v_open, .int v_running, .int v_begun, .ref q_held, .ref q_marks, .int v_markMany, .ref q_trace, .int v_traced, .ref q_keptBalances, .ref q_keptFees, .int v_deep, .ref q_way, .ref q_sorts, .ref q_rowMany, .ref q_items, .ref q_moved], eI q_items k_items 240 f_items] sz) := by
  refine Met.ofW (cc := cX10_itemOf) (maxL := 3) (ret := (some .int)) (by decide) rfl ?_
  intro p e s m args below meth c s₁ B hml hv
  obtain ⟨rfl, hsz, hP, hK, hD0⟩ := hv
  have hx := B.exec
  have hb := B.bytes
  have hr := B.returns
  have hts := atoms_spec (ws := wsX10_itemOf) B.pre
  have hown : s.vm.findClass RX10 = some m.cls := findClass_of_methodNamed B.named
  have hlocks := B.notSynchronized
  subst hsz
  have hD := hD0.self (sz := s.heap.size)
  generalize hAe : va_A [eO h0 9 [.ref q_s, .long v_fees, .ref q_thought, .long v_thoughtFees, .ref q_image, .long v_imageFees, .int v_hasImage, .ref q_tape, .int v_taped, .ref q_texts, .ref q_sizes, .int v_programs, .ref q_imageTexts, .ref q_imageSizes, .int v_imagePrograms, .int v_here, .int v_open, .int v_running, .int v_begun, .ref q_held, .ref q_marks, .int v_markMany, .ref q_trace, .int v_traced, .ref q_keptBalances, .ref q_keptFees, .int v_deep, .ref q_way, .ref q_sorts, .ref q_rowMany, .ref q_items, .ref q_moved], eI q_items k_items 240 f_items] s.heap.size = A at hD ⊢
  have hA : ∀ q : Nat, s.heap.size ≤ q → A q := fun q h => by rw [← hAe]; exact Or.inr h
  have hS : va_S A s.heap s.heap [] := va_S.rf
  have hP : va_P (dC, dI) vwCl [eO h0 9 [.ref q_s, .long v_fees, .ref q_thought, .long v_thoughtFees, .ref q_image, .long v_imageFees, .int v_hasImage, .ref q_tape, .int v_taped, .ref q_texts, .ref q_sizes, .int v_programs, .ref q_imageTexts, .ref q_imageSizes, .int v_imagePrograms, .int v_here, .int v_open, .int v_running, .int v_begun, .ref q_held, .ref q_marks, .int v_markMany, .ref q_trace, .int v_traced, .ref q_keptBalances, .ref q_keptFees, .int v_deep, .ref q_way, .ref q_sorts, .ref q_rowMany, .ref q_items, .ref q_moved], eI q_items k_items 240 f_items] s.heap := hP
  have hl := lv_entry ([.ref h0, .int p0, .int p1]) (n := 3) (Nat.le_of_ble_eq_true rfl)
  rw [lg_entry_eq]
  generalize (lg_sl ([.ref h0, .int p0, .int p1]) ++ List.replicate (3 - (lg_sl ([.ref h0, .int p0, .int p1])).length) Slot.unset).toArray = ls at hl ⊢
  have hl : lv_has ls 3 [(0, .ref h0), (1, .int p0), (2, .int p1)] := hl
  suffices key9 : ∀ Q9 : State → Prop, Q9 = (MQ below (va_Qi (fun (r : Int32) (_ : Unit) => True) (fun (_ : Unit) (t : State) => va_P (dC, dI) vwCl [eO h0 9 [.ref q_s, .long v_fees, .ref q_thought, .long v_thoughtFees, .ref q_image, .long v_imageFees, .int v_hasImage, .ref q_tape, .int v_taped, .ref q_texts, .ref q_sizes, .int v_programs, .ref q_imageTexts, .ref q_imageSizes, .int v_imagePrograms, .int v_here, .int v_open, .int v_running, .int v_begun, .ref q_held, .ref q_marks, .int v_markMany, .ref q_trace, .int v_traced, .ref q_keptBalances, .ref q_keptFees, .int v_deep, .ref q_way, .ref q_sorts, .ref q_rowMany, .ref q_items, .ref q_moved], eI q_items k_items 240 f_items] t.heap ∧ va_K (dC, dI) vwCl [(k_items, .int)] t ∧ va_D A [eO h0 9 [.ref q_s, .long v_fees, .ref q_thought, .long v_thoughtFees, .ref q_image, .long v_imageFees, .int v_hasImage, .ref q_tape, .int v_taped, .ref q_texts, .ref q_sizes, .int v_programs, .ref q_imageTexts, .ref q_imageSizes, .int v_imagePrograms, .int v_here, .int v_open, .int v_running, .int v_begun, .ref q_held, .ref q_marks, .int v_markMany, .ref q_trace, .int v_traced, .ref q_keptBalances, .ref q_keptFees, .int v_deep, .ref q_way, .ref q_sorts, .ref q_rowMany, .ref q_items, .ref q_moved], eI q_items k_items 240 f_items]) A) (([.ref h0, .int p0, .int p1] : List Value).toArray) s 0 0 A) → W p l e ({ frames := 0, cells := 0, slots := 0, locals := 0 }) s m (([.ref h0, .int p0, .int p1] : List Value).toArray) below meth c s.heap [] 0 0 Q9 (F0 m 0 ls []) from key9 _ rfl
  intro Q9 hQ9
  have k_60 : (60 : Int32).toInt = 60 := by decide
  refine lv_aload_n hx hb dX10_itemOf_0 rfl (lv_at hl 0 rfl) ?_
  refine va_get (D := (dC, dI)) (ci := 9) (v := .ref q_items) (C := RX10) (T := TX10) (N := 32) hx hb hts (fun w h => List.mem_cons_of_mem _ (inlX10 w h)) hown hK hP 0 rfl rfl 30 (by decide) (hts (.fieldLink RX10 61 "ClearingGatesModel" "items" "[I") (List.mem_cons_of_mem _ mw_639)) (fun _ h9 => h9) rfl dX10_itemOf_1 ?_
  refine lv_bipush (v := 60) hx hb dX10_itemOf_4 (by decide) ?_
  refine lv_iload_n hx hb dX10_itemOf_6 rfl (lv_at hl 1 rfl) ?_
  refine lv_imul hx hb dX10_itemOf_7 ?_
  refine lv_topi (fun z1 e_z1 => ?_)
  have t_z1 := i_mulc e_z1 k_60 (by omega) (by omega)
  refine lv_iload_n hx hb dX10_itemOf_8 rfl (lv_at hl 2 rfl) ?_
  refine lv_iadd hx hb dX10_itemOf_9 ?_
  refine lv_topi (fun z2 e_z2 => ?_)
  (first | have t_z2 := i_add e_z2 (by omega) (by omega) | skip)
  refine va_iald (D := (dC, dI)) hx hb hK hP 1 0 rfl rfl (vp_in_iff.mpr ⟨by omega, by omega⟩) dX10_itemOf_10 ?_
  refine lv_topi (fun z3 e_z3 => ?_)
  rw [hQ9]
  exact W.iret (v := z3) hx hb hr (fun t ht hW => ⟨⟨z3, (), rfl, (by first | rfl | trivial), by rw [ht]; exact hP, va_K.moved hW.alike hK, hD⟩, hS.F ht⟩) hS.2.2 dX10_itemOf_11

set_option maxRecDepth 100000 in
set_option maxHeartbeats 4000000 in
/-- put of the reference -/
theorem c_X10_put (l : Launch) (dC : Nat → ClassId) (dI : Nat → Nat → Nat) (h0 : Nat) (p0 : Int32) (p1 : Int32) (p2 : Int32) (q_s : Nat) (v_fees : Int64) (q_thought : Nat) (v_thoughtFees : Int64) (q_image : Nat) (v_imageFees : Int64) (v_hasImage : Int32) (q_tape : Nat) (v_taped : Int32) (q_texts : Nat) (q_sizes : Nat) (v_programs : Int32) (q_imageTexts : Nat) (q_imageSizes : Nat) (v_imagePrograms : Int32) (v_here : Int32) (v_open : Int32) (v_running : Int32) (v_begun : Int32) (q_held : Nat) (q_marks : Nat) (v_markMany : Int32) (q_trace : Nat) (v_traced : Int32) (q_keptBalances : Nat) (q_keptFees : Nat) (v_deep : Int32) (q_way : Nat) (q_sorts : Nat) (q_rowMany : Nat) (q_items : Nat) (q_moved : Nat) (k_sorts : ClassId) (f_sorts : Nat → Int32) (k_rowMany : ClassId) (f_rowMany : Nat → Int32) (k_items : ClassId) (f_items : Nat → Int32) (sz : Nat) (hrow : ∀ k : Nat, k < 4 → 0 ≤ (f_rowMany k).toInt ∧ (f_rowMany k).toInt ≤ 60) : Met l yX10_put wsX10_put ({ frames := 2, cells := 0, slots := 0, locals := 45 }) (va_Pc [.ref h0, .int p0, .int p1, .int p2] (fun U => U.heap.size = sz ∧ va_P (dC, dI) vwCl [eO h0 9 [.ref q_s, .long v_fees, .ref q_thought, .long v_thoughtFees, .ref q_image, .long v_imageFees, .int v_hasImage, .ref q_tape, .int v_taped, .ref q_texts, .ref q_sizes, .int v_programs, .ref q_imageTexts, .ref q_imageSizes, .int v_imagePrograms, .int v_here, .int v_open, .int v_running, .int v_begun, .ref q_held, .ref q_marks, .int v_markMany, .ref q_trace, .int v_traced, .ref q_keptBalances, .ref q_keptFees, .int v_deep, .ref q_way, .ref q_sorts, .ref q_rowMany, .ref q_items, .ref q_moved], eI q_sorts k_sorts 4 f_sorts, eI q_rowMany k_rowMany 4 f_rowMany, eI q_items k_items 240 f_items] U.heap ∧ va_K (dC, dI) vwCl [(k_sorts, .int), (k_rowMany, .int), (k_items, .int)] U ∧ va_D (fun _ => True) [eO h0 9 [.ref q_s, .long v_fees, .ref q_thought, .long v_thoughtFees, .ref q_image, .long v_imageFees, .int v_hasImage, .ref q_tape, .int v_taped, .ref q_texts, .ref q_sizes, .int v_programs, .ref q_imageTexts, .ref q_imageSizes, .int v_imagePrograms, .int v_here, .int v_open, .int v_running, .int v_begun, .ref q_held, .ref q_marks, .int v_markMany, .ref q_trace, .int v_traced, .ref q_keptBalances, .ref q_keptFees, .int v_deep, .ref q_way, .ref q_sorts, .ref q_rowMany, .ref q_items, .ref q_moved], eI q_sorts k_sorts 4 f_sorts, eI q_rowMany k_rowMany 4 f_rowMany, eI q_items k_items 240 f_items])) (va_Qi (fun (r : Int32) (_ : Unit) => True) (fun (_ : Unit) (t : State) => ∃ (f_items' : Nat → Int32), va_P (dC, dI) vwCl [eO h0 9 [.ref q_s, .long v_fees, .ref q_thought, .long v_thoughtFees, .ref q_image, .long v_imageFees, .int v_hasImage, .ref q_tape, .int v_taped, .ref q_texts, .ref q_sizes, .int v_programs, .ref q_imageTexts, .ref q_imageSizes, .int v_imagePrograms, .int v_here, .int v_open, .int v_running, .int v_begun, .ref q_held, .ref q_marks, .int v_markMany, .ref q_trace, .int v_traced, .ref q_keptBalances, .ref q_keptFees, .int v_deep, .ref q_way, .ref q_sorts, .ref q_rowMany, .ref q_items, .ref q_moved], eI q_sorts k_sorts 4 f_sorts, eI q_rowMany k_rowMany 4 f_rowMany, eI q_items k_items 240 (f_items')] t.heap ∧ va_K (dC, dI) vwCl [(k_sorts, .int), (k_rowMany, .int), (k_items, .int)] t ∧ va_D (va_A [eO h0 9 [.ref q_s, .long v_fees, .ref q_thought, .long v_thoughtFees, .ref q_image, .long v_imageFees, .int v_hasImage, .ref q_tape, .int v_taped, .ref q_texts, .ref q_sizes, .int v_programs, .ref q_imageTexts, .ref q_imageSizes, .int v_imagePrograms, .int v_here, .int v_open, .int v_running, .int v_begun, .ref q_held, .ref q_marks, .int v_markMany, .ref q_trace, .int v_traced, .ref q_keptBalances, .ref q_keptFees, .int v_deep, .ref q_way, .ref q_sorts, .ref q_rowMany, .ref q_items, .ref q_moved], eI q_sorts k_sorts 4 f_sorts, eI q_rowMany k_rowMany 4 f_rowMany, eI q_items k_items 240 f_items] sz) [eO h0 9 [.ref q_s, .long v_fees, .ref q_thought, .long v_thoughtFees, .ref q_image, .long v_imageFees, .int v_hasImage, .ref q_tape, .int v_taped, .ref q_texts, .ref q_sizes, .int v_programs, .ref q_imageTexts, .ref q_imageSizes, .int v_imagePrograms, .int v_here, .int v_open, .int v_running, .int v_begun, .ref q_held, .ref q_marks, .int v_markMany, .ref q_trace, .int v_traced, .ref q_keptBalances, .ref q_keptFees, .int v_deep, .ref q_way, .ref q_sorts, .ref q_rowMany, .ref q_items, .ref q_moved], eI q_sorts k_sorts 4 f_sorts, eI q_rowMany k_rowMany 4 f_rowMany, eI q_items k_items 240 (f_items')]) (va_A [eO h0 9 [.ref q_s, .long v_fees, .ref q_thought, .long v_thoughtFees, .ref q_image, .long v_imageFees, .int v_hasImage, .ref q_tape, .int v_taped, .ref q_texts, .ref q_sizes, .int v_programs, .ref q_imageTexts, .ref q_imageSizes, .int v_imagePrograms, .int v_here, .int v_open, .int v_running, .int v_begun, .ref q_held, .ref q_marks, .int v_markMany, .ref q_trace, .int v_traced, .ref q_keptBalances, .ref q_keptFees, .int v_deep, .ref q_way, .ref q_sorts, .ref q_rowMany, .ref q_items, .ref q_moved], eI q_sorts k_sorts 4 f_sorts, eI q_rowMany k_rowMany 4 f_rowMany, eI q_items k_items 240 f_items] sz)) 0 0 (va_A [eO h0 9 [.ref q_s, .long v_fees, .ref q_thought, .long v_thoughtFees, .ref q_image, .long v_imageFees, .int v_hasImage, .ref q_tape, .int v_taped, .ref q_texts, .ref q_sizes, .int v_programs, .ref q_imageTexts, .ref q_imageSizes, .int v_imagePrograms, .int v_here, .int v_open, .int v_running, .int v_begun, .ref q_held, .ref q_marks, .int v_markMany, .ref q_trace, .int v_traced, .ref q_keptBalances, .ref q_keptFees, .int v_deep, .ref q_way, .ref q_sorts, .ref q_rowMany, .ref q_items, .ref q_moved], eI q_sorts k_sorts 4 f_sorts, eI q_rowMany k_rowMany 4 f_rowMany, eI q_items k_items 240 f_items] sz) := by
  refine Met.ofW (cc := cX10_put) (maxL := 4) (ret := (some .int)) (by decide) rfl ?_
  intro p e s m args below meth c s₁ B hml hv
  obtain ⟨rfl, hsz, hP, hK, hD0⟩ := hv
  have hx := B.exec
  have hb := B.bytes
  have hr := B.returns
  have hts := atoms_spec (ws := wsX10_put) B.pre
  have hown : s.vm.findClass RX10 = some m.cls := findClass_of_methodNamed B.named
  have hlocks := B.notSynchronized
  subst hsz
  have hD := hD0.self (sz := s.heap.size)
  generalize hAe : va_A [eO h0 9 [.ref q_s, .long v_fees, .ref q_thought, .long v_thoughtFees, .ref q_image, .long v_imageFees, .int v_hasImage, .ref q_tape, .int v_taped, .ref q_texts, .ref q_sizes, .int v_programs, .ref q_imageTexts, .ref q_imageSizes, .int v_imagePrograms, .int v_here, .int v_open, .int v_running, .int v_begun, .ref q_held, .ref q_marks, .int v_markMany, .ref q_trace, .int v_traced, .ref q_keptBalances, .ref q_keptFees, .int v_deep, .ref q_way, .ref q_sorts, .ref q_rowMany, .ref q_items, .ref q_moved], eI q_sorts k_sorts 4 f_sorts, eI q_rowMany k_rowMany 4 f_rowMany, eI q_items k_items 240 f_items] s.heap.size = A at hD ⊢
  have hA : ∀ q : Nat, s.heap.size ≤ q → A q := fun q h => by rw [← hAe]; exact Or.inr h
  have hS : va_S A s.heap s.heap [] := va_S.rf
  have hP : va_P (dC, dI) vwCl [eO h0 9 [.ref q_s, .long v_fees, .ref q_thought, .long v_thoughtFees, .ref q_image, .long v_imageFees, .int v_hasImage, .ref q_tape, .int v_taped, .ref q_texts, .ref q_sizes, .int v_programs, .ref q_imageTexts, .ref q_imageSizes, .int v_imagePrograms, .int v_here, .int v_open, .int v_running, .int v_begun, .ref q_held, .ref q_marks, .int v_markMany, .ref q_trace, .int v_traced, .ref q_keptBalances, .ref q_keptFees, .int v_deep, .ref q_way, .ref q_sorts, .ref q_rowMany, .ref q_items, .ref q_moved], eI q_sorts k_sorts 4 f_sorts, eI q_rowMany k_rowMany 4 f_rowMany, eI q_items k_items 240 f_items] s.heap := hP
  have hl := lv_entry ([.ref h0, .int p0, .int p1, .int p2]) (n := 4) (Nat.le_of_ble_eq_true rfl)
  rw [lg_entry_eq]
  generalize (lg_sl ([.ref h0, .int p0, .int p1, .int p2]) ++ List.replicate (4 - (lg_sl ([.ref h0, .int p0, .int p1, .int p2])).length) Slot.unset).toArray = ls at hl ⊢
  have hl : lv_has ls 4 [(0, .ref h0), (1, .int p0), (2, .int p1), (3, .int p2)] := hl
  suffices key9 : ∀ Q9 : State → Prop, Q9 = (MQ below (va_Qi (fun (r : Int32) (_ : Unit) => True) (fun (_ : Unit) (t : State) => ∃ (f_items' : Nat → Int32), va_P (dC, dI) vwCl [eO h0 9 [.ref q_s, .long v_fees, .ref q_thought, .long v_thoughtFees, .ref q_image, .long v_imageFees, .int v_hasImage, .ref q_tape, .int v_taped, .ref q_texts, .ref q_sizes, .int v_programs, .ref q_imageTexts, .ref q_imageSizes, .int v_imagePrograms, .int v_here, .int v_open, .int v_running, .int v_begun, .ref q_held, .ref q_marks, .int v_markMany, .ref q_trace, .int v_traced, .ref q_keptBalances, .ref q_keptFees, .int v_deep, .ref q_way, .ref q_sorts, .ref q_rowMany, .ref q_items, .ref q_moved], eI q_sorts k_sorts 4 f_sorts, eI q_rowMany k_rowMany 4 f_rowMany, eI q_items k_items 240 (f_items')] t.heap ∧ va_K (dC, dI) vwCl [(k_sorts, .int), (k_rowMany, .int), (k_items, .int)] t ∧ va_D A [eO h0 9 [.ref q_s, .long v_fees, .ref q_thought, .long v_thoughtFees, .ref q_image, .long v_imageFees, .int v_hasImage, .ref q_tape, .int v_taped, .ref q_texts, .ref q_sizes, .int v_programs, .ref q_imageTexts, .ref q_imageSizes, .int v_imagePrograms, .int v_here, .int v_open, .int v_running, .int v_begun, .ref q_held, .ref q_marks, .int v_markMany, .ref q_trace, .int v_traced, .ref q_keptBalances, .ref q_keptFees, .int v_deep, .ref q_way, .ref q_sorts, .ref q_rowMany, .ref q_items, .ref q_moved], eI q_sorts k_sorts 4 f_sorts, eI q_rowMany k_rowMany 4 f_rowMany, eI q_items k_items 240 (f_items')]) A) (([.ref h0, .int p0, .int p1, .int p2] : List Value).toArray) s 0 0 A) → W p l e ({ frames := 2, cells := 0, slots := 0, locals := 45 }) s m (([.ref h0, .int p0, .int p1, .int p2] : List Value).toArray) below meth c s.heap [] 0 0 Q9 (F0 m 0 ls []) from key9 _ rfl
  intro Q9 hQ9
  have k_m12 : ((-12) : Int32).toInt = (-12) := by decide
  have k_m11 : ((-11) : Int32).toInt = (-11) := by decide
  have k_m2 : ((-2) : Int32).toInt = (-2) := by decide
  have k_m1 : ((-1) : Int32).toInt = (-1) := by decide
  have k_0 : (0 : Int32).toInt = 0 := by decide
  have k_1 : (1 : Int32).toInt = 1 := by decide
  have k_60 : (60 : Int32).toInt = 60 := by decide
  have kl_0 : (0 : Int64).toInt = 0 := by decide
  refine lv_iload_n hx hb dX10_put_0 rfl (lv_at hl 1 rfl) ?_
  obtain ⟨hPc, hDc, hFc, hCm, hNw⟩ := C_s (wc := []) hP hD hS hA [] 4 rfl (by decide +kernel) rfl
  have hKc := K_s (tys' := []) hK [] rfl
  refine va_calli (va_runS (As := [.int p0]) (rest := []) ⟨hx, hb, hml, hown, hts⟩ (c_X10_isSheet l dC dI p0 s.heap.size) (va_cwS 1 hts gX10_put_X10_isSheet rfl rfl rfl (by decide +kernel) ⟨Nat.le_of_ble_eq_true rfl, Nat.le_of_ble_eq_true rfl⟩) ⟨fun a U g mk q => by obtain ⟨q0, q1, qP, qK, qD⟩ := q; exact ⟨q0, q1, qP, va_K.moved (u := U) (U := U.calling g mk a) (Vm.Alike.refl U.vm) qK, qD⟩, fun U hU hW => ⟨rfl, by rw [hU], by rw [hU]; exact hPc, va_K.moved hW.alike hKc, hDc.weaken (fun _ _ _ _ => trivial)⟩⟩ rfl rfl hl.1 rfl (lv_room (Nat.le_of_ble_eq_true rfl)) dX10_put_1 ⟨Nat.le_of_ble_eq_true rfl, Nat.le_of_ble_eq_true rfl⟩) hS (fun q _ h => hFc q h) hFc (fun r1 u t H1 locs ht hvm hw hB hz1 hk1 hS => ?_)
  obtain ⟨hP1, hK1, hD1⟩ := hB
  rw [ht] at hP1
  have hK1 := va_K.moved hvm.symm hK1
  try dsimp only at hw
  obtain ⟨hP, hD⟩ := J_s (wL := [eO h0 9 [.ref q_s, .long v_fees, .ref q_thought, .long v_thoughtFees, .ref q_image, .long v_imageFees, .int v_hasImage, .ref q_tape, .int v_taped, .ref q_texts, .ref q_sizes, .int v_programs, .ref q_imageTexts, .ref q_imageSizes, .int v_imagePrograms, .int v_here, .int v_open, .int v_running, .int v_begun, .ref q_held, .ref q_marks, .int v_markMany, .ref q_trace, .int v_traced, .ref q_keptBalances, .ref q_keptFees, .int v_deep, .ref q_way, .ref q_sorts, .ref q_rowMany, .ref q_items, .ref q_moved], eI q_sorts k_sorts 4 f_sorts, eI q_rowMany k_rowMany 4 f_rowMany, eI q_items k_items 240 f_items]) hP hD [] [(0, 4)] hCm hNw (by decide +kernel) hk1 hFc hP1 hD1 rfl
  have hK := KJ_s (tys' := [(k_sorts, .int), (k_rowMany, .int), (k_items, .int)]) hK hK1 [(0, 3)] rfl
  generalize H1 = H at hP hS ⊢
  rcases hw with ⟨e_r1, f_r1⟩ | ⟨e_r1, f_r1⟩
  · subst e_r1
    refine lv_if_ne (tgt := 10) hx hb dX10_put_4 (by decide) (fun c2 => ?_) (fun c2 => absurd c2 (by decide))
    refine lv_aload_n hx hb dX10_put_10 rfl (lv_at hl 0 rfl) ?_
    refine va_get (D := (dC, dI)) (ci := 9) (v := .ref q_sorts) (C := RX10) (T := TX10) (N := 32) hx hb hts (fun w h => List.mem_cons_of_mem _ (inlX10 w h)) hown hK hP 0 rfl rfl 28 (by decide) (hts (.fieldLink RX10 55 "ClearingGatesModel" "sorts" "[I") (List.mem_cons_of_mem _ mw_637)) (fun _ h9 => h9) rfl dX10_put_11 ?_
    refine lv_iload_n hx hb dX10_put_14 rfl (lv_at hl 1 rfl) ?_
    refine va_iald (D := (dC, dI)) hx hb hK hP 1 0 rfl rfl (vp_in_iff.mpr ⟨by omega, by omega⟩) dX10_put_15 ?_
    refine lv_topi (fun z3 e_z3 => ?_)
    refine lv_iconst (v := -1) hx hb dX10_put_16 (by decide) ?_
    refine lv_icmp_ne (tgt := 23) hx hb dX10_put_17 (by decide) (fun c4 => ?_) (fun c4 => ?_)
    · skip
      have f_c4 := i_ne c4
      refine lv_iload_n hx hb dX10_put_23 rfl (lv_at hl 2 rfl) ?_
      refine lv_i2l (v := p1.toInt64) hx hb dX10_put_24 rfl ?_
      have t_t5 := Int32.toInt_toInt64 p1
      refine lv_lconst (v := 0) hx hb dX10_put_25 (by decide) ?_
      refine lv_aload_n hx hb dX10_put_26 rfl (lv_at hl 0 rfl) ?_
      refine va_get (D := (dC, dI)) (ci := 9) (v := .ref q_rowMany) (C := RX10) (T := TX10) (N := 32) hx hb hts (fun w h => List.mem_cons_of_mem _ (inlX10 w h)) hown hK hP 0 rfl rfl 29 (by decide) (hts (.fieldLink RX10 58 "ClearingGatesModel" "rowMany" "[I") (List.mem_cons_of_mem _ mw_638)) (fun _ h9 => h9) rfl dX10_put_27 ?_
      refine lv_iload_n hx hb dX10_put_30 rfl (lv_at hl 1 rfl) ?_
      refine va_iald (D := (dC, dI)) hx hb hK hP 2 1 rfl rfl (vp_in_iff.mpr ⟨by omega, by omega⟩) dX10_put_31 ?_
      refine lv_topi (fun z6 e_z6 => ?_)
      obtain ⟨ra_z6, rb_z6⟩ : 0 ≤ z6.toInt ∧ z6.toInt ≤ 60 := by rw [e_z6]; exact hrow _ (i_natlt (by omega) (by omega))
      refine lv_iconst (v := 1) hx hb dX10_put_32 (by decide) ?_
      refine lv_isub hx hb dX10_put_33 ?_
      refine lv_topi (fun z7 e_z7 => ?_)
      (first | have t_z7 := i_sub e_z7 (by omega) (by omega) | skip)
      refine lv_i2l (v := z7.toInt64) hx hb dX10_put_34 rfl ?_
      have t_t8 := Int32.toInt_toInt64 z7
      obtain ⟨hPc, hDc, hFc, hCm, hNw⟩ := C_s (wc := []) hP hD hS hA [] 4 rfl (by decide +kernel) rfl
      have hKc := K_s (tys' := []) hK [] rfl
      refine va_calli (va_runS (As := [.long p1.toInt64, .long 0, .long z7.toInt64]) (rest := []) ⟨hx, hb, hml, hown, hts⟩ (c_X10_isIn l dC dI (p1.toInt64) 0 (z7.toInt64) H.size) (va_cwS 3 hts gX10_put_X10_isIn rfl rfl rfl (by decide +kernel) ⟨Nat.le_of_ble_eq_true rfl, Nat.le_of_ble_eq_true rfl⟩) ⟨fun a U g mk q => by obtain ⟨q0, q1, qP, qK, qD⟩ := q; exact ⟨q0, q1, qP, va_K.moved (u := U) (U := U.calling g mk a) (Vm.Alike.refl U.vm) qK, qD⟩, fun U hU hW => ⟨rfl, by rw [hU], by rw [hU]; exact hPc, va_K.moved hW.alike hKc, hDc.weaken (fun _ _ _ _ => trivial)⟩⟩ rfl rfl hl.1 rfl (lv_room (Nat.le_of_ble_eq_true rfl)) dX10_put_35 ⟨Nat.le_of_ble_eq_true rfl, Nat.le_of_ble_eq_true rfl⟩) hS (fun q _ h => hFc q h) hFc (fun r9 u t H1 locs ht hvm hw hB hz1 hk1 hS => ?_)
      obtain ⟨hP1, hK1, hD1⟩ := hB
      rw [ht] at hP1
      have hK1 := va_K.moved hvm.symm hK1
      try dsimp only at hw
      obtain ⟨hP, hD⟩ := J_s (wL := [eO h0 9 [.ref q_s, .long v_fees, .ref q_thought, .long v_thoughtFees, .ref q_image, .long v_imageFees, .int v_hasImage, .ref q_tape, .int v_taped, .ref q_texts, .ref q_sizes, .int v_programs, .ref q_imageTexts, .ref q_imageSizes, .int v_imagePrograms, .int v_here, .int v_open, .int v_running, .int v_begun, .ref q_held, .ref q_marks, .int v_markMany, .ref q_trace, .int v_traced, .ref q_keptBalances, .ref q_keptFees, .int v_deep, .ref q_way, .ref q_sorts, .ref q_rowMany, .ref q_items, .ref q_moved], eI q_sorts k_sorts 4 f_sorts, eI q_rowMany k_rowMany 4 f_rowMany, eI q_items k_items 240 f_items]) hP hD [] [(0, 4)] hCm hNw (by decide +kernel) hk1 hFc hP1 hD1 rfl
      have hK := KJ_s (tys' := [(k_sorts, .int), (k_rowMany, .int), (k_items, .int)]) hK hK1 [(0, 3)] rfl
      generalize H1 = H at hP hS ⊢
      rcases hw with ⟨e_r9, f_r9⟩ | ⟨e_r9, f_r9⟩
      · subst e_r9
        refine lv_if_ne (tgt := 44) hx hb dX10_put_38 (by decide) (fun c10 => ?_) (fun c10 => absurd c10 (by decide))
        refine lv_aload_n hx hb dX10_put_44 rfl (lv_at hl 0 rfl) ?_
        refine va_get (D := (dC, dI)) (ci := 9) (v := .ref q_items) (C := RX10) (T := TX10) (N := 32) hx hb hts (fun w h => List.mem_cons_of_mem _ (inlX10 w h)) hown hK hP 0 rfl rfl 30 (by decide) (hts (.fieldLink RX10 61 "ClearingGatesModel" "items" "[I") (List.mem_cons_of_mem _ mw_639)) (fun _ h9 => h9) rfl dX10_put_45 ?_
        refine lv_bipush (v := 60) hx hb dX10_put_48 (by decide) ?_
        refine lv_iload_n hx hb dX10_put_50 rfl (lv_at hl 1 rfl) ?_
        refine lv_imul hx hb dX10_put_51 ?_
        refine lv_topi (fun z11 e_z11 => ?_)
        have t_z11 := i_mulc e_z11 k_60 (by omega) (by omega)
        refine lv_iload_n hx hb dX10_put_52 rfl (lv_at hl 2 rfl) ?_
        refine lv_iadd hx hb dX10_put_53 ?_
        refine lv_topi (fun z12 e_z12 => ?_)
        (first | have t_z12 := i_add e_z12 (by omega) (by omega) | skip)
        refine lv_aload_n hx hb dX10_put_54 rfl (lv_at hl 0 rfl) ?_
        refine va_get (D := (dC, dI)) (ci := 9) (v := .ref q_sorts) (C := RX10) (T := TX10) (N := 32) hx hb hts (fun w h => List.mem_cons_of_mem _ (inlX10 w h)) hown hK hP 0 rfl rfl 28 (by decide) (hts (.fieldLink RX10 55 "ClearingGatesModel" "sorts" "[I") (List.mem_cons_of_mem _ mw_637)) (fun _ h9 => h9) rfl dX10_put_55 ?_
        refine lv_iload_n hx hb dX10_put_58 rfl (lv_at hl 1 rfl) ?_
        refine va_iald (D := (dC, dI)) hx hb hK hP 1 0 rfl rfl (vp_in_iff.mpr ⟨by omega, by omega⟩) dX10_put_59 ?_
        refine lv_topi (fun z13 e_z13 => ?_)
        refine lv_if_ne (tgt := 68) hx hb dX10_put_60 (by decide) (fun c14 => ?_) (fun c14 => ?_)
        · skip
          have f_c14 := i_ne c14
          refine lv_iload_n hx hb dX10_put_68 rfl (lv_at hl 3 rfl) ?_
          refine va_iast (D := (dC, dI)) hx hb hK hP hD hS 3 2 rfl rfl (vp_in_iff.mpr ⟨by omega, by omega⟩) dX10_put_69 (fun H locs hP hD hS => ?_)
          generalize e_g15 : (upd f_items (z12).toNatClampNeg p2) = g15 at hP hD
          obtain ⟨hP, hD⟩ := X_s (ws' := [eO h0 9 [.ref q_s, .long v_fees, .ref q_thought, .long v_thoughtFees, .ref q_image, .long v_imageFees, .int v_hasImage, .ref q_tape, .int v_taped, .ref q_texts, .ref q_sizes, .int v_programs, .ref q_imageTexts, .ref q_imageSizes, .int v_imagePrograms, .int v_here, .int v_open, .int v_running, .int v_begun, .ref q_held, .ref q_marks, .int v_markMany, .ref q_trace, .int v_traced, .ref q_keptBalances, .ref q_keptFees, .int v_deep, .ref q_way, .ref q_sorts, .ref q_rowMany, .ref q_items, .ref q_moved], eI q_sorts k_sorts 4 f_sorts, eI q_rowMany k_rowMany 4 f_rowMany, eI q_items k_items 240 g15]) hP hD rfl
          refine lv_iconst (v := 1) hx hb dX10_put_70 (by decide) ?_
          rw [hQ9]
          exact W.iret (v := 1) hx hb hr (fun t ht hW => ⟨⟨1, (), rfl, (by first | rfl | trivial), g15, by rw [ht]; exact hP, va_K.moved hW.alike hK, hD⟩, hS.F ht⟩) hS.2.2 dX10_put_71
        · skip
          have f_c14 := i_eq c14
          refine lv_iload_n hx hb dX10_put_63 rfl (lv_at hl 3 rfl) ?_
          refine lv_i2b hx hb dX10_put_64 rfl ?_
          refine lv_topi (fun z16 e_z16 => ?_)
          refine lv_goto (tgt := 69) hx hb dX10_put_65 (by decide) ?_
          refine va_iast (D := (dC, dI)) hx hb hK hP hD hS 3 2 rfl rfl (vp_in_iff.mpr ⟨by omega, by omega⟩) dX10_put_69 (fun H locs hP hD hS => ?_)
          generalize e_g17 : (upd f_items (z12).toNatClampNeg z16) = g17 at hP hD
          obtain ⟨hP, hD⟩ := X_s (ws' := [eO h0 9 [.ref q_s, .long v_fees, .ref q_thought, .long v_thoughtFees, .ref q_image, .long v_imageFees, .int v_hasImage, .ref q_tape, .int v_taped, .ref q_texts, .ref q_sizes, .int v_programs, .ref q_imageTexts, .ref q_imageSizes, .int v_imagePrograms, .int v_here, .int v_open, .int v_running, .int v_begun, .ref q_held, .ref q_marks, .int v_markMany, .ref q_trace, .int v_traced, .ref q_keptBalances, .ref q_keptFees, .int v_deep, .ref q_way, .ref q_sorts, .ref q_rowMany, .ref q_items, .ref q_moved], eI q_sorts k_sorts 4 f_sorts, eI q_rowMany k_rowMany 4 f_rowMany, eI q_items k_items 240 g17]) hP hD rfl
          refine lv_iconst (v := 1) hx hb dX10_put_70 (by decide) ?_
          rw [hQ9]
          exact W.iret (v := 1) hx hb hr (fun t ht hW => ⟨⟨1, (), rfl, (by first | rfl | trivial), g17, by rw [ht]; exact hP, va_K.moved hW.alike hK, hD⟩, hS.F ht⟩) hS.2.2 dX10_put_71
      · subst e_r9
        refine lv_if_ne (tgt := 44) hx hb dX10_put_38 (by decide) (fun c18 => absurd (by decide) c18) (fun c18 => ?_)
        refine lv_bipush (v := -12) hx hb dX10_put_41 (by decide) ?_
        rw [hQ9]
        exact W.iret (v := (-12)) hx hb hr (fun t ht hW => ⟨⟨(-12), (), rfl, (by first | rfl | trivial), f_items, by rw [ht]; exact hP, va_K.moved hW.alike hK, hD⟩, hS.F ht⟩) hS.2.2 dX10_put_43
    · skip
      have f_c4 := i_eq c4
      refine lv_bipush (v := -11) hx hb dX10_put_20 (by decide) ?_
      rw [hQ9]
      exact W.iret (v := (-11)) hx hb hr (fun t ht hW => ⟨⟨(-11), (), rfl, (by first | rfl | trivial), f_items, by rw [ht]; exact hP, va_K.moved hW.alike hK, hD⟩, hS.F ht⟩) hS.2.2 dX10_put_22
  · subst e_r1
    refine lv_if_ne (tgt := 10) hx hb dX10_put_4 (by decide) (fun c19 => absurd (by decide) c19) (fun c19 => ?_)
    refine lv_bipush (v := -2) hx hb dX10_put_7 (by decide) ?_
    rw [hQ9]
    exact W.iret (v := (-2)) hx hb hr (fun t ht hW => ⟨⟨(-2), (), rfl, (by first | rfl | trivial), f_items, by rw [ht]; exact hP, va_K.moved hW.alike hK, hD⟩, hS.F ht⟩) hS.2.2 dX10_put_9

set_option maxRecDepth 100000 in
set_option maxHeartbeats 4000000 in
/-- copy of the reference -/
theorem c_X10_copy (l : Launch) (dC : Nat → ClassId) (dI : Nat → Nat → Nat) (h0 : Nat) (p0 : Int32) (p1 : Int32) (p2 : Int32) (p3 : Int32) (p4 : Int32) (q_s : Nat) (v_fees : Int64) (q_thought : Nat) (v_thoughtFees : Int64) (q_image : Nat) (v_imageFees : Int64) (v_hasImage : Int32) (q_tape : Nat) (v_taped : Int32) (q_texts : Nat) (q_sizes : Nat) (v_programs : Int32) (q_imageTexts : Nat) (q_imageSizes : Nat) (v_imagePrograms : Int32) (v_here : Int32) (v_open : Int32) (v_running : Int32) (v_begun : Int32) (q_held : Nat) (q_marks : Nat) (v_markMany : Int32) (q_trace : Nat) (v_traced : Int32) (q_keptBalances : Nat) (q_keptFees : Nat) (v_deep : Int32) (q_way : Nat) (q_sorts : Nat) (q_rowMany : Nat) (q_items : Nat) (q_moved : Nat) (k_sorts : ClassId) (f_sorts : Nat → Int32) (k_rowMany : ClassId) (f_rowMany : Nat → Int32) (k_items : ClassId) (f_items : Nat → Int32) (k_moved : ClassId) (f_moved : Nat → Int32) (sz : Nat) (hrow : ∀ k : Nat, k < 4 → 0 ≤ (f_rowMany k).toInt ∧ (f_rowMany k).toInt ≤ 60) : Met l yX10_copy wsX10_copy ({ frames := 2, cells := 0, slots := 0, locals := 60 }) (va_Pc [.ref h0, .int p0, .int p1, .int p2, .int p3, .int p4] (fun U => U.heap.size = sz ∧ va_P (dC, dI) vwCl [eO h0 9 [.ref q_s, .long v_fees, .ref q_thought, .long v_thoughtFees, .ref q_image, .long v_imageFees, .int v_hasImage, .ref q_tape, .int v_taped, .ref q_texts, .ref q_sizes, .int v_programs, .ref q_imageTexts, .ref q_imageSizes, .int v_imagePrograms, .int v_here, .int v_open, .int v_running, .int v_begun, .ref q_held, .ref q_marks, .int v_markMany, .ref q_trace, .int v_traced, .ref q_keptBalances, .ref q_keptFees, .int v_deep, .ref q_way, .ref q_sorts, .ref q_rowMany, .ref q_items, .ref q_moved], eI q_sorts k_sorts 4 f_sorts, eI q_rowMany k_rowMany 4 f_rowMany, eI q_items k_items 240 f_items, eI q_moved k_moved 60 f_moved] U.heap ∧ va_K (dC, dI) vwCl [(k_sorts, .int), (k_rowMany, .int), (k_items, .int), (k_moved, .int)] U ∧ va_D (fun _ => True) [eO h0 9 [.ref q_s, .long v_fees, .ref q_thought, .long v_thoughtFees, .ref q_image, .long v_imageFees, .int v_hasImage, .ref q_tape, .int v_taped, .ref q_texts, .ref q_sizes, .int v_programs, .ref q_imageTexts, .ref q_imageSizes, .int v_imagePrograms, .int v_here, .int v_open, .int v_running, .int v_begun, .ref q_held, .ref q_marks, .int v_markMany, .ref q_trace, .int v_traced, .ref q_keptBalances, .ref q_keptFees, .int v_deep, .ref q_way, .ref q_sorts, .ref q_rowMany, .ref q_items, .ref q_moved], eI q_sorts k_sorts 4 f_sorts, eI q_rowMany k_rowMany 4 f_rowMany, eI q_items k_items 240 f_items, eI q_moved k_moved 60 f_moved])) (va_Qi (fun (r : Int32) (_ : Unit) => True) (fun (_ : Unit) (t : State) => ∃ (f_items' : Nat → Int32), ∃ (f_moved' : Nat → Int32), va_P (dC, dI) vwCl [eO h0 9 [.ref q_s, .long v_fees, .ref q_thought, .long v_thoughtFees, .ref q_image, .long v_imageFees, .int v_hasImage, .ref q_tape, .int v_taped, .ref q_texts, .ref q_sizes, .int v_programs, .ref q_imageTexts, .ref q_imageSizes, .int v_imagePrograms, .int v_here, .int v_open, .int v_running, .int v_begun, .ref q_held, .ref q_marks, .int v_markMany, .ref q_trace, .int v_traced, .ref q_keptBalances, .ref q_keptFees, .int v_deep, .ref q_way, .ref q_sorts, .ref q_rowMany, .ref q_items, .ref q_moved], eI q_sorts k_sorts 4 f_sorts, eI q_rowMany k_rowMany 4 f_rowMany, eI q_items k_items 240 (f_items'), eI q_moved k_moved 60 (f_moved')] t.heap ∧ va_K (dC, dI) vwCl [(k_sorts, .int), (k_rowMany, .int), (k_items, .int), (k_moved, .int)] t ∧ va_D (va_A [eO h0 9 [.ref q_s, .long v_fees, .ref q_thought, .long v_thoughtFees, .ref q_image, .long v_imageFees, .int v_hasImage, .ref q_tape, .int v_taped, .ref q_texts, .ref q_sizes, .int v_programs, .ref q_imageTexts, .ref q_imageSizes, .int v_imagePrograms, .int v_here, .int v_open, .int v_running, .int v_begun, .ref q_held, .ref q_marks, .int v_markMany, .ref q_trace, .int v_traced, .ref q_keptBalances, .ref q_keptFees, .int v_deep, .ref q_way, .ref q_sorts, .ref q_rowMany, .ref q_items, .ref q_moved], eI q_sorts k_sorts 4 f_sorts, eI q_rowMany k_rowMany 4 f_rowMany, eI q_items k_items 240 f_items, eI q_moved k_moved 60 f_moved] sz) [eO h0 9 [.ref q_s, .long v_fees, .ref q_thought, .long v_thoughtFees, .ref q_image, .long v_imageFees, .int v_hasImage, .ref q_tape, .int v_taped, .ref q_texts, .ref q_sizes, .int v_programs, .ref q_imageTexts, .ref q_imageSizes, .int v_imagePrograms, .int v_here, .int v_open, .int v_running, .int v_begun, .ref q_held, .ref q_marks, .int v_markMany, .ref q_trace, .int v_traced, .ref q_keptBalances, .ref q_keptFees, .int v_deep, .ref q_way, .ref q_sorts, .ref q_rowMany, .ref q_items, .ref q_moved], eI q_sorts k_sorts 4 f_sorts, eI q_rowMany k_rowMany 4 f_rowMany, eI q_items k_items 240 (f_items'), eI q_moved k_moved 60 (f_moved')]) (va_A [eO h0 9 [.ref q_s, .long v_fees, .ref q_thought, .long v_thoughtFees, .ref q_image, .long v_imageFees, .int v_hasImage, .ref q_tape, .int v_taped, .ref q_texts, .ref q_sizes, .int v_programs, .ref q_imageTexts, .ref q_imageSizes, .int v_imagePrograms, .int v_here, .int v_open, .int v_running, .int v_begun, .ref q_held, .ref q_marks, .int v_markMany, .ref q_trace, .int v_traced, .ref q_keptBalances, .ref q_keptFees, .int v_deep, .ref q_way, .ref q_sorts, .ref q_rowMany, .ref q_items, .ref q_moved], eI q_sorts k_sorts 4 f_sorts, eI q_rowMany k_rowMany 4 f_rowMany, eI q_items k_items 240 f_items, eI q_moved k_moved 60 f_moved] sz)) 0 0 (va_A [eO h0 9 [.ref q_s, .long v_fees, .ref q_thought, .long v_thoughtFees, .ref q_image, .long v_imageFees, .int v_hasImage, .ref q_tape, .int v_taped, .ref q_texts, .ref q_sizes, .int v_programs, .ref q_imageTexts, .ref q_imageSizes, .int v_imagePrograms, .int v_here, .int v_open, .int v_running, .int v_begun, .ref q_held, .ref q_marks, .int v_markMany, .ref q_trace, .int v_traced, .ref q_keptBalances, .ref q_keptFees, .int v_deep, .ref q_way, .ref q_sorts, .ref q_rowMany, .ref q_items, .ref q_moved], eI q_sorts k_sorts 4 f_sorts, eI q_rowMany k_rowMany 4 f_rowMany, eI q_items k_items 240 f_items, eI q_moved k_moved 60 f_moved] sz) := by
  refine Met.ofW (cc := cX10_copy) (maxL := 6) (ret := (some .int)) (by decide) rfl ?_
  intro p e s m args below meth c s₁ B hml hv
  obtain ⟨rfl, hsz, hP, hK, hD0⟩ := hv
  have hx := B.exec
  have hb := B.bytes
  have hr := B.returns
  have hts := atoms_spec (ws := wsX10_copy) B.pre
  have hown : s.vm.findClass RX10 = some m.cls := findClass_of_methodNamed B.named
  have hlocks := B.notSynchronized
  subst hsz
  have hD := hD0.self (sz := s.heap.size)
  generalize hAe : va_A [eO h0 9 [.ref q_s, .long v_fees, .ref q_thought, .long v_thoughtFees, .ref q_image, .long v_imageFees, .int v_hasImage, .ref q_tape, .int v_taped, .ref q_texts, .ref q_sizes, .int v_programs, .ref q_imageTexts, .ref q_imageSizes, .int v_imagePrograms, .int v_here, .int v_open, .int v_running, .int v_begun, .ref q_held, .ref q_marks, .int v_markMany, .ref q_trace, .int v_traced, .ref q_keptBalances, .ref q_keptFees, .int v_deep, .ref q_way, .ref q_sorts, .ref q_rowMany, .ref q_items, .ref q_moved], eI q_sorts k_sorts 4 f_sorts, eI q_rowMany k_rowMany 4 f_rowMany, eI q_items k_items 240 f_items, eI q_moved k_moved 60 f_moved] s.heap.size = A at hD ⊢
  have hA : ∀ q : Nat, s.heap.size ≤ q → A q := fun q h => by rw [← hAe]; exact Or.inr h
  have hS : va_S A s.heap s.heap [] := va_S.rf
  have hP : va_P (dC, dI) vwCl [eO h0 9 [.ref q_s, .long v_fees, .ref q_thought, .long v_thoughtFees, .ref q_image, .long v_imageFees, .int v_hasImage, .ref q_tape, .int v_taped, .ref q_texts, .ref q_sizes, .int v_programs, .ref q_imageTexts, .ref q_imageSizes, .int v_imagePrograms, .int v_here, .int v_open, .int v_running, .int v_begun, .ref q_held, .ref q_marks, .int v_markMany, .ref q_trace, .int v_traced, .ref q_keptBalances, .ref q_keptFees, .int v_deep, .ref q_way, .ref q_sorts, .ref q_rowMany, .ref q_items, .ref q_moved], eI q_sorts k_sorts 4 f_sorts, eI q_rowMany k_rowMany 4 f_rowMany, eI q_items k_items 240 f_items, eI q_moved k_moved 60 f_moved] s.heap := hP
  have hl := lv_entry ([.ref h0, .int p0, .int p1, .int p2, .int p3, .int p4]) (n := 6) (Nat.le_of_ble_eq_true rfl)
  rw [lg_entry_eq]
  generalize (lg_sl ([.ref h0, .int p0, .int p1, .int p2, .int p3, .int p4]) ++ List.replicate (6 - (lg_sl ([.ref h0, .int p0, .int p1, .int p2, .int p3, .int p4])).length) Slot.unset).toArray = ls at hl ⊢
  have hl : lv_has ls 6 [(0, .ref h0), (1, .int p0), (2, .int p1), (3, .int p2), (4, .int p3), (5, .int p4)] := hl
  suffices key9 : ∀ Q9 : State → Prop, Q9 = (MQ below (va_Qi (fun (r : Int32) (_ : Unit) => True) (fun (_ : Unit) (t : State) => ∃ (f_items' : Nat → Int32), ∃ (f_moved' : Nat → Int32), va_P (dC, dI) vwCl [eO h0 9 [.ref q_s, .long v_fees, .ref q_thought, .long v_thoughtFees, .ref q_image, .long v_imageFees, .int v_hasImage, .ref q_tape, .int v_taped, .ref q_texts, .ref q_sizes, .int v_programs, .ref q_imageTexts, .ref q_imageSizes, .int v_imagePrograms, .int v_here, .int v_open, .int v_running, .int v_begun, .ref q_held, .ref q_marks, .int v_markMany, .ref q_trace, .int v_traced, .ref q_keptBalances, .ref q_keptFees, .int v_deep, .ref q_way, .ref q_sorts, .ref q_rowMany, .ref q_items, .ref q_moved], eI q_sorts k_sorts 4 f_sorts, eI q_rowMany k_rowMany 4 f_rowMany, eI q_items k_items 240 (f_items'), eI q_moved k_moved 60 (f_moved')] t.heap ∧ va_K (dC, dI) vwCl [(k_sorts, .int), (k_rowMany, .int), (k_items, .int), (k_moved, .int)] t ∧ va_D A [eO h0 9 [.ref q_s, .long v_fees, .ref q_thought, .long v_thoughtFees, .ref q_image, .long v_imageFees, .int v_hasImage, .ref q_tape, .int v_taped, .ref q_texts, .ref q_sizes, .int v_programs, .ref q_imageTexts, .ref q_imageSizes, .int v_imagePrograms, .int v_here, .int v_open, .int v_running, .int v_begun, .ref q_held, .ref q_marks, .int v_markMany, .ref q_trace, .int v_traced, .ref q_keptBalances, .ref q_keptFees, .int v_deep, .ref q_way, .ref q_sorts, .ref q_rowMany, .ref q_items, .ref q_moved], eI q_sorts k_sorts 4 f_sorts, eI q_rowMany k_rowMany 4 f_rowMany, eI q_items k_items 240 (f_items'), eI q_moved k_moved 60 (f_moved')]) A) (([.ref h0, .int p0, .int p1, .int p2, .int p3, .int p4] : List Value).toArray) s 0 0 A) → W p l e ({ frames := 2, cells := 0, slots := 0, locals := 60 }) s m (([.ref h0, .int p0, .int p1, .int p2, .int p3, .int p4] : List Value).toArray) below meth c s.heap [] 0 0 Q9 (F0 m 0 ls []) from key9 _ rfl
  intro Q9 hQ9
  have k_m13 : ((-13) : Int32).toInt = (-13) := by decide
  have k_m12 : ((-12) : Int32).toInt = (-12) := by decide
  have k_m11 : ((-11) : Int32).toInt = (-11) := by decide
  have k_m2 : ((-2) : Int32).toInt = (-2) := by decide
  have k_m1 : ((-1) : Int32).toInt = (-1) := by decide
  have k_0 : (0 : Int32).toInt = 0 := by decide
  have k_60 : (60 : Int32).toInt = 60 := by decide
  have b_p4 : p4.toInt ≤ 2147483647 := by have := Int32.toInt_lt p4; omega
  refine lv_iload_n hx hb dX10_copy_0 rfl (lv_at hl 1 rfl) ?_
  obtain ⟨hPc, hDc, hFc, hCm, hNw⟩ := C_s (wc := []) hP hD hS hA [] 5 rfl (by decide +kernel) rfl
  have hKc := K_s (tys' := []) hK [] rfl
  refine va_calli (va_runS (As := [.int p0]) (rest := []) ⟨hx, hb, hml, hown, hts⟩ (c_X10_isSheet l dC dI p0 s.heap.size) (va_cwS 1 hts gX10_copy_X10_isSheet rfl rfl rfl (by decide +kernel) ⟨Nat.le_of_ble_eq_true rfl, Nat.le_of_ble_eq_true rfl⟩) ⟨fun a U g mk q => by obtain ⟨q0, q1, qP, qK, qD⟩ := q; exact ⟨q0, q1, qP, va_K.moved (u := U) (U := U.calling g mk a) (Vm.Alike.refl U.vm) qK, qD⟩, fun U hU hW => ⟨rfl, by rw [hU], by rw [hU]; exact hPc, va_K.moved hW.alike hKc, hDc.weaken (fun _ _ _ _ => trivial)⟩⟩ rfl rfl hl.1 rfl (lv_room (Nat.le_of_ble_eq_true rfl)) dX10_copy_1 ⟨Nat.le_of_ble_eq_true rfl, Nat.le_of_ble_eq_true rfl⟩) hS (fun q _ h => hFc q h) hFc (fun r1 u t H1 locs ht hvm hw hB hz1 hk1 hS => ?_)
  obtain ⟨hP1, hK1, hD1⟩ := hB
  rw [ht] at hP1
  have hK1 := va_K.moved hvm.symm hK1
  try dsimp only at hw
  obtain ⟨hP, hD⟩ := J_s (wL := [eO h0 9 [.ref q_s, .long v_fees, .ref q_thought, .long v_thoughtFees, .ref q_image, .long v_imageFees, .int v_hasImage, .ref q_tape, .int v_taped, .ref q_texts, .ref q_sizes, .int v_programs, .ref q_imageTexts, .ref q_imageSizes, .int v_imagePrograms, .int v_here, .int v_open, .int v_running, .int v_begun, .ref q_held, .ref q_marks, .int v_markMany, .ref q_trace, .int v_traced, .ref q_keptBalances, .ref q_keptFees, .int v_deep, .ref q_way, .ref q_sorts, .ref q_rowMany, .ref q_items, .ref q_moved], eI q_sorts k_sorts 4 f_sorts, eI q_rowMany k_rowMany 4 f_rowMany, eI q_items k_items 240 f_items, eI q_moved k_moved 60 f_moved]) hP hD [] [(0, 5)] hCm hNw (by decide +kernel) hk1 hFc hP1 hD1 rfl
  have hK := KJ_s (tys' := [(k_sorts, .int), (k_rowMany, .int), (k_items, .int), (k_moved, .int)]) hK hK1 [(0, 4)] rfl
  generalize H1 = H at hP hS ⊢
  rcases hw with ⟨e_r1, f_r1⟩ | ⟨e_r1, f_r1⟩
  · subst e_r1
    refine lv_if_eq (tgt := 14) hx hb dX10_copy_4 (by decide) (fun c2 => absurd c2 (by decide)) (fun c2 => ?_)
    refine lv_iload_n hx hb dX10_copy_7 rfl (lv_at hl 3 rfl) ?_
    obtain ⟨hPc, hDc, hFc, hCm, hNw⟩ := C_s (wc := []) hP hD hS hA [] 5 rfl (by decide +kernel) rfl
    have hKc := K_s (tys' := []) hK [] rfl
    refine va_calli (va_runS (As := [.int p2]) (rest := []) ⟨hx, hb, hml, hown, hts⟩ (c_X10_isSheet l dC dI p2 H.size) (va_cwS 1 hts gX10_copy_X10_isSheet rfl rfl rfl (by decide +kernel) ⟨Nat.le_of_ble_eq_true rfl, Nat.le_of_ble_eq_true rfl⟩) ⟨fun a U g mk q => by obtain ⟨q0, q1, qP, qK, qD⟩ := q; exact ⟨q0, q1, qP, va_K.moved (u := U) (U := U.calling g mk a) (Vm.Alike.refl U.vm) qK, qD⟩, fun U hU hW => ⟨rfl, by rw [hU], by rw [hU]; exact hPc, va_K.moved hW.alike hKc, hDc.weaken (fun _ _ _ _ => trivial)⟩⟩ rfl rfl hl.1 rfl (lv_room (Nat.le_of_ble_eq_true rfl)) dX10_copy_8 ⟨Nat.le_of_ble_eq_true rfl, Nat.le_of_ble_eq_true rfl⟩) hS (fun q _ h => hFc q h) hFc (fun r3 u t H1 locs ht hvm hw hB hz1 hk1 hS => ?_)
    obtain ⟨hP1, hK1, hD1⟩ := hB
    rw [ht] at hP1
    have hK1 := va_K.moved hvm.symm hK1
    try dsimp only at hw
    obtain ⟨hP, hD⟩ := J_s (wL := [eO h0 9 [.ref q_s, .long v_fees, .ref q_thought, .long v_thoughtFees, .ref q_image, .long v_imageFees, .int v_hasImage, .ref q_tape, .int v_taped, .ref q_texts, .ref q_sizes, .int v_programs, .ref q_imageTexts, .ref q_imageSizes, .int v_imagePrograms, .int v_here, .int v_open, .int v_running, .int v_begun, .ref q_held, .ref q_marks, .int v_markMany, .ref q_trace, .int v_traced, .ref q_keptBalances, .ref q_keptFees, .int v_deep, .ref q_way, .ref q_sorts, .ref q_rowMany, .ref q_items, .ref q_moved], eI q_sorts k_sorts 4 f_sorts, eI q_rowMany k_rowMany 4 f_rowMany, eI q_items k_items 240 f_items, eI q_moved k_moved 60 f_moved]) hP hD [] [(0, 5)] hCm hNw (by decide +kernel) hk1 hFc hP1 hD1 rfl
    have hK := KJ_s (tys' := [(k_sorts, .int), (k_rowMany, .int), (k_items, .int), (k_moved, .int)]) hK hK1 [(0, 4)] rfl
    generalize H1 = H at hP hS ⊢
    rcases hw with ⟨e_r3, f_r3⟩ | ⟨e_r3, f_r3⟩
    · subst e_r3
      refine lv_if_ne (tgt := 17) hx hb dX10_copy_11 (by decide) (fun c4 => ?_) (fun c4 => absurd c4 (by decide))
      refine lv_aload_n hx hb dX10_copy_17 rfl (lv_at hl 0 rfl) ?_
      refine va_get (D := (dC, dI)) (ci := 9) (v := .ref q_sorts) (C := RX10) (T := TX10) (N := 32) hx hb hts (fun w h => List.mem_cons_of_mem _ (inlX10 w h)) hown hK hP 0 rfl rfl 28 (by decide) (hts (.fieldLink RX10 55 "ClearingGatesModel" "sorts" "[I") (List.mem_cons_of_mem _ mw_637)) (fun _ h9 => h9) rfl dX10_copy_18 ?_
      refine lv_iload_n hx hb dX10_copy_21 rfl (lv_at hl 1 rfl) ?_
      refine va_iald (D := (dC, dI)) hx hb hK hP 1 0 rfl rfl (vp_in_iff.mpr ⟨by omega, by omega⟩) dX10_copy_22 ?_
      refine lv_topi (fun z5 e_z5 => ?_)
      refine lv_iconst (v := -1) hx hb dX10_copy_23 (by decide) ?_
      refine lv_icmp_eq (tgt := 37) hx hb dX10_copy_24 (by decide) (fun c6 => ?_) (fun c6 => ?_)
      · skip
        have f_c6 := i_eq c6
        refine lv_bipush (v := -11) hx hb dX10_copy_37 (by decide) ?_
        rw [hQ9]
        exact W.iret (v := (-11)) hx hb hr (fun t ht hW => ⟨⟨(-11), (), rfl, (by first | rfl | trivial), f_items, f_moved, by rw [ht]; exact hP, va_K.moved hW.alike hK, hD⟩, hS.F ht⟩) hS.2.2 dX10_copy_39
      · skip
        have f_c6 := i_ne c6
        refine lv_aload_n hx hb dX10_copy_27 rfl (lv_at hl 0 rfl) ?_
        refine va_get (D := (dC, dI)) (ci := 9) (v := .ref q_sorts) (C := RX10) (T := TX10) (N := 32) hx hb hts (fun w h => List.mem_cons_of_mem _ (inlX10 w h)) hown hK hP 0 rfl rfl 28 (by decide) (hts (.fieldLink RX10 55 "ClearingGatesModel" "sorts" "[I") (List.mem_cons_of_mem _ mw_637)) (fun _ h9 => h9) rfl dX10_copy_28 ?_
        refine lv_iload_n hx hb dX10_copy_31 rfl (lv_at hl 3 rfl) ?_
        refine va_iald (D := (dC, dI)) hx hb hK hP 1 0 rfl rfl (vp_in_iff.mpr ⟨by omega, by omega⟩) dX10_copy_32 ?_
        refine lv_topi (fun z7 e_z7 => ?_)
        refine lv_iconst (v := -1) hx hb dX10_copy_33 (by decide) ?_
        refine lv_icmp_ne (tgt := 40) hx hb dX10_copy_34 (by decide) (fun c8 => ?_) (fun c8 => ?_)
        · skip
          have f_c8 := i_ne c8
          refine lv_aload_n hx hb dX10_copy_40 rfl (lv_at hl 0 rfl) ?_
          refine va_get (D := (dC, dI)) (ci := 9) (v := .ref q_sorts) (C := RX10) (T := TX10) (N := 32) hx hb hts (fun w h => List.mem_cons_of_mem _ (inlX10 w h)) hown hK hP 0 rfl rfl 28 (by decide) (hts (.fieldLink RX10 55 "ClearingGatesModel" "sorts" "[I") (List.mem_cons_of_mem _ mw_637)) (fun _ h9 => h9) rfl dX10_copy_41 ?_
          refine lv_iload_n hx hb dX10_copy_44 rfl (lv_at hl 1 rfl) ?_
          refine va_iald (D := (dC, dI)) hx hb hK hP 1 0 rfl rfl (vp_in_iff.mpr ⟨by omega, by omega⟩) dX10_copy_45 ?_
          refine lv_topi (fun z9 e_z9 => ?_)
          refine lv_aload_n hx hb dX10_copy_46 rfl (lv_at hl 0 rfl) ?_
          refine va_get (D := (dC, dI)) (ci := 9) (v := .ref q_sorts) (C := RX10) (T := TX10) (N := 32) hx hb hts (fun w h => List.mem_cons_of_mem _ (inlX10 w h)) hown hK hP 0 rfl rfl 28 (by decide) (hts (.fieldLink RX10 55 "ClearingGatesModel" "sorts" "[I") (List.mem_cons_of_mem _ mw_637)) (fun _ h9 => h9) rfl dX10_copy_47 ?_
          refine lv_iload_n hx hb dX10_copy_50 rfl (lv_at hl 3 rfl) ?_
          refine va_iald (D := (dC, dI)) hx hb hK hP 1 0 rfl rfl (vp_in_iff.mpr ⟨by omega, by omega⟩) dX10_copy_51 ?_
          refine lv_topi (fun z10 e_z10 => ?_)
          refine lv_icmp_eq (tgt := 58) hx hb dX10_copy_52 (by decide) (fun c11 => ?_) (fun c11 => ?_)
          · skip
            have f_c11 := i_eq c11
            refine lv_iload hx hb dX10_copy_58 (lv_at hl 5 rfl) ?_
            refine lv_if_lt (tgt := 99) hx hb dX10_copy_60 (by decide) (fun c12 => ?_) (fun c12 => ?_)
            · skip
              have f_c12 := i_lt c12
              refine lv_bipush (v := -12) hx hb dX10_copy_99 (by decide) ?_
              rw [hQ9]
              exact W.iret (v := (-12)) hx hb hr (fun t ht hW => ⟨⟨(-12), (), rfl, (by first | rfl | trivial), f_items, f_moved, by rw [ht]; exact hP, va_K.moved hW.alike hK, hD⟩, hS.F ht⟩) hS.2.2 dX10_copy_101
            · skip
              have f_c12 := i_nlt c12
              refine lv_iload_n hx hb dX10_copy_63 rfl (lv_at hl 2 rfl) ?_
              refine lv_if_lt (tgt := 99) hx hb dX10_copy_64 (by decide) (fun c13 => ?_) (fun c13 => ?_)
              · skip
                have f_c13 := i_lt c13
                refine lv_bipush (v := -12) hx hb dX10_copy_99 (by decide) ?_
                rw [hQ9]
                exact W.iret (v := (-12)) hx hb hr (fun t ht hW => ⟨⟨(-12), (), rfl, (by first | rfl | trivial), f_items, f_moved, by rw [ht]; exact hP, va_K.moved hW.alike hK, hD⟩, hS.F ht⟩) hS.2.2 dX10_copy_101
              · skip
                have f_c13 := i_nlt c13
                refine lv_iload hx hb dX10_copy_67 (lv_at hl 4 rfl) ?_
                refine lv_if_lt (tgt := 99) hx hb dX10_copy_69 (by decide) (fun c14 => ?_) (fun c14 => ?_)
                · skip
                  have f_c14 := i_lt c14
                  refine lv_bipush (v := -12) hx hb dX10_copy_99 (by decide) ?_
                  rw [hQ9]
                  exact W.iret (v := (-12)) hx hb hr (fun t ht hW => ⟨⟨(-12), (), rfl, (by first | rfl | trivial), f_items, f_moved, by rw [ht]; exact hP, va_K.moved hW.alike hK, hD⟩, hS.F ht⟩) hS.2.2 dX10_copy_101
                · skip
                  have f_c14 := i_nlt c14
                  refine lv_iload_n hx hb dX10_copy_72 rfl (lv_at hl 2 rfl) ?_
                  refine lv_aload_n hx hb dX10_copy_73 rfl (lv_at hl 0 rfl) ?_
                  refine va_get (D := (dC, dI)) (ci := 9) (v := .ref q_rowMany) (C := RX10) (T := TX10) (N := 32) hx hb hts (fun w h => List.mem_cons_of_mem _ (inlX10 w h)) hown hK hP 0 rfl rfl 29 (by decide) (hts (.fieldLink RX10 58 "ClearingGatesModel" "rowMany" "[I") (List.mem_cons_of_mem _ mw_638)) (fun _ h9 => h9) rfl dX10_copy_74 ?_
                  refine lv_iload_n hx hb dX10_copy_77 rfl (lv_at hl 1 rfl) ?_
                  refine va_iald (D := (dC, dI)) hx hb hK hP 2 1 rfl rfl (vp_in_iff.mpr ⟨by omega, by omega⟩) dX10_copy_78 ?_
                  refine lv_topi (fun z15 e_z15 => ?_)
                  obtain ⟨ra_z15, rb_z15⟩ : 0 ≤ z15.toInt ∧ z15.toInt ≤ 60 := by rw [e_z15]; exact hrow _ (i_natlt (by omega) (by omega))
                  refine lv_iload hx hb dX10_copy_79 (lv_at hl 5 rfl) ?_
                  refine lv_isub hx hb dX10_copy_81 ?_
                  refine lv_topi (fun z16 e_z16 => ?_)
                  (first | have t_z16 := i_sub e_z16 (by omega) (by omega) | skip)
                  refine lv_icmp_gt (tgt := 99) hx hb dX10_copy_82 (by decide) (fun c17 => ?_) (fun c17 => ?_)
                  · skip
                    have f_c17 := i_lt c17
                    refine lv_bipush (v := -12) hx hb dX10_copy_99 (by decide) ?_
                    rw [hQ9]
                    exact W.iret (v := (-12)) hx hb hr (fun t ht hW => ⟨⟨(-12), (), rfl, (by first | rfl | trivial), f_items, f_moved, by rw [ht]; exact hP, va_K.moved hW.alike hK, hD⟩, hS.F ht⟩) hS.2.2 dX10_copy_101
                  · skip
                    have f_c17 := i_nlt c17
                    refine lv_iload hx hb dX10_copy_85 (lv_at hl 4 rfl) ?_
                    refine lv_aload_n hx hb dX10_copy_87 rfl (lv_at hl 0 rfl) ?_
                    refine va_get (D := (dC, dI)) (ci := 9) (v := .ref q_rowMany) (C := RX10) (T := TX10) (N := 32) hx hb hts (fun w h => List.mem_cons_of_mem _ (inlX10 w h)) hown hK hP 0 rfl rfl 29 (by decide) (hts (.fieldLink RX10 58 "ClearingGatesModel" "rowMany" "[I") (List.mem_cons_of_mem _ mw_638)) (fun _ h9 => h9) rfl dX10_copy_88 ?_
                    refine lv_iload_n hx hb dX10_copy_91 rfl (lv_at hl 3 rfl) ?_
                    refine va_iald (D := (dC, dI)) hx hb hK hP 2 1 rfl rfl (vp_in_iff.mpr ⟨by omega, by omega⟩) dX10_copy_92 ?_
                    refine lv_topi (fun z18 e_z18 => ?_)
                    obtain ⟨ra_z18, rb_z18⟩ : 0 ≤ z18.toInt ∧ z18.toInt ≤ 60 := by rw [e_z18]; exact hrow _ (i_natlt (by omega) (by omega))
                    refine lv_iload hx hb dX10_copy_93 (lv_at hl 5 rfl) ?_
                    refine lv_isub hx hb dX10_copy_95 ?_
                    refine lv_topi (fun z19 e_z19 => ?_)
                    (first | have t_z19 := i_sub e_z19 (by omega) (by omega) | skip)
                    refine lv_icmp_le (tgt := 102) hx hb dX10_copy_96 (by decide) (fun c20 => ?_) (fun c20 => ?_)
                    · skip
                      have f_c20 := i_le c20
                      refine lv_aload_n hx hb dX10_copy_102 rfl (lv_at hl 0 rfl) ?_
                      refine va_get (D := (dC, dI)) (ci := 9) (v := .ref q_items) (C := RX10) (T := TX10) (N := 32) hx hb hts (fun w h => List.mem_cons_of_mem _ (inlX10 w h)) hown hK hP 0 rfl rfl 30 (by decide) (hts (.fieldLink RX10 61 "ClearingGatesModel" "items" "[I") (List.mem_cons_of_mem _ mw_639)) (fun _ h9 => h9) rfl dX10_copy_103 ?_
                      refine lv_bipush (v := 60) hx hb dX10_copy_106 (by decide) ?_
                      refine lv_iload_n hx hb dX10_copy_108 rfl (lv_at hl 1 rfl) ?_
                      refine lv_imul hx hb dX10_copy_109 ?_
                      refine lv_topi (fun z21 e_z21 => ?_)
                      have t_z21 := i_mulc e_z21 k_60 (by omega) (by omega)
                      refine lv_iload_n hx hb dX10_copy_110 rfl (lv_at hl 2 rfl) ?_
                      refine lv_iadd hx hb dX10_copy_111 ?_
                      refine lv_topi (fun z22 e_z22 => ?_)
                      (first | have t_z22 := i_add e_z22 (by omega) (by omega) | skip)
                      refine lv_aload_n hx hb dX10_copy_112 rfl (lv_at hl 0 rfl) ?_
                      refine va_get (D := (dC, dI)) (ci := 9) (v := .ref q_moved) (C := RX10) (T := TX10) (N := 32) hx hb hts (fun w h => List.mem_cons_of_mem _ (inlX10 w h)) hown hK hP 0 rfl rfl 31 (by decide) (hts (.fieldLink RX10 64 "ClearingGatesModel" "moved" "[I") (List.mem_cons_of_mem _ mw_640)) (fun _ h9 => h9) rfl dX10_copy_113 ?_
                      refine lv_iconst (v := 0) hx hb dX10_copy_116 (by decide) ?_
                      refine lv_iload hx hb dX10_copy_117 (lv_at hl 5 rfl) ?_
                      refine va_copyi (D := (dC, dI)) hx hb (hml.trans hl.1.symm) hown (hts (.methodLink RX10 227 arraycopyName) (List.mem_cons_of_mem _ mw_804)) (hts (.native arraycopyName) (List.mem_cons_of_mem _ mw_330)) (hts (.static arraycopyName) (List.mem_cons_of_mem _ mw_329)) (hts (.initialized "java/lang/System") (List.mem_cons_of_mem _ mw_80)) hK hP hD hS 3 4 2 3 rfl rfl rfl rfl rfl (fun q => by have := i_lt q; omega) (by decide) (fun q => by have := i_lt q; omega) (by have e1 := i_natZ (x := z22) (by omega); have e2 := i_natZ (x := p4) (by omega); omega) (by have e1 := i_natZ (x := 0) (by omega); have e2 := i_natZ (x := p4) (by omega); omega) (fun _ _ => rfl) (Nat.le_of_ble_eq_true rfl) (by decide) dX10_copy_119 (fun H locs hP hD hS => ?_)
                      generalize e_g23 : (va_cpy f_items f_moved (z22 : Int32).toNatClampNeg (0 : Int32).toNatClampNeg (p4 : Int32).toNatClampNeg) = g23 at hP hD
                      obtain ⟨hP, hD⟩ := X_s (ws' := [eO h0 9 [.ref q_s, .long v_fees, .ref q_thought, .long v_thoughtFees, .ref q_image, .long v_imageFees, .int v_hasImage, .ref q_tape, .int v_taped, .ref q_texts, .ref q_sizes, .int v_programs, .ref q_imageTexts, .ref q_imageSizes, .int v_imagePrograms, .int v_here, .int v_open, .int v_running, .int v_begun, .ref q_held, .ref q_marks, .int v_markMany, .ref q_trace, .int v_traced, .ref q_keptBalances, .ref q_keptFees, .int v_deep, .ref q_way, .ref q_sorts, .ref q_rowMany, .ref q_items, .ref q_moved], eI q_sorts k_sorts 4 f_sorts, eI q_rowMany k_rowMany 4 f_rowMany, eI q_items k_items 240 f_items, eI q_moved k_moved 60 g23]) hP hD rfl
                      refine lv_aload_n hx hb dX10_copy_122 rfl (lv_at hl 0 rfl) ?_
                      refine va_get (D := (dC, dI)) (ci := 9) (v := .ref q_moved) (C := RX10) (T := TX10) (N := 32) hx hb hts (fun w h => List.mem_cons_of_mem _ (inlX10 w h)) hown hK hP 0 rfl rfl 31 (by decide) (hts (.fieldLink RX10 64 "ClearingGatesModel" "moved" "[I") (List.mem_cons_of_mem _ mw_640)) (fun _ h9 => h9) rfl dX10_copy_123 ?_
                      refine lv_iconst (v := 0) hx hb dX10_copy_126 (by decide) ?_
                      refine lv_aload_n hx hb dX10_copy_127 rfl (lv_at hl 0 rfl) ?_
                      refine va_get (D := (dC, dI)) (ci := 9) (v := .ref q_items) (C := RX10) (T := TX10) (N := 32) hx hb hts (fun w h => List.mem_cons_of_mem _ (inlX10 w h)) hown hK hP 0 rfl rfl 30 (by decide) (hts (.fieldLink RX10 61 "ClearingGatesModel" "items" "[I") (List.mem_cons_of_mem _ mw_639)) (fun _ h9 => h9) rfl dX10_copy_128 ?_
                      refine lv_bipush (v := 60) hx hb dX10_copy_131 (by decide) ?_
                      refine lv_iload_n hx hb dX10_copy_133 rfl (lv_at hl 3 rfl) ?_
                      refine lv_imul hx hb dX10_copy_134 ?_
                      refine lv_topi (fun z24 e_z24 => ?_)
                      have t_z24 := i_mulc e_z24 k_60 (by omega) (by omega)
                      refine lv_iload hx hb dX10_copy_135 (lv_at hl 4 rfl) ?_
                      refine lv_iadd hx hb dX10_copy_137 ?_
                      refine lv_topi (fun z25 e_z25 => ?_)
                      (first | have t_z25 := i_add e_z25 (by omega) (by omega) | skip)
                      refine lv_iload hx hb dX10_copy_138 (lv_at hl 5 rfl) ?_
                      refine va_copyi (D := (dC, dI)) hx hb (hml.trans hl.1.symm) hown (hts (.methodLink RX10 227 arraycopyName) (List.mem_cons_of_mem _ mw_804)) (hts (.native arraycopyName) (List.mem_cons_of_mem _ mw_330)) (hts (.static arraycopyName) (List.mem_cons_of_mem _ mw_329)) (hts (.initialized "java/lang/System") (List.mem_cons_of_mem _ mw_80)) hK hP hD hS 4 3 3 2 rfl rfl rfl rfl rfl (by decide) (fun q => by have := i_lt q; omega) (fun q => by have := i_lt q; omega) (by have e1 := i_natZ (x := 0) (by omega); have e2 := i_natZ (x := p4) (by omega); omega) (by have e1 := i_natZ (x := z25) (by omega); have e2 := i_natZ (x := p4) (by omega); omega) (fun _ _ => rfl) (Nat.le_of_ble_eq_true rfl) (by decide) dX10_copy_140 (fun H locs hP hD hS => ?_)
                      generalize e_g26 : (va_cpy g23 f_items (0 : Int32).toNatClampNeg (z25 : Int32).toNatClampNeg (p4 : Int32).toNatClampNeg) = g26 at hP hD
                      obtain ⟨hP, hD⟩ := X_s (ws' := [eO h0 9 [.ref q_s, .long v_fees, .ref q_thought, .long v_thoughtFees, .ref q_image, .long v_imageFees, .int v_hasImage, .ref q_tape, .int v_taped, .ref q_texts, .ref q_sizes, .int v_programs, .ref q_imageTexts, .ref q_imageSizes, .int v_imagePrograms, .int v_here, .int v_open, .int v_running, .int v_begun, .ref q_held, .ref q_marks, .int v_markMany, .ref q_trace, .int v_traced, .ref q_keptBalances, .ref q_keptFees, .int v_deep, .ref q_way, .ref q_sorts, .ref q_rowMany, .ref q_items, .ref q_moved], eI q_sorts k_sorts 4 f_sorts, eI q_rowMany k_rowMany 4 f_rowMany, eI q_items k_items 240 g26, eI q_moved k_moved 60 g23]) hP hD rfl
                      refine lv_iload hx hb dX10_copy_143 (lv_at hl 5 rfl) ?_
                      rw [hQ9]
                      exact W.iret (v := p4) hx hb hr (fun t ht hW => ⟨⟨p4, (), rfl, (by first | rfl | trivial), g26, g23, by rw [ht]; exact hP, va_K.moved hW.alike hK, hD⟩, hS.F ht⟩) hS.2.2 dX10_copy_145
                    · skip
                      have f_c20 := i_nle c20
                      refine lv_bipush (v := -12) hx hb dX10_copy_99 (by decide) ?_
                      rw [hQ9]
                      exact W.iret (v := (-12)) hx hb hr (fun t ht hW => ⟨⟨(-12), (), rfl, (by first | rfl | trivial), f_items, f_moved, by rw [ht]; exact hP, va_K.moved hW.alike hK, hD⟩, hS.F ht⟩) hS.2.2 dX10_copy_101
          · skip
            have f_c11 := i_ne c11
            refine lv_bipush (v := -13) hx hb dX10_copy_55 (by decide) ?_
            rw [hQ9]
            exact W.iret (v := (-13)) hx hb hr (fun t ht hW => ⟨⟨(-13), (), rfl, (by first | rfl | trivial), f_items, f_moved, by rw [ht]; exact hP, va_K.moved hW.alike hK, hD⟩, hS.F ht⟩) hS.2.2 dX10_copy_57
        · skip
          have f_c8 := i_eq c8
          refine lv_bipush (v := -11) hx hb dX10_copy_37 (by decide) ?_
          rw [hQ9]
          exact W.iret (v := (-11)) hx hb hr (fun t ht hW => ⟨⟨(-11), (), rfl, (by first | rfl | trivial), f_items, f_moved, by rw [ht]; exact hP, va_K.moved hW.alike hK, hD⟩, hS.F ht⟩) hS.2.2 dX10_copy_39
    · subst e_r3
      refine lv_if_ne (tgt := 17) hx hb dX10_copy_11 (by decide) (fun c27 => absurd (by decide) c27) (fun c27 => ?_)
      refine lv_bipush (v := -2) hx hb dX10_copy_14 (by decide) ?_
      rw [hQ9]
      exact W.iret (v := (-2)) hx hb hr (fun t ht hW => ⟨⟨(-2), (), rfl, (by first | rfl | trivial), f_items, f_moved, by rw [ht]; exact hP, va_K.moved hW.alike hK, hD⟩, hS.F ht⟩) hS.2.2 dX10_copy_16
  · subst e_r1
    refine lv_if_eq (tgt := 14) hx hb dX10_copy_4 (by decide) (fun c28 => ?_) (fun c28 => absurd (by decide) c28)
    refine lv_bipush (v := -2) hx hb dX10_copy_14 (by decide) ?_
    rw [hQ9]
    exact W.iret (v := (-2)) hx hb hr (fun t ht hW => ⟨⟨(-2), (), rfl, (by first | rfl | trivial), f_items, f_moved, by rw [ht]; exact hP, va_K.moved hW.alike hK, hD⟩, hS.F ht⟩) hS.2.2 dX10_copy_16

set_option maxRecDepth 100000 in
set_option maxHeartbeats 4000000 in
/-- load of the reference -/
theorem c_X10_load (l : Launch) (dC : Nat → ClassId) (dI : Nat → Nat → Nat) (h0 : Nat) (p0 : Int32) (p1 : Int32) (p2 : Int32) (p3 : Int32) (q_s : Nat) (v_fees : Int64) (q_thought : Nat) (v_thoughtFees : Int64) (q_image : Nat) (v_imageFees : Int64) (v_hasImage : Int32) (q_tape : Nat) (v_taped : Int32) (q_texts : Nat) (q_sizes : Nat) (v_programs : Int32) (q_imageTexts : Nat) (q_imageSizes : Nat) (v_imagePrograms : Int32) (v_here : Int32) (v_open : Int32) (v_running : Int32) (v_begun : Int32) (q_held : Nat) (q_marks : Nat) (v_markMany : Int32) (q_trace : Nat) (v_traced : Int32) (q_keptBalances : Nat) (q_keptFees : Nat) (v_deep : Int32) (q_way : Nat) (q_sorts : Nat) (q_rowMany : Nat) (q_items : Nat) (q_moved : Nat) (k_sorts : ClassId) (f_sorts : Nat → Int32) (k_rowMany : ClassId) (f_rowMany : Nat → Int32) (k_items : ClassId) (f_items : Nat → Int32) (k_s : ClassId) (f_s : Nat → Int32) (sz : Nat) (hrow : ∀ k : Nat, k < 4 → 0 ≤ (f_rowMany k).toInt ∧ (f_rowMany k).toInt ≤ 60) (hms : ms f_s) : Met l yX10_load wsX10_load ({ frames := 4, cells := 0, slots := 0, locals := 92 }) (va_Pc [.ref h0, .int p0, .int p1, .int p2, .int p3] (fun U => U.heap.size = sz ∧ va_P (dC, dI) vwCl [eO h0 9 [.ref q_s, .long v_fees, .ref q_thought, .long v_thoughtFees, .ref q_image, .long v_imageFees, .int v_hasImage, .ref q_tape, .int v_taped, .ref q_texts, .ref q_sizes, .int v_programs, .ref q_imageTexts, .ref q_imageSizes, .int v_imagePrograms, .int v_here, .int v_open, .int v_running, .int v_begun, .ref q_held, .ref q_marks, .int v_markMany, .ref q_trace, .int v_traced, .ref q_keptBalances, .ref q_keptFees, .int v_deep, .ref q_way, .ref q_sorts, .ref q_rowMany, .ref q_items, .ref q_moved], eI q_sorts k_sorts 4 f_sorts, eI q_rowMany k_rowMany 4 f_rowMany, eI q_items k_items 240 f_items, eI q_s k_s 125 f_s] U.heap ∧ va_K (dC, dI) vwCl [(k_sorts, .int), (k_rowMany, .int), (k_items, .int), (k_s, .int)] U ∧ va_D (fun _ => True) [eO h0 9 [.ref q_s, .long v_fees, .ref q_thought, .long v_thoughtFees, .ref q_image, .long v_imageFees, .int v_hasImage, .ref q_tape, .int v_taped, .ref q_texts, .ref q_sizes, .int v_programs, .ref q_imageTexts, .ref q_imageSizes, .int v_imagePrograms, .int v_here, .int v_open, .int v_running, .int v_begun, .ref q_held, .ref q_marks, .int v_markMany, .ref q_trace, .int v_traced, .ref q_keptBalances, .ref q_keptFees, .int v_deep, .ref q_way, .ref q_sorts, .ref q_rowMany, .ref q_items, .ref q_moved], eI q_sorts k_sorts 4 f_sorts, eI q_rowMany k_rowMany 4 f_rowMany, eI q_items k_items 240 f_items, eI q_s k_s 125 f_s])) (va_Qi (fun (r : Int32) (_ : Unit) => True) (fun (_ : Unit) (t : State) => ∃ (f_s' : Nat → Int32), (ms f_s') ∧ ((f_s' 60).toInt = (f_s 60).toInt) ∧ (Fb f_s' f_s) ∧ va_P (dC, dI) vwCl [eO h0 9 [.ref q_s, .long v_fees, .ref q_thought, .long v_thoughtFees, .ref q_image, .long v_imageFees, .int v_hasImage, .ref q_tape, .int v_taped, .ref q_texts, .ref q_sizes, .int v_programs, .ref q_imageTexts, .ref q_imageSizes, .int v_imagePrograms, .int v_here, .int v_open, .int v_running, .int v_begun, .ref q_held, .ref q_marks, .int v_markMany, .ref q_trace, .int v_traced, .ref q_keptBalances, .ref q_keptFees, .int v_deep, .ref q_way, .ref q_sorts, .ref q_rowMany, .ref q_items, .ref q_moved], eI q_sorts k_sorts 4 f_sorts, eI q_rowMany k_rowMany 4 f_rowMany, eI q_items k_items 240 f_items, eI q_s k_s 125 (f_s')] t.heap ∧ va_K (dC, dI) vwCl [(k_sorts, .int), (k_rowMany, .int), (k_items, .int), (k_s, .int)] t ∧ va_D (va_A [eO h0 9 [.ref q_s, .long v_fees, .ref q_thought, .long v_thoughtFees, .ref q_image, .long v_imageFees, .int v_hasImage, .ref q_tape, .int v_taped, .ref q_texts, .ref q_sizes, .int v_programs, .ref q_imageTexts, .ref q_imageSizes, .int v_imagePrograms, .int v_here, .int v_open, .int v_running, .int v_begun, .ref q_held, .ref q_marks, .int v_markMany, .ref q_trace, .int v_traced, .ref q_keptBalances, .ref q_keptFees, .int v_deep, .ref q_way, .ref q_sorts, .ref q_rowMany, .ref q_items, .ref q_moved], eI q_sorts k_sorts 4 f_sorts, eI q_rowMany k_rowMany 4 f_rowMany, eI q_items k_items 240 f_items, eI q_s k_s 125 f_s] sz) [eO h0 9 [.ref q_s, .long v_fees, .ref q_thought, .long v_thoughtFees, .ref q_image, .long v_imageFees, .int v_hasImage, .ref q_tape, .int v_taped, .ref q_texts, .ref q_sizes, .int v_programs, .ref q_imageTexts, .ref q_imageSizes, .int v_imagePrograms, .int v_here, .int v_open, .int v_running, .int v_begun, .ref q_held, .ref q_marks, .int v_markMany, .ref q_trace, .int v_traced, .ref q_keptBalances, .ref q_keptFees, .int v_deep, .ref q_way, .ref q_sorts, .ref q_rowMany, .ref q_items, .ref q_moved], eI q_sorts k_sorts 4 f_sorts, eI q_rowMany k_rowMany 4 f_rowMany, eI q_items k_items 240 f_items, eI q_s k_s 125 (f_s')]) (va_A [eO h0 9 [.ref q_s, .long v_fees, .ref q_thought, .long v_thoughtFees, .ref q_image, .long v_imageFees, .int v_hasImage, .ref q_tape, .int v_taped, .ref q_texts, .ref q_sizes, .int v_programs, .ref q_imageTexts, .ref q_imageSizes, .int v_imagePrograms, .int v_here, .int v_open, .int v_running, .int v_begun, .ref q_held, .ref q_marks, .int v_markMany, .ref q_trace, .int v_traced, .ref q_keptBalances, .ref q_keptFees, .int v_deep, .ref q_way, .ref q_sorts, .ref q_rowMany, .ref q_items, .ref q_moved], eI q_sorts k_sorts 4 f_sorts, eI q_rowMany k_rowMany 4 f_rowMany, eI q_items k_items 240 f_items, eI q_s k_s 125 f_s] sz)) 0 0 (va_A [eO h0 9 [.ref q_s, .long v_fees, .ref q_thought, .long v_thoughtFees, .ref q_image, .long v_imageFees, .int v_hasImage, .ref q_tape, .int v_taped, .ref q_texts, .ref q_sizes, .int v_programs, .ref q_imageTexts, .ref q_imageSizes, .int v_imagePrograms, .int v_here, .int v_open, .int v_running, .int v_begun, .ref q_held, .ref q_marks, .int v_markMany, .ref q_trace, .int v_traced, .ref q_keptBalances, .ref q_keptFees, .int v_deep, .ref q_way, .ref q_sorts, .ref q_rowMany, .ref q_items, .ref q_moved], eI q_sorts k_sorts 4 f_sorts, eI q_rowMany k_rowMany 4 f_rowMany, eI q_items k_items 240 f_items, eI q_s k_s 125 f_s] sz) := by
  refine Met.ofW (cc := cX10_load) (maxL := 10) (ret := (some .int)) (by decide) rfl ?_
  intro p e s m args below meth c s₁ B hml hv
  obtain ⟨rfl, hsz, hP, hK, hD0⟩ := hv
  have hx := B.exec
  have hb := B.bytes
  have hr := B.returns
  have hts := atoms_spec (ws := wsX10_load) B.pre
  have hown : s.vm.findClass RX10 = some m.cls := findClass_of_methodNamed B.named
  have hlocks := B.notSynchronized
  subst hsz
  have hD := hD0.self (sz := s.heap.size)
  generalize hAe : va_A [eO h0 9 [.ref q_s, .long v_fees, .ref q_thought, .long v_thoughtFees, .ref q_image, .long v_imageFees, .int v_hasImage, .ref q_tape, .int v_taped, .ref q_texts, .ref q_sizes, .int v_programs, .ref q_imageTexts, .ref q_imageSizes, .int v_imagePrograms, .int v_here, .int v_open, .int v_running, .int v_begun, .ref q_held, .ref q_marks, .int v_markMany, .ref q_trace, .int v_traced, .ref q_keptBalances, .ref q_keptFees, .int v_deep, .ref q_way, .ref q_sorts, .ref q_rowMany, .ref q_items, .ref q_moved], eI q_sorts k_sorts 4 f_sorts, eI q_rowMany k_rowMany 4 f_rowMany, eI q_items k_items 240 f_items, eI q_s k_s 125 f_s] s.heap.size = A at hD ⊢
  have hA : ∀ q : Nat, s.heap.size ≤ q → A q := fun q h => by rw [← hAe]; exact Or.inr h
  have hS : va_S A s.heap s.heap [] := va_S.rf
  have hP : va_P (dC, dI) vwCl [eO h0 9 [.ref q_s, .long v_fees, .ref q_thought, .long v_thoughtFees, .ref q_image, .long v_imageFees, .int v_hasImage, .ref q_tape, .int v_taped, .ref q_texts, .ref q_sizes, .int v_programs, .ref q_imageTexts, .ref q_imageSizes, .int v_imagePrograms, .int v_here, .int v_open, .int v_running, .int v_begun, .ref q_held, .ref q_marks, .int v_markMany, .ref q_trace, .int v_traced, .ref q_keptBalances, .ref q_keptFees, .int v_deep, .ref q_way, .ref q_sorts, .ref q_rowMany, .ref q_items, .ref q_moved], eI q_sorts k_sorts 4 f_sorts, eI q_rowMany k_rowMany 4 f_rowMany, eI q_items k_items 240 f_items, eI q_s k_s 125 f_s] s.heap := hP
  have hl := lv_entry ([.ref h0, .int p0, .int p1, .int p2, .int p3]) (n := 10) (Nat.le_of_ble_eq_true rfl)
  rw [lg_entry_eq]
  generalize (lg_sl ([.ref h0, .int p0, .int p1, .int p2, .int p3]) ++ List.replicate (10 - (lg_sl ([.ref h0, .int p0, .int p1, .int p2, .int p3])).length) Slot.unset).toArray = ls at hl ⊢
  have hl : lv_has ls 10 [(0, .ref h0), (1, .int p0), (2, .int p1), (3, .int p2), (4, .int p3)] := hl
  suffices key9 : ∀ Q9 : State → Prop, Q9 = (MQ below (va_Qi (fun (r : Int32) (_ : Unit) => True) (fun (_ : Unit) (t : State) => ∃ (f_s' : Nat → Int32), (ms f_s') ∧ ((f_s' 60).toInt = (f_s 60).toInt) ∧ (Fb f_s' f_s) ∧ va_P (dC, dI) vwCl [eO h0 9 [.ref q_s, .long v_fees, .ref q_thought, .long v_thoughtFees, .ref q_image, .long v_imageFees, .int v_hasImage, .ref q_tape, .int v_taped, .ref q_texts, .ref q_sizes, .int v_programs, .ref q_imageTexts, .ref q_imageSizes, .int v_imagePrograms, .int v_here, .int v_open, .int v_running, .int v_begun, .ref q_held, .ref q_marks, .int v_markMany, .ref q_trace, .int v_traced, .ref q_keptBalances, .ref q_keptFees, .int v_deep, .ref q_way, .ref q_sorts, .ref q_rowMany, .ref q_items, .ref q_moved], eI q_sorts k_sorts 4 f_sorts, eI q_rowMany k_rowMany 4 f_rowMany, eI q_items k_items 240 f_items, eI q_s k_s 125 (f_s')] t.heap ∧ va_K (dC, dI) vwCl [(k_sorts, .int), (k_rowMany, .int), (k_items, .int), (k_s, .int)] t ∧ va_D A [eO h0 9 [.ref q_s, .long v_fees, .ref q_thought, .long v_thoughtFees, .ref q_image, .long v_imageFees, .int v_hasImage, .ref q_tape, .int v_taped, .ref q_texts, .ref q_sizes, .int v_programs, .ref q_imageTexts, .ref q_imageSizes, .int v_imagePrograms, .int v_here, .int v_open, .int v_running, .int v_begun, .ref q_held, .ref q_marks, .int v_markMany, .ref q_trace, .int v_traced, .ref q_keptBalances, .ref q_keptFees, .int v_deep, .ref q_way, .ref q_sorts, .ref q_rowMany, .ref q_items, .ref q_moved], eI q_sorts k_sorts 4 f_sorts, eI q_rowMany k_rowMany 4 f_rowMany, eI q_items k_items 240 f_items, eI q_s k_s 125 (f_s')]) A) (([.ref h0, .int p0, .int p1, .int p2, .int p3] : List Value).toArray) s 0 0 A) → W p l e ({ frames := 4, cells := 0, slots := 0, locals := 92 }) s m (([.ref h0, .int p0, .int p1, .int p2, .int p3] : List Value).toArray) below meth c s.heap [] 0 0 Q9 (F0 m 0 ls []) from key9 _ rfl
  intro Q9 hQ9
  have k_m13 : ((-13) : Int32).toInt = (-13) := by decide
  have k_m12 : ((-12) : Int32).toInt = (-12) := by decide
  have k_m11 : ((-11) : Int32).toInt = (-11) := by decide
  have k_m2 : ((-2) : Int32).toInt = (-2) := by decide
  have k_m1 : ((-1) : Int32).toInt = (-1) := by decide
  have k_0 : (0 : Int32).toInt = 0 := by decide
  have k_1 : (1 : Int32).toInt = 1 := by decide
  have k_2 : (2 : Int32).toInt = 2 := by decide
  have k_3 : (3 : Int32).toInt = 3 := by decide
  have kl_0 : (0 : Int64).toInt = 0 := by decide
  have kl_1 : (1 : Int64).toInt = 1 := by decide
  have kl_3 : (3 : Int64).toInt = 3 := by decide
  have kl_20 : (20 : Int64).toInt = 20 := by decide
  obtain ⟨ha1, ha2, hown9⟩ := id hms
  refine lv_iload_n hx hb dX10_load_0 rfl (lv_at hl 1 rfl) ?_
  obtain ⟨hPc, hDc, hFc, hCm, hNw⟩ := C_s (wc := []) hP hD hS hA [] 5 rfl (by decide +kernel) rfl
  have hKc := K_s (tys' := []) hK [] rfl
  refine va_calli (va_runS (As := [.int p0]) (rest := []) ⟨hx, hb, hml, hown, hts⟩ (c_X10_isSheet l dC dI p0 s.heap.size) (va_cwS 1 hts gX10_load_X10_isSheet rfl rfl rfl (by decide +kernel) ⟨Nat.le_of_ble_eq_true rfl, Nat.le_of_ble_eq_true rfl⟩) ⟨fun a U g mk q => by obtain ⟨q0, q1, qP, qK, qD⟩ := q; exact ⟨q0, q1, qP, va_K.moved (u := U) (U := U.calling g mk a) (Vm.Alike.refl U.vm) qK, qD⟩, fun U hU hW => ⟨rfl, by rw [hU], by rw [hU]; exact hPc, va_K.moved hW.alike hKc, hDc.weaken (fun _ _ _ _ => trivial)⟩⟩ rfl rfl hl.1 rfl (lv_room (Nat.le_of_ble_eq_true rfl)) dX10_load_1 ⟨Nat.le_of_ble_eq_true rfl, Nat.le_of_ble_eq_true rfl⟩) hS (fun q _ h => hFc q h) hFc (fun r1 u t H1 locs ht hvm hw hB hz1 hk1 hS => ?_)
  obtain ⟨hP1, hK1, hD1⟩ := hB
  rw [ht] at hP1
  have hK1 := va_K.moved hvm.symm hK1
  try dsimp only at hw
  obtain ⟨hP, hD⟩ := J_s (wL := [eO h0 9 [.ref q_s, .long v_fees, .ref q_thought, .long v_thoughtFees, .ref q_image, .long v_imageFees, .int v_hasImage, .ref q_tape, .int v_taped, .ref q_texts, .ref q_sizes, .int v_programs, .ref q_imageTexts, .ref q_imageSizes, .int v_imagePrograms, .int v_here, .int v_open, .int v_running, .int v_begun, .ref q_held, .ref q_marks, .int v_markMany, .ref q_trace, .int v_traced, .ref q_keptBalances, .ref q_keptFees, .int v_deep, .ref q_way, .ref q_sorts, .ref q_rowMany, .ref q_items, .ref q_moved], eI q_sorts k_sorts 4 f_sorts, eI q_rowMany k_rowMany 4 f_rowMany, eI q_items k_items 240 f_items, eI q_s k_s 125 f_s]) hP hD [] [(0, 5)] hCm hNw (by decide +kernel) hk1 hFc hP1 hD1 rfl
  have hK := KJ_s (tys' := [(k_sorts, .int), (k_rowMany, .int), (k_items, .int), (k_s, .int)]) hK hK1 [(0, 4)] rfl
  generalize H1 = H at hP hS ⊢
  rcases hw with ⟨e_r1, f_r1⟩ | ⟨e_r1, f_r1⟩
  · subst e_r1
    refine lv_if_eq (tgt := 30) hx hb dX10_load_4 (by decide) (fun c2 => absurd c2 (by decide)) (fun c2 => ?_)
    refine lv_iload_n hx hb dX10_load_7 rfl (lv_at hl 2 rfl) ?_
    refine lv_i2l (v := p1.toInt64) hx hb dX10_load_8 rfl ?_
    have t_t3 := Int32.toInt_toInt64 p1
    refine lv_lconst (v := 0) hx hb dX10_load_9 (by decide) ?_
    refine lv_lconst (v := 1) hx hb dX10_load_10 (by decide) ?_
    obtain ⟨hPc, hDc, hFc, hCm, hNw⟩ := C_s (wc := []) hP hD hS hA [] 5 rfl (by decide +kernel) rfl
    have hKc := K_s (tys' := []) hK [] rfl
    refine va_calli (va_runS (As := [.long p1.toInt64, .long 0, .long 1]) (rest := []) ⟨hx, hb, hml, hown, hts⟩ (c_X10_isIn l dC dI (p1.toInt64) 0 1 H.size) (va_cwS 3 hts gX10_load_X10_isIn rfl rfl rfl (by decide +kernel) ⟨Nat.le_of_ble_eq_true rfl, Nat.le_of_ble_eq_true rfl⟩) ⟨fun a U g mk q => by obtain ⟨q0, q1, qP, qK, qD⟩ := q; exact ⟨q0, q1, qP, va_K.moved (u := U) (U := U.calling g mk a) (Vm.Alike.refl U.vm) qK, qD⟩, fun U hU hW => ⟨rfl, by rw [hU], by rw [hU]; exact hPc, va_K.moved hW.alike hKc, hDc.weaken (fun _ _ _ _ => trivial)⟩⟩ rfl rfl hl.1 rfl (lv_room (Nat.le_of_ble_eq_true rfl)) dX10_load_11 ⟨Nat.le_of_ble_eq_true rfl, Nat.le_of_ble_eq_true rfl⟩) hS (fun q _ h => hFc q h) hFc (fun r4 u t H1 locs ht hvm hw hB hz1 hk1 hS => ?_)
    obtain ⟨hP1, hK1, hD1⟩ := hB
    rw [ht] at hP1
    have hK1 := va_K.moved hvm.symm hK1
    try dsimp only at hw
    obtain ⟨hP, hD⟩ := J_s (wL := [eO h0 9 [.ref q_s, .long v_fees, .ref q_thought, .long v_thoughtFees, .ref q_image, .long v_imageFees, .int v_hasImage, .ref q_tape, .int v_taped, .ref q_texts, .ref q_sizes, .int v_programs, .ref q_imageTexts, .ref q_imageSizes, .int v_imagePrograms, .int v_here, .int v_open, .int v_running, .int v_begun, .ref q_held, .ref q_marks, .int v_markMany, .ref q_trace, .int v_traced, .ref q_keptBalances, .ref q_keptFees, .int v_deep, .ref q_way, .ref q_sorts, .ref q_rowMany, .ref q_items, .ref q_moved], eI q_sorts k_sorts 4 f_sorts, eI q_rowMany k_rowMany 4 f_rowMany, eI q_items k_items 240 f_items, eI q_s k_s 125 f_s]) hP hD [] [(0, 5)] hCm hNw (by decide +kernel) hk1 hFc hP1 hD1 rfl
    have hK := KJ_s (tys' := [(k_sorts, .int), (k_rowMany, .int), (k_items, .int), (k_s, .int)]) hK hK1 [(0, 4)] rfl
    generalize H1 = H at hP hS ⊢
    rcases hw with ⟨e_r4, f_r4⟩ | ⟨e_r4, f_r4⟩
    · subst e_r4
      refine lv_if_eq (tgt := 30) hx hb dX10_load_14 (by decide) (fun c5 => absurd c5 (by decide)) (fun c5 => ?_)
      refine lv_iload hx hb dX10_load_17 (lv_at hl 4 rfl) ?_
      refine lv_i2l (v := p3.toInt64) hx hb dX10_load_19 rfl ?_
      have t_t6 := Int32.toInt_toInt64 p3
      refine lv_lconst (v := 0) hx hb dX10_load_20 (by decide) ?_
      refine lv_ldc2 hx hb hown (hts (.constantLong RX10 295 (20)) (List.mem_cons_of_mem _ mw_887)) dX10_load_21 ?_
      obtain ⟨hPc, hDc, hFc, hCm, hNw⟩ := C_s (wc := []) hP hD hS hA [] 5 rfl (by decide +kernel) rfl
      have hKc := K_s (tys' := []) hK [] rfl
      refine va_calli (va_runS (As := [.long p3.toInt64, .long 0, .long 20]) (rest := []) ⟨hx, hb, hml, hown, hts⟩ (c_X10_isIn l dC dI (p3.toInt64) 0 20 H.size) (va_cwS 3 hts gX10_load_X10_isIn rfl rfl rfl (by decide +kernel) ⟨Nat.le_of_ble_eq_true rfl, Nat.le_of_ble_eq_true rfl⟩) ⟨fun a U g mk q => by obtain ⟨q0, q1, qP, qK, qD⟩ := q; exact ⟨q0, q1, qP, va_K.moved (u := U) (U := U.calling g mk a) (Vm.Alike.refl U.vm) qK, qD⟩, fun U hU hW => ⟨rfl, by rw [hU], by rw [hU]; exact hPc, va_K.moved hW.alike hKc, hDc.weaken (fun _ _ _ _ => trivial)⟩⟩ rfl rfl hl.1 rfl (lv_room (Nat.le_of_ble_eq_true rfl)) dX10_load_24 ⟨Nat.le_of_ble_eq_true rfl, Nat.le_of_ble_eq_true rfl⟩) hS (fun q _ h => hFc q h) hFc (fun r7 u t H1 locs ht hvm hw hB hz1 hk1 hS => ?_)
      obtain ⟨hP1, hK1, hD1⟩ := hB
      rw [ht] at hP1
      have hK1 := va_K.moved hvm.symm hK1
      try dsimp only at hw
      obtain ⟨hP, hD⟩ := J_s (wL := [eO h0 9 [.ref q_s, .long v_fees, .ref q_thought, .long v_thoughtFees, .ref q_image, .long v_imageFees, .int v_hasImage, .ref q_tape, .int v_taped, .ref q_texts, .ref q_sizes, .int v_programs, .ref q_imageTexts, .ref q_imageSizes, .int v_imagePrograms, .int v_here, .int v_open, .int v_running, .int v_begun, .ref q_held, .ref q_marks, .int v_markMany, .ref q_trace, .int v_traced, .ref q_keptBalances, .ref q_keptFees, .int v_deep, .ref q_way, .ref q_sorts, .ref q_rowMany, .ref q_items, .ref q_moved], eI q_sorts k_sorts 4 f_sorts, eI q_rowMany k_rowMany 4 f_rowMany, eI q_items k_items 240 f_items, eI q_s k_s 125 f_s]) hP hD [] [(0, 5)] hCm hNw (by decide +kernel) hk1 hFc hP1 hD1 rfl
      have hK := KJ_s (tys' := [(k_sorts, .int), (k_rowMany, .int), (k_items, .int), (k_s, .int)]) hK hK1 [(0, 4)] rfl
      generalize H1 = H at hP hS ⊢
      rcases hw with ⟨e_r7, f_r7⟩ | ⟨e_r7, f_r7⟩
      · subst e_r7
        refine lv_if_ne (tgt := 33) hx hb dX10_load_27 (by decide) (fun c8 => ?_) (fun c8 => absurd c8 (by decide))
        refine lv_aload_n hx hb dX10_load_33 rfl (lv_at hl 0 rfl) ?_
        refine va_get (D := (dC, dI)) (ci := 9) (v := .ref q_sorts) (C := RX10) (T := TX10) (N := 32) hx hb hts (fun w h => List.mem_cons_of_mem _ (inlX10 w h)) hown hK hP 0 rfl rfl 28 (by decide) (hts (.fieldLink RX10 55 "ClearingGatesModel" "sorts" "[I") (List.mem_cons_of_mem _ mw_637)) (fun _ h9 => h9) rfl dX10_load_34 ?_
        refine lv_iload_n hx hb dX10_load_37 rfl (lv_at hl 1 rfl) ?_
        refine va_iald (D := (dC, dI)) hx hb hK hP 1 0 rfl rfl (vp_in_iff.mpr ⟨by omega, by omega⟩) dX10_load_38 ?_
        refine lv_topi (fun z9 e_z9 => ?_)
        refine lv_iconst (v := -1) hx hb dX10_load_39 (by decide) ?_
        refine lv_icmp_eq (tgt := 56) hx hb dX10_load_40 (by decide) (fun c10 => ?_) (fun c10 => ?_)
        · skip
          have f_c10 := i_eq c10
          refine lv_aload_n hx hb dX10_load_56 rfl (lv_at hl 0 rfl) ?_
          refine va_get (D := (dC, dI)) (ci := 9) (v := .ref q_sorts) (C := RX10) (T := TX10) (N := 32) hx hb hts (fun w h => List.mem_cons_of_mem _ (inlX10 w h)) hown hK hP 0 rfl rfl 28 (by decide) (hts (.fieldLink RX10 55 "ClearingGatesModel" "sorts" "[I") (List.mem_cons_of_mem _ mw_637)) (fun _ h9 => h9) rfl dX10_load_57 ?_
          refine lv_iload_n hx hb dX10_load_60 rfl (lv_at hl 1 rfl) ?_
          refine va_iald (D := (dC, dI)) hx hb hK hP 1 0 rfl rfl (vp_in_iff.mpr ⟨by omega, by omega⟩) dX10_load_61 ?_
          refine lv_topi (fun z11 e_z11 => ?_)
          refine lv_iconst (v := -1) hx hb dX10_load_62 (by decide) ?_
          refine lv_icmp_ne (tgt := 69) hx hb dX10_load_63 (by decide) (fun c12 => ?_) (fun c12 => ?_)
          · skip
            have f_c12 := i_ne c12
            refine lv_iconst (v := 0) hx hb dX10_load_69 (by decide) ?_
            refine lv_istore (lv' := [(5, .int 0), (0, .ref h0), (1, .int p0), (2, .int p1), (3, .int p2), (4, .int p3)]) hx hb dX10_load_70 hl (by decide) rfl (fun ls hl => ?_)
            refine lv_iconst (v := 0) hx hb dX10_load_72 (by decide) ?_
            refine lv_istore (lv' := [(6, .int 0), (5, .int 0), (0, .ref h0), (1, .int p0), (2, .int p1), (3, .int p2), (4, .int p3)]) hx hb dX10_load_73 hl (by decide) rfl (fun ls hl => ?_)
            have loop_75 : ∀ (n : Nat) (cm : Int32) (x : Int32) (gs : Nat → Int32), (0 ≤ x.toInt) → (x.toInt ≤ 20) → (0 ≤ cm.toInt) → (cm.toInt ≤ x.toInt) → (ms gs) → ((gs 60).toInt = (f_s 60).toInt) → (Fb gs f_s) → (20 - x.toInt) < (n : Int) → ∀ (H : Heap) (locs : List Loc), va_K (dC, dI) vwCl [(k_sorts, .int), (k_rowMany, .int), (k_items, .int), (k_s, .int)] s → va_P (dC, dI) vwCl [eO h0 9 [.ref q_s, .long v_fees, .ref q_thought, .long v_thoughtFees, .ref q_image, .long v_imageFees, .int v_hasImage, .ref q_tape, .int v_taped, .ref q_texts, .ref q_sizes, .int v_programs, .ref q_imageTexts, .ref q_imageSizes, .int v_imagePrograms, .int v_here, .int v_open, .int v_running, .int v_begun, .ref q_held, .ref q_marks, .int v_markMany, .ref q_trace, .int v_traced, .ref q_keptBalances, .ref q_keptFees, .int v_deep, .ref q_way, .ref q_sorts, .ref q_rowMany, .ref q_items, .ref q_moved], eI q_sorts k_sorts 4 f_sorts, eI q_rowMany k_rowMany 4 f_rowMany, eI q_items k_items 240 f_items, eI q_s k_s 125 gs] H → va_D A [eO h0 9 [.ref q_s, .long v_fees, .ref q_thought, .long v_thoughtFees, .ref q_image, .long v_imageFees, .int v_hasImage, .ref q_tape, .int v_taped, .ref q_texts, .ref q_sizes, .int v_programs, .ref q_imageTexts, .ref q_imageSizes, .int v_imagePrograms, .int v_here, .int v_open, .int v_running, .int v_begun, .ref q_held, .ref q_marks, .int v_markMany, .ref q_trace, .int v_traced, .ref q_keptBalances, .ref q_keptFees, .int v_deep, .ref q_way, .ref q_sorts, .ref q_rowMany, .ref q_items, .ref q_moved], eI q_sorts k_sorts 4 f_sorts, eI q_rowMany k_rowMany 4 f_rowMany, eI q_items k_items 240 f_items, eI q_s k_s 125 gs] → va_S A s.heap H locs → ∀ (ls : Array Slot), lv_has ls 10 [(6, .int x), (5, .int cm), (0, .ref h0), (1, .int p0), (2, .int p1), (3, .int p2), (4, .int p3)] → W p l e ({ frames := 4, cells := 0, slots := 0, locals := 92 }) s m (([.ref h0, .int p0, .int p1, .int p2, .int p3] : List Value).toArray) below meth c H locs 0 0 Q9 (F0 m 75 ls []) := by
              intro n
              induction n with
              | zero => intro cm x gs i1 i2 i3 i4 ims i60 ib hM_75; exfalso; omega
              | succ n ih_75 =>
                intro cm x gs i1 i2 i3 i4 ims i60 ib hM_75 H locs hK hP hD hS ls hl
                refine lv_iload hx hb dX10_load_75 (lv_at hl 0 rfl) ?_
                refine lv_iload hx hb dX10_load_77 (lv_at hl 6 rfl) ?_
                refine lv_icmp_ge (tgt := 168) hx hb dX10_load_79 (by decide) (fun c13 => ?_) (fun c13 => ?_)
                · skip
                  have f_c13 := i_le c13
                  refine lv_iload hx hb dX10_load_168 (lv_at hl 1 rfl) ?_
                  rw [hQ9]
                  exact W.iret (v := cm) hx hb hr (fun t ht hW => ⟨⟨cm, (), rfl, (by first | rfl | trivial), gs, (by first | assumption | omega | exact fz_rf _ | exact fb_rf _ | exact (fun _ _ _ => rfl)), (by first | assumption | omega | exact fz_rf _ | exact fb_rf _ | exact (fun _ _ _ => rfl)), (by first | assumption | omega | exact fz_rf _ | exact fb_rf _ | exact (fun _ _ _ => rfl)), by rw [ht]; exact hP, va_K.moved hW.alike hK, hD⟩, hS.F ht⟩) hS.2.2 dX10_load_170
                · skip
                  have f_c13 := i_nle c13
                  refine lv_iload_n hx hb dX10_load_82 rfl (lv_at hl 5 rfl) ?_
                  refine lv_i2l (v := p2.toInt64) hx hb dX10_load_83 rfl ?_
                  have t_t14 := Int32.toInt_toInt64 p2
                  refine lv_ldc2 hx hb hown (hts (.constantLong RX10 236 (3)) (List.mem_cons_of_mem _ mw_796)) dX10_load_84 ?_
                  refine lv_iload hx hb dX10_load_87 (lv_at hl 0 rfl) ?_
                  refine lv_i2l (v := x.toInt64) hx hb dX10_load_89 rfl ?_
                  have t_t15 := Int32.toInt_toInt64 x
                  refine lv_lmul hx hb dX10_load_90 ?_
                  refine lv_topl (fun z16 e_z16 => ?_)
                  refine lv_ladd hx hb dX10_load_91 ?_
                  refine lv_topl (fun z17 e_z17 => ?_)
                  refine lv_lstore (lv' := [(7, .long z17), (6, .int x), (5, .int cm), (0, .ref h0), (1, .int p0), (2, .int p1), (3, .int p2), (4, .int p3)]) hx hb dX10_load_92 hl (by decide) rfl (fun ls hl => ?_)
                  refine lv_lload hx hb dX10_load_94 (lv_at hl 0 rfl) ?_
                  refine lv_lconst (v := 0) hx hb dX10_load_96 (by decide) ?_
                  refine lv_aload_n hx hb dX10_load_97 rfl (lv_at hl 3 rfl) ?_
                  refine va_get (D := (dC, dI)) (ci := 9) (v := .ref q_rowMany) (C := RX10) (T := TX10) (N := 32) hx hb hts (fun w h => List.mem_cons_of_mem _ (inlX10 w h)) hown hK hP 0 rfl rfl 29 (by decide) (hts (.fieldLink RX10 58 "ClearingGatesModel" "rowMany" "[I") (List.mem_cons_of_mem _ mw_638)) (fun _ h9 => h9) rfl dX10_load_98 ?_
                  refine lv_iload_n hx hb dX10_load_101 rfl (lv_at hl 4 rfl) ?_
                  refine va_iald (D := (dC, dI)) hx hb hK hP 2 1 rfl rfl (vp_in_iff.mpr ⟨by omega, by omega⟩) dX10_load_102 ?_
                  refine lv_topi (fun z18 e_z18 => ?_)
                  obtain ⟨ra_z18, rb_z18⟩ : 0 ≤ z18.toInt ∧ z18.toInt ≤ 60 := by rw [e_z18]; exact hrow _ (i_natlt (by omega) (by omega))
                  refine lv_iconst (v := 3) hx hb dX10_load_103 (by decide) ?_
                  refine lv_isub hx hb dX10_load_104 ?_
                  refine lv_topi (fun z19 e_z19 => ?_)
                  (first | have t_z19 := i_sub e_z19 (by omega) (by omega) | skip)
                  refine lv_i2l (v := z19.toInt64) hx hb dX10_load_105 rfl ?_
                  have t_t20 := Int32.toInt_toInt64 z19
                  obtain ⟨hPc, hDc, hFc, hCm, hNw⟩ := C_s (wc := []) hP hD hS hA [] 5 rfl (by decide +kernel) rfl
                  have hKc := K_s (tys' := []) hK [] rfl
                  refine va_calli (va_runS (As := [.long z17, .long 0, .long z19.toInt64]) (rest := []) ⟨hx, hb, hml, hown, hts⟩ (c_X10_isIn l dC dI z17 0 (z19.toInt64) H.size) (va_cwS 3 hts gX10_load_X10_isIn rfl rfl rfl (by decide +kernel) ⟨Nat.le_of_ble_eq_true rfl, Nat.le_of_ble_eq_true rfl⟩) ⟨fun a U g mk q => by obtain ⟨q0, q1, qP, qK, qD⟩ := q; exact ⟨q0, q1, qP, va_K.moved (u := U) (U := U.calling g mk a) (Vm.Alike.refl U.vm) qK, qD⟩, fun U hU hW => ⟨rfl, by rw [hU], by rw [hU]; exact hPc, va_K.moved hW.alike hKc, hDc.weaken (fun _ _ _ _ => trivial)⟩⟩ rfl rfl hl.1 rfl (lv_room (Nat.le_of_ble_eq_true rfl)) dX10_load_106 ⟨Nat.le_of_ble_eq_true rfl, Nat.le_of_ble_eq_true rfl⟩) hS (fun q _ h => hFc q h) hFc (fun r21 u t H1 locs ht hvm hw hB hz1 hk1 hS => ?_)
                  obtain ⟨hP1, hK1, hD1⟩ := hB
                  rw [ht] at hP1
                  have hK1 := va_K.moved hvm.symm hK1
                  try dsimp only at hw
                  obtain ⟨hP, hD⟩ := J_s (wL := [eO h0 9 [.ref q_s, .long v_fees, .ref q_thought, .long v_thoughtFees, .ref q_image, .long v_imageFees, .int v_hasImage, .ref q_tape, .int v_taped, .ref q_texts, .ref q_sizes, .int v_programs, .ref q_imageTexts, .ref q_imageSizes, .int v_imagePrograms, .int v_here, .int v_open, .int v_running, .int v_begun, .ref q_held, .ref q_marks, .int v_markMany, .ref q_trace, .int v_traced, .ref q_keptBalances, .ref q_keptFees, .int v_deep, .ref q_way, .ref q_sorts, .ref q_rowMany, .ref q_items, .ref q_moved], eI q_sorts k_sorts 4 f_sorts, eI q_rowMany k_rowMany 4 f_rowMany, eI q_items k_items 240 f_items, eI q_s k_s 125 gs]) hP hD [] [(0, 5)] hCm hNw (by decide +kernel) hk1 hFc hP1 hD1 rfl
                  have hK := KJ_s (tys' := [(k_sorts, .int), (k_rowMany, .int), (k_items, .int), (k_s, .int)]) hK hK1 [(0, 4)] rfl
                  generalize H1 = H at hP hS ⊢
                  rcases hw with ⟨e_r21, f_r21⟩ | ⟨e_r21, f_r21⟩
                  · subst e_r21
                    refine lv_if_ne (tgt := 115) hx hb dX10_load_109 (by decide) (fun c22 => ?_) (fun c22 => absurd c22 (by decide))
                    refine lv_lload hx hb dX10_load_115 (lv_at hl 0 rfl) ?_
                    refine lv_l2i hx hb dX10_load_117 rfl ?_
                    refine lv_topi (fun z23 e_z23 => ?_)
                    (first | have t_z23 := i_l2i e_z23 (by omega) (by omega) | skip)
                    refine lv_istore (lv' := [(9, .int z23), (7, .long z17), (6, .int x), (5, .int cm), (0, .ref h0), (1, .int p0), (2, .int p1), (3, .int p2), (4, .int p3)]) hx hb dX10_load_118 hl (by decide) rfl (fun ls hl => ?_)
                    refine lv_iload hx hb dX10_load_120 (lv_at hl 3 rfl) ?_
                    refine lv_aload_n hx hb dX10_load_122 rfl (lv_at hl 4 rfl) ?_
                    refine lv_aload_n hx hb dX10_load_123 rfl (lv_at hl 4 rfl) ?_
                    refine lv_iload_n hx hb dX10_load_124 rfl (lv_at hl 5 rfl) ?_
                    refine lv_iload hx hb dX10_load_125 (lv_at hl 0 rfl) ?_
                    obtain ⟨hPc, hDc, hFc, hCm, hNw⟩ := C_s (wc := [eO h0 9 [.ref q_s, .long v_fees, .ref q_thought, .long v_thoughtFees, .ref q_image, .long v_imageFees, .int v_hasImage, .ref q_tape, .int v_taped, .ref q_texts, .ref q_sizes, .int v_programs, .ref q_imageTexts, .ref q_imageSizes, .int v_imagePrograms, .int v_here, .int v_open, .int v_running, .int v_begun, .ref q_held, .ref q_marks, .int v_markMany, .ref q_trace, .int v_traced, .ref q_keptBalances, .ref q_keptFees, .int v_deep, .ref q_way, .ref q_sorts, .ref q_rowMany, .ref q_items, .ref q_moved], eI q_items k_items 240 f_items]) hP hD hS hA [(0, 1), (3, 1)] 5 rfl (by decide +kernel) rfl
                    have hKc := K_s (tys' := [(k_items, .int)]) hK [(2, 1)] rfl
                    refine va_calli (va_runV (As := [.int p0, .int z23]) (rest := [.ref h0, .int cm]) ⟨hx, hb, hml, hown, hts⟩ (c_X10_itemOf l dC dI h0 p0 z23 q_s v_fees q_thought v_thoughtFees q_image v_imageFees v_hasImage q_tape v_taped q_texts q_sizes v_programs q_imageTexts q_imageSizes v_imagePrograms v_here v_open v_running v_begun q_held q_marks v_markMany q_trace v_traced q_keptBalances q_keptFees v_deep q_way q_sorts q_rowMany q_items q_moved k_items f_items H.size (by first | assumption | omega) (by first | assumption | omega) (by first | assumption | omega) (by first | assumption | omega)) (cwV 2 hts gX10_load_X10_itemOf rfl rfl rfl (by decide +kernel) ⟨Nat.le_of_ble_eq_true rfl, Nat.le_of_ble_eq_true rfl⟩) ⟨fun a U g mk q => by obtain ⟨q0, q1, qP, qK, qD⟩ := q; exact ⟨q0, q1, qP, va_K.moved (u := U) (U := U.calling g mk a) (Vm.Alike.refl U.vm) qK, qD⟩, va_recv (s := s) (q := (RX10, TX10, 32)) hKc hPc (ci := 9) (q0 := 0) rfl rfl, fun U hU hW => ⟨rfl, by rw [hU], by rw [hU]; exact hPc, va_K.moved hW.alike hKc, hDc.weaken (fun _ _ _ _ => trivial)⟩⟩ rfl rfl hl.1 rfl (lv_room (Nat.le_of_ble_eq_true rfl)) dX10_load_127 ⟨Nat.le_of_ble_eq_true rfl, Nat.le_of_ble_eq_true rfl⟩) hS (fun q _ h => hFc q h) hFc (fun r24 u t H1 locs ht hvm hw hB hz1 hk1 hS => ?_)
                    obtain ⟨hP1, hK1, hD1⟩ := hB
                    rw [ht] at hP1
                    have hK1 := va_K.moved hvm.symm hK1
                    try dsimp only at hw
                    obtain ⟨hP, hD⟩ := J_s (wL := [eI q_sorts k_sorts 4 f_sorts, eI q_rowMany k_rowMany 4 f_rowMany, eI q_s k_s 125 gs, eO h0 9 [.ref q_s, .long v_fees, .ref q_thought, .long v_thoughtFees, .ref q_image, .long v_imageFees, .int v_hasImage, .ref q_tape, .int v_taped, .ref q_texts, .ref q_sizes, .int v_programs, .ref q_imageTexts, .ref q_imageSizes, .int v_imagePrograms, .int v_here, .int v_open, .int v_running, .int v_begun, .ref q_held, .ref q_marks, .int v_markMany, .ref q_trace, .int v_traced, .ref q_keptBalances, .ref q_keptFees, .int v_deep, .ref q_way, .ref q_sorts, .ref q_rowMany, .ref q_items, .ref q_moved], eI q_items k_items 240 f_items]) hP hD [(0, 1), (3, 1)] [(1, 2), (4, 1)] hCm hNw (by decide +kernel) hk1 hFc hP1 hD1 rfl
                    have hK := KJ_s (tys' := [(k_sorts, .int), (k_rowMany, .int), (k_s, .int), (k_items, .int)]) hK hK1 [(0, 2), (3, 1)] rfl
                    generalize H1 = H at hP hS ⊢
                    refine lv_aload_n hx hb dX10_load_130 rfl (lv_at hl 4 rfl) ?_
                    refine lv_iload_n hx hb dX10_load_131 rfl (lv_at hl 5 rfl) ?_
                    refine lv_iload hx hb dX10_load_132 (lv_at hl 0 rfl) ?_
                    refine lv_iconst (v := 1) hx hb dX10_load_134 (by decide) ?_
                    refine lv_iadd hx hb dX10_load_135 ?_
                    refine lv_topi (fun z25 e_z25 => ?_)
                    (first | have t_z25 := i_add e_z25 (by omega) (by omega) | skip)
                    obtain ⟨hPc, hDc, hFc, hCm, hNw⟩ := C_s (wc := [eO h0 9 [.ref q_s, .long v_fees, .ref q_thought, .long v_thoughtFees, .ref q_image, .long v_imageFees, .int v_hasImage, .ref q_tape, .int v_taped, .ref q_texts, .ref q_sizes, .int v_programs, .ref q_imageTexts, .ref q_imageSizes, .int v_imagePrograms, .int v_here, .int v_open, .int v_running, .int v_begun, .ref q_held, .ref q_marks, .int v_markMany, .ref q_trace, .int v_traced, .ref q_keptBalances, .ref q_keptFees, .int v_deep, .ref q_way, .ref q_sorts, .ref q_rowMany, .ref q_items, .ref q_moved], eI q_items k_items 240 f_items]) hP hD hS hA [(3, 2)] 5 rfl (by decide +kernel) rfl
                    have hKc := K_s (tys' := [(k_items, .int)]) hK [(3, 1)] rfl
                    refine va_calli (va_runV (As := [.int p0, .int z25]) (rest := [.int r24, .ref h0, .int cm]) ⟨hx, hb, hml, hown, hts⟩ (c_X10_itemOf l dC dI h0 p0 z25 q_s v_fees q_thought v_thoughtFees q_image v_imageFees v_hasImage q_tape v_taped q_texts q_sizes v_programs q_imageTexts q_imageSizes v_imagePrograms v_here v_open v_running v_begun q_held q_marks v_markMany q_trace v_traced q_keptBalances q_keptFees v_deep q_way q_sorts q_rowMany q_items q_moved k_items f_items H.size (by first | assumption | omega) (by first | assumption | omega) (by first | assumption | omega) (by first | assumption | omega)) (cwV 2 hts gX10_load_X10_itemOf rfl rfl rfl (by decide +kernel) ⟨Nat.le_of_ble_eq_true rfl, Nat.le_of_ble_eq_true rfl⟩) ⟨fun a U g mk q => by obtain ⟨q0, q1, qP, qK, qD⟩ := q; exact ⟨q0, q1, qP, va_K.moved (u := U) (U := U.calling g mk a) (Vm.Alike.refl U.vm) qK, qD⟩, va_recv (s := s) (q := (RX10, TX10, 32)) hKc hPc (ci := 9) (q0 := 0) rfl rfl, fun U hU hW => ⟨rfl, by rw [hU], by rw [hU]; exact hPc, va_K.moved hW.alike hKc, hDc.weaken (fun _ _ _ _ => trivial)⟩⟩ rfl rfl hl.1 rfl (lv_room (Nat.le_of_ble_eq_true rfl)) dX10_load_136 ⟨Nat.le_of_ble_eq_true rfl, Nat.le_of_ble_eq_true rfl⟩) hS (fun q _ h => hFc q h) hFc (fun r26 u t H1 locs ht hvm hw hB hz1 hk1 hS => ?_)
                    obtain ⟨hP1, hK1, hD1⟩ := hB
                    rw [ht] at hP1
                    have hK1 := va_K.moved hvm.symm hK1
                    try dsimp only at hw
                    obtain ⟨hP, hD⟩ := J_s (wL := [eI q_sorts k_sorts 4 f_sorts, eI q_rowMany k_rowMany 4 f_rowMany, eI q_s k_s 125 gs, eO h0 9 [.ref q_s, .long v_fees, .ref q_thought, .long v_thoughtFees, .ref q_image, .long v_imageFees, .int v_hasImage, .ref q_tape, .int v_taped, .ref q_texts, .ref q_sizes, .int v_programs, .ref q_imageTexts, .ref q_imageSizes, .int v_imagePrograms, .int v_here, .int v_open, .int v_running, .int v_begun, .ref q_held, .ref q_marks, .int v_markMany, .ref q_trace, .int v_traced, .ref q_keptBalances, .ref q_keptFees, .int v_deep, .ref q_way, .ref q_sorts, .ref q_rowMany, .ref q_items, .ref q_moved], eI q_items k_items 240 f_items]) hP hD [(3, 2)] [(0, 3)] hCm hNw (by decide +kernel) hk1 hFc hP1 hD1 rfl
                    have hK := KJ_s (tys' := [(k_sorts, .int), (k_rowMany, .int), (k_s, .int), (k_items, .int)]) hK hK1 [(0, 3)] rfl
                    generalize H1 = H at hP hS ⊢
                    refine lv_aload_n hx hb dX10_load_139 rfl (lv_at hl 4 rfl) ?_
                    refine lv_iload_n hx hb dX10_load_140 rfl (lv_at hl 5 rfl) ?_
                    refine lv_iload hx hb dX10_load_141 (lv_at hl 0 rfl) ?_
                    refine lv_iconst (v := 2) hx hb dX10_load_143 (by decide) ?_
                    refine lv_iadd hx hb dX10_load_144 ?_
                    refine lv_topi (fun z27 e_z27 => ?_)
                    (first | have t_z27 := i_add e_z27 (by omega) (by omega) | skip)
                    obtain ⟨hPc, hDc, hFc, hCm, hNw⟩ := C_s (wc := [eO h0 9 [.ref q_s, .long v_fees, .ref q_thought, .long v_thoughtFees, .ref q_image, .long v_imageFees, .int v_hasImage, .ref q_tape, .int v_taped, .ref q_texts, .ref q_sizes, .int v_programs, .ref q_imageTexts, .ref q_imageSizes, .int v_imagePrograms, .int v_here, .int v_open, .int v_running, .int v_begun, .ref q_held, .ref q_marks, .int v_markMany, .ref q_trace, .int v_traced, .ref q_keptBalances, .ref q_keptFees, .int v_deep, .ref q_way, .ref q_sorts, .ref q_rowMany, .ref q_items, .ref q_moved], eI q_items k_items 240 f_items]) hP hD hS hA [(3, 2)] 5 rfl (by decide +kernel) rfl
                    have hKc := K_s (tys' := [(k_items, .int)]) hK [(3, 1)] rfl
                    refine va_calli (va_runV (As := [.int p0, .int z27]) (rest := [.int r26, .int r24, .ref h0, .int cm]) ⟨hx, hb, hml, hown, hts⟩ (c_X10_itemOf l dC dI h0 p0 z27 q_s v_fees q_thought v_thoughtFees q_image v_imageFees v_hasImage q_tape v_taped q_texts q_sizes v_programs q_imageTexts q_imageSizes v_imagePrograms v_here v_open v_running v_begun q_held q_marks v_markMany q_trace v_traced q_keptBalances q_keptFees v_deep q_way q_sorts q_rowMany q_items q_moved k_items f_items H.size (by first | assumption | omega) (by first | assumption | omega) (by first | assumption | omega) (by first | assumption | omega)) (cwV 2 hts gX10_load_X10_itemOf rfl rfl rfl (by decide +kernel) ⟨Nat.le_of_ble_eq_true rfl, Nat.le_of_ble_eq_true rfl⟩) ⟨fun a U g mk q => by obtain ⟨q0, q1, qP, qK, qD⟩ := q; exact ⟨q0, q1, qP, va_K.moved (u := U) (U := U.calling g mk a) (Vm.Alike.refl U.vm) qK, qD⟩, va_recv (s := s) (q := (RX10, TX10, 32)) hKc hPc (ci := 9) (q0 := 0) rfl rfl, fun U hU hW => ⟨rfl, by rw [hU], by rw [hU]; exact hPc, va_K.moved hW.alike hKc, hDc.weaken (fun _ _ _ _ => trivial)⟩⟩ rfl rfl hl.1 rfl (lv_room (Nat.le_of_ble_eq_true rfl)) dX10_load_145 ⟨Nat.le_of_ble_eq_true rfl, Nat.le_of_ble_eq_true rfl⟩) hS (fun q _ h => hFc q h) hFc (fun r28 u t H1 locs ht hvm hw hB hz1 hk1 hS => ?_)
                    obtain ⟨hP1, hK1, hD1⟩ := hB
                    rw [ht] at hP1
                    have hK1 := va_K.moved hvm.symm hK1
                    try dsimp only at hw
                    obtain ⟨hP, hD⟩ := J_s (wL := [eI q_sorts k_sorts 4 f_sorts, eI q_rowMany k_rowMany 4 f_rowMany, eI q_s k_s 125 gs, eO h0 9 [.ref q_s, .long v_fees, .ref q_thought, .long v_thoughtFees, .ref q_image, .long v_imageFees, .int v_hasImage, .ref q_tape, .int v_taped, .ref q_texts, .ref q_sizes, .int v_programs, .ref q_imageTexts, .ref q_imageSizes, .int v_imagePrograms, .int v_here, .int v_open, .int v_running, .int v_begun, .ref q_held, .ref q_marks, .int v_markMany, .ref q_trace, .int v_traced, .ref q_keptBalances, .ref q_keptFees, .int v_deep, .ref q_way, .ref q_sorts, .ref q_rowMany, .ref q_items, .ref q_moved], eI q_items k_items 240 f_items]) hP hD [(3, 2)] [(0, 3)] hCm hNw (by decide +kernel) hk1 hFc hP1 hD1 rfl
                    have hK := KJ_s (tys' := [(k_sorts, .int), (k_rowMany, .int), (k_s, .int), (k_items, .int)]) hK hK1 [(0, 3)] rfl
                    generalize H1 = H at hP hS ⊢
                    obtain ⟨hPc, hDc, hFc, hCm, hNw⟩ := C_s (wc := [eO h0 9 [.ref q_s, .long v_fees, .ref q_thought, .long v_thoughtFees, .ref q_image, .long v_imageFees, .int v_hasImage, .ref q_tape, .int v_taped, .ref q_texts, .ref q_sizes, .int v_programs, .ref q_imageTexts, .ref q_imageSizes, .int v_imagePrograms, .int v_here, .int v_open, .int v_running, .int v_begun, .ref q_held, .ref q_marks, .int v_markMany, .ref q_trace, .int v_traced, .ref q_keptBalances, .ref q_keptFees, .int v_deep, .ref q_way, .ref q_sorts, .ref q_rowMany, .ref q_items, .ref q_moved], eI q_s k_s 125 gs]) hP hD hS hA [(3, 1), (2, 1)] 5 rfl (by decide +kernel) rfl
                    have hKc := K_s (tys' := [(k_s, .int)]) hK [(2, 1)] rfl
                    refine va_calli (va_runV (As := [.int r24, .int r26, .int r28]) (rest := [.int cm]) ⟨hx, hb, hml, hown, hts⟩ (c_X10_owe l dC dI h0 r24 r26 r28 q_s v_fees q_thought v_thoughtFees q_image v_imageFees v_hasImage q_tape v_taped q_texts q_sizes v_programs q_imageTexts q_imageSizes v_imagePrograms v_here v_open v_running v_begun q_held q_marks v_markMany q_trace v_traced q_keptBalances q_keptFees v_deep q_way q_sorts q_rowMany q_items q_moved k_s gs H.size (by first | assumption | omega)) (cwV 3 hts gX10_load_X10_owe rfl rfl rfl (by decide +kernel) ⟨Nat.le_of_ble_eq_true rfl, Nat.le_of_ble_eq_true rfl⟩) ⟨fun a U g mk q => by obtain ⟨q0, q1, qP, qK, qD⟩ := q; exact ⟨q0, q1, qP, va_K.moved (u := U) (U := U.calling g mk a) (Vm.Alike.refl U.vm) qK, qD⟩, va_recv (s := s) (q := (RX10, TX10, 32)) hKc hPc (ci := 9) (q0 := 0) rfl rfl, fun U hU hW => ⟨rfl, by rw [hU], by rw [hU]; exact hPc, va_K.moved hW.alike hKc, hDc.weaken (fun _ _ _ _ => trivial)⟩⟩ rfl rfl hl.1 rfl (lv_room (Nat.le_of_ble_eq_true rfl)) dX10_load_148 ⟨Nat.le_of_ble_eq_true rfl, Nat.le_of_ble_eq_true rfl⟩) hS (fun q _ h => hFc q h) hFc (fun r29 u t H1 locs ht hvm hw hB hz1 hk1 hS => ?_)
                    obtain ⟨q30, xms_r29, x60_r29, xb_r29, hP1, hK1, hD1⟩ := hB
                    rw [ht] at hP1
                    have hK1 := va_K.moved hvm.symm hK1
                    try dsimp only at hw
                    obtain ⟨hP, hD⟩ := J_s (wL := [eI q_sorts k_sorts 4 f_sorts, eI q_rowMany k_rowMany 4 f_rowMany, eI q_items k_items 240 f_items, eO h0 9 [.ref q_s, .long v_fees, .ref q_thought, .long v_thoughtFees, .ref q_image, .long v_imageFees, .int v_hasImage, .ref q_tape, .int v_taped, .ref q_texts, .ref q_sizes, .int v_programs, .ref q_imageTexts, .ref q_imageSizes, .int v_imagePrograms, .int v_here, .int v_open, .int v_running, .int v_begun, .ref q_held, .ref q_marks, .int v_markMany, .ref q_trace, .int v_traced, .ref q_keptBalances, .ref q_keptFees, .int v_deep, .ref q_way, .ref q_sorts, .ref q_rowMany, .ref q_items, .ref q_moved], eI q_s k_s 125 q30]) hP hD [(3, 1), (2, 1)] [(0, 2), (4, 1)] hCm hNw (by decide +kernel) hk1 hFc hP1 hD1 rfl
                    have hK := KJ_s (tys' := [(k_sorts, .int), (k_rowMany, .int), (k_items, .int), (k_s, .int)]) hK hK1 [(0, 2), (3, 1)] rfl
                    generalize H1 = H at hP hS ⊢
                    have m_q30 : ms q30 := xms_r29
                    obtain ⟨b_q30, c_q30, o_q30⟩ := id m_q30
                    have fs_q30 : Fb q30 f_s := fb_tr (xb_r29) (by first | assumption | exact fb_rf _)
                    refine lv_if_lt (tgt := 158) hx hb dX10_load_151 (by decide) (fun c31 => ?_) (fun c31 => ?_)
                    · skip
                      have f_c31 := i_lt c31
                      refine lv_iconst (v := 0) hx hb dX10_load_158 (by decide) ?_
                      refine lv_iadd hx hb dX10_load_159 ?_
                      refine lv_topi (fun z32 e_z32 => ?_)
                      (first | have t_z32 := i_add e_z32 (by omega) (by omega) | skip)
                      refine lv_istore (lv' := [(5, .int z32), (9, .int z23), (7, .long z17), (6, .int x), (0, .ref h0), (1, .int p0), (2, .int p1), (3, .int p2), (4, .int p3)]) hx hb dX10_load_160 hl (by decide) rfl (fun ls hl => ?_)
                      obtain ⟨x33, e_x33⟩ : ∃ yy : Int32, yy = x + 1 := ⟨_, rfl⟩
                      refine lv_iinc (v := x33) (lv' := [(6, .int x33), (5, .int z32), (9, .int z23), (7, .long z17), (0, .ref h0), (1, .int p0), (2, .int p1), (3, .int p2), (4, .int p3)]) hx hb dX10_load_162 hl (k := 3) rfl (by rw [e_x33]; rfl) (by decide) rfl (fun ls hl => ?_)
                      (first | have t_x33 := i_add e_x33 (by omega) (by omega) | skip)
                      refine lv_goto (tgt := 75) hx hb dX10_load_165 (by decide) ?_
                      exact ih_75 z32 x33 q30 (by first | assumption | omega | exact fz_rf _ | exact fb_rf _ | exact (fun _ _ _ => rfl)) (by first | assumption | omega | exact fz_rf _ | exact fb_rf _ | exact (fun _ _ _ => rfl)) (by first | assumption | omega | exact fz_rf _ | exact fb_rf _ | exact (fun _ _ _ => rfl)) (by first | assumption | omega | exact fz_rf _ | exact fb_rf _ | exact (fun _ _ _ => rfl)) (by first | assumption | omega | exact fz_rf _ | exact fb_rf _ | exact (fun _ _ _ => rfl)) (by first | assumption | omega | exact fz_rf _ | exact fb_rf _ | exact (fun _ _ _ => rfl)) (by first | assumption | omega | exact fz_rf _ | exact fb_rf _ | exact (fun _ _ _ => rfl)) (by omega) _ _ (K_s hK [(0, 4)] rfl) (P_s hP [(3, 1), (0, 3), (4, 1)] rfl) (D_s hD [(3, 1), (0, 3), (4, 1)] 5 rfl (by decide +kernel) rfl) hS ls (lv_sub hl [0, 1, 4, 5, 6, 7, 8] rfl)
                    · skip
                      have f_c31 := i_nlt c31
                      refine lv_iconst (v := 1) hx hb dX10_load_154 (by decide) ?_
                      refine lv_goto (tgt := 159) hx hb dX10_load_155 (by decide) ?_
                      refine lv_iadd hx hb dX10_load_159 ?_
                      refine lv_topi (fun z34 e_z34 => ?_)
                      (first | have t_z34 := i_add e_z34 (by omega) (by omega) | skip)
                      refine lv_istore (lv' := [(5, .int z34), (9, .int z23), (7, .long z17), (6, .int x), (0, .ref h0), (1, .int p0), (2, .int p1), (3, .int p2), (4, .int p3)]) hx hb dX10_load_160 hl (by decide) rfl (fun ls hl => ?_)
                      obtain ⟨x35, e_x35⟩ : ∃ yy : Int32, yy = x + 1 := ⟨_, rfl⟩
                      refine lv_iinc (v := x35) (lv' := [(6, .int x35), (5, .int z34), (9, .int z23), (7, .long z17), (0, .ref h0), (1, .int p0), (2, .int p1), (3, .int p2), (4, .int p3)]) hx hb dX10_load_162 hl (k := 3) rfl (by rw [e_x35]; rfl) (by decide) rfl (fun ls hl => ?_)
                      (first | have t_x35 := i_add e_x35 (by omega) (by omega) | skip)
                      refine lv_goto (tgt := 75) hx hb dX10_load_165 (by decide) ?_
                      exact ih_75 z34 x35 q30 (by first | assumption | omega | exact fz_rf _ | exact fb_rf _ | exact (fun _ _ _ => rfl)) (by first | assumption | omega | exact fz_rf _ | exact fb_rf _ | exact (fun _ _ _ => rfl)) (by first | assumption | omega | exact fz_rf _ | exact fb_rf _ | exact (fun _ _ _ => rfl)) (by first | assumption | omega | exact fz_rf _ | exact fb_rf _ | exact (fun _ _ _ => rfl)) (by first | assumption | omega | exact fz_rf _ | exact fb_rf _ | exact (fun _ _ _ => rfl)) (by first | assumption | omega | exact fz_rf _ | exact fb_rf _ | exact (fun _ _ _ => rfl)) (by first | assumption | omega | exact fz_rf _ | exact fb_rf _ | exact (fun _ _ _ => rfl)) (by omega) _ _ (K_s hK [(0, 4)] rfl) (P_s hP [(3, 1), (0, 3), (4, 1)] rfl) (D_s hD [(3, 1), (0, 3), (4, 1)] 5 rfl (by decide +kernel) rfl) hS ls (lv_sub hl [0, 1, 4, 5, 6, 7, 8] rfl)
                  · subst e_r21
                    refine lv_if_ne (tgt := 115) hx hb dX10_load_109 (by decide) (fun c36 => absurd (by decide) c36) (fun c36 => ?_)
                    refine lv_bipush (v := -12) hx hb dX10_load_112 (by decide) ?_
                    rw [hQ9]
                    exact W.iret (v := (-12)) hx hb hr (fun t ht hW => ⟨⟨(-12), (), rfl, (by first | rfl | trivial), gs, (by first | assumption | omega | exact fz_rf _ | exact fb_rf _ | exact (fun _ _ _ => rfl)), (by first | assumption | omega | exact fz_rf _ | exact fb_rf _ | exact (fun _ _ _ => rfl)), (by first | assumption | omega | exact fz_rf _ | exact fb_rf _ | exact (fun _ _ _ => rfl)), by rw [ht]; exact hP, va_K.moved hW.alike hK, hD⟩, hS.F ht⟩) hS.2.2 dX10_load_114
            exact loop_75 (1000) 0 0 f_s (by first | assumption | omega | exact fz_rf _ | exact fb_rf _ | exact (fun _ _ _ => rfl)) (by first | assumption | omega | exact fz_rf _ | exact fb_rf _ | exact (fun _ _ _ => rfl)) (by first | assumption | omega | exact fz_rf _ | exact fb_rf _ | exact (fun _ _ _ => rfl)) (by first | assumption | omega | exact fz_rf _ | exact fb_rf _ | exact (fun _ _ _ => rfl)) (by first | assumption | omega | exact fz_rf _ | exact fb_rf _ | exact (fun _ _ _ => rfl)) (by first | assumption | omega | exact fz_rf _ | exact fb_rf _ | exact (fun _ _ _ => rfl)) (by first | assumption | omega | exact fz_rf _ | exact fb_rf _ | exact (fun _ _ _ => rfl)) (by omega) _ _ hK hP hD hS ls (lv_sub hl [0, 1, 2, 3, 4, 5, 6] rfl)
          · skip
            have f_c12 := i_eq c12
            refine lv_bipush (v := -11) hx hb dX10_load_66 (by decide) ?_
            rw [hQ9]
            exact W.iret (v := (-11)) hx hb hr (fun t ht hW => ⟨⟨(-11), (), rfl, (by first | rfl | trivial), f_s, (by first | assumption | omega | exact fz_rf _ | exact fb_rf _ | exact (fun _ _ _ => rfl)), (by first | assumption | omega | exact fz_rf _ | exact fb_rf _ | exact (fun _ _ _ => rfl)), (by first | assumption | omega | exact fz_rf _ | exact fb_rf _ | exact (fun _ _ _ => rfl)), by rw [ht]; exact hP, va_K.moved hW.alike hK, hD⟩, hS.F ht⟩) hS.2.2 dX10_load_68
        · skip
          have f_c10 := i_ne c10
          refine lv_aload_n hx hb dX10_load_43 rfl (lv_at hl 0 rfl) ?_
          refine va_get (D := (dC, dI)) (ci := 9) (v := .ref q_sorts) (C := RX10) (T := TX10) (N := 32) hx hb hts (fun w h => List.mem_cons_of_mem _ (inlX10 w h)) hown hK hP 0 rfl rfl 28 (by decide) (hts (.fieldLink RX10 55 "ClearingGatesModel" "sorts" "[I") (List.mem_cons_of_mem _ mw_637)) (fun _ h9 => h9) rfl dX10_load_44 ?_
          refine lv_iload_n hx hb dX10_load_47 rfl (lv_at hl 1 rfl) ?_
          refine va_iald (D := (dC, dI)) hx hb hK hP 1 0 rfl rfl (vp_in_iff.mpr ⟨by omega, by omega⟩) dX10_load_48 ?_
          refine lv_topi (fun z37 e_z37 => ?_)
          refine lv_iload_n hx hb dX10_load_49 rfl (lv_at hl 2 rfl) ?_
          refine lv_icmp_eq (tgt := 56) hx hb dX10_load_50 (by decide) (fun c38 => ?_) (fun c38 => ?_)
          · skip
            have f_c38 := i_eq c38
            refine lv_aload_n hx hb dX10_load_56 rfl (lv_at hl 0 rfl) ?_
            refine va_get (D := (dC, dI)) (ci := 9) (v := .ref q_sorts) (C := RX10) (T := TX10) (N := 32) hx hb hts (fun w h => List.mem_cons_of_mem _ (inlX10 w h)) hown hK hP 0 rfl rfl 28 (by decide) (hts (.fieldLink RX10 55 "ClearingGatesModel" "sorts" "[I") (List.mem_cons_of_mem _ mw_637)) (fun _ h9 => h9) rfl dX10_load_57 ?_
            refine lv_iload_n hx hb dX10_load_60 rfl (lv_at hl 1 rfl) ?_
            refine va_iald (D := (dC, dI)) hx hb hK hP 1 0 rfl rfl (vp_in_iff.mpr ⟨by omega, by omega⟩) dX10_load_61 ?_
            refine lv_topi (fun z39 e_z39 => ?_)
            refine lv_iconst (v := -1) hx hb dX10_load_62 (by decide) ?_
            refine lv_icmp_ne (tgt := 69) hx hb dX10_load_63 (by decide) (fun c40 => ?_) (fun c40 => ?_)
            · skip
              have f_c40 := i_ne c40
              refine lv_iconst (v := 0) hx hb dX10_load_69 (by decide) ?_
              refine lv_istore (lv' := [(5, .int 0), (0, .ref h0), (1, .int p0), (2, .int p1), (3, .int p2), (4, .int p3)]) hx hb dX10_load_70 hl (by decide) rfl (fun ls hl => ?_)
              refine lv_iconst (v := 0) hx hb dX10_load_72 (by decide) ?_
              refine lv_istore (lv' := [(6, .int 0), (5, .int 0), (0, .ref h0), (1, .int p0), (2, .int p1), (3, .int p2), (4, .int p3)]) hx hb dX10_load_73 hl (by decide) rfl (fun ls hl => ?_)
              have loop_75 : ∀ (n : Nat) (cm : Int32) (x : Int32) (gs : Nat → Int32), (0 ≤ x.toInt) → (x.toInt ≤ 20) → (0 ≤ cm.toInt) → (cm.toInt ≤ x.toInt) → (ms gs) → ((gs 60).toInt = (f_s 60).toInt) → (Fb gs f_s) → (20 - x.toInt) < (n : Int) → ∀ (H : Heap) (locs : List Loc), va_K (dC, dI) vwCl [(k_sorts, .int), (k_rowMany, .int), (k_items, .int), (k_s, .int)] s → va_P (dC, dI) vwCl [eO h0 9 [.ref q_s, .long v_fees, .ref q_thought, .long v_thoughtFees, .ref q_image, .long v_imageFees, .int v_hasImage, .ref q_tape, .int v_taped, .ref q_texts, .ref q_sizes, .int v_programs, .ref q_imageTexts, .ref q_imageSizes, .int v_imagePrograms, .int v_here, .int v_open, .int v_running, .int v_begun, .ref q_held, .ref q_marks, .int v_markMany, .ref q_trace, .int v_traced, .ref q_keptBalances, .ref q_keptFees, .int v_deep, .ref q_way, .ref q_sorts, .ref q_rowMany, .ref q_items, .ref q_moved], eI q_sorts k_sorts 4 f_sorts, eI q_rowMany k_rowMany 4 f_rowMany, eI q_items k_items 240 f_items, eI q_s k_s 125 gs] H → va_D A [eO h0 9 [.ref q_s, .long v_fees, .ref q_thought, .long v_thoughtFees, .ref q_image, .long v_imageFees, .int v_hasImage, .ref q_tape, .int v_taped, .ref q_texts, .ref q_sizes, .int v_programs, .ref q_imageTexts, .ref q_imageSizes, .int v_imagePrograms, .int v_here, .int v_open, .int v_running, .int v_begun, .ref q_held, .ref q_marks, .int v_markMany, .ref q_trace, .int v_traced, .ref q_keptBalances, .ref q_keptFees, .int v_deep, .ref q_way, .ref q_sorts, .ref q_rowMany, .ref q_items, .ref q_moved], eI q_sorts k_sorts 4 f_sorts, eI q_rowMany k_rowMany 4 f_rowMany, eI q_items k_items 240 f_items, eI q_s k_s 125 gs] → va_S A s.heap H locs → ∀ (ls : Array Slot), lv_has ls 10 [(6, .int x), (5, .int cm), (0, .ref h0), (1, .int p0), (2, .int p1), (3, .int p2), (4, .int p3)] → W p l e ({ frames := 4, cells := 0, slots := 0, locals := 92 }) s m (([.ref h0, .int p0, .int p1, .int p2, .int p3] : List Value).toArray) below meth c H locs 0 0 Q9 (F0 m 75 ls []) := by
                intro n
                induction n with
                | zero => intro cm x gs i1 i2 i3 i4 ims i60 ib hM_75; exfalso; omega
                | succ n ih_75 =>
                  intro cm x gs i1 i2 i3 i4 ims i60 ib hM_75 H locs hK hP hD hS ls hl
                  refine lv_iload hx hb dX10_load_75 (lv_at hl 0 rfl) ?_
                  refine lv_iload hx hb dX10_load_77 (lv_at hl 6 rfl) ?_
                  refine lv_icmp_ge (tgt := 168) hx hb dX10_load_79 (by decide) (fun c41 => ?_) (fun c41 => ?_)
                  · skip
                    have f_c41 := i_le c41
                    refine lv_iload hx hb dX10_load_168 (lv_at hl 1 rfl) ?_
                    rw [hQ9]
                    exact W.iret (v := cm) hx hb hr (fun t ht hW => ⟨⟨cm, (), rfl, (by first | rfl | trivial), gs, (by first | assumption | omega | exact fz_rf _ | exact fb_rf _ | exact (fun _ _ _ => rfl)), (by first | assumption | omega | exact fz_rf _ | exact fb_rf _ | exact (fun _ _ _ => rfl)), (by first | assumption | omega | exact fz_rf _ | exact fb_rf _ | exact (fun _ _ _ => rfl)), by rw [ht]; exact hP, va_K.moved hW.alike hK, hD⟩, hS.F ht⟩) hS.2.2 dX10_load_170
                  · skip
                    have f_c41 := i_nle c41
                    refine lv_iload_n hx hb dX10_load_82 rfl (lv_at hl 5 rfl) ?_
                    refine lv_i2l (v := p2.toInt64) hx hb dX10_load_83 rfl ?_
                    have t_t42 := Int32.toInt_toInt64 p2
                    refine lv_ldc2 hx hb hown (hts (.constantLong RX10 236 (3)) (List.mem_cons_of_mem _ mw_796)) dX10_load_84 ?_
                    refine lv_iload hx hb dX10_load_87 (lv_at hl 0 rfl) ?_
                    refine lv_i2l (v := x.toInt64) hx hb dX10_load_89 rfl ?_
                    have t_t43 := Int32.toInt_toInt64 x
                    refine lv_lmul hx hb dX10_load_90 ?_
                    refine lv_topl (fun z44 e_z44 => ?_)
                    refine lv_ladd hx hb dX10_load_91 ?_
                    refine lv_topl (fun z45 e_z45 => ?_)
                    refine lv_lstore (lv' := [(7, .long z45), (6, .int x), (5, .int cm), (0, .ref h0), (1, .int p0), (2, .int p1), (3, .int p2), (4, .int p3)]) hx hb dX10_load_92 hl (by decide) rfl (fun ls hl => ?_)
                    refine lv_lload hx hb dX10_load_94 (lv_at hl 0 rfl) ?_
                    refine lv_lconst (v := 0) hx hb dX10_load_96 (by decide) ?_
                    refine lv_aload_n hx hb dX10_load_97 rfl (lv_at hl 3 rfl) ?_
                    refine va_get (D := (dC, dI)) (ci := 9) (v := .ref q_rowMany) (C := RX10) (T := TX10) (N := 32) hx hb hts (fun w h => List.mem_cons_of_mem _ (inlX10 w h)) hown hK hP 0 rfl rfl 29 (by decide) (hts (.fieldLink RX10 58 "ClearingGatesModel" "rowMany" "[I") (List.mem_cons_of_mem _ mw_638)) (fun _ h9 => h9) rfl dX10_load_98 ?_
                    refine lv_iload_n hx hb dX10_load_101 rfl (lv_at hl 4 rfl) ?_
                    refine va_iald (D := (dC, dI)) hx hb hK hP 2 1 rfl rfl (vp_in_iff.mpr ⟨by omega, by omega⟩) dX10_load_102 ?_
                    refine lv_topi (fun z46 e_z46 => ?_)
                    obtain ⟨ra_z46, rb_z46⟩ : 0 ≤ z46.toInt ∧ z46.toInt ≤ 60 := by rw [e_z46]; exact hrow _ (i_natlt (by omega) (by omega))
                    refine lv_iconst (v := 3) hx hb dX10_load_103 (by decide) ?_
                    refine lv_isub hx hb dX10_load_104 ?_
                    refine lv_topi (fun z47 e_z47 => ?_)
                    (first | have t_z47 := i_sub e_z47 (by omega) (by omega) | skip)
                    refine lv_i2l (v := z47.toInt64) hx hb dX10_load_105 rfl ?_
                    have t_t48 := Int32.toInt_toInt64 z47
                    obtain ⟨hPc, hDc, hFc, hCm, hNw⟩ := C_s (wc := []) hP hD hS hA [] 5 rfl (by decide +kernel) rfl
                    have hKc := K_s (tys' := []) hK [] rfl
                    refine va_calli (va_runS (As := [.long z45, .long 0, .long z47.toInt64]) (rest := []) ⟨hx, hb, hml, hown, hts⟩ (c_X10_isIn l dC dI z45 0 (z47.toInt64) H.size) (va_cwS 3 hts gX10_load_X10_isIn rfl rfl rfl (by decide +kernel) ⟨Nat.le_of_ble_eq_true rfl, Nat.le_of_ble_eq_true rfl⟩) ⟨fun a U g mk q => by obtain ⟨q0, q1, qP, qK, qD⟩ := q; exact ⟨q0, q1, qP, va_K.moved (u := U) (U := U.calling g mk a) (Vm.Alike.refl U.vm) qK, qD⟩, fun U hU hW => ⟨rfl, by rw [hU], by rw [hU]; exact hPc, va_K.moved hW.alike hKc, hDc.weaken (fun _ _ _ _ => trivial)⟩⟩ rfl rfl hl.1 rfl (lv_room (Nat.le_of_ble_eq_true rfl)) dX10_load_106 ⟨Nat.le_of_ble_eq_true rfl, Nat.le_of_ble_eq_true rfl⟩) hS (fun q _ h => hFc q h) hFc (fun r49 u t H1 locs ht hvm hw hB hz1 hk1 hS => ?_)
                    obtain ⟨hP1, hK1, hD1⟩ := hB
                    rw [ht] at hP1
                    have hK1 := va_K.moved hvm.symm hK1
                    try dsimp only at hw
                    obtain ⟨hP, hD⟩ := J_s (wL := [eO h0 9 [.ref q_s, .long v_fees, .ref q_thought, .long v_thoughtFees, .ref q_image, .long v_imageFees, .int v_hasImage, .ref q_tape, .int v_taped, .ref q_texts, .ref q_sizes, .int v_programs, .ref q_imageTexts, .ref q_imageSizes, .int v_imagePrograms, .int v_here, .int v_open, .int v_running, .int v_begun, .ref q_held, .ref q_marks, .int v_markMany, .ref q_trace, .int v_traced, .ref q_keptBalances, .ref q_keptFees, .int v_deep, .ref q_way, .ref q_sorts, .ref q_rowMany, .ref q_items, .ref q_moved], eI q_sorts k_sorts 4 f_sorts, eI q_rowMany k_rowMany 4 f_rowMany, eI q_items k_items 240 f_items, eI q_s k_s 125 gs]) hP hD [] [(0, 5)] hCm hNw (by decide +kernel) hk1 hFc hP1 hD1 rfl
                    have hK := KJ_s (tys' := [(k_sorts, .int), (k_rowMany, .int), (k_items, .int), (k_s, .int)]) hK hK1 [(0, 4)] rfl
                    generalize H1 = H at hP hS ⊢
                    rcases hw with ⟨e_r49, f_r49⟩ | ⟨e_r49, f_r49⟩
                    · subst e_r49
                      refine lv_if_ne (tgt := 115) hx hb dX10_load_109 (by decide) (fun c50 => ?_) (fun c50 => absurd c50 (by decide))
                      refine lv_lload hx hb dX10_load_115 (lv_at hl 0 rfl) ?_
                      refine lv_l2i hx hb dX10_load_117 rfl ?_
                      refine lv_topi (fun z51 e_z51 => ?_)
                      (first | have t_z51 := i_l2i e_z51 (by omega) (by omega) | skip)
                      refine lv_istore (lv' := [(9, .int z51), (7, .long z45), (6, .int x), (5, .int cm), (0, .ref h0), (1, .int p0), (2, .int p1), (3, .int p2), (4, .int p3)]) hx hb dX10_load_118 hl (by decide) rfl (fun ls hl => ?_)
                      refine lv_iload hx hb dX10_load_120 (lv_at hl 3 rfl) ?_
                      refine lv_aload_n hx hb dX10_load_122 rfl (lv_at hl 4 rfl) ?_
                      refine lv_aload_n hx hb dX10_load_123 rfl (lv_at hl 4 rfl) ?_
                      refine lv_iload_n hx hb dX10_load_124 rfl (lv_at hl 5 rfl) ?_
                      refine lv_iload hx hb dX10_load_125 (lv_at hl 0 rfl) ?_
                      obtain ⟨hPc, hDc, hFc, hCm, hNw⟩ := C_s (wc := [eO h0 9 [.ref q_s, .long v_fees, .ref q_thought, .long v_thoughtFees, .ref q_image, .long v_imageFees, .int v_hasImage, .ref q_tape, .int v_taped, .ref q_texts, .ref q_sizes, .int v_programs, .ref q_imageTexts, .ref q_imageSizes, .int v_imagePrograms, .int v_here, .int v_open, .int v_running, .int v_begun, .ref q_held, .ref q_marks, .int v_markMany, .ref q_trace, .int v_traced, .ref q_keptBalances, .ref q_keptFees, .int v_deep, .ref q_way, .ref q_sorts, .ref q_rowMany, .ref q_items, .ref q_moved], eI q_items k_items 240 f_items]) hP hD hS hA [(0, 1), (3, 1)] 5 rfl (by decide +kernel) rfl
                      have hKc := K_s (tys' := [(k_items, .int)]) hK [(2, 1)] rfl
                      refine va_calli (va_runV (As := [.int p0, .int z51]) (rest := [.ref h0, .int cm]) ⟨hx, hb, hml, hown, hts⟩ (c_X10_itemOf l dC dI h0 p0 z51 q_s v_fees q_thought v_thoughtFees q_image v_imageFees v_hasImage q_tape v_taped q_texts q_sizes v_programs q_imageTexts q_imageSizes v_imagePrograms v_here v_open v_running v_begun q_held q_marks v_markMany q_trace v_traced q_keptBalances q_keptFees v_deep q_way q_sorts q_rowMany q_items q_moved k_items f_items H.size (by first | assumption | omega) (by first | assumption | omega) (by first | assumption | omega) (by first | assumption | omega)) (cwV 2 hts gX10_load_X10_itemOf rfl rfl rfl (by decide +kernel) ⟨Nat.le_of_ble_eq_true rfl, Nat.le_of_ble_eq_true rfl⟩) ⟨fun a U g mk q => by obtain ⟨q0, q1, qP, qK, qD⟩ := q; exact ⟨q0, q1, qP, va_K.moved (u := U) (U := U.calling g mk a) (Vm.Alike.refl U.vm) qK, qD⟩, va_recv (s := s) (q := (RX10, TX10, 32)) hKc hPc (ci := 9) (q0 := 0) rfl rfl, fun U hU hW => ⟨rfl, by rw [hU], by rw [hU]; exact hPc, va_K.moved hW.alike hKc, hDc.weaken (fun _ _ _ _ => trivial)⟩⟩ rfl rfl hl.1 rfl (lv_room (Nat.le_of_ble_eq_true rfl)) dX10_load_127 ⟨Nat.le_of_ble_eq_true rfl, Nat.le_of_ble_eq_true rfl⟩) hS (fun q _ h => hFc q h) hFc (fun r52 u t H1 locs ht hvm hw hB hz1 hk1 hS => ?_)
                      obtain ⟨hP1, hK1, hD1⟩ := hB
                      rw [ht] at hP1
                      have hK1 := va_K.moved hvm.symm hK1
                      try dsimp only at hw
                      obtain ⟨hP, hD⟩ := J_s (wL := [eI q_sorts k_sorts 4 f_sorts, eI q_rowMany k_rowMany 4 f_rowMany, eI q_s k_s 125 gs, eO h0 9 [.ref q_s, .long v_fees, .ref q_thought, .long v_thoughtFees, .ref q_image, .long v_imageFees, .int v_hasImage, .ref q_tape, .int v_taped, .ref q_texts, .ref q_sizes, .int v_programs, .ref q_imageTexts, .ref q_imageSizes, .int v_imagePrograms, .int v_here, .int v_open, .int v_running, .int v_begun, .ref q_held, .ref q_marks, .int v_markMany, .ref q_trace, .int v_traced, .ref q_keptBalances, .ref q_keptFees, .int v_deep, .ref q_way, .ref q_sorts, .ref q_rowMany, .ref q_items, .ref q_moved], eI q_items k_items 240 f_items]) hP hD [(0, 1), (3, 1)] [(1, 2), (4, 1)] hCm hNw (by decide +kernel) hk1 hFc hP1 hD1 rfl
                      have hK := KJ_s (tys' := [(k_sorts, .int), (k_rowMany, .int), (k_s, .int), (k_items, .int)]) hK hK1 [(0, 2), (3, 1)] rfl
                      generalize H1 = H at hP hS ⊢
                      refine lv_aload_n hx hb dX10_load_130 rfl (lv_at hl 4 rfl) ?_
                      refine lv_iload_n hx hb dX10_load_131 rfl (lv_at hl 5 rfl) ?_
                      refine lv_iload hx hb dX10_load_132 (lv_at hl 0 rfl) ?_
                      refine lv_iconst (v := 1) hx hb dX10_load_134 (by decide) ?_
                      refine lv_iadd hx hb dX10_load_135 ?_
                      refine lv_topi (fun z53 e_z53 => ?_)
                      (first | have t_z53 := i_add e_z53 (by omega) (by omega) | skip)
                      obtain ⟨hPc, hDc, hFc, hCm, hNw⟩ := C_s (wc := [eO h0 9 [.ref q_s, .long v_fees, .ref q_thought, .long v_thoughtFees, .ref q_image, .long v_imageFees, .int v_hasImage, .ref q_tape, .int v_taped, .ref q_texts, .ref q_sizes, .int v_programs, .ref q_imageTexts, .ref q_imageSizes, .int v_imagePrograms, .int v_here, .int v_open, .int v_running, .int v_begun, .ref q_held, .ref q_marks, .int v_markMany, .ref q_trace, .int v_traced, .ref q_keptBalances, .ref q_keptFees, .int v_deep, .ref q_way, .ref q_sorts, .ref q_rowMany, .ref q_items, .ref q_moved], eI q_items k_items 240 f_items]) hP hD hS hA [(3, 2)] 5 rfl (by decide +kernel) rfl
                      have hKc := K_s (tys' := [(k_items, .int)]) hK [(3, 1)] rfl
                      refine va_calli (va_runV (As := [.int p0, .int z53]) (rest := [.int r52, .ref h0, .int cm]) ⟨hx, hb, hml, hown, hts⟩ (c_X10_itemOf l dC dI h0 p0 z53 q_s v_fees q_thought v_thoughtFees q_image v_imageFees v_hasImage q_tape v_taped q_texts q_sizes v_programs q_imageTexts q_imageSizes v_imagePrograms v_here v_open v_running v_begun q_held q_marks v_markMany q_trace v_traced q_keptBalances q_keptFees v_deep q_way q_sorts q_rowMany q_items q_moved k_items f_items H.size (by first | assumption | omega) (by first | assumption | omega) (by first | assumption | omega) (by first | assumption | omega)) (cwV 2 hts gX10_load_X10_itemOf rfl rfl rfl (by decide +kernel) ⟨Nat.le_of_ble_eq_true rfl, Nat.le_of_ble_eq_true rfl⟩) ⟨fun a U g mk q => by obtain ⟨q0, q1, qP, qK, qD⟩ := q; exact ⟨q0, q1, qP, va_K.moved (u := U) (U := U.calling g mk a) (Vm.Alike.refl U.vm) qK, qD⟩, va_recv (s := s) (q := (RX10, TX10, 32)) hKc hPc (ci := 9) (q0 := 0) rfl rfl, fun U hU hW => ⟨rfl, by rw [hU], by rw [hU]; exact hPc, va_K.moved hW.alike hKc, hDc.weaken (fun _ _ _ _ => trivial)⟩⟩ rfl rfl hl.1 rfl (lv_room (Nat.le_of_ble_eq_true rfl)) dX10_load_136 ⟨Nat.le_of_ble_eq_true rfl, Nat.le_of_ble_eq_true rfl⟩) hS (fun q _ h => hFc q h) hFc (fun r54 u t H1 locs ht hvm hw hB hz1 hk1 hS => ?_)
                      obtain ⟨hP1, hK1, hD1⟩ := hB
                      rw [ht] at hP1
                      have hK1 := va_K.moved hvm.symm hK1
                      try dsimp only at hw
                      obtain ⟨hP, hD⟩ := J_s (wL := [eI q_sorts k_sorts 4 f_sorts, eI q_rowMany k_rowMany 4 f_rowMany, eI q_s k_s 125 gs, eO h0 9 [.ref q_s, .long v_fees, .ref q_thought, .long v_thoughtFees, .ref q_image, .long v_imageFees, .int v_hasImage, .ref q_tape, .int v_taped, .ref q_texts, .ref q_sizes, .int v_programs, .ref q_imageTexts, .ref q_imageSizes, .int v_imagePrograms, .int v_here, .int v_open, .int v_running, .int v_begun, .ref q_held, .ref q_marks, .int v_markMany, .ref q_trace, .int v_traced, .ref q_keptBalances, .ref q_keptFees, .int v_deep, .ref q_way, .ref q_sorts, .ref q_rowMany, .ref q_items, .ref q_moved], eI q_items k_items 240 f_items]) hP hD [(3, 2)] [(0, 3)] hCm hNw (by decide +kernel) hk1 hFc hP1 hD1 rfl
                      have hK := KJ_s (tys' := [(k_sorts, .int), (k_rowMany, .int), (k_s, .int), (k_items, .int)]) hK hK1 [(0, 3)] rfl
                      generalize H1 = H at hP hS ⊢
                      refine lv_aload_n hx hb dX10_load_139 rfl (lv_at hl 4 rfl) ?_
                      refine lv_iload_n hx hb dX10_load_140 rfl (lv_at hl 5 rfl) ?_
                      refine lv_iload hx hb dX10_load_141 (lv_at hl 0 rfl) ?_
                      refine lv_iconst (v := 2) hx hb dX10_load_143 (by decide) ?_
                      refine lv_iadd hx hb dX10_load_144 ?_
                      refine lv_topi (fun z55 e_z55 => ?_)
                      (first | have t_z55 := i_add e_z55 (by omega) (by omega) | skip)
                      obtain ⟨hPc, hDc, hFc, hCm, hNw⟩ := C_s (wc := [eO h0 9 [.ref q_s, .long v_fees, .ref q_thought, .long v_thoughtFees, .ref q_image, .long v_imageFees, .int v_hasImage, .ref q_tape, .int v_taped, .ref q_texts, .ref q_sizes, .int v_programs, .ref q_imageTexts, .ref q_imageSizes, .int v_imagePrograms, .int v_here, .int v_open, .int v_running, .int v_begun, .ref q_held, .ref q_marks, .int v_markMany, .ref q_trace, .int v_traced, .ref q_keptBalances, .ref q_keptFees, .int v_deep, .ref q_way, .ref q_sorts, .ref q_rowMany, .ref q_items, .ref q_moved], eI q_items k_items 240 f_items]) hP hD hS hA [(3, 2)] 5 rfl (by decide +kernel) rfl
                      have hKc := K_s (tys' := [(k_items, .int)]) hK [(3, 1)] rfl
                      refine va_calli (va_runV (As := [.int p0, .int z55]) (rest := [.int r54, .int r52, .ref h0, .int cm]) ⟨hx, hb, hml, hown, hts⟩ (c_X10_itemOf l dC dI h0 p0 z55 q_s v_fees q_thought v_thoughtFees q_image v_imageFees v_hasImage q_tape v_taped q_texts q_sizes v_programs q_imageTexts q_imageSizes v_imagePrograms v_here v_open v_running v_begun q_held q_marks v_markMany q_trace v_traced q_keptBalances q_keptFees v_deep q_way q_sorts q_rowMany q_items q_moved k_items f_items H.size (by first | assumption | omega) (by first | assumption | omega) (by first | assumption | omega) (by first | assumption | omega)) (cwV 2 hts gX10_load_X10_itemOf rfl rfl rfl (by decide +kernel) ⟨Nat.le_of_ble_eq_true rfl, Nat.le_of_ble_eq_true rfl⟩) ⟨fun a U g mk q => by obtain ⟨q0, q1, qP, qK, qD⟩ := q; exact ⟨q0, q1, qP, va_K.moved (u := U) (U := U.calling g mk a) (Vm.Alike.refl U.vm) qK, qD⟩, va_recv (s := s) (q := (RX10, TX10, 32)) hKc hPc (ci := 9) (q0 := 0) rfl rfl, fun U hU hW => ⟨rfl, by rw [hU], by rw [hU]; exact hPc, va_K.moved hW.alike hKc, hDc.weaken (fun _ _ _ _ => trivial)⟩⟩ rfl rfl hl.1 rfl (lv_room (Nat.le_of_ble_eq_true rfl)) dX10_load_145 ⟨Nat.le_of_ble_eq_true rfl, Nat.le_of_ble_eq_true rfl⟩) hS (fun q _ h => hFc q h) hFc (fun r56 u t H1 locs ht hvm hw hB hz1 hk1 hS => ?_)
                      obtain ⟨hP1, hK1, hD1⟩ := hB
                      rw [ht] at hP1
                      have hK1 := va_K.moved hvm.symm hK1
                      try dsimp only at hw
                      obtain ⟨hP, hD⟩ := J_s (wL := [eI q_sorts k_sorts 4 f_sorts, eI q_rowMany k_rowMany 4 f_rowMany, eI q_s k_s 125 gs, eO h0 9 [.ref q_s, .long v_fees, .ref q_thought, .long v_thoughtFees, .ref q_image, .long v_imageFees, .int v_hasImage, .ref q_tape, .int v_taped, .ref q_texts, .ref q_sizes, .int v_programs, .ref q_imageTexts, .ref q_imageSizes, .int v_imagePrograms, .int v_here, .int v_open, .int v_running, .int v_begun, .ref q_held, .ref q_marks, .int v_markMany, .ref q_trace, .int v_traced, .ref q_keptBalances, .ref q_keptFees, .int v_deep, .ref q_way, .ref q_sorts, .ref q_rowMany, .ref q_items, .ref q_moved], eI q_items k_items 240 f_items]) hP hD [(3, 2)] [(0, 3)] hCm hNw (by decide +kernel) hk1 hFc hP1 hD1 rfl
                      have hK := KJ_s (tys' := [(k_sorts, .int), (k_rowMany, .int), (k_s, .int), (k_items, .int)]) hK hK1 [(0, 3)] rfl
                      generalize H1 = H at hP hS ⊢
                      obtain ⟨hPc, hDc, hFc, hCm, hNw⟩ := C_s (wc := [eO h0 9 [.ref q_s, .long v_fees, .ref q_thought, .long v_thoughtFees, .ref q_image, .long v_imageFees, .int v_hasImage, .ref q_tape, .int v_taped, .ref q_texts, .ref q_sizes, .int v_programs, .ref q_imageTexts, .ref q_imageSizes, .int v_imagePrograms, .int v_here, .int v_open, .int v_running, .int v_begun, .ref q_held, .ref q_marks, .int v_markMany, .ref q_trace, .int v_traced, .ref q_keptBalances, .ref q_keptFees, .int v_deep, .ref q_way, .ref q_sorts, .ref q_rowMany, .ref q_items, .ref q_moved], eI q_s k_s 125 gs]) hP hD hS hA [(3, 1), (2, 1)] 5 rfl (by decide +kernel) rfl
                      have hKc := K_s (tys' := [(k_s, .int)]) hK [(2, 1)] rfl
                      refine va_calli (va_runV (As := [.int r52, .int r54, .int r56]) (rest := [.int cm]) ⟨hx, hb, hml, hown, hts⟩ (c_X10_owe l dC dI h0 r52 r54 r56 q_s v_fees q_thought v_thoughtFees q_image v_imageFees v_hasImage q_tape v_taped q_texts q_sizes v_programs q_imageTexts q_imageSizes v_imagePrograms v_here v_open v_running v_begun q_held q_marks v_markMany q_trace v_traced q_keptBalances q_keptFees v_deep q_way q_sorts q_rowMany q_items q_moved k_s gs H.size (by first | assumption | omega)) (cwV 3 hts gX10_load_X10_owe rfl rfl rfl (by decide +kernel) ⟨Nat.le_of_ble_eq_true rfl, Nat.le_of_ble_eq_true rfl⟩) ⟨fun a U g mk q => by obtain ⟨q0, q1, qP, qK, qD⟩ := q; exact ⟨q0, q1, qP, va_K.moved (u := U) (U := U.calling g mk a) (Vm.Alike.refl U.vm) qK, qD⟩, va_recv (s := s) (q := (RX10, TX10, 32)) hKc hPc (ci := 9) (q0 := 0) rfl rfl, fun U hU hW => ⟨rfl, by rw [hU], by rw [hU]; exact hPc, va_K.moved hW.alike hKc, hDc.weaken (fun _ _ _ _ => trivial)⟩⟩ rfl rfl hl.1 rfl (lv_room (Nat.le_of_ble_eq_true rfl)) dX10_load_148 ⟨Nat.le_of_ble_eq_true rfl, Nat.le_of_ble_eq_true rfl⟩) hS (fun q _ h => hFc q h) hFc (fun r57 u t H1 locs ht hvm hw hB hz1 hk1 hS => ?_)
                      obtain ⟨q58, xms_r57, x60_r57, xb_r57, hP1, hK1, hD1⟩ := hB
                      rw [ht] at hP1
                      have hK1 := va_K.moved hvm.symm hK1
                      try dsimp only at hw
                      obtain ⟨hP, hD⟩ := J_s (wL := [eI q_sorts k_sorts 4 f_sorts, eI q_rowMany k_rowMany 4 f_rowMany, eI q_items k_items 240 f_items, eO h0 9 [.ref q_s, .long v_fees, .ref q_thought, .long v_thoughtFees, .ref q_image, .long v_imageFees, .int v_hasImage, .ref q_tape, .int v_taped, .ref q_texts, .ref q_sizes, .int v_programs, .ref q_imageTexts, .ref q_imageSizes, .int v_imagePrograms, .int v_here, .int v_open, .int v_running, .int v_begun, .ref q_held, .ref q_marks, .int v_markMany, .ref q_trace, .int v_traced, .ref q_keptBalances, .ref q_keptFees, .int v_deep, .ref q_way, .ref q_sorts, .ref q_rowMany, .ref q_items, .ref q_moved], eI q_s k_s 125 q58]) hP hD [(3, 1), (2, 1)] [(0, 2), (4, 1)] hCm hNw (by decide +kernel) hk1 hFc hP1 hD1 rfl
                      have hK := KJ_s (tys' := [(k_sorts, .int), (k_rowMany, .int), (k_items, .int), (k_s, .int)]) hK hK1 [(0, 2), (3, 1)] rfl
                      generalize H1 = H at hP hS ⊢
                      have m_q58 : ms q58 := xms_r57
                      obtain ⟨b_q58, c_q58, o_q58⟩ := id m_q58
                      have fs_q58 : Fb q58 f_s := fb_tr (xb_r57) (by first | assumption | exact fb_rf _)
                      refine lv_if_lt (tgt := 158) hx hb dX10_load_151 (by decide) (fun c59 => ?_) (fun c59 => ?_)
                      · skip
                        have f_c59 := i_lt c59
                        refine lv_iconst (v := 0) hx hb dX10_load_158 (by decide) ?_
                        refine lv_iadd hx hb dX10_load_159 ?_
                        refine lv_topi (fun z60 e_z60 => ?_)
                        (first | have t_z60 := i_add e_z60 (by omega) (by omega) | skip)
                        refine lv_istore (lv' := [(5, .int z60), (9, .int z51), (7, .long z45), (6, .int x), (0, .ref h0), (1, .int p0), (2, .int p1), (3, .int p2), (4, .int p3)]) hx hb dX10_load_160 hl (by decide) rfl (fun ls hl => ?_)
                        obtain ⟨x61, e_x61⟩ : ∃ yy : Int32, yy = x + 1 := ⟨_, rfl⟩
                        refine lv_iinc (v := x61) (lv' := [(6, .int x61), (5, .int z60), (9, .int z51), (7, .long z45), (0, .ref h0), (1, .int p0), (2, .int p1), (3, .int p2), (4, .int p3)]) hx hb dX10_load_162 hl (k := 3) rfl (by rw [e_x61]; rfl) (by decide) rfl (fun ls hl => ?_)
                        (first | have t_x61 := i_add e_x61 (by omega) (by omega) | skip)
                        refine lv_goto (tgt := 75) hx hb dX10_load_165 (by decide) ?_
                        exact ih_75 z60 x61 q58 (by first | assumption | omega | exact fz_rf _ | exact fb_rf _ | exact (fun _ _ _ => rfl)) (by first | assumption | omega | exact fz_rf _ | exact fb_rf _ | exact (fun _ _ _ => rfl)) (by first | assumption | omega | exact fz_rf _ | exact fb_rf _ | exact (fun _ _ _ => rfl)) (by first | assumption | omega | exact fz_rf _ | exact fb_rf _ | exact (fun _ _ _ => rfl)) (by first | assumption | omega | exact fz_rf _ | exact fb_rf _ | exact (fun _ _ _ => rfl)) (by first | assumption | omega | exact fz_rf _ | exact fb_rf _ | exact (fun _ _ _ => rfl)) (by first | assumption | omega | exact fz_rf _ | exact fb_rf _ | exact (fun _ _ _ => rfl)) (by omega) _ _ (K_s hK [(0, 4)] rfl) (P_s hP [(3, 1), (0, 3), (4, 1)] rfl) (D_s hD [(3, 1), (0, 3), (4, 1)] 5 rfl (by decide +kernel) rfl) hS ls (lv_sub hl [0, 1, 4, 5, 6, 7, 8] rfl)
                      · skip
                        have f_c59 := i_nlt c59
                        refine lv_iconst (v := 1) hx hb dX10_load_154 (by decide) ?_
                        refine lv_goto (tgt := 159) hx hb dX10_load_155 (by decide) ?_
                        refine lv_iadd hx hb dX10_load_159 ?_
                        refine lv_topi (fun z62 e_z62 => ?_)
                        (first | have t_z62 := i_add e_z62 (by omega) (by omega) | skip)
                        refine lv_istore (lv' := [(5, .int z62), (9, .int z51), (7, .long z45), (6, .int x), (0, .ref h0), (1, .int p0), (2, .int p1), (3, .int p2), (4, .int p3)]) hx hb dX10_load_160 hl (by decide) rfl (fun ls hl => ?_)
                        obtain ⟨x63, e_x63⟩ : ∃ yy : Int32, yy = x + 1 := ⟨_, rfl⟩
                        refine lv_iinc (v := x63) (lv' := [(6, .int x63), (5, .int z62), (9, .int z51), (7, .long z45), (0, .ref h0), (1, .int p0), (2, .int p1), (3, .int p2), (4, .int p3)]) hx hb dX10_load_162 hl (k := 3) rfl (by rw [e_x63]; rfl) (by decide) rfl (fun ls hl => ?_)
                        (first | have t_x63 := i_add e_x63 (by omega) (by omega) | skip)
                        refine lv_goto (tgt := 75) hx hb dX10_load_165 (by decide) ?_
                        exact ih_75 z62 x63 q58 (by first | assumption | omega | exact fz_rf _ | exact fb_rf _ | exact (fun _ _ _ => rfl)) (by first | assumption | omega | exact fz_rf _ | exact fb_rf _ | exact (fun _ _ _ => rfl)) (by first | assumption | omega | exact fz_rf _ | exact fb_rf _ | exact (fun _ _ _ => rfl)) (by first | assumption | omega | exact fz_rf _ | exact fb_rf _ | exact (fun _ _ _ => rfl)) (by first | assumption | omega | exact fz_rf _ | exact fb_rf _ | exact (fun _ _ _ => rfl)) (by first | assumption | omega | exact fz_rf _ | exact fb_rf _ | exact (fun _ _ _ => rfl)) (by first | assumption | omega | exact fz_rf _ | exact fb_rf _ | exact (fun _ _ _ => rfl)) (by omega) _ _ (K_s hK [(0, 4)] rfl) (P_s hP [(3, 1), (0, 3), (4, 1)] rfl) (D_s hD [(3, 1), (0, 3), (4, 1)] 5 rfl (by decide +kernel) rfl) hS ls (lv_sub hl [0, 1, 4, 5, 6, 7, 8] rfl)
                    · subst e_r49
                      refine lv_if_ne (tgt := 115) hx hb dX10_load_109 (by decide) (fun c64 => absurd (by decide) c64) (fun c64 => ?_)
                      refine lv_bipush (v := -12) hx hb dX10_load_112 (by decide) ?_
                      rw [hQ9]
                      exact W.iret (v := (-12)) hx hb hr (fun t ht hW => ⟨⟨(-12), (), rfl, (by first | rfl | trivial), gs, (by first | assumption | omega | exact fz_rf _ | exact fb_rf _ | exact (fun _ _ _ => rfl)), (by first | assumption | omega | exact fz_rf _ | exact fb_rf _ | exact (fun _ _ _ => rfl)), (by first | assumption | omega | exact fz_rf _ | exact fb_rf _ | exact (fun _ _ _ => rfl)), by rw [ht]; exact hP, va_K.moved hW.alike hK, hD⟩, hS.F ht⟩) hS.2.2 dX10_load_114
              exact loop_75 (1000) 0 0 f_s (by first | assumption | omega | exact fz_rf _ | exact fb_rf _ | exact (fun _ _ _ => rfl)) (by first | assumption | omega | exact fz_rf _ | exact fb_rf _ | exact (fun _ _ _ => rfl)) (by first | assumption | omega | exact fz_rf _ | exact fb_rf _ | exact (fun _ _ _ => rfl)) (by first | assumption | omega | exact fz_rf _ | exact fb_rf _ | exact (fun _ _ _ => rfl)) (by first | assumption | omega | exact fz_rf _ | exact fb_rf _ | exact (fun _ _ _ => rfl)) (by first | assumption | omega | exact fz_rf _ | exact fb_rf _ | exact (fun _ _ _ => rfl)) (by first | assumption | omega | exact fz_rf _ | exact fb_rf _ | exact (fun _ _ _ => rfl)) (by omega) _ _ hK hP hD hS ls (lv_sub hl [0, 1, 2, 3, 4, 5, 6] rfl)
            · skip
              have f_c40 := i_eq c40
              refine lv_bipush (v := -11) hx hb dX10_load_66 (by decide) ?_
              rw [hQ9]
              exact W.iret (v := (-11)) hx hb hr (fun t ht hW => ⟨⟨(-11), (), rfl, (by first | rfl | trivial), f_s, (by first | assumption | omega | exact fz_rf _ | exact fb_rf _ | exact (fun _ _ _ => rfl)), (by first | assumption | omega | exact fz_rf _ | exact fb_rf _ | exact (fun _ _ _ => rfl)), (by first | assumption | omega | exact fz_rf _ | exact fb_rf _ | exact (fun _ _ _ => rfl)), by rw [ht]; exact hP, va_K.moved hW.alike hK, hD⟩, hS.F ht⟩) hS.2.2 dX10_load_68
          · skip
            have f_c38 := i_ne c38
            refine lv_bipush (v := -13) hx hb dX10_load_53 (by decide) ?_
            rw [hQ9]
            exact W.iret (v := (-13)) hx hb hr (fun t ht hW => ⟨⟨(-13), (), rfl, (by first | rfl | trivial), f_s, (by first | assumption | omega | exact fz_rf _ | exact fb_rf _ | exact (fun _ _ _ => rfl)), (by first | assumption | omega | exact fz_rf _ | exact fb_rf _ | exact (fun _ _ _ => rfl)), (by first | assumption | omega | exact fz_rf _ | exact fb_rf _ | exact (fun _ _ _ => rfl)), by rw [ht]; exact hP, va_K.moved hW.alike hK, hD⟩, hS.F ht⟩) hS.2.2 dX10_load_55
      · subst e_r7
        refine lv_if_ne (tgt := 33) hx hb dX10_load_27 (by decide) (fun c65 => absurd (by decide) c65) (fun c65 => ?_)
        refine lv_bipush (v := -2) hx hb dX10_load_30 (by decide) ?_
        rw [hQ9]
        exact W.iret (v := (-2)) hx hb hr (fun t ht hW => ⟨⟨(-2), (), rfl, (by first | rfl | trivial), f_s, (by first | assumption | omega | exact fz_rf _ | exact fb_rf _ | exact (fun _ _ _ => rfl)), (by first | assumption | omega | exact fz_rf _ | exact fb_rf _ | exact (fun _ _ _ => rfl)), (by first | assumption | omega | exact fz_rf _ | exact fb_rf _ | exact (fun _ _ _ => rfl)), by rw [ht]; exact hP, va_K.moved hW.alike hK, hD⟩, hS.F ht⟩) hS.2.2 dX10_load_32
    · subst e_r4
      refine lv_if_eq (tgt := 30) hx hb dX10_load_14 (by decide) (fun c66 => ?_) (fun c66 => absurd (by decide) c66)
      refine lv_bipush (v := -2) hx hb dX10_load_30 (by decide) ?_
      rw [hQ9]
      exact W.iret (v := (-2)) hx hb hr (fun t ht hW => ⟨⟨(-2), (), rfl, (by first | rfl | trivial), f_s, (by first | assumption | omega | exact fz_rf _ | exact fb_rf _ | exact (fun _ _ _ => rfl)), (by first | assumption | omega | exact fz_rf _ | exact fb_rf _ | exact (fun _ _ _ => rfl)), (by first | assumption | omega | exact fz_rf _ | exact fb_rf _ | exact (fun _ _ _ => rfl)), by rw [ht]; exact hP, va_K.moved hW.alike hK, hD⟩, hS.F ht⟩) hS.2.2 dX10_load_32
  · subst e_r1
    refine lv_if_eq (tgt := 30) hx hb dX10_load_4 (by decide) (fun c67 => ?_) (fun c67 => absurd (by decide) c67)
    refine lv_bipush (v := -2) hx hb dX10_load_30 (by decide) ?_
    rw [hQ9]
    exact W.iret (v := (-2)) hx hb hr (fun t ht hW => ⟨⟨(-2), (), rfl, (by first | rfl | trivial), f_s, (by first | assumption | omega | exact fz_rf _ | exact fb_rf _ | exact (fun _ _ _ => rfl)), (by first | assumption | omega | exact fz_rf _ | exact fb_rf _ | exact (fun _ _ _ => rfl)), (by first | assumption | omega | exact fz_rf _ | exact fb_rf _ | exact (fun _ _ _ => rfl)), by rw [ht]; exact hP, va_K.moved hW.alike hK, hD⟩, hS.F ht⟩) hS.2.2 dX10_load_32
