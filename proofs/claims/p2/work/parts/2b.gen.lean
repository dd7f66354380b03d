set_option maxRecDepth 100000 in
def KR (l : Launch) (dC : Nat → ClassId) (dI : Nat → Nat → Nat) (nd : Nat) : Prop := ∀ (h0 : Nat) (p0 : Int32) (p1 : Int32) (q_s : Nat) (v_fees : Int64) (q_thought : Nat) (v_thoughtFees : Int64) (q_image : Nat) (v_imageFees : Int64) (v_hasImage : Int32) (q_tape : Nat) (v_taped : Int32) (q_texts : Nat) (q_sizes : Nat) (v_programs : Int32) (q_imageTexts : Nat) (q_imageSizes : Nat) (v_imagePrograms : Int32) (v_here : Int32) (v_open : Int32) (v_running : Int32) (v_begun : Int32) (q_held : Nat) (q_marks : Nat) (v_markMany : Int32) (q_trace : Nat) (v_traced : Int32) (q_keptBalances : Nat) (q_keptFees : Nat) (v_deep : Int32) (q_way : Nat) (q_sorts : Nat) (q_rowMany : Nat) (q_items : Nat) (q_moved : Nat) (k_s : ClassId) (f_s : Nat → Int32) (k_way : ClassId) (f_way : Nat → Int32) (n9 : Nat) (kq : Nat) (sz : Nat) (hms : ms f_s) (hp0 : p0.toInt = (n9 : Int)) (hn1 : 1 ≤ n9) (hnd : n9 + nd = 8) (hon : p1 = nI kq) (hpw : Pw f_s f_way n9 kq), Met l yX10_ringFrom wsX10_ringFrom ({ frames := 2 * nd + 6, cells := 0, slots := 0, locals := 100 * nd + 100 }) (va_Pc [.ref h0, .int p0, .int p1] (fun U => U.heap.size = sz ∧ va_P (dC, dI) vwCl [eO h0 9 [.ref q_s, .long v_fees, .ref q_thought, .long v_thoughtFees, .ref q_image, .long v_imageFees, .int v_hasImage, .ref q_tape, .int v_taped, .ref q_texts, .ref q_sizes, .int v_programs, .ref q_imageTexts, .ref q_imageSizes, .int v_imagePrograms, .int v_here, .int v_open, .int v_running, .int v_begun, .ref q_held, .ref q_marks, .int v_markMany, .ref q_trace, .int v_traced, .ref q_keptBalances, .ref q_keptFees, .int v_deep, .ref q_way, .ref q_sorts, .ref q_rowMany, .ref q_items, .ref q_moved], eI q_s k_s 125 f_s, eI q_way k_way 8 f_way] U.heap ∧ va_K (dC, dI) vwCl [(k_s, .int), (k_way, .int)] U ∧ va_D (fun _ => True) [eO h0 9 [.ref q_s, .long v_fees, .ref q_thought, .long v_thoughtFees, .ref q_image, .long v_imageFees, .int v_hasImage, .ref q_tape, .int v_taped, .ref q_texts, .ref q_sizes, .int v_programs, .ref q_imageTexts, .ref q_imageSizes, .int v_imagePrograms, .int v_here, .int v_open, .int v_running, .int v_begun, .ref q_held, .ref q_marks, .int v_markMany, .ref q_trace, .int v_traced, .ref q_keptBalances, .ref q_keptFees, .int v_deep, .ref q_way, .ref q_sorts, .ref q_rowMany, .ref q_items, .ref q_moved], eI q_s k_s 125 f_s, eI q_way k_way 8 f_way])) (va_Qi (fun (r : Int32) (f_way2 : Nat → Int32) => (r.toInt = 0 ∧ ∀ k : Nat, k < n9 → f_way2 k = f_way k) ∨ Rx f_s f_way2 r) (fun (f_way2 : Nat → Int32) (t : State) => va_P (dC, dI) vwCl [eO h0 9 [.ref q_s, .long v_fees, .ref q_thought, .long v_thoughtFees, .ref q_image, .long v_imageFees, .int v_hasImage, .ref q_tape, .int v_taped, .ref q_texts, .ref q_sizes, .int v_programs, .ref q_imageTexts, .ref q_imageSizes, .int v_imagePrograms, .int v_here, .int v_open, .int v_running, .int v_begun, .ref q_held, .ref q_marks, .int v_markMany, .ref q_trace, .int v_traced, .ref q_keptBalances, .ref q_keptFees, .int v_deep, .ref q_way, .ref q_sorts, .ref q_rowMany, .ref q_items, .ref q_moved], eI q_s k_s 125 f_s, eI q_way k_way 8 f_way2] t.heap ∧ va_K (dC, dI) vwCl [(k_s, .int), (k_way, .int)] t ∧ va_D (va_A [eO h0 9 [.ref q_s, .long v_fees, .ref q_thought, .long v_thoughtFees, .ref q_image, .long v_imageFees, .int v_hasImage, .ref q_tape, .int v_taped, .ref q_texts, .ref q_sizes, .int v_programs, .ref q_imageTexts, .ref q_imageSizes, .int v_imagePrograms, .int v_here, .int v_open, .int v_running, .int v_begun, .ref q_held, .ref q_marks, .int v_markMany, .ref q_trace, .int v_traced, .ref q_keptBalances, .ref q_keptFees, .int v_deep, .ref q_way, .ref q_sorts, .ref q_rowMany, .ref q_items, .ref q_moved], eI q_s k_s 125 f_s, eI q_way k_way 8 f_way] sz) [eO h0 9 [.ref q_s, .long v_fees, .ref q_thought, .long v_thoughtFees, .ref q_image, .long v_imageFees, .int v_hasImage, .ref q_tape, .int v_taped, .ref q_texts, .ref q_sizes, .int v_programs, .ref q_imageTexts, .ref q_imageSizes, .int v_imagePrograms, .int v_here, .int v_open, .int v_running, .int v_begun, .ref q_held, .ref q_marks, .int v_markMany, .ref q_trace, .int v_traced, .ref q_keptBalances, .ref q_keptFees, .int v_deep, .ref q_way, .ref q_sorts, .ref q_rowMany, .ref q_items, .ref q_moved], eI q_s k_s 125 f_s, eI q_way k_way 8 f_way2]) (va_A [eO h0 9 [.ref q_s, .long v_fees, .ref q_thought, .long v_thoughtFees, .ref q_image, .long v_imageFees, .int v_hasImage, .ref q_tape, .int v_taped, .ref q_texts, .ref q_sizes, .int v_programs, .ref q_imageTexts, .ref q_imageSizes, .int v_imagePrograms, .int v_here, .int v_open, .int v_running, .int v_begun, .ref q_held, .ref q_marks, .int v_markMany, .ref q_trace, .int v_traced, .ref q_keptBalances, .ref q_keptFees, .int v_deep, .ref q_way, .ref q_sorts, .ref q_rowMany, .ref q_items, .ref q_moved], eI q_s k_s 125 f_s, eI q_way k_way 8 f_way] sz)) 0 0 (va_A [eO h0 9 [.ref q_s, .long v_fees, .ref q_thought, .long v_thoughtFees, .ref q_image, .long v_imageFees, .int v_hasImage, .ref q_tape, .int v_taped, .ref q_texts, .ref q_sizes, .int v_programs, .ref q_imageTexts, .ref q_imageSizes, .int v_imagePrograms, .int v_here, .int v_open, .int v_running, .int v_begun, .ref q_held, .ref q_marks, .int v_markMany, .ref q_trace, .int v_traced, .ref q_keptBalances, .ref q_keptFees, .int v_deep, .ref q_way, .ref q_sorts, .ref q_rowMany, .ref q_items, .ref q_moved], eI q_s k_s 125 f_s, eI q_way k_way 8 f_way] sz)

set_option maxRecDepth 100000 in
set_option maxHeartbeats 4000000 in
/-- ringFrom of the reference -/
theorem c_X10_ringFrom (l : Launch) (dC : Nat → ClassId) (dI : Nat → Nat → Nat) (h0 : Nat) (p0 : Int32) (p1 : Int32) (q_s : Nat) (v_fees : Int64) (q_thought : Nat) (v_thoughtFees : Int64) (q_image : Nat) (v_imageFees : Int64) (v_hasImage : Int32) (q_tape : Nat) (v_taped : Int32) (q_texts : Nat) (q_sizes : Nat) (v_programs : Int32) (q_imageTexts : Nat) (q_imageSizes : Nat) (v_imagePrograms : Int32) (v_here : Int32) (v_open : Int32) (v_running : Int32) (v_begun : Int32) (q_held : Nat) (q_marks : Nat) (v_markMany : Int32) (q_trace : Nat) (v_traced : Int32) (q_keptBalances : Nat) (q_keptFees : Nat) (v_deep : Int32) (q_way : Nat) (q_sorts : Nat) (q_rowMany : Nat) (q_items : Nat) (q_moved : Nat) (k_s : ClassId) (f_s : Nat → Int32) (k_way : ClassId) (f_way : Nat → Int32) (n9 : Nat) (kq : Nat) (nd : Nat) (sz : Nat) (hms : ms f_s) (hp0 : p0.toInt = (n9 : Int)) (hn1 : 1 ≤ n9) (hnd : n9 + nd = 8) (hon : p1 = nI kq) (hpw : Pw f_s f_way n9 kq) (ihr : ∀ m : Nat, m + 1 = nd → KR l dC dI m) : Met l yX10_ringFrom wsX10_ringFrom ({ frames := 2 * nd + 6, cells := 0, slots := 0, locals := 100 * nd + 100 }) (va_Pc [.ref h0, .int p0, .int p1] (fun U => U.heap.size = sz ∧ va_P (dC, dI) vwCl [eO h0 9 [.ref q_s, .long v_fees, .ref q_thought, .long v_thoughtFees, .ref q_image, .long v_imageFees, .int v_hasImage, .ref q_tape, .int v_taped, .ref q_texts, .ref q_sizes, .int v_programs, .ref q_imageTexts, .ref q_imageSizes, .int v_imagePrograms, .int v_here, .int v_open, .int v_running, .int v_begun, .ref q_held, .ref q_marks, .int v_markMany, .ref q_trace, .int v_traced, .ref q_keptBalances, .ref q_keptFees, .int v_deep, .ref q_way, .ref q_sorts, .ref q_rowMany, .ref q_items, .ref q_moved], eI q_s k_s 125 f_s, eI q_way k_way 8 f_way] U.heap ∧ va_K (dC, dI) vwCl [(k_s, .int), (k_way, .int)] U ∧ va_D (fun _ => True) [eO h0 9 [.ref q_s, .long v_fees, .ref q_thought, .long v_thoughtFees, .ref q_image, .long v_imageFees, .int v_hasImage, .ref q_tape, .int v_taped, .ref q_texts, .ref q_sizes, .int v_programs, .ref q_imageTexts, .ref q_imageSizes, .int v_imagePrograms, .int v_here, .int v_open, .int v_running, .int v_begun, .ref q_held, .ref q_marks, .int v_markMany, .ref q_trace, .int v_traced, .ref q_keptBalances, .ref q_keptFees, .int v_deep, .ref q_way, .ref q_sorts, .ref q_rowMany, .ref q_items, .ref q_moved], eI q_s k_s 125 f_s, eI q_way k_way 8 f_way])) (va_Qi (fun (r : Int32) (f_way2 : Nat → Int32) => (r.toInt = 0 ∧ ∀ k : Nat, k < n9 → f_way2 k = f_way k) ∨ Rx f_s f_way2 r) (fun (f_way2 : Nat → Int32) (t : State) => va_P (dC, dI) vwCl [eO h0 9 [.ref q_s, .long v_fees, .ref q_thought, .long v_thoughtFees, .ref q_image, .long v_imageFees, .int v_hasImage, .ref q_tape, .int v_taped, .ref q_texts, .ref q_sizes, .int v_programs, .ref q_imageTexts, .ref q_imageSizes, .int v_imagePrograms, .int v_here, .int v_open, .int v_running, .int v_begun, .ref q_held, .ref q_marks, .int v_markMany, .ref q_trace, .int v_traced, .ref q_keptBalances, .ref q_keptFees, .int v_deep, .ref q_way, .ref q_sorts, .ref q_rowMany, .ref q_items, .ref q_moved], eI q_s k_s 125 f_s, eI q_way k_way 8 f_way2] t.heap ∧ va_K (dC, dI) vwCl [(k_s, .int), (k_way, .int)] t ∧ va_D (va_A [eO h0 9 [.ref q_s, .long v_fees, .ref q_thought, .long v_thoughtFees, .ref q_image, .long v_imageFees, .int v_hasImage, .ref q_tape, .int v_taped, .ref q_texts, .ref q_sizes, .int v_programs, .ref q_imageTexts, .ref q_imageSizes, .int v_imagePrograms, .int v_here, .int v_open, .int v_running, .int v_begun, .ref q_held, .ref q_marks, .int v_markMany, .ref q_trace, .int v_traced, .ref q_keptBalances, .ref q_keptFees, .int v_deep, .ref q_way, .ref q_sorts, .ref q_rowMany, .ref q_items, .ref q_moved], eI q_s k_s 125 f_s, eI q_way k_way 8 f_way] sz) [eO h0 9 [.ref q_s, .long v_fees, .ref q_thought, .long v_thoughtFees, .ref q_image, .long v_imageFees, .int v_hasImage, .ref q_tape, .int v_taped, .ref q_texts, .ref q_sizes, .int v_programs, .ref q_imageTexts, .ref q_imageSizes, .int v_imagePrograms, .int v_here, .int v_open, .int v_running, .int v_begun, .ref q_held, .ref q_marks, .int v_markMany, .ref q_trace, .int v_traced, .ref q_keptBalances, .ref q_keptFees, .int v_deep, .ref q_way, .ref q_sorts, .ref q_rowMany, .ref q_items, .ref q_moved], eI q_s k_s 125 f_s, eI q_way k_way 8 f_way2]) (va_A [eO h0 9 [.ref q_s, .long v_fees, .ref q_thought, .long v_thoughtFees, .ref q_image, .long v_imageFees, .int v_hasImage, .ref q_tape, .int v_taped, .ref q_texts, .ref q_sizes, .int v_programs, .ref q_imageTexts, .ref q_imageSizes, .int v_imagePrograms, .int v_here, .int v_open, .int v_running, .int v_begun, .ref q_held, .ref q_marks, .int v_markMany, .ref q_trace, .int v_traced, .ref q_keptBalances, .ref q_keptFees, .int v_deep, .ref q_way, .ref q_sorts, .ref q_rowMany, .ref q_items, .ref q_moved], eI q_s k_s 125 f_s, eI q_way k_way 8 f_way] sz)) 0 0 (va_A [eO h0 9 [.ref q_s, .long v_fees, .ref q_thought, .long v_thoughtFees, .ref q_image, .long v_imageFees, .int v_hasImage, .ref q_tape, .int v_taped, .ref q_texts, .ref q_sizes, .int v_programs, .ref q_imageTexts, .ref q_imageSizes, .int v_imagePrograms, .int v_here, .int v_open, .int v_running, .int v_begun, .ref q_held, .ref q_marks, .int v_markMany, .ref q_trace, .int v_traced, .ref q_keptBalances, .ref q_keptFees, .int v_deep, .ref q_way, .ref q_sorts, .ref q_rowMany, .ref q_items, .ref q_moved], eI q_s k_s 125 f_s, eI q_way k_way 8 f_way] sz) := by
  refine Met.ofW (cc := cX10_ringFrom) (maxL := 6) (ret := (some .int)) (by decide) rfl ?_
  intro p e s m args below meth c s₁ B hml hv
  obtain ⟨rfl, hsz, hP, hK, hD0⟩ := hv
  have hx := B.exec
  have hb := B.bytes
  have hr := B.returns
  have hts := atoms_spec (ws := wsX10_ringFrom) B.pre
  have hown : s.vm.findClass RX10 = some m.cls := findClass_of_methodNamed B.named
  have hlocks := B.notSynchronized
  subst hsz
  have hD := hD0.self (sz := s.heap.size)
  generalize hAe : va_A [eO h0 9 [.ref q_s, .long v_fees, .ref q_thought, .long v_thoughtFees, .ref q_image, .long v_imageFees, .int v_hasImage, .ref q_tape, .int v_taped, .ref q_texts, .ref q_sizes, .int v_programs, .ref q_imageTexts, .ref q_imageSizes, .int v_imagePrograms, .int v_here, .int v_open, .int v_running, .int v_begun, .ref q_held, .ref q_marks, .int v_markMany, .ref q_trace, .int v_traced, .ref q_keptBalances, .ref q_keptFees, .int v_deep, .ref q_way, .ref q_sorts, .ref q_rowMany, .ref q_items, .ref q_moved], eI q_s k_s 125 f_s, eI q_way k_way 8 f_way] s.heap.size = A at hD ⊢
  have hA : ∀ q : Nat, s.heap.size ≤ q → A q := fun q h => by rw [← hAe]; exact Or.inr h
  have hS : va_S A s.heap s.heap [] := va_S.rf
  have hP : va_P (dC, dI) vwCl [eO h0 9 [.ref q_s, .long v_fees, .ref q_thought, .long v_thoughtFees, .ref q_image, .long v_imageFees, .int v_hasImage, .ref q_tape, .int v_taped, .ref q_texts, .ref q_sizes, .int v_programs, .ref q_imageTexts, .ref q_imageSizes, .int v_imagePrograms, .int v_here, .int v_open, .int v_running, .int v_begun, .ref q_held, .ref q_marks, .int v_markMany, .ref q_trace, .int v_traced, .ref q_keptBalances, .ref q_keptFees, .int v_deep, .ref q_way, .ref q_sorts, .ref q_rowMany, .ref q_items, .ref q_moved], eI q_s k_s 125 f_s, eI q_way k_way 8 f_way] s.heap := hP
  have hl := lv_entry ([.ref h0, .int p0, .int p1]) (n := 6) (Nat.le_of_ble_eq_true rfl)
  rw [lg_entry_eq]
  generalize (lg_sl ([.ref h0, .int p0, .int p1]) ++ List.replicate (6 - (lg_sl ([.ref h0, .int p0, .int p1])).length) Slot.unset).toArray = ls at hl ⊢
  have hl : lv_has ls 6 [(0, .ref h0), (1, .int p0), (2, .int p1)] := hl
  suffices key9 : ∀ Q9 : State → Prop, Q9 = (MQ below (va_Qi (fun (r : Int32) (f_way2 : Nat → Int32) => (r.toInt = 0 ∧ ∀ k : Nat, k < n9 → f_way2 k = f_way k) ∨ Rx f_s f_way2 r) (fun (f_way2 : Nat → Int32) (t : State) => va_P (dC, dI) vwCl [eO h0 9 [.ref q_s, .long v_fees, .ref q_thought, .long v_thoughtFees, .ref q_image, .long v_imageFees, .int v_hasImage, .ref q_tape, .int v_taped, .ref q_texts, .ref q_sizes, .int v_programs, .ref q_imageTexts, .ref q_imageSizes, .int v_imagePrograms, .int v_here, .int v_open, .int v_running, .int v_begun, .ref q_held, .ref q_marks, .int v_markMany, .ref q_trace, .int v_traced, .ref q_keptBalances, .ref q_keptFees, .int v_deep, .ref q_way, .ref q_sorts, .ref q_rowMany, .ref q_items, .ref q_moved], eI q_s k_s 125 f_s, eI q_way k_way 8 f_way2] t.heap ∧ va_K (dC, dI) vwCl [(k_s, .int), (k_way, .int)] t ∧ va_D A [eO h0 9 [.ref q_s, .long v_fees, .ref q_thought, .long v_thoughtFees, .ref q_image, .long v_imageFees, .int v_hasImage, .ref q_tape, .int v_taped, .ref q_texts, .ref q_sizes, .int v_programs, .ref q_imageTexts, .ref q_imageSizes, .int v_imagePrograms, .int v_here, .int v_open, .int v_running, .int v_begun, .ref q_held, .ref q_marks, .int v_markMany, .ref q_trace, .int v_traced, .ref q_keptBalances, .ref q_keptFees, .int v_deep, .ref q_way, .ref q_sorts, .ref q_rowMany, .ref q_items, .ref q_moved], eI q_s k_s 125 f_s, eI q_way k_way 8 f_way2]) A) (([.ref h0, .int p0, .int p1] : List Value).toArray) s 0 0 A) → W p l e ({ frames := 2 * nd + 6, cells := 0, slots := 0, locals := 100 * nd + 100 }) s m (([.ref h0, .int p0, .int p1] : List Value).toArray) below meth c s.heap [] 0 0 Q9 (F0 m 0 ls []) from key9 _ rfl
  intro Q9 hQ9
  have k_0 : (0 : Int32).toInt = 0 := by decide
  have k_1 : (1 : Int32).toInt = 1 := by decide
  obtain ⟨ha1, ha2, hown9⟩ := id hms
  have hp8 := pw_le hpw
  refine lv_aload_n hx hb dX10_ringFrom_0 rfl (lv_at hl 0 rfl) ?_
  refine va_get (D := (dC, dI)) (ci := 9) (v := .ref q_way) (C := RX10) (T := TX10) (N := 32) hx hb hts (fun w h => List.mem_cons_of_mem _ (inlX10 w h)) hown hK hP 0 rfl rfl 27 (by decide) (hts (.fieldLink RX10 52 "ClearingGatesModel" "way" "[I") (List.mem_cons_of_mem _ mw_636)) (fun _ h9 => h9) rfl dX10_ringFrom_1 ?_
  refine lv_iload_n hx hb dX10_ringFrom_4 rfl (lv_at hl 1 rfl) ?_
  refine lv_iconst (v := 1) hx hb dX10_ringFrom_5 (by decide) ?_
  refine lv_isub hx hb dX10_ringFrom_6 ?_
  refine lv_topi (fun z1 e_z1 => ?_)
  (first | have t_z1 := i_sub e_z1 (by omega) (by omega) | skip)
  refine va_iald (D := (dC, dI)) hx hb hK hP 2 1 rfl rfl (vp_in_iff.mpr ⟨by omega, by omega⟩) dX10_ringFrom_7 ?_
  refine lv_topi (fun z2 e_z2 => ?_)
  have w_z2 : z2 = f_way (n9 - 1) := by rw [e_z2]; rw [i_nat (k := n9 - 1) (by omega)]
  obtain ⟨ra_z2, rb_z2⟩ : 0 ≤ z2.toInt ∧ z2.toInt < 8 := by rw [w_z2]; exact ⟨(hpw.2.2.1 (n9 - 1) (by omega)).1, (hpw.2.2.1 (n9 - 1) (by omega)).2.1⟩
  refine lv_istore_n (lv' := [(3, .int z2), (0, .ref h0), (1, .int p0), (2, .int p1)]) hx hb dX10_ringFrom_8 rfl hl (by decide) rfl (fun ls hl => ?_)
  refine lv_iload_n hx hb dX10_ringFrom_9 rfl (lv_at hl 2 rfl) ?_
  refine lv_iconst (v := 1) hx hb dX10_ringFrom_10 (by decide) ?_
  refine lv_icmp_le (tgt := 30) hx hb dX10_ringFrom_11 (by decide) (fun c3 => ?_) (fun c3 => ?_)
  · skip
    have f_c3 := i_le c3
    refine lv_iconst (v := 0) hx hb dX10_ringFrom_30 (by decide) ?_
    refine lv_istore (lv' := [(4, .int 0), (3, .int z2), (0, .ref h0), (1, .int p0), (2, .int p1)]) hx hb dX10_ringFrom_31 hl (by decide) rfl (fun ls hl => ?_)
    have loop_33 : ∀ (n i_33 : Nat) (x_33 : Int32), i_33 ≤ 8 → 8 < i_33 + n → x_33 = nI i_33 → ∀ (gw : Nat → Int32), (∀ k : Nat, k < n9 → gw k = f_way k) → ∀ (H : Heap) (locs : List Loc), va_K (dC, dI) vwCl [(k_s, .int), (k_way, .int)] s → va_P (dC, dI) vwCl [eO h0 9 [.ref q_s, .long v_fees, .ref q_thought, .long v_thoughtFees, .ref q_image, .long v_imageFees, .int v_hasImage, .ref q_tape, .int v_taped, .ref q_texts, .ref q_sizes, .int v_programs, .ref q_imageTexts, .ref q_imageSizes, .int v_imagePrograms, .int v_here, .int v_open, .int v_running, .int v_begun, .ref q_held, .ref q_marks, .int v_markMany, .ref q_trace, .int v_traced, .ref q_keptBalances, .ref q_keptFees, .int v_deep, .ref q_way, .ref q_sorts, .ref q_rowMany, .ref q_items, .ref q_moved], eI q_s k_s 125 f_s, eI q_way k_way 8 gw] H → va_D A [eO h0 9 [.ref q_s, .long v_fees, .ref q_thought, .long v_thoughtFees, .ref q_image, .long v_imageFees, .int v_hasImage, .ref q_tape, .int v_taped, .ref q_texts, .ref q_sizes, .int v_programs, .ref q_imageTexts, .ref q_imageSizes, .int v_imagePrograms, .int v_here, .int v_open, .int v_running, .int v_begun, .ref q_held, .ref q_marks, .int v_markMany, .ref q_trace, .int v_traced, .ref q_keptBalances, .ref q_keptFees, .int v_deep, .ref q_way, .ref q_sorts, .ref q_rowMany, .ref q_items, .ref q_moved], eI q_s k_s 125 f_s, eI q_way k_way 8 gw] → va_S A s.heap H locs → ∀ (ls : Array Slot), lv_has ls 6 [(4, .int x_33), (3, .int z2), (0, .ref h0), (1, .int p0), (2, .int p1)] → W p l e ({ frames := 2 * nd + 6, cells := 0, slots := 0, locals := 100 * nd + 100 }) s m (([.ref h0, .int p0, .int p1] : List Value).toArray) below meth c H locs 0 0 Q9 (F0 m 33 ls []) := by
      intro n
      induction n with
      | zero => intro i_33 x_33 h1 h2; exact absurd h2 (by omega)
      | succ n ih_33 =>
        intro i_33 x_33 hi_33 hn_33 e_x_33 gw iw H locs hK hP hD hS ls hl
        have t_x_33 : x_33.toInt = (i_33 : Int) := by rw [e_x_33]; exact nI_toInt (by omega)
        refine lv_iload hx hb dX10_ringFrom_33 (lv_at hl 0 rfl) ?_
        refine lv_aload_n hx hb dX10_ringFrom_35 rfl (lv_at hl 2 rfl) ?_
        refine va_get (D := (dC, dI)) (ci := 9) (v := .ref q_s) (C := RX10) (T := TX10) (N := 32) hx hb hts (fun w h => List.mem_cons_of_mem _ (inlX10 w h)) hown hK hP 0 rfl rfl 0 (by decide) (hts (.fieldLink RX10 11 "ClearingGatesModel" "s" "[I") (List.mem_cons_of_mem _ mw_609)) (fun _ h9 => h9) rfl dX10_ringFrom_36 ?_
        refine lv_bipush (v := 60) hx hb dX10_ringFrom_39 (by decide) ?_
        refine va_iald (D := (dC, dI)) hx hb hK hP 1 0 rfl rfl (vp_in_iff.mpr ⟨by decide, by decide⟩) dX10_ringFrom_41 ?_
        refine lv_topi (fun z4 e_z4 => ?_)
        have a_z4 : z4.toInt = (f_s 60).toInt := by rw [e_z4]; rfl
        refine lv_icmp_ge (tgt := 101) hx hb dX10_ringFrom_42 (by decide) (fun c5 => ?_) (fun c5 => ?_)
        · skip
          have f_c5 := i_le c5
          refine lv_iconst (v := 0) hx hb dX10_ringFrom_101 (by decide) ?_
          rw [hQ9]
          exact W.iret (v := 0) hx hb hr (fun t ht hW => ⟨⟨0, gw, rfl, Or.inl ⟨by omega, iw⟩, by rw [ht]; exact hP, va_K.moved hW.alike hK, hD⟩, hS.F ht⟩) hS.2.2 dX10_ringFrom_102
        · skip
          have f_c5 := i_nle c5
          refine lv_iload_n hx hb dX10_ringFrom_45 rfl (lv_at hl 4 rfl) ?_
          refine lv_iload hx hb dX10_ringFrom_46 (lv_at hl 0 rfl) ?_
          refine lv_ishr hx hb dX10_ringFrom_48 ?_
          refine lv_topi (fun z6 e_z6 => ?_)
          refine lv_iconst (v := 1) hx hb dX10_ringFrom_49 (by decide) ?_
          refine lv_iand hx hb dX10_ringFrom_50 ?_
          refine lv_topi (fun z7 e_z7 => ?_)
          refine lv_if_ne (tgt := 95) hx hb dX10_ringFrom_51 (by decide) (fun c8 => ?_) (fun c8 => ?_)
          · skip
            have f_c8 := i_ne c8
            obtain ⟨x9, e_x9⟩ : ∃ yy : Int32, yy = x_33 + 1 := ⟨_, rfl⟩
            refine lv_iinc (v := x9) (lv' := [(4, .int x9), (3, .int z2), (0, .ref h0), (1, .int p0), (2, .int p1)]) hx hb dX10_ringFrom_95 hl (k := 0) rfl (by rw [e_x9]; rfl) (by decide) rfl (fun ls hl => ?_)
            (first | have t_x9 := i_add e_x9 (by omega) (by omega) | skip)
            refine lv_goto (tgt := 33) hx hb dX10_ringFrom_98 (by decide) ?_
            exact ih_33 (i_33 + 1) x9 (by omega) (by omega) (by rw [e_x9, e_x_33]; exact nI_1 i_33) gw iw _ _ (K_s hK [(0, 2)] rfl) (P_s hP [(0, 3)] rfl) (D_s hD [(0, 3)] 3 rfl (by decide +kernel) rfl) hS ls (lv_sub hl [0, 1, 2, 3, 4] rfl)
          · skip
            have f_c8 := i_eq c8
            have hbit : Nat.testBit kq i_33 = false := bit_0 hpw.1 (by omega) hon e_x_33 e_z6 e_z7 (by omega)
            have hn7 : n9 < 8 := pw_lt hpw (by omega) hbit
            refine lv_aload_n hx hb dX10_ringFrom_54 rfl (lv_at hl 2 rfl) ?_
            refine lv_iload_n hx hb dX10_ringFrom_55 rfl (lv_at hl 1 rfl) ?_
            refine lv_iload hx hb dX10_ringFrom_56 (lv_at hl 0 rfl) ?_
            obtain ⟨hPc, hDc, hFc, hCm, hNw⟩ := C_s (wc := [eO h0 9 [.ref q_s, .long v_fees, .ref q_thought, .long v_thoughtFees, .ref q_image, .long v_imageFees, .int v_hasImage, .ref q_tape, .int v_taped, .ref q_texts, .ref q_sizes, .int v_programs, .ref q_imageTexts, .ref q_imageSizes, .int v_imagePrograms, .int v_here, .int v_open, .int v_running, .int v_begun, .ref q_held, .ref q_marks, .int v_markMany, .ref q_trace, .int v_traced, .ref q_keptBalances, .ref q_keptFees, .int v_deep, .ref q_way, .ref q_sorts, .ref q_rowMany, .ref q_items, .ref q_moved], eI q_s k_s 125 f_s]) hP hD hS hA [(0, 2)] 3 rfl (by decide +kernel) rfl
            have hKc := K_s (tys' := [(k_s, .int)]) hK [(0, 1)] rfl
            refine va_calli (va_runV (As := [.int z2, .int x_33]) (rest := []) ⟨hx, hb, hml, hown, hts⟩ (c_X10_owedTo l dC dI h0 z2 x_33 q_s v_fees q_thought v_thoughtFees q_image v_imageFees v_hasImage q_tape v_taped q_texts q_sizes v_programs q_imageTexts q_imageSizes v_imagePrograms v_here v_open v_running v_begun q_held q_marks v_markMany q_trace v_traced q_keptBalances q_keptFees v_deep q_way q_sorts q_rowMany q_items q_moved k_s f_s H.size (by first | assumption | omega) (by first | assumption | omega) (by first | assumption | omega) (by first | assumption | omega)) (cwV 2 hts gX10_ringFrom_X10_owedTo rfl rfl rfl (by decide +kernel) ⟨(show (0) + 1 ≤ 2 * nd + 6 by omega), (show 8 + (3 + 11) + (0) ≤ 100 * nd + 100 by omega)⟩) ⟨fun a U g mk q => by obtain ⟨q0, q1, qP, qK, qD⟩ := q; exact ⟨q0, q1, qP, va_K.moved (u := U) (U := U.calling g mk a) (Vm.Alike.refl U.vm) qK, qD⟩, va_recv (s := s) (q := (RX10, TX10, 32)) hKc hPc (ci := 9) (q0 := 0) rfl rfl, fun U hU hW => ⟨rfl, by rw [hU], by rw [hU]; exact hPc, va_K.moved hW.alike hKc, hDc.weaken (fun _ _ _ _ => trivial)⟩⟩ rfl rfl hl.1 rfl (lv_room (Nat.le_of_ble_eq_true rfl)) dX10_ringFrom_58 ⟨Nat.le_of_ble_eq_true rfl, Nat.le_of_ble_eq_true rfl⟩) hS (fun q _ h => hFc q h) hFc (fun r10 u t H1 locs ht hvm hw hB hz1 hk1 hS => ?_)
            obtain ⟨hP1, hK1, hD1⟩ := hB
            rw [ht] at hP1
            have hK1 := va_K.moved hvm.symm hK1
            try dsimp only at hw
            obtain ⟨hP, hD⟩ := J_s (wL := [eI q_way k_way 8 gw, eO h0 9 [.ref q_s, .long v_fees, .ref q_thought, .long v_thoughtFees, .ref q_image, .long v_imageFees, .int v_hasImage, .ref q_tape, .int v_taped, .ref q_texts, .ref q_sizes, .int v_programs, .ref q_imageTexts, .ref q_imageSizes, .int v_imagePrograms, .int v_here, .int v_open, .int v_running, .int v_begun, .ref q_held, .ref q_marks, .int v_markMany, .ref q_trace, .int v_traced, .ref q_keptBalances, .ref q_keptFees, .int v_deep, .ref q_way, .ref q_sorts, .ref q_rowMany, .ref q_items, .ref q_moved], eI q_s k_s 125 f_s]) hP hD [(0, 2)] [(2, 1)] hCm hNw (by decide +kernel) hk1 hFc hP1 hD1 rfl
            have hK := KJ_s (tys' := [(k_way, .int), (k_s, .int)]) hK hK1 [(1, 1)] rfl
            generalize H1 = H at hP hS ⊢
            have h_r10 := hw
            have t_r10 := i_eq hw
            refine lv_if_le (tgt := 95) hx hb dX10_ringFrom_61 (by decide) (fun c11 => ?_) (fun c11 => ?_)
            · skip
              have f_c11 := i_le c11
              obtain ⟨x12, e_x12⟩ : ∃ yy : Int32, yy = x_33 + 1 := ⟨_, rfl⟩
              refine lv_iinc (v := x12) (lv' := [(4, .int x12), (3, .int z2), (0, .ref h0), (1, .int p0), (2, .int p1)]) hx hb dX10_ringFrom_95 hl (k := 0) rfl (by rw [e_x12]; rfl) (by decide) rfl (fun ls hl => ?_)
              (first | have t_x12 := i_add e_x12 (by omega) (by omega) | skip)
              refine lv_goto (tgt := 33) hx hb dX10_ringFrom_98 (by decide) ?_
              exact ih_33 (i_33 + 1) x12 (by omega) (by omega) (by rw [e_x12, e_x_33]; exact nI_1 i_33) gw iw _ _ (K_s hK [(1, 1), (0, 1)] rfl) (P_s hP [(1, 2), (0, 1)] rfl) (D_s hD [(1, 2), (0, 1)] 3 rfl (by decide +kernel) rfl) hS ls (lv_sub hl [0, 1, 2, 3, 4] rfl)
            · skip
              have f_c11 := i_nle c11
              obtain ⟨m9, hm9⟩ : ∃ m9 : Nat, m9 + 1 = nd := ⟨nd - 1, by omega⟩
              have ih_m := ihr m9 hm9
              refine lv_aload_n hx hb dX10_ringFrom_64 rfl (lv_at hl 2 rfl) ?_
              refine va_get (D := (dC, dI)) (ci := 9) (v := .ref q_way) (C := RX10) (T := TX10) (N := 32) hx hb hts (fun w h => List.mem_cons_of_mem _ (inlX10 w h)) hown hK hP 1 rfl rfl 27 (by decide) (hts (.fieldLink RX10 52 "ClearingGatesModel" "way" "[I") (List.mem_cons_of_mem _ mw_636)) (fun _ h9 => h9) rfl dX10_ringFrom_65 ?_
              refine lv_iload_n hx hb dX10_ringFrom_68 rfl (lv_at hl 3 rfl) ?_
              refine lv_iload hx hb dX10_ringFrom_69 (lv_at hl 0 rfl) ?_
              refine va_iast (D := (dC, dI)) hx hb hK hP hD hS 0 0 rfl rfl (vp_in_iff.mpr ⟨by omega, by omega⟩) dX10_ringFrom_71 (fun H locs hP hD hS => ?_)
              generalize e_g13 : (upd gw (p0).toNatClampNeg x_33) = g13 at hP hD
              obtain ⟨hP, hD⟩ := X_s (ws' := [eI q_way k_way 8 g13, eO h0 9 [.ref q_s, .long v_fees, .ref q_thought, .long v_thoughtFees, .ref q_image, .long v_imageFees, .int v_hasImage, .ref q_tape, .int v_taped, .ref q_texts, .ref q_sizes, .int v_programs, .ref q_imageTexts, .ref q_imageSizes, .int v_imagePrograms, .int v_here, .int v_open, .int v_running, .int v_begun, .ref q_held, .ref q_marks, .int v_markMany, .ref q_trace, .int v_traced, .ref q_keptBalances, .ref q_keptFees, .int v_deep, .ref q_way, .ref q_sorts, .ref q_rowMany, .ref q_items, .ref q_moved], eI q_s k_s 125 f_s]) hP hD rfl
              have hpq : Pw f_s g13 (n9 + 1) (kq ||| 2 ^ i_33) := by rw [← e_g13]; exact pw_push (pw_cg iw hpw) (by omega) hbit (by omega) e_x_33 hp0 (by rw [iw (n9 - 1) (by omega), ← w_z2]; unfold od; omega)
              refine lv_aload_n hx hb dX10_ringFrom_72 rfl (lv_at hl 2 rfl) ?_
              refine lv_iload_n hx hb dX10_ringFrom_73 rfl (lv_at hl 3 rfl) ?_
              refine lv_iconst (v := 1) hx hb dX10_ringFrom_74 (by decide) ?_
              refine lv_iadd hx hb dX10_ringFrom_75 ?_
              refine lv_topi (fun z14 e_z14 => ?_)
              (first | have t_z14 := i_add e_z14 (by omega) (by omega) | skip)
              refine lv_iload_n hx hb dX10_ringFrom_76 rfl (lv_at hl 4 rfl) ?_
              refine lv_iconst (v := 1) hx hb dX10_ringFrom_77 (by decide) ?_
              refine lv_iload hx hb dX10_ringFrom_78 (lv_at hl 0 rfl) ?_
              refine lv_ishl hx hb dX10_ringFrom_80 ?_
              refine lv_topi (fun z15 e_z15 => ?_)
              refine lv_ior hx hb dX10_ringFrom_81 ?_
              refine lv_topi (fun z16 e_z16 => ?_)
              obtain ⟨hPc, hDc, hFc, hCm, hNw⟩ := C_s (wc := [eO h0 9 [.ref q_s, .long v_fees, .ref q_thought, .long v_thoughtFees, .ref q_image, .long v_imageFees, .int v_hasImage, .ref q_tape, .int v_taped, .ref q_texts, .ref q_sizes, .int v_programs, .ref q_imageTexts, .ref q_imageSizes, .int v_imagePrograms, .int v_here, .int v_open, .int v_running, .int v_begun, .ref q_held, .ref q_marks, .int v_markMany, .ref q_trace, .int v_traced, .ref q_keptBalances, .ref q_keptFees, .int v_deep, .ref q_way, .ref q_sorts, .ref q_rowMany, .ref q_items, .ref q_moved], eI q_s k_s 125 f_s, eI q_way k_way 8 g13]) hP hD hS hA [(1, 2), (0, 1)] 3 rfl (by decide +kernel) rfl
              have hKc := K_s (tys' := [(k_s, .int), (k_way, .int)]) hK [(1, 1), (0, 1)] rfl
              refine va_calli (va_runV (As := [.int z14, .int z16]) (rest := []) ⟨hx, hb, hml, hown, hts⟩ (ih_m h0 z14 z16 q_s v_fees q_thought v_thoughtFees q_image v_imageFees v_hasImage q_tape v_taped q_texts q_sizes v_programs q_imageTexts q_imageSizes v_imagePrograms v_here v_open v_running v_begun q_held q_marks v_markMany q_trace v_traced q_keptBalances q_keptFees v_deep q_way q_sorts q_rowMany q_items q_moved k_s f_s k_way g13 (n9 + 1) (kq ||| 2 ^ i_33) H.size hms (by first | assumption | omega) (by first | assumption | omega) (by first | assumption | omega) (bit_1 hpw.1 (by omega) hon e_x_33 e_z15 e_z16) hpq) (cwV 2 hts gX10_ringFrom_X10_ringFrom rfl rfl rfl (by decide +kernel) ⟨(show (2 * m9 + 6) + 1 ≤ 2 * nd + 6 by omega), (show 8 + (6 + 11) + (100 * m9 + 100) ≤ 100 * nd + 100 by omega)⟩) ⟨fun a U g mk q => by obtain ⟨q0, q1, qP, qK, qD⟩ := q; exact ⟨q0, q1, qP, va_K.moved (u := U) (U := U.calling g mk a) (Vm.Alike.refl U.vm) qK, qD⟩, va_recv (s := s) (q := (RX10, TX10, 32)) hKc hPc (ci := 9) (q0 := 0) rfl rfl, fun U hU hW => ⟨rfl, by rw [hU], by rw [hU]; exact hPc, va_K.moved hW.alike hKc, hDc.weaken (fun _ _ _ _ => trivial)⟩⟩ rfl rfl hl.1 rfl (lv_room (Nat.le_of_ble_eq_true rfl)) dX10_ringFrom_82 ⟨Nat.le_of_ble_eq_true rfl, Nat.le_of_ble_eq_true rfl⟩) hS (fun q _ h => hFc q h) hFc (fun r17 u t H1 locs ht hvm hw hB hz1 hk1 hS => ?_)
              obtain ⟨u18, rfl⟩ : ∃ z, z = u := ⟨_, rfl⟩
              obtain ⟨hP1, hK1, hD1⟩ := hB
              rw [ht] at hP1
              have hK1 := va_K.moved hvm.symm hK1
              try dsimp only at hw
              obtain ⟨hP, hD⟩ := J_s (wL := [eO h0 9 [.ref q_s, .long v_fees, .ref q_thought, .long v_thoughtFees, .ref q_image, .long v_imageFees, .int v_hasImage, .ref q_tape, .int v_taped, .ref q_texts, .ref q_sizes, .int v_programs, .ref q_imageTexts, .ref q_imageSizes, .int v_imagePrograms, .int v_here, .int v_open, .int v_running, .int v_begun, .ref q_held, .ref q_marks, .int v_markMany, .ref q_trace, .int v_traced, .ref q_keptBalances, .ref q_keptFees, .int v_deep, .ref q_way, .ref q_sorts, .ref q_rowMany, .ref q_items, .ref q_moved], eI q_s k_s 125 f_s, eI q_way k_way 8 u18]) hP hD [(1, 2), (0, 1)] [] hCm hNw (by decide +kernel) hk1 hFc hP1 hD1 rfl
              have hK := KJ_s (tys' := [(k_s, .int), (k_way, .int)]) hK hK1 [] rfl
              generalize H1 = H at hP hS ⊢
              have h_r17 := hw
              refine lv_istore (lv' := [(5, .int r17), (4, .int x_33), (3, .int z2), (0, .ref h0), (1, .int p0), (2, .int p1)]) hx hb dX10_ringFrom_85 hl (by decide) rfl (fun ls hl => ?_)
              refine lv_iload hx hb dX10_ringFrom_87 (lv_at hl 0 rfl) ?_
              refine lv_if_le (tgt := 95) hx hb dX10_ringFrom_89 (by decide) (fun c19 => ?_) (fun c19 => ?_)
              · skip
                have f_c19 := i_le c19
                obtain ⟨x20, e_x20⟩ : ∃ yy : Int32, yy = x_33 + 1 := ⟨_, rfl⟩
                refine lv_iinc (v := x20) (lv' := [(4, .int x20), (5, .int r17), (3, .int z2), (0, .ref h0), (1, .int p0), (2, .int p1)]) hx hb dX10_ringFrom_95 hl (k := 1) rfl (by rw [e_x20]; rfl) (by decide) rfl (fun ls hl => ?_)
                (first | have t_x20 := i_add e_x20 (by omega) (by omega) | skip)
                refine lv_goto (tgt := 33) hx hb dX10_ringFrom_98 (by decide) ?_
                exact ih_33 (i_33 + 1) x20 (by omega) (by omega) (by rw [e_x20, e_x_33]; exact nI_1 i_33) u18 (back_x h_r17 (by omega) e_g13 hp0 iw) _ _ (K_s hK [(0, 2)] rfl) (P_s hP [(0, 3)] rfl) (D_s hD [(0, 3)] 3 rfl (by decide +kernel) rfl) hS ls (lv_sub hl [0, 2, 3, 4, 5] rfl)
              · skip
                have f_c19 := i_nle c19
                refine lv_iload hx hb dX10_ringFrom_92 (lv_at hl 0 rfl) ?_
                rw [hQ9]
                exact W.iret (v := r17) hx hb hr (fun t ht hW => ⟨⟨r17, u18, rfl, Or.inr (by rcases h_r17 with q | q; exact absurd q.1 (by omega); exact q), by rw [ht]; exact hP, va_K.moved hW.alike hK, hD⟩, hS.F ht⟩) hS.2.2 dX10_ringFrom_94
    exact loop_33 (8 + 1) 0 0 (by omega) (by omega) rfl f_way (fun _ _ => rfl) _ _ hK hP hD hS ls hl
  · skip
    have f_c3 := i_nle c3
    refine lv_aload_n hx hb dX10_ringFrom_14 rfl (lv_at hl 1 rfl) ?_
    refine lv_iload_n hx hb dX10_ringFrom_15 rfl (lv_at hl 0 rfl) ?_
    refine lv_aload_n hx hb dX10_ringFrom_16 rfl (lv_at hl 1 rfl) ?_
    refine va_get (D := (dC, dI)) (ci := 9) (v := .ref q_way) (C := RX10) (T := TX10) (N := 32) hx hb hts (fun w h => List.mem_cons_of_mem _ (inlX10 w h)) hown hK hP 0 rfl rfl 27 (by decide) (hts (.fieldLink RX10 52 "ClearingGatesModel" "way" "[I") (List.mem_cons_of_mem _ mw_636)) (fun _ h9 => h9) rfl dX10_ringFrom_17 ?_
    refine lv_iconst (v := 0) hx hb dX10_ringFrom_20 (by decide) ?_
    refine va_iald (D := (dC, dI)) hx hb hK hP 2 1 rfl rfl (vp_in_iff.mpr ⟨by decide, by decide⟩) dX10_ringFrom_21 ?_
    refine lv_topi (fun z21 e_z21 => ?_)
    have w_z21 : z21 = f_way 0 := by rw [e_z21]; rfl
    obtain ⟨ra_z21, rb_z21⟩ : 0 ≤ z21.toInt ∧ z21.toInt < 8 := by rw [w_z21]; exact ⟨(hpw.2.2.1 0 (by omega)).1, (hpw.2.2.1 0 (by omega)).2.1⟩
    obtain ⟨hPc, hDc, hFc, hCm, hNw⟩ := C_s (wc := [eO h0 9 [.ref q_s, .long v_fees, .ref q_thought, .long v_thoughtFees, .ref q_image, .long v_imageFees, .int v_hasImage, .ref q_tape, .int v_taped, .ref q_texts, .ref q_sizes, .int v_programs, .ref q_imageTexts, .ref q_imageSizes, .int v_imagePrograms, .int v_here, .int v_open, .int v_running, .int v_begun, .ref q_held, .ref q_marks, .int v_markMany, .ref q_trace, .int v_traced, .ref q_keptBalances, .ref q_keptFees, .int v_deep, .ref q_way, .ref q_sorts, .ref q_rowMany, .ref q_items, .ref q_moved], eI q_s k_s 125 f_s]) hP hD hS hA [(0, 2)] 3 rfl (by decide +kernel) rfl
    have hKc := K_s (tys' := [(k_s, .int)]) hK [(0, 1)] rfl
    refine va_calli (va_runV (As := [.int z2, .int z21]) (rest := []) ⟨hx, hb, hml, hown, hts⟩ (c_X10_owedTo l dC dI h0 z2 z21 q_s v_fees q_thought v_thoughtFees q_image v_imageFees v_hasImage q_tape v_taped q_texts q_sizes v_programs q_imageTexts q_imageSizes v_imagePrograms v_here v_open v_running v_begun q_held q_marks v_markMany q_trace v_traced q_keptBalances q_keptFees v_deep q_way q_sorts q_rowMany q_items q_moved k_s f_s s.heap.size (by first | assumption | omega) (by first | assumption | omega) (by first | assumption | omega) (by first | assumption | omega)) (cwV 2 hts gX10_ringFrom_X10_owedTo rfl rfl rfl (by decide +kernel) ⟨(show (0) + 1 ≤ 2 * nd + 6 by omega), (show 8 + (3 + 11) + (0) ≤ 100 * nd + 100 by omega)⟩) ⟨fun a U g mk q => by obtain ⟨q0, q1, qP, qK, qD⟩ := q; exact ⟨q0, q1, qP, va_K.moved (u := U) (U := U.calling g mk a) (Vm.Alike.refl U.vm) qK, qD⟩, va_recv (s := s) (q := (RX10, TX10, 32)) hKc hPc (ci := 9) (q0 := 0) rfl rfl, fun U hU hW => ⟨rfl, by rw [hU], by rw [hU]; exact hPc, va_K.moved hW.alike hKc, hDc.weaken (fun _ _ _ _ => trivial)⟩⟩ rfl rfl hl.1 rfl (lv_room (Nat.le_of_ble_eq_true rfl)) dX10_ringFrom_22 ⟨Nat.le_of_ble_eq_true rfl, Nat.le_of_ble_eq_true rfl⟩) hS (fun q _ h => hFc q h) hFc (fun r22 u t H1 locs ht hvm hw hB hz1 hk1 hS => ?_)
    obtain ⟨hP1, hK1, hD1⟩ := hB
    rw [ht] at hP1
    have hK1 := va_K.moved hvm.symm hK1
    try dsimp only at hw
    obtain ⟨hP, hD⟩ := J_s (wL := [eI q_way k_way 8 f_way, eO h0 9 [.ref q_s, .long v_fees, .ref q_thought, .long v_thoughtFees, .ref q_image, .long v_imageFees, .int v_hasImage, .ref q_tape, .int v_taped, .ref q_texts, .ref q_sizes, .int v_programs, .ref q_imageTexts, .ref q_imageSizes, .int v_imagePrograms, .int v_here, .int v_open, .int v_running, .int v_begun, .ref q_held, .ref q_marks, .int v_markMany, .ref q_trace, .int v_traced, .ref q_keptBalances, .ref q_keptFees, .int v_deep, .ref q_way, .ref q_sorts, .ref q_rowMany, .ref q_items, .ref q_moved], eI q_s k_s 125 f_s]) hP hD [(0, 2)] [(2, 1)] hCm hNw (by decide +kernel) hk1 hFc hP1 hD1 rfl
    have hK := KJ_s (tys' := [(k_way, .int), (k_s, .int)]) hK hK1 [(1, 1)] rfl
    generalize H1 = H at hP hS ⊢
    have h_r22 := hw
    have t_r22 := i_eq hw
    refine lv_if_le (tgt := 30) hx hb dX10_ringFrom_25 (by decide) (fun c23 => ?_) (fun c23 => ?_)
    · skip
      have f_c23 := i_le c23
      refine lv_iconst (v := 0) hx hb dX10_ringFrom_30 (by decide) ?_
      refine lv_istore (lv' := [(4, .int 0), (3, .int z2), (0, .ref h0), (1, .int p0), (2, .int p1)]) hx hb dX10_ringFrom_31 hl (by decide) rfl (fun ls hl => ?_)
      have loop_33 : ∀ (n i_33 : Nat) (x_33 : Int32), i_33 ≤ 8 → 8 < i_33 + n → x_33 = nI i_33 → ∀ (gw : Nat → Int32), (∀ k : Nat, k < n9 → gw k = f_way k) → ∀ (H : Heap) (locs : List Loc), va_K (dC, dI) vwCl [(k_way, .int), (k_s, .int)] s → va_P (dC, dI) vwCl [eI q_way k_way 8 gw, eO h0 9 [.ref q_s, .long v_fees, .ref q_thought, .long v_thoughtFees, .ref q_image, .long v_imageFees, .int v_hasImage, .ref q_tape, .int v_taped, .ref q_texts, .ref q_sizes, .int v_programs, .ref q_imageTexts, .ref q_imageSizes, .int v_imagePrograms, .int v_here, .int v_open, .int v_running, .int v_begun, .ref q_held, .ref q_marks, .int v_markMany, .ref q_trace, .int v_traced, .ref q_keptBalances, .ref q_keptFees, .int v_deep, .ref q_way, .ref q_sorts, .ref q_rowMany, .ref q_items, .ref q_moved], eI q_s k_s 125 f_s] H → va_D A [eI q_way k_way 8 gw, eO h0 9 [.ref q_s, .long v_fees, .ref q_thought, .long v_thoughtFees, .ref q_image, .long v_imageFees, .int v_hasImage, .ref q_tape, .int v_taped, .ref q_texts, .ref q_sizes, .int v_programs, .ref q_imageTexts, .ref q_imageSizes, .int v_imagePrograms, .int v_here, .int v_open, .int v_running, .int v_begun, .ref q_held, .ref q_marks, .int v_markMany, .ref q_trace, .int v_traced, .ref q_keptBalances, .ref q_keptFees, .int v_deep, .ref q_way, .ref q_sorts, .ref q_rowMany, .ref q_items, .ref q_moved], eI q_s k_s 125 f_s] → va_S A s.heap H locs → ∀ (ls : Array Slot), lv_has ls 6 [(4, .int x_33), (3, .int z2), (0, .ref h0), (1, .int p0), (2, .int p1)] → W p l e ({ frames := 2 * nd + 6, cells := 0, slots := 0, locals := 100 * nd + 100 }) s m (([.ref h0, .int p0, .int p1] : List Value).toArray) below meth c H locs 0 0 Q9 (F0 m 33 ls []) := by
        intro n
        induction n with
        | zero => intro i_33 x_33 h1 h2; exact absurd h2 (by omega)
        | succ n ih_33 =>
          intro i_33 x_33 hi_33 hn_33 e_x_33 gw iw H locs hK hP hD hS ls hl
          have t_x_33 : x_33.toInt = (i_33 : Int) := by rw [e_x_33]; exact nI_toInt (by omega)
          refine lv_iload hx hb dX10_ringFrom_33 (lv_at hl 0 rfl) ?_
          refine lv_aload_n hx hb dX10_ringFrom_35 rfl (lv_at hl 2 rfl) ?_
          refine va_get (D := (dC, dI)) (ci := 9) (v := .ref q_s) (C := RX10) (T := TX10) (N := 32) hx hb hts (fun w h => List.mem_cons_of_mem _ (inlX10 w h)) hown hK hP 1 rfl rfl 0 (by decide) (hts (.fieldLink RX10 11 "ClearingGatesModel" "s" "[I") (List.mem_cons_of_mem _ mw_609)) (fun _ h9 => h9) rfl dX10_ringFrom_36 ?_
          refine lv_bipush (v := 60) hx hb dX10_ringFrom_39 (by decide) ?_
          refine va_iald (D := (dC, dI)) hx hb hK hP 2 1 rfl rfl (vp_in_iff.mpr ⟨by decide, by decide⟩) dX10_ringFrom_41 ?_
          refine lv_topi (fun z24 e_z24 => ?_)
          have a_z24 : z24.toInt = (f_s 60).toInt := by rw [e_z24]; rfl
          refine lv_icmp_ge (tgt := 101) hx hb dX10_ringFrom_42 (by decide) (fun c25 => ?_) (fun c25 => ?_)
          · skip
            have f_c25 := i_le c25
            refine lv_iconst (v := 0) hx hb dX10_ringFrom_101 (by decide) ?_
            rw [hQ9]
            exact W.iret (v := 0) hx hb hr (fun t ht hW => ⟨⟨0, gw, rfl, Or.inl ⟨by omega, iw⟩, by rw [ht]; exact P_s hP [(1, 2), (0, 1)] rfl, va_K.moved hW.alike (K_s hK [(1, 1), (0, 1)] rfl), D_s hD [(1, 2), (0, 1)] 3 rfl (by decide +kernel) rfl⟩, hS.F ht⟩) hS.2.2 dX10_ringFrom_102
          · skip
            have f_c25 := i_nle c25
            refine lv_iload_n hx hb dX10_ringFrom_45 rfl (lv_at hl 4 rfl) ?_
            refine lv_iload hx hb dX10_ringFrom_46 (lv_at hl 0 rfl) ?_
            refine lv_ishr hx hb dX10_ringFrom_48 ?_
            refine lv_topi (fun z26 e_z26 => ?_)
            refine lv_iconst (v := 1) hx hb dX10_ringFrom_49 (by decide) ?_
            refine lv_iand hx hb dX10_ringFrom_50 ?_
            refine lv_topi (fun z27 e_z27 => ?_)
            refine lv_if_ne (tgt := 95) hx hb dX10_ringFrom_51 (by decide) (fun c28 => ?_) (fun c28 => ?_)
            · skip
              have f_c28 := i_ne c28
              obtain ⟨x29, e_x29⟩ : ∃ yy : Int32, yy = x_33 + 1 := ⟨_, rfl⟩
              refine lv_iinc (v := x29) (lv' := [(4, .int x29), (3, .int z2), (0, .ref h0), (1, .int p0), (2, .int p1)]) hx hb dX10_ringFrom_95 hl (k := 0) rfl (by rw [e_x29]; rfl) (by decide) rfl (fun ls hl => ?_)
              (first | have t_x29 := i_add e_x29 (by omega) (by omega) | skip)
              refine lv_goto (tgt := 33) hx hb dX10_ringFrom_98 (by decide) ?_
              exact ih_33 (i_33 + 1) x29 (by omega) (by omega) (by rw [e_x29, e_x_33]; exact nI_1 i_33) gw iw _ _ (K_s hK [(0, 2)] rfl) (P_s hP [(0, 3)] rfl) (D_s hD [(0, 3)] 3 rfl (by decide +kernel) rfl) hS ls (lv_sub hl [0, 1, 2, 3, 4] rfl)
            · skip
              have f_c28 := i_eq c28
              have hbit : Nat.testBit kq i_33 = false := bit_0 hpw.1 (by omega) hon e_x_33 e_z26 e_z27 (by omega)
              have hn7 : n9 < 8 := pw_lt hpw (by omega) hbit
              refine lv_aload_n hx hb dX10_ringFrom_54 rfl (lv_at hl 2 rfl) ?_
              refine lv_iload_n hx hb dX10_ringFrom_55 rfl (lv_at hl 1 rfl) ?_
              refine lv_iload hx hb dX10_ringFrom_56 (lv_at hl 0 rfl) ?_
              obtain ⟨hPc, hDc, hFc, hCm, hNw⟩ := C_s (wc := [eO h0 9 [.ref q_s, .long v_fees, .ref q_thought, .long v_thoughtFees, .ref q_image, .long v_imageFees, .int v_hasImage, .ref q_tape, .int v_taped, .ref q_texts, .ref q_sizes, .int v_programs, .ref q_imageTexts, .ref q_imageSizes, .int v_imagePrograms, .int v_here, .int v_open, .int v_running, .int v_begun, .ref q_held, .ref q_marks, .int v_markMany, .ref q_trace, .int v_traced, .ref q_keptBalances, .ref q_keptFees, .int v_deep, .ref q_way, .ref q_sorts, .ref q_rowMany, .ref q_items, .ref q_moved], eI q_s k_s 125 f_s]) hP hD hS hA [(1, 2)] 3 rfl (by decide +kernel) rfl
              have hKc := K_s (tys' := [(k_s, .int)]) hK [(1, 1)] rfl
              refine va_calli (va_runV (As := [.int z2, .int x_33]) (rest := []) ⟨hx, hb, hml, hown, hts⟩ (c_X10_owedTo l dC dI h0 z2 x_33 q_s v_fees q_thought v_thoughtFees q_image v_imageFees v_hasImage q_tape v_taped q_texts q_sizes v_programs q_imageTexts q_imageSizes v_imagePrograms v_here v_open v_running v_begun q_held q_marks v_markMany q_trace v_traced q_keptBalances q_keptFees v_deep q_way q_sorts q_rowMany q_items q_moved k_s f_s H.size (by first | assumption | omega) (by first | assumption | omega) (by first | assumption | omega) (by first | assumption | omega)) (cwV 2 hts gX10_ringFrom_X10_owedTo rfl rfl rfl (by decide +kernel) ⟨(show (0) + 1 ≤ 2 * nd + 6 by omega), (show 8 + (3 + 11) + (0) ≤ 100 * nd + 100 by omega)⟩) ⟨fun a U g mk q => by obtain ⟨q0, q1, qP, qK, qD⟩ := q; exact ⟨q0, q1, qP, va_K.moved (u := U) (U := U.calling g mk a) (Vm.Alike.refl U.vm) qK, qD⟩, va_recv (s := s) (q := (RX10, TX10, 32)) hKc hPc (ci := 9) (q0 := 0) rfl rfl, fun U hU hW => ⟨rfl, by rw [hU], by rw [hU]; exact hPc, va_K.moved hW.alike hKc, hDc.weaken (fun _ _ _ _ => trivial)⟩⟩ rfl rfl hl.1 rfl (lv_room (Nat.le_of_ble_eq_true rfl)) dX10_ringFrom_58 ⟨Nat.le_of_ble_eq_true rfl, Nat.le_of_ble_eq_true rfl⟩) hS (fun q _ h => hFc q h) hFc (fun r30 u t H1 locs ht hvm hw hB hz1 hk1 hS => ?_)
              obtain ⟨hP1, hK1, hD1⟩ := hB
              rw [ht] at hP1
              have hK1 := va_K.moved hvm.symm hK1
              try dsimp only at hw
              obtain ⟨hP, hD⟩ := J_s (wL := [eI q_way k_way 8 gw, eO h0 9 [.ref q_s, .long v_fees, .ref q_thought, .long v_thoughtFees, .ref q_image, .long v_imageFees, .int v_hasImage, .ref q_tape, .int v_taped, .ref q_texts, .ref q_sizes, .int v_programs, .ref q_imageTexts, .ref q_imageSizes, .int v_imagePrograms, .int v_here, .int v_open, .int v_running, .int v_begun, .ref q_held, .ref q_marks, .int v_markMany, .ref q_trace, .int v_traced, .ref q_keptBalances, .ref q_keptFees, .int v_deep, .ref q_way, .ref q_sorts, .ref q_rowMany, .ref q_items, .ref q_moved], eI q_s k_s 125 f_s]) hP hD [(1, 2)] [(0, 1)] hCm hNw (by decide +kernel) hk1 hFc hP1 hD1 rfl
              have hK := KJ_s (tys' := [(k_way, .int), (k_s, .int)]) hK hK1 [(0, 1)] rfl
              generalize H1 = H at hP hS ⊢
              have h_r30 := hw
              have t_r30 := i_eq hw
              refine lv_if_le (tgt := 95) hx hb dX10_ringFrom_61 (by decide) (fun c31 => ?_) (fun c31 => ?_)
              · skip
                have f_c31 := i_le c31
                obtain ⟨x32, e_x32⟩ : ∃ yy : Int32, yy = x_33 + 1 := ⟨_, rfl⟩
                refine lv_iinc (v := x32) (lv' := [(4, .int x32), (3, .int z2), (0, .ref h0), (1, .int p0), (2, .int p1)]) hx hb dX10_ringFrom_95 hl (k := 0) rfl (by rw [e_x32]; rfl) (by decide) rfl (fun ls hl => ?_)
                (first | have t_x32 := i_add e_x32 (by omega) (by omega) | skip)
                refine lv_goto (tgt := 33) hx hb dX10_ringFrom_98 (by decide) ?_
                exact ih_33 (i_33 + 1) x32 (by omega) (by omega) (by rw [e_x32, e_x_33]; exact nI_1 i_33) gw iw _ _ (K_s hK [(0, 2)] rfl) (P_s hP [(0, 3)] rfl) (D_s hD [(0, 3)] 3 rfl (by decide +kernel) rfl) hS ls (lv_sub hl [0, 1, 2, 3, 4] rfl)
              · skip
                have f_c31 := i_nle c31
                obtain ⟨m9, hm9⟩ : ∃ m9 : Nat, m9 + 1 = nd := ⟨nd - 1, by omega⟩
                have ih_m := ihr m9 hm9
                refine lv_aload_n hx hb dX10_ringFrom_64 rfl (lv_at hl 2 rfl) ?_
                refine va_get (D := (dC, dI)) (ci := 9) (v := .ref q_way) (C := RX10) (T := TX10) (N := 32) hx hb hts (fun w h => List.mem_cons_of_mem _ (inlX10 w h)) hown hK hP 1 rfl rfl 27 (by decide) (hts (.fieldLink RX10 52 "ClearingGatesModel" "way" "[I") (List.mem_cons_of_mem _ mw_636)) (fun _ h9 => h9) rfl dX10_ringFrom_65 ?_
                refine lv_iload_n hx hb dX10_ringFrom_68 rfl (lv_at hl 3 rfl) ?_
                refine lv_iload hx hb dX10_ringFrom_69 (lv_at hl 0 rfl) ?_
                refine va_iast (D := (dC, dI)) hx hb hK hP hD hS 0 0 rfl rfl (vp_in_iff.mpr ⟨by omega, by omega⟩) dX10_ringFrom_71 (fun H locs hP hD hS => ?_)
                generalize e_g33 : (upd gw (p0).toNatClampNeg x_33) = g33 at hP hD
                obtain ⟨hP, hD⟩ := X_s (ws' := [eI q_way k_way 8 g33, eO h0 9 [.ref q_s, .long v_fees, .ref q_thought, .long v_thoughtFees, .ref q_image, .long v_imageFees, .int v_hasImage, .ref q_tape, .int v_taped, .ref q_texts, .ref q_sizes, .int v_programs, .ref q_imageTexts, .ref q_imageSizes, .int v_imagePrograms, .int v_here, .int v_open, .int v_running, .int v_begun, .ref q_held, .ref q_marks, .int v_markMany, .ref q_trace, .int v_traced, .ref q_keptBalances, .ref q_keptFees, .int v_deep, .ref q_way, .ref q_sorts, .ref q_rowMany, .ref q_items, .ref q_moved], eI q_s k_s 125 f_s]) hP hD rfl
                have hpq : Pw f_s g33 (n9 + 1) (kq ||| 2 ^ i_33) := by rw [← e_g33]; exact pw_push (pw_cg iw hpw) (by omega) hbit (by omega) e_x_33 hp0 (by rw [iw (n9 - 1) (by omega), ← w_z2]; unfold od; omega)
                refine lv_aload_n hx hb dX10_ringFrom_72 rfl (lv_at hl 2 rfl) ?_
                refine lv_iload_n hx hb dX10_ringFrom_73 rfl (lv_at hl 3 rfl) ?_
                refine lv_iconst (v := 1) hx hb dX10_ringFrom_74 (by decide) ?_
                refine lv_iadd hx hb dX10_ringFrom_75 ?_
                refine lv_topi (fun z34 e_z34 => ?_)
                (first | have t_z34 := i_add e_z34 (by omega) (by omega) | skip)
                refine lv_iload_n hx hb dX10_ringFrom_76 rfl (lv_at hl 4 rfl) ?_
                refine lv_iconst (v := 1) hx hb dX10_ringFrom_77 (by decide) ?_
                refine lv_iload hx hb dX10_ringFrom_78 (lv_at hl 0 rfl) ?_
                refine lv_ishl hx hb dX10_ringFrom_80 ?_
                refine lv_topi (fun z35 e_z35 => ?_)
                refine lv_ior hx hb dX10_ringFrom_81 ?_
                refine lv_topi (fun z36 e_z36 => ?_)
                obtain ⟨hPc, hDc, hFc, hCm, hNw⟩ := C_s (wc := [eO h0 9 [.ref q_s, .long v_fees, .ref q_thought, .long v_thoughtFees, .ref q_image, .long v_imageFees, .int v_hasImage, .ref q_tape, .int v_taped, .ref q_texts, .ref q_sizes, .int v_programs, .ref q_imageTexts, .ref q_imageSizes, .int v_imagePrograms, .int v_here, .int v_open, .int v_running, .int v_begun, .ref q_held, .ref q_marks, .int v_markMany, .ref q_trace, .int v_traced, .ref q_keptBalances, .ref q_keptFees, .int v_deep, .ref q_way, .ref q_sorts, .ref q_rowMany, .ref q_items, .ref q_moved], eI q_s k_s 125 f_s, eI q_way k_way 8 g33]) hP hD hS hA [(1, 2), (0, 1)] 3 rfl (by decide +kernel) rfl
                have hKc := K_s (tys' := [(k_s, .int), (k_way, .int)]) hK [(1, 1), (0, 1)] rfl
                refine va_calli (va_runV (As := [.int z34, .int z36]) (rest := []) ⟨hx, hb, hml, hown, hts⟩ (ih_m h0 z34 z36 q_s v_fees q_thought v_thoughtFees q_image v_imageFees v_hasImage q_tape v_taped q_texts q_sizes v_programs q_imageTexts q_imageSizes v_imagePrograms v_here v_open v_running v_begun q_held q_marks v_markMany q_trace v_traced q_keptBalances q_keptFees v_deep q_way q_sorts q_rowMany q_items q_moved k_s f_s k_way g33 (n9 + 1) (kq ||| 2 ^ i_33) H.size hms (by first | assumption | omega) (by first | assumption | omega) (by first | assumption | omega) (bit_1 hpw.1 (by omega) hon e_x_33 e_z35 e_z36) hpq) (cwV 2 hts gX10_ringFrom_X10_ringFrom rfl rfl rfl (by decide +kernel) ⟨(show (2 * m9 + 6) + 1 ≤ 2 * nd + 6 by omega), (show 8 + (6 + 11) + (100 * m9 + 100) ≤ 100 * nd + 100 by omega)⟩) ⟨fun a U g mk q => by obtain ⟨q0, q1, qP, qK, qD⟩ := q; exact ⟨q0, q1, qP, va_K.moved (u := U) (U := U.calling g mk a) (Vm.Alike.refl U.vm) qK, qD⟩, va_recv (s := s) (q := (RX10, TX10, 32)) hKc hPc (ci := 9) (q0 := 0) rfl rfl, fun U hU hW => ⟨rfl, by rw [hU], by rw [hU]; exact hPc, va_K.moved hW.alike hKc, hDc.weaken (fun _ _ _ _ => trivial)⟩⟩ rfl rfl hl.1 rfl (lv_room (Nat.le_of_ble_eq_true rfl)) dX10_ringFrom_82 ⟨Nat.le_of_ble_eq_true rfl, Nat.le_of_ble_eq_true rfl⟩) hS (fun q _ h => hFc q h) hFc (fun r37 u t H1 locs ht hvm hw hB hz1 hk1 hS => ?_)
                obtain ⟨u38, rfl⟩ : ∃ z, z = u := ⟨_, rfl⟩
                obtain ⟨hP1, hK1, hD1⟩ := hB
                rw [ht] at hP1
                have hK1 := va_K.moved hvm.symm hK1
                try dsimp only at hw
                obtain ⟨hP, hD⟩ := J_s (wL := [eO h0 9 [.ref q_s, .long v_fees, .ref q_thought, .long v_thoughtFees, .ref q_image, .long v_imageFees, .int v_hasImage, .ref q_tape, .int v_taped, .ref q_texts, .ref q_sizes, .int v_programs, .ref q_imageTexts, .ref q_imageSizes, .int v_imagePrograms, .int v_here, .int v_open, .int v_running, .int v_begun, .ref q_held, .ref q_marks, .int v_markMany, .ref q_trace, .int v_traced, .ref q_keptBalances, .ref q_keptFees, .int v_deep, .ref q_way, .ref q_sorts, .ref q_rowMany, .ref q_items, .ref q_moved], eI q_s k_s 125 f_s, eI q_way k_way 8 u38]) hP hD [(1, 2), (0, 1)] [] hCm hNw (by decide +kernel) hk1 hFc hP1 hD1 rfl
                have hK := KJ_s (tys' := [(k_s, .int), (k_way, .int)]) hK hK1 [] rfl
                generalize H1 = H at hP hS ⊢
                have h_r37 := hw
                refine lv_istore (lv' := [(5, .int r37), (4, .int x_33), (3, .int z2), (0, .ref h0), (1, .int p0), (2, .int p1)]) hx hb dX10_ringFrom_85 hl (by decide) rfl (fun ls hl => ?_)
                refine lv_iload hx hb dX10_ringFrom_87 (lv_at hl 0 rfl) ?_
                refine lv_if_le (tgt := 95) hx hb dX10_ringFrom_89 (by decide) (fun c39 => ?_) (fun c39 => ?_)
                · skip
                  have f_c39 := i_le c39
                  obtain ⟨x40, e_x40⟩ : ∃ yy : Int32, yy = x_33 + 1 := ⟨_, rfl⟩
                  refine lv_iinc (v := x40) (lv' := [(4, .int x40), (5, .int r37), (3, .int z2), (0, .ref h0), (1, .int p0), (2, .int p1)]) hx hb dX10_ringFrom_95 hl (k := 1) rfl (by rw [e_x40]; rfl) (by decide) rfl (fun ls hl => ?_)
                  (first | have t_x40 := i_add e_x40 (by omega) (by omega) | skip)
                  refine lv_goto (tgt := 33) hx hb dX10_ringFrom_98 (by decide) ?_
                  exact ih_33 (i_33 + 1) x40 (by omega) (by omega) (by rw [e_x40, e_x_33]; exact nI_1 i_33) u38 (back_x h_r37 (by omega) e_g33 hp0 iw) _ _ (K_s hK [(1, 1), (0, 1)] rfl) (P_s hP [(2, 1), (0, 2)] rfl) (D_s hD [(2, 1), (0, 2)] 3 rfl (by decide +kernel) rfl) hS ls (lv_sub hl [0, 2, 3, 4, 5] rfl)
                · skip
                  have f_c39 := i_nle c39
                  refine lv_iload hx hb dX10_ringFrom_92 (lv_at hl 0 rfl) ?_
                  rw [hQ9]
                  exact W.iret (v := r37) hx hb hr (fun t ht hW => ⟨⟨r37, u38, rfl, Or.inr (by rcases h_r37 with q | q; exact absurd q.1 (by omega); exact q), by rw [ht]; exact hP, va_K.moved hW.alike hK, hD⟩, hS.F ht⟩) hS.2.2 dX10_ringFrom_94
      exact loop_33 (8 + 1) 0 0 (by omega) (by omega) rfl f_way (fun _ _ => rfl) _ _ hK hP hD hS ls hl
    · skip
      have f_c23 := i_nle c23
      refine lv_iload_n hx hb dX10_ringFrom_28 rfl (lv_at hl 2 rfl) ?_
      rw [hQ9]
      exact W.iret (v := p0) hx hb hr (fun t ht hW => ⟨⟨p0, f_way, rfl, Or.inr ⟨n9, hp0, pw_ring hpw (by omega) (by rw [← w_z2, ← w_z21]; unfold od; omega)⟩, by rw [ht]; exact P_s hP [(1, 2), (0, 1)] rfl, va_K.moved hW.alike (K_s hK [(1, 1), (0, 1)] rfl), D_s hD [(1, 2), (0, 1)] 3 rfl (by decide +kernel) rfl⟩, hS.F ht⟩) hS.2.2 dX10_ringFrom_29

theorem kr_all (l : Launch) (dC : Nat → ClassId) (dI : Nat → Nat → Nat) : ∀ nd : Nat, KR l dC dI nd := by
  intro nd
  induction nd with
  | zero => intro h0 p0 p1 q_s v_fees q_thought v_thoughtFees q_image v_imageFees v_hasImage q_tape v_taped q_texts q_sizes v_programs q_imageTexts q_imageSizes v_imagePrograms v_here v_open v_running v_begun q_held q_marks v_markMany q_trace v_traced q_keptBalances q_keptFees v_deep q_way q_sorts q_rowMany q_items q_moved k_s f_s k_way f_way n9 kq sz hms hp0 hn1 hnd hon hpw; exact c_X10_ringFrom l dC dI h0 p0 p1 q_s v_fees q_thought v_thoughtFees q_image v_imageFees v_hasImage q_tape v_taped q_texts q_sizes v_programs q_imageTexts q_imageSizes v_imagePrograms v_here v_open v_running v_begun q_held q_marks v_markMany q_trace v_traced q_keptBalances q_keptFees v_deep q_way q_sorts q_rowMany q_items q_moved k_s f_s k_way f_way n9 kq 0 sz hms hp0 hn1 hnd hon hpw (fun m hm => absurd hm (by omega))
  | succ nd ih => intro h0 p0 p1 q_s v_fees q_thought v_thoughtFees q_image v_imageFees v_hasImage q_tape v_taped q_texts q_sizes v_programs q_imageTexts q_imageSizes v_imagePrograms v_here v_open v_running v_begun q_held q_marks v_markMany q_trace v_traced q_keptBalances q_keptFees v_deep q_way q_sorts q_rowMany q_items q_moved k_s f_s k_way f_way n9 kq sz hms hp0 hn1 hnd hon hpw; exact c_X10_ringFrom l dC dI h0 p0 p1 q_s v_fees q_thought v_thoughtFees q_image v_imageFees v_hasImage q_tape v_taped q_texts q_sizes v_programs q_imageTexts q_imageSizes v_imagePrograms v_here v_open v_running v_begun q_held q_marks v_markMany q_trace v_traced q_keptBalances q_keptFees v_deep q_way q_sorts q_rowMany q_items q_moved k_s f_s k_way f_way n9 kq (nd + 1) sz hms hp0 hn1 hnd hon hpw (fun m hm => by have e : m = nd := (by omega); rw [e]; exact ih)
