set_option maxRecDepth 100000 in
def KT (l : Launch) (dC : Nat → ClassId) (dI : Nat → Nat → Nat) (nd : Nat) : Prop := ∀ (h0 : Nat) (p0 : Int32) (q_s : Nat) (v_fees : Int64) (q_thought : Nat) (v_thoughtFees : Int64) (q_image : Nat) (v_imageFees : Int64) (v_hasImage : Int32) (q_tape : Nat) (v_taped : Int32) (q_texts : Nat) (q_sizes : Nat) (v_programs : Int32) (q_imageTexts : Nat) (q_imageSizes : Nat) (v_imagePrograms : Int32) (v_here : Int32) (v_open : Int32) (v_running : Int32) (v_begun : Int32) (q_held : Nat) (q_marks : Nat) (v_markMany : Int32) (q_trace : Nat) (v_traced : Int32) (q_keptBalances : Nat) (q_keptFees : Nat) (v_deep : Int32) (q_way : Nat) (q_sorts : Nat) (q_rowMany : Nat) (q_items : Nat) (q_moved : Nat) (k_tape : ClassId) (f_tape : Nat → Int32) (kk : Nat) (n9 : Nat) (sz : Nat) (hh : v_here.toInt = (kk : Int)) (htn : v_taped.toInt = (n9 : Int)) (hn80 : n9 ≤ 80) (hkk : kk ≤ n9) (hop1 : 0 ≤ v_open.toInt) (hop : v_open.toInt + (nd : Int) = 8), Met l yX10_takesItem wsX10_takesItem ({ frames := 5 * nd + 10, cells := 0, slots := 0, locals := 200 * nd + 200 }) (va_Pc [.ref h0, .int p0] (fun U => U.heap.size = sz ∧ va_P (dC, dI) vwCl [eO h0 9 [.ref q_s, .long v_fees, .ref q_thought, .long v_thoughtFees, .ref q_image, .long v_imageFees, .int v_hasImage, .ref q_tape, .int v_taped, .ref q_texts, .ref q_sizes, .int v_programs, .ref q_imageTexts, .ref q_imageSizes, .int v_imagePrograms, .int v_here, .int v_open, .int v_running, .int v_begun, .ref q_held, .ref q_marks, .int v_markMany, .ref q_trace, .int v_traced, .ref q_keptBalances, .ref q_keptFees, .int v_deep, .ref q_way, .ref q_sorts, .ref q_rowMany, .ref q_items, .ref q_moved], eI q_tape k_tape 80 f_tape] U.heap ∧ va_K (dC, dI) vwCl [(k_tape, .int)] U ∧ va_D (fun _ => True) [eO h0 9 [.ref q_s, .long v_fees, .ref q_thought, .long v_thoughtFees, .ref q_image, .long v_imageFees, .int v_hasImage, .ref q_tape, .int v_taped, .ref q_texts, .ref q_sizes, .int v_programs, .ref q_imageTexts, .ref q_imageSizes, .int v_imagePrograms, .int v_here, .int v_open, .int v_running, .int v_begun, .ref q_held, .ref q_marks, .int v_markMany, .ref q_trace, .int v_traced, .ref q_keptBalances, .ref q_keptFees, .int v_deep, .ref q_way, .ref q_sorts, .ref q_rowMany, .ref q_items, .ref q_moved], eI q_tape k_tape 80 f_tape])) (va_Qi (fun (r : Int32) (u : Int32 × Int32) => match u with | (v_here2, v_open2) => (r = 1 ∧ v_open2.toInt = v_open.toInt ∧ ∃ e : Nat, v_here2.toInt = (e : Int) ∧ It f_tape n9 nd kk e) ∨ (r = 0 ∧ (0 : Int) ≤ 0)) (fun (u : Int32 × Int32) (t : State) => match u with | (v_here2, v_open2) => va_P (dC, dI) vwCl [eO h0 9 [.ref q_s, .long v_fees, .ref q_thought, .long v_thoughtFees, .ref q_image, .long v_imageFees, .int v_hasImage, .ref q_tape, .int v_taped, .ref q_texts, .ref q_sizes, .int v_programs, .ref q_imageTexts, .ref q_imageSizes, .int v_imagePrograms, .int v_here2, .int v_open2, .int v_running, .int v_begun, .ref q_held, .ref q_marks, .int v_markMany, .ref q_trace, .int v_traced, .ref q_keptBalances, .ref q_keptFees, .int v_deep, .ref q_way, .ref q_sorts, .ref q_rowMany, .ref q_items, .ref q_moved], eI q_tape k_tape 80 f_tape] t.heap ∧ va_K (dC, dI) vwCl [(k_tape, .int)] t ∧ va_D (va_A [eO h0 9 [.ref q_s, .long v_fees, .ref q_thought, .long v_thoughtFees, .ref q_image, .long v_imageFees, .int v_hasImage, .ref q_tape, .int v_taped, .ref q_texts, .ref q_sizes, .int v_programs, .ref q_imageTexts, .ref q_imageSizes, .int v_imagePrograms, .int v_here, .int v_open, .int v_running, .int v_begun, .ref q_held, .ref q_marks, .int v_markMany, .ref q_trace, .int v_traced, .ref q_keptBalances, .ref q_keptFees, .int v_deep, .ref q_way, .ref q_sorts, .ref q_rowMany, .ref q_items, .ref q_moved], eI q_tape k_tape 80 f_tape] sz) [eO h0 9 [.ref q_s, .long v_fees, .ref q_thought, .long v_thoughtFees, .ref q_image, .long v_imageFees, .int v_hasImage, .ref q_tape, .int v_taped, .ref q_texts, .ref q_sizes, .int v_programs, .ref q_imageTexts, .ref q_imageSizes, .int v_imagePrograms, .int v_here2, .int v_open2, .int v_running, .int v_begun, .ref q_held, .ref q_marks, .int v_markMany, .ref q_trace, .int v_traced, .ref q_keptBalances, .ref q_keptFees, .int v_deep, .ref q_way, .ref q_sorts, .ref q_rowMany, .ref q_items, .ref q_moved], eI q_tape k_tape 80 f_tape]) (va_A [eO h0 9 [.ref q_s, .long v_fees, .ref q_thought, .long v_thoughtFees, .ref q_image, .long v_imageFees, .int v_hasImage, .ref q_tape, .int v_taped, .ref q_texts, .ref q_sizes, .int v_programs, .ref q_imageTexts, .ref q_imageSizes, .int v_imagePrograms, .int v_here, .int v_open, .int v_running, .int v_begun, .ref q_held, .ref q_marks, .int v_markMany, .ref q_trace, .int v_traced, .ref q_keptBalances, .ref q_keptFees, .int v_deep, .ref q_way, .ref q_sorts, .ref q_rowMany, .ref q_items, .ref q_moved], eI q_tape k_tape 80 f_tape] sz)) 0 0 (va_A [eO h0 9 [.ref q_s, .long v_fees, .ref q_thought, .long v_thoughtFees, .ref q_image, .long v_imageFees, .int v_hasImage, .ref q_tape, .int v_taped, .ref q_texts, .ref q_sizes, .int v_programs, .ref q_imageTexts, .ref q_imageSizes, .int v_imagePrograms, .int v_here, .int v_open, .int v_running, .int v_begun, .ref q_held, .ref q_marks, .int v_markMany, .ref q_trace, .int v_traced, .ref q_keptBalances, .ref q_keptFees, .int v_deep, .ref q_way, .ref q_sorts, .ref q_rowMany, .ref q_items, .ref q_moved], eI q_tape k_tape 80 f_tape] sz)

set_option maxRecDepth 100000 in
set_option maxHeartbeats 4000000 in
/-- takesBracket of the reference -/
theorem c_X10_takesBracket (l : Launch) (dC : Nat → ClassId) (dI : Nat → Nat → Nat) (h0 : Nat) (p0 : Int32) (p1 : Int32) (q_s : Nat) (v_fees : Int64) (q_thought : Nat) (v_thoughtFees : Int64) (q_image : Nat) (v_imageFees : Int64) (v_hasImage : Int32) (q_tape : Nat) (v_taped : Int32) (q_texts : Nat) (q_sizes : Nat) (v_programs : Int32) (q_imageTexts : Nat) (q_imageSizes : Nat) (v_imagePrograms : Int32) (v_here : Int32) (v_open : Int32) (v_running : Int32) (v_begun : Int32) (q_held : Nat) (q_marks : Nat) (v_markMany : Int32) (q_trace : Nat) (v_traced : Int32) (q_keptBalances : Nat) (q_keptFees : Nat) (v_deep : Int32) (q_way : Nat) (q_sorts : Nat) (q_rowMany : Nat) (q_items : Nat) (q_moved : Nat) (k_tape : ClassId) (f_tape : Nat → Int32) (kk : Nat) (n9 : Nat) (nd : Nat) (sz : Nat) (hh : v_here.toInt = (kk : Int)) (htn : v_taped.toInt = (n9 : Int)) (hn80 : n9 ≤ 80) (hkk : kk ≤ n9) (hop1 : 0 ≤ v_open.toInt) (hop : v_open.toInt + (nd : Int) = 8) (hk9 : kk < n9) (hc : p0.toInt = (f_tape kk).toInt) (hc4 : p0.toInt = 40 ∨ p0.toInt = 91 ∨ p0.toInt = 60 ∨ p0.toInt = 123) (iht : ∀ m : Nat, m + 1 = nd → KT l dC dI m) : Met l yX10_takesBracket wsX10_takesBracket ({ frames := 5 * nd + 9, cells := 0, slots := 0, locals := 200 * nd + 150 }) (va_Pc [.ref h0, .int p0, .int p1] (fun U => U.heap.size = sz ∧ va_P (dC, dI) vwCl [eO h0 9 [.ref q_s, .long v_fees, .ref q_thought, .long v_thoughtFees, .ref q_image, .long v_imageFees, .int v_hasImage, .ref q_tape, .int v_taped, .ref q_texts, .ref q_sizes, .int v_programs, .ref q_imageTexts, .ref q_imageSizes, .int v_imagePrograms, .int v_here, .int v_open, .int v_running, .int v_begun, .ref q_held, .ref q_marks, .int v_markMany, .ref q_trace, .int v_traced, .ref q_keptBalances, .ref q_keptFees, .int v_deep, .ref q_way, .ref q_sorts, .ref q_rowMany, .ref q_items, .ref q_moved], eI q_tape k_tape 80 f_tape] U.heap ∧ va_K (dC, dI) vwCl [(k_tape, .int)] U ∧ va_D (fun _ => True) [eO h0 9 [.ref q_s, .long v_fees, .ref q_thought, .long v_thoughtFees, .ref q_image, .long v_imageFees, .int v_hasImage, .ref q_tape, .int v_taped, .ref q_texts, .ref q_sizes, .int v_programs, .ref q_imageTexts, .ref q_imageSizes, .int v_imagePrograms, .int v_here, .int v_open, .int v_running, .int v_begun, .ref q_held, .ref q_marks, .int v_markMany, .ref q_trace, .int v_traced, .ref q_keptBalances, .ref q_keptFees, .int v_deep, .ref q_way, .ref q_sorts, .ref q_rowMany, .ref q_items, .ref q_moved], eI q_tape k_tape 80 f_tape])) (va_Qi (fun (r : Int32) (u : Int32 × Int32) => match u with | (v_here2, v_open2) => (r = 1 ∧ v_open2.toInt = v_open.toInt ∧ ∃ e : Nat, v_here2.toInt = (e : Int) ∧ It f_tape n9 nd kk e) ∨ (r = 0 ∧ (0 : Int) ≤ 0)) (fun (u : Int32 × Int32) (t : State) => match u with | (v_here2, v_open2) => va_P (dC, dI) vwCl [eO h0 9 [.ref q_s, .long v_fees, .ref q_thought, .long v_thoughtFees, .ref q_image, .long v_imageFees, .int v_hasImage, .ref q_tape, .int v_taped, .ref q_texts, .ref q_sizes, .int v_programs, .ref q_imageTexts, .ref q_imageSizes, .int v_imagePrograms, .int v_here2, .int v_open2, .int v_running, .int v_begun, .ref q_held, .ref q_marks, .int v_markMany, .ref q_trace, .int v_traced, .ref q_keptBalances, .ref q_keptFees, .int v_deep, .ref q_way, .ref q_sorts, .ref q_rowMany, .ref q_items, .ref q_moved], eI q_tape k_tape 80 f_tape] t.heap ∧ va_K (dC, dI) vwCl [(k_tape, .int)] t ∧ va_D (va_A [eO h0 9 [.ref q_s, .long v_fees, .ref q_thought, .long v_thoughtFees, .ref q_image, .long v_imageFees, .int v_hasImage, .ref q_tape, .int v_taped, .ref q_texts, .ref q_sizes, .int v_programs, .ref q_imageTexts, .ref q_imageSizes, .int v_imagePrograms, .int v_here, .int v_open, .int v_running, .int v_begun, .ref q_held, .ref q_marks, .int v_markMany, .ref q_trace, .int v_traced, .ref q_keptBalances, .ref q_keptFees, .int v_deep, .ref q_way, .ref q_sorts, .ref q_rowMany, .ref q_items, .ref q_moved], eI q_tape k_tape 80 f_tape] sz) [eO h0 9 [.ref q_s, .long v_fees, .ref q_thought, .long v_thoughtFees, .ref q_image, .long v_imageFees, .int v_hasImage, .ref q_tape, .int v_taped, .ref q_texts, .ref q_sizes, .int v_programs, .ref q_imageTexts, .ref q_imageSizes, .int v_imagePrograms, .int v_here2, .int v_open2, .int v_running, .int v_begun, .ref q_held, .ref q_marks, .int v_markMany, .ref q_trace, .int v_traced, .ref q_keptBalances, .ref q_keptFees, .int v_deep, .ref q_way, .ref q_sorts, .ref q_rowMany, .ref q_items, .ref q_moved], eI q_tape k_tape 80 f_tape]) (va_A [eO h0 9 [.ref q_s, .long v_fees, .ref q_thought, .long v_thoughtFees, .ref q_image, .long v_imageFees, .int v_hasImage, .ref q_tape, .int v_taped, .ref q_texts, .ref q_sizes, .int v_programs, .ref q_imageTexts, .ref q_imageSizes, .int v_imagePrograms, .int v_here, .int v_open, .int v_running, .int v_begun, .ref q_held, .ref q_marks, .int v_markMany, .ref q_trace, .int v_traced, .ref q_keptBalances, .ref q_keptFees, .int v_deep, .ref q_way, .ref q_sorts, .ref q_rowMany, .ref q_items, .ref q_moved], eI q_tape k_tape 80 f_tape] sz)) 0 0 (va_A [eO h0 9 [.ref q_s, .long v_fees, .ref q_thought, .long v_thoughtFees, .ref q_image, .long v_imageFees, .int v_hasImage, .ref q_tape, .int v_taped, .ref q_texts, .ref q_sizes, .int v_programs, .ref q_imageTexts, .ref q_imageSizes, .int v_imagePrograms, .int v_here, .int v_open, .int v_running, .int v_begun, .ref q_held, .ref q_marks, .int v_markMany, .ref q_trace, .int v_traced, .ref q_keptBalances, .ref q_keptFees, .int v_deep, .ref q_way, .ref q_sorts, .ref q_rowMany, .ref q_items, .ref q_moved], eI q_tape k_tape 80 f_tape] sz) := by
  refine Met.ofW (cc := cX10_takesBracket) (maxL := 5) (ret := (some .boolean)) (by decide) rfl ?_
  intro p e s m args below meth c s₁ B hml hv
  obtain ⟨rfl, hsz, hP, hK, hD0⟩ := hv
  have hx := B.exec
  have hb := B.bytes
  have hr := B.returns
  have hts := atoms_spec (ws := wsX10_takesBracket) B.pre
  have hown : s.vm.findClass RX10 = some m.cls := findClass_of_methodNamed B.named
  have hlocks := B.notSynchronized
  subst hsz
  have hD := hD0.self (sz := s.heap.size)
  generalize hAe : va_A [eO h0 9 [.ref q_s, .long v_fees, .ref q_thought, .long v_thoughtFees, .ref q_image, .long v_imageFees, .int v_hasImage, .ref q_tape, .int v_taped, .ref q_texts, .ref q_sizes, .int v_programs, .ref q_imageTexts, .ref q_imageSizes, .int v_imagePrograms, .int v_here, .int v_open, .int v_running, .int v_begun, .ref q_held, .ref q_marks, .int v_markMany, .ref q_trace, .int v_traced, .ref q_keptBalances, .ref q_keptFees, .int v_deep, .ref q_way, .ref q_sorts, .ref q_rowMany, .ref q_items, .ref q_moved], eI q_tape k_tape 80 f_tape] s.heap.size = A at hD ⊢
  have hA : ∀ q : Nat, s.heap.size ≤ q → A q := fun q h => by rw [← hAe]; exact Or.inr h
  have hS : va_S A s.heap s.heap [] := va_S.rf
  have hP : va_P (dC, dI) vwCl [eO h0 9 [.ref q_s, .long v_fees, .ref q_thought, .long v_thoughtFees, .ref q_image, .long v_imageFees, .int v_hasImage, .ref q_tape, .int v_taped, .ref q_texts, .ref q_sizes, .int v_programs, .ref q_imageTexts, .ref q_imageSizes, .int v_imagePrograms, .int v_here, .int v_open, .int v_running, .int v_begun, .ref q_held, .ref q_marks, .int v_markMany, .ref q_trace, .int v_traced, .ref q_keptBalances, .ref q_keptFees, .int v_deep, .ref q_way, .ref q_sorts, .ref q_rowMany, .ref q_items, .ref q_moved], eI q_tape k_tape 80 f_tape] s.heap := hP
  have hl := lv_entry ([.ref h0, .int p0, .int p1]) (n := 5) (Nat.le_of_ble_eq_true rfl)
  rw [lg_entry_eq]
  generalize (lg_sl ([.ref h0, .int p0, .int p1]) ++ List.replicate (5 - (lg_sl ([.ref h0, .int p0, .int p1])).length) Slot.unset).toArray = ls at hl ⊢
  have hl : lv_has ls 5 [(0, .ref h0), (1, .int p0), (2, .int p1)] := hl
  suffices key9 : ∀ Q9 : State → Prop, Q9 = (MQ below (va_Qi (fun (r : Int32) (u : Int32 × Int32) => match u with | (v_here2, v_open2) => (r = 1 ∧ v_open2.toInt = v_open.toInt ∧ ∃ e : Nat, v_here2.toInt = (e : Int) ∧ It f_tape n9 nd kk e) ∨ (r = 0 ∧ (0 : Int) ≤ 0)) (fun (u : Int32 × Int32) (t : State) => match u with | (v_here2, v_open2) => va_P (dC, dI) vwCl [eO h0 9 [.ref q_s, .long v_fees, .ref q_thought, .long v_thoughtFees, .ref q_image, .long v_imageFees, .int v_hasImage, .ref q_tape, .int v_taped, .ref q_texts, .ref q_sizes, .int v_programs, .ref q_imageTexts, .ref q_imageSizes, .int v_imagePrograms, .int v_here2, .int v_open2, .int v_running, .int v_begun, .ref q_held, .ref q_marks, .int v_markMany, .ref q_trace, .int v_traced, .ref q_keptBalances, .ref q_keptFees, .int v_deep, .ref q_way, .ref q_sorts, .ref q_rowMany, .ref q_items, .ref q_moved], eI q_tape k_tape 80 f_tape] t.heap ∧ va_K (dC, dI) vwCl [(k_tape, .int)] t ∧ va_D A [eO h0 9 [.ref q_s, .long v_fees, .ref q_thought, .long v_thoughtFees, .ref q_image, .long v_imageFees, .int v_hasImage, .ref q_tape, .int v_taped, .ref q_texts, .ref q_sizes, .int v_programs, .ref q_imageTexts, .ref q_imageSizes, .int v_imagePrograms, .int v_here2, .int v_open2, .int v_running, .int v_begun, .ref q_held, .ref q_marks, .int v_markMany, .ref q_trace, .int v_traced, .ref q_keptBalances, .ref q_keptFees, .int v_deep, .ref q_way, .ref q_sorts, .ref q_rowMany, .ref q_items, .ref q_moved], eI q_tape k_tape 80 f_tape]) A) (([.ref h0, .int p0, .int p1] : List Value).toArray) s 0 0 A) → W p l e ({ frames := 5 * nd + 9, cells := 0, slots := 0, locals := 200 * nd + 150 }) s m (([.ref h0, .int p0, .int p1] : List Value).toArray) below meth c s.heap [] 0 0 Q9 (F0 m 0 ls []) from key9 _ rfl
  intro Q9 hQ9
  have k_0 : (0 : Int32).toInt = 0 := by decide
  have k_1 : (1 : Int32).toInt = 1 := by decide
  have k_7 : (7 : Int32).toInt = 7 := by decide
  have k_8 : (8 : Int32).toInt = 8 := by decide
  have k_9 : (9 : Int32).toInt = 9 := by decide
  have k_40 : (40 : Int32).toInt = 40 := by decide
  have k_41 : (41 : Int32).toInt = 41 := by decide
  have k_60 : (60 : Int32).toInt = 60 := by decide
  have k_62 : (62 : Int32).toInt = 62 := by decide
  have k_91 : (91 : Int32).toInt = 91 := by decide
  have k_93 : (93 : Int32).toInt = 93 := by decide
  have k_123 : (123 : Int32).toInt = 123 := by decide
  have k_125 : (125 : Int32).toInt = 125 := by decide
  refine lv_aload_n hx hb dX10_takesBracket_0 rfl (lv_at hl 0 rfl) ?_
  refine va_get (D := (dC, dI)) (ci := 9) (v := .int v_open) (C := RX10) (T := TX10) (N := 32) hx hb hts (fun w h => List.mem_cons_of_mem _ (inlX10 w h)) hown hK hP 0 rfl rfl 16 (by decide) (hts (.fieldLink RX10 131 "ClearingGatesModel" "open" "I") (List.mem_cons_of_mem _ mw_625)) (fun _ h9 => h9) rfl dX10_takesBracket_1 ?_
  refine lv_bipush (v := 8) hx hb dX10_takesBracket_4 (by decide) ?_
  refine lv_icmp_ne (tgt := 11) hx hb dX10_takesBracket_6 (by decide) (fun c1 => ?_) (fun c1 => ?_)
  · skip
    have f_c1 := i_ne c1
    obtain ⟨m9, hm9⟩ : ∃ m9 : Nat, m9 + 1 = nd := ⟨nd - 1, by omega⟩
    have ih_m := iht m9 hm9
    refine lv_aload_n hx hb dX10_takesBracket_11 rfl (lv_at hl 0 rfl) ?_
    refine lv_dup hx hb dX10_takesBracket_12 rfl ?_
    refine va_get (D := (dC, dI)) (ci := 9) (v := .int v_open) (C := RX10) (T := TX10) (N := 32) hx hb hts (fun w h => List.mem_cons_of_mem _ (inlX10 w h)) hown hK hP 0 rfl rfl 16 (by decide) (hts (.fieldLink RX10 131 "ClearingGatesModel" "open" "I") (List.mem_cons_of_mem _ mw_625)) (fun _ h9 => h9) rfl dX10_takesBracket_13 ?_
    refine lv_iconst (v := 1) hx hb dX10_takesBracket_16 (by decide) ?_
    refine lv_iadd hx hb dX10_takesBracket_17 ?_
    refine lv_topi (fun z2 e_z2 => ?_)
    (first | have t_z2 := i_add e_z2 (by omega) (by omega) | skip)
    refine va_put (D := (dC, dI)) (ci := 9) (v := .int z2) (ty := .int) (C := RX10) (T := TX10) (N := 32) hx hb hts (fun w h => List.mem_cons_of_mem _ (inlX10 w h)) tyX10 tyX10_ok nmX10 hown hK hP hD hS 0 rfl rfl 16 (by decide) (hts (.fieldLink RX10 131 "ClearingGatesModel" "open" "I") (List.mem_cons_of_mem _ mw_625)) (fun _ h9 => h9) rfl (by decide +kernel) rfl rfl (Nat.le_of_ble_eq_true rfl) dX10_takesBracket_18 (fun H locs hP hD hS => ?_)
    obtain ⟨hP, hD⟩ := X_s (ws' := [eO h0 9 [.ref q_s, .long v_fees, .ref q_thought, .long v_thoughtFees, .ref q_image, .long v_imageFees, .int v_hasImage, .ref q_tape, .int v_taped, .ref q_texts, .ref q_sizes, .int v_programs, .ref q_imageTexts, .ref q_imageSizes, .int v_imagePrograms, .int v_here, .int z2, .int v_running, .int v_begun, .ref q_held, .ref q_marks, .int v_markMany, .ref q_trace, .int v_traced, .ref q_keptBalances, .ref q_keptFees, .int v_deep, .ref q_way, .ref q_sorts, .ref q_rowMany, .ref q_items, .ref q_moved], eI q_tape k_tape 80 f_tape]) hP hD rfl
    refine lv_aload_n hx hb dX10_takesBracket_21 rfl (lv_at hl 0 rfl) ?_
    refine lv_dup hx hb dX10_takesBracket_22 rfl ?_
    refine va_get (D := (dC, dI)) (ci := 9) (v := .int v_here) (C := RX10) (T := TX10) (N := 32) hx hb hts (fun w h => List.mem_cons_of_mem _ (inlX10 w h)) hown hK hP 0 rfl rfl 15 (by decide) (hts (.fieldLink RX10 124 "ClearingGatesModel" "here" "I") (List.mem_cons_of_mem _ mw_624)) (fun _ h9 => h9) rfl dX10_takesBracket_23 ?_
    refine lv_iconst (v := 1) hx hb dX10_takesBracket_26 (by decide) ?_
    refine lv_iadd hx hb dX10_takesBracket_27 ?_
    refine lv_topi (fun z3 e_z3 => ?_)
    (first | have t_z3 := i_add e_z3 (by omega) (by omega) | skip)
    refine va_put (D := (dC, dI)) (ci := 9) (v := .int z3) (ty := .int) (C := RX10) (T := TX10) (N := 32) hx hb hts (fun w h => List.mem_cons_of_mem _ (inlX10 w h)) tyX10 tyX10_ok nmX10 hown hK hP hD hS 0 rfl rfl 15 (by decide) (hts (.fieldLink RX10 124 "ClearingGatesModel" "here" "I") (List.mem_cons_of_mem _ mw_624)) (fun _ h9 => h9) rfl (by decide +kernel) rfl rfl (Nat.le_of_ble_eq_true rfl) dX10_takesBracket_28 (fun H locs hP hD hS => ?_)
    obtain ⟨hP, hD⟩ := X_s (ws' := [eO h0 9 [.ref q_s, .long v_fees, .ref q_thought, .long v_thoughtFees, .ref q_image, .long v_imageFees, .int v_hasImage, .ref q_tape, .int v_taped, .ref q_texts, .ref q_sizes, .int v_programs, .ref q_imageTexts, .ref q_imageSizes, .int v_imagePrograms, .int z3, .int z2, .int v_running, .int v_begun, .ref q_held, .ref q_marks, .int v_markMany, .ref q_trace, .int v_traced, .ref q_keptBalances, .ref q_keptFees, .int v_deep, .ref q_way, .ref q_sorts, .ref q_rowMany, .ref q_items, .ref q_moved], eI q_tape k_tape 80 f_tape]) hP hD rfl
    refine lv_iload_n hx hb dX10_takesBracket_31 rfl (lv_at hl 1 rfl) ?_
    refine lv_bipush (v := 40) hx hb dX10_takesBracket_32 (by decide) ?_
    refine lv_icmp_ne (tgt := 47) hx hb dX10_takesBracket_34 (by decide) (fun c4 => ?_) (fun c4 => ?_)
    · skip
      have f_c4 := i_ne c4
      refine lv_iload_n hx hb dX10_takesBracket_47 rfl (lv_at hl 1 rfl) ?_
      refine lv_bipush (v := 123) hx hb dX10_takesBracket_48 (by decide) ?_
      refine lv_icmp_ne (tgt := 65) hx hb dX10_takesBracket_50 (by decide) (fun c5 => ?_) (fun c5 => ?_)
      · skip
        have f_c5 := i_ne c5
        refine lv_iload_n hx hb dX10_takesBracket_65 rfl (lv_at hl 1 rfl) ?_
        refine lv_bipush (v := 40) hx hb dX10_takesBracket_66 (by decide) ?_
        refine lv_icmp_ne (tgt := 76) hx hb dX10_takesBracket_68 (by decide) (fun c6 => ?_) (fun c6 => ?_)
        · skip
          have f_c6 := i_ne c6
          refine lv_iload_n hx hb dX10_takesBracket_76 rfl (lv_at hl 1 rfl) ?_
          refine lv_bipush (v := 91) hx hb dX10_takesBracket_77 (by decide) ?_
          refine lv_icmp_ne (tgt := 87) hx hb dX10_takesBracket_79 (by decide) (fun c7 => ?_) (fun c7 => ?_)
          · skip
            have f_c7 := i_ne c7
            refine lv_iload_n hx hb dX10_takesBracket_87 rfl (lv_at hl 1 rfl) ?_
            refine lv_bipush (v := 60) hx hb dX10_takesBracket_88 (by decide) ?_
            refine lv_icmp_ne (tgt := 98) hx hb dX10_takesBracket_90 (by decide) (fun c8 => ?_) (fun c8 => ?_)
            · skip
              have f_c8 := i_ne c8
              refine lv_bipush (v := 125) hx hb dX10_takesBracket_98 (by decide) ?_
              refine lv_istore_n (lv' := [(3, .int 125), (0, .ref h0), (1, .int p0), (2, .int p1)]) hx hb dX10_takesBracket_100 rfl hl (by decide) rfl (fun ls hl => ?_)
              refine lv_iload_n hx hb dX10_takesBracket_101 rfl (lv_at hl 3 rfl) ?_
              refine lv_if_ne (tgt := 111) hx hb dX10_takesBracket_102 (by decide) (fun c9 => ?_) (fun c9 => ?_)
              · skip
                have f_c9 := i_ne c9
                refine lv_iconst (v := 1) hx hb dX10_takesBracket_111 (by decide) ?_
                refine lv_goto (tgt := 116) hx hb dX10_takesBracket_112 (by decide) ?_
                refine lv_istore (lv' := [(4, .int 1), (3, .int 125), (0, .ref h0), (1, .int p0), (2, .int p1)]) hx hb dX10_takesBracket_116 hl (by decide) rfl (fun ls hl => ?_)
                have loop_118 : ∀ (n : Nat) (hq9 : Int32) (ho : Int32), (ho.toInt = v_open.toInt + 1 ∧ 0 ≤ hq9.toInt ∧ hq9.toInt ≤ (n9 : Int)) → (∃ ax cx jx : Nat, ((((f_tape kk).toInt = 40 ∨ (f_tape kk).toInt = 123) ∧ ax = kk + 2) ∨ (((f_tape kk).toInt = 91 ∨ (f_tape kk).toInt = 60) ∧ ax = kk + 1)) ∧ hq9.toInt = (jx : Int) ∧ jx ≤ n9 ∧ Sq (It f_tape n9 m9) cx ax jx) → ((n9 : Int) - hq9.toInt) < (n : Int) → ∀ (H : Heap) (locs : List Loc), va_K (dC, dI) vwCl [(k_tape, .int)] s → va_P (dC, dI) vwCl [eO h0 9 [.ref q_s, .long v_fees, .ref q_thought, .long v_thoughtFees, .ref q_image, .long v_imageFees, .int v_hasImage, .ref q_tape, .int v_taped, .ref q_texts, .ref q_sizes, .int v_programs, .ref q_imageTexts, .ref q_imageSizes, .int v_imagePrograms, .int hq9, .int ho, .int v_running, .int v_begun, .ref q_held, .ref q_marks, .int v_markMany, .ref q_trace, .int v_traced, .ref q_keptBalances, .ref q_keptFees, .int v_deep, .ref q_way, .ref q_sorts, .ref q_rowMany, .ref q_items, .ref q_moved], eI q_tape k_tape 80 f_tape] H → va_D A [eO h0 9 [.ref q_s, .long v_fees, .ref q_thought, .long v_thoughtFees, .ref q_image, .long v_imageFees, .int v_hasImage, .ref q_tape, .int v_taped, .ref q_texts, .ref q_sizes, .int v_programs, .ref q_imageTexts, .ref q_imageSizes, .int v_imagePrograms, .int hq9, .int ho, .int v_running, .int v_begun, .ref q_held, .ref q_marks, .int v_markMany, .ref q_trace, .int v_traced, .ref q_keptBalances, .ref q_keptFees, .int v_deep, .ref q_way, .ref q_sorts, .ref q_rowMany, .ref q_items, .ref q_moved], eI q_tape k_tape 80 f_tape] → va_S A s.heap H locs → ∀ (ls : Array Slot), lv_has ls 5 [(4, .int 1), (3, .int 125), (0, .ref h0), (1, .int p0), (2, .int p1)] → W p l e ({ frames := 5 * nd + 9, cells := 0, slots := 0, locals := 200 * nd + 150 }) s m (([.ref h0, .int p0, .int p1] : List Value).toArray) below meth c H locs 0 0 Q9 (F0 m 118 ls []) := by
                  intro n
                  induction n with
                  | zero => intro hq9 ho j1 j2 hM_118; exfalso; omega
                  | succ n ih_118 =>
                    intro hq9 ho j1 j2 hM_118 H locs hK hP hD hS ls hl
                    obtain ⟨ax, cx, jx, hax, hjx, hjn, hsq⟩ := j2
                    refine lv_aload_n hx hb dX10_takesBracket_118 rfl (lv_at hl 2 rfl) ?_
                    obtain ⟨hPc, hDc, hFc, hCm, hNw⟩ := C_s (wc := [eO h0 9 [.ref q_s, .long v_fees, .ref q_thought, .long v_thoughtFees, .ref q_image, .long v_imageFees, .int v_hasImage, .ref q_tape, .int v_taped, .ref q_texts, .ref q_sizes, .int v_programs, .ref q_imageTexts, .ref q_imageSizes, .int v_imagePrograms, .int hq9, .int ho, .int v_running, .int v_begun, .ref q_held, .ref q_marks, .int v_markMany, .ref q_trace, .int v_traced, .ref q_keptBalances, .ref q_keptFees, .int v_deep, .ref q_way, .ref q_sorts, .ref q_rowMany, .ref q_items, .ref q_moved], eI q_tape k_tape 80 f_tape]) hP hD hS hA [(0, 2)] 2 rfl (by decide +kernel) rfl
                    have hKc := K_s (tys' := [(k_tape, .int)]) hK [(0, 1)] rfl
                    refine va_calli (va_runV (As := []) (rest := []) ⟨hx, hb, hml, hown, hts⟩ (c_X10_byteAt l dC dI h0 q_s v_fees q_thought v_thoughtFees q_image v_imageFees v_hasImage q_tape v_taped q_texts q_sizes v_programs q_imageTexts q_imageSizes v_imagePrograms hq9 ho v_running v_begun q_held q_marks v_markMany q_trace v_traced q_keptBalances q_keptFees v_deep q_way q_sorts q_rowMany q_items q_moved k_tape f_tape jx n9 H.size (by first | assumption | omega) htn hn80) (cwV 0 hts gX10_takesBracket_X10_byteAt rfl rfl rfl (by decide +kernel) ⟨(show (0) + 1 ≤ 5 * nd + 9 by omega), (show 8 + (1 + 11) + (0) ≤ 200 * nd + 150 by omega)⟩) ⟨fun a U g mk q => by obtain ⟨q0, q1, qP, qK, qD⟩ := q; exact ⟨q0, q1, qP, va_K.moved (u := U) (U := U.calling g mk a) (Vm.Alike.refl U.vm) qK, qD⟩, va_recv (s := s) (q := (RX10, TX10, 32)) hKc hPc (ci := 9) (q0 := 0) rfl rfl, fun U hU hW => ⟨rfl, by rw [hU], by rw [hU]; exact hPc, va_K.moved hW.alike hKc, hDc.weaken (fun _ _ _ _ => trivial)⟩⟩ rfl rfl hl.1 rfl (lv_room (Nat.le_of_ble_eq_true rfl)) dX10_takesBracket_119 ⟨Nat.le_of_ble_eq_true rfl, Nat.le_of_ble_eq_true rfl⟩) hS (fun q _ h => hFc q h) hFc (fun r10 u t H1 locs ht hvm hw hB hz1 hk1 hS => ?_)
                    obtain ⟨hP1, hK1, hD1⟩ := hB
                    rw [ht] at hP1
                    have hK1 := va_K.moved hvm.symm hK1
                    try dsimp only at hw
                    obtain ⟨hP, hD⟩ := J_s (wL := [eO h0 9 [.ref q_s, .long v_fees, .ref q_thought, .long v_thoughtFees, .ref q_image, .long v_imageFees, .int v_hasImage, .ref q_tape, .int v_taped, .ref q_texts, .ref q_sizes, .int v_programs, .ref q_imageTexts, .ref q_imageSizes, .int v_imagePrograms, .int hq9, .int ho, .int v_running, .int v_begun, .ref q_held, .ref q_marks, .int v_markMany, .ref q_trace, .int v_traced, .ref q_keptBalances, .ref q_keptFees, .int v_deep, .ref q_way, .ref q_sorts, .ref q_rowMany, .ref q_items, .ref q_moved], eI q_tape k_tape 80 f_tape]) hP hD [(0, 2)] [] hCm hNw (by decide +kernel) hk1 hFc hP1 hD1 rfl
                    have hK := KJ_s (tys' := [(k_tape, .int)]) hK hK1 [] rfl
                    generalize H1 = H at hP hS ⊢
                    have h_r10 := hw
                    refine lv_iload_n hx hb dX10_takesBracket_122 rfl (lv_at hl 1 rfl) ?_
                    refine lv_icmp_eq (tgt := 137) hx hb dX10_takesBracket_123 (by decide) (fun c11 => ?_) (fun c11 => ?_)
                    · skip
                      have f_c11 := i_eq c11
                      refine lv_aload_n hx hb dX10_takesBracket_137 rfl (lv_at hl 2 rfl) ?_
                      refine lv_dup hx hb dX10_takesBracket_138 rfl ?_
                      refine va_get (D := (dC, dI)) (ci := 9) (v := .int hq9) (C := RX10) (T := TX10) (N := 32) hx hb hts (fun w h => List.mem_cons_of_mem _ (inlX10 w h)) hown hK hP 0 rfl rfl 15 (by decide) (hts (.fieldLink RX10 124 "ClearingGatesModel" "here" "I") (List.mem_cons_of_mem _ mw_624)) (fun _ h9 => h9) rfl dX10_takesBracket_139 ?_
                      refine lv_iconst (v := 1) hx hb dX10_takesBracket_142 (by decide) ?_
                      refine lv_iadd hx hb dX10_takesBracket_143 ?_
                      refine lv_topi (fun z12 e_z12 => ?_)
                      (first | have t_z12 := i_add e_z12 (by omega) (by omega) | skip)
                      refine va_put (D := (dC, dI)) (ci := 9) (v := .int z12) (ty := .int) (C := RX10) (T := TX10) (N := 32) hx hb hts (fun w h => List.mem_cons_of_mem _ (inlX10 w h)) tyX10 tyX10_ok nmX10 hown hK hP hD hS 0 rfl rfl 15 (by decide) (hts (.fieldLink RX10 124 "ClearingGatesModel" "here" "I") (List.mem_cons_of_mem _ mw_624)) (fun _ h9 => h9) rfl (by decide +kernel) rfl rfl (Nat.le_of_ble_eq_true rfl) dX10_takesBracket_144 (fun H locs hP hD hS => ?_)
                      obtain ⟨hP, hD⟩ := X_s (ws' := [eO h0 9 [.ref q_s, .long v_fees, .ref q_thought, .long v_thoughtFees, .ref q_image, .long v_imageFees, .int v_hasImage, .ref q_tape, .int v_taped, .ref q_texts, .ref q_sizes, .int v_programs, .ref q_imageTexts, .ref q_imageSizes, .int v_imagePrograms, .int z12, .int ho, .int v_running, .int v_begun, .ref q_held, .ref q_marks, .int v_markMany, .ref q_trace, .int v_traced, .ref q_keptBalances, .ref q_keptFees, .int v_deep, .ref q_way, .ref q_sorts, .ref q_rowMany, .ref q_items, .ref q_moved], eI q_tape k_tape 80 f_tape]) hP hD rfl
                      refine lv_aload_n hx hb dX10_takesBracket_147 rfl (lv_at hl 2 rfl) ?_
                      refine lv_dup hx hb dX10_takesBracket_148 rfl ?_
                      refine va_get (D := (dC, dI)) (ci := 9) (v := .int ho) (C := RX10) (T := TX10) (N := 32) hx hb hts (fun w h => List.mem_cons_of_mem _ (inlX10 w h)) hown hK hP 0 rfl rfl 16 (by decide) (hts (.fieldLink RX10 131 "ClearingGatesModel" "open" "I") (List.mem_cons_of_mem _ mw_625)) (fun _ h9 => h9) rfl dX10_takesBracket_149 ?_
                      refine lv_iconst (v := 1) hx hb dX10_takesBracket_152 (by decide) ?_
                      refine lv_isub hx hb dX10_takesBracket_153 ?_
                      refine lv_topi (fun z13 e_z13 => ?_)
                      (first | have t_z13 := i_sub e_z13 (by omega) (by omega) | skip)
                      refine va_put (D := (dC, dI)) (ci := 9) (v := .int z13) (ty := .int) (C := RX10) (T := TX10) (N := 32) hx hb hts (fun w h => List.mem_cons_of_mem _ (inlX10 w h)) tyX10 tyX10_ok nmX10 hown hK hP hD hS 0 rfl rfl 16 (by decide) (hts (.fieldLink RX10 131 "ClearingGatesModel" "open" "I") (List.mem_cons_of_mem _ mw_625)) (fun _ h9 => h9) rfl (by decide +kernel) rfl rfl (Nat.le_of_ble_eq_true rfl) dX10_takesBracket_154 (fun H locs hP hD hS => ?_)
                      obtain ⟨hP, hD⟩ := X_s (ws' := [eO h0 9 [.ref q_s, .long v_fees, .ref q_thought, .long v_thoughtFees, .ref q_image, .long v_imageFees, .int v_hasImage, .ref q_tape, .int v_taped, .ref q_texts, .ref q_sizes, .int v_programs, .ref q_imageTexts, .ref q_imageSizes, .int v_imagePrograms, .int z12, .int z13, .int v_running, .int v_begun, .ref q_held, .ref q_marks, .int v_markMany, .ref q_trace, .int v_traced, .ref q_keptBalances, .ref q_keptFees, .int v_deep, .ref q_way, .ref q_sorts, .ref q_rowMany, .ref q_items, .ref q_moved], eI q_tape k_tape 80 f_tape]) hP hD rfl
                      refine lv_iconst (v := 1) hx hb dX10_takesBracket_157 (by decide) ?_
                      rw [hQ9]
                      exact W.zret (v := 1) hx hb hr (by decide) (fun t ht hW => ⟨⟨1, (z12, z13), rfl, Or.inl ⟨rfl, by omega, jx + 1, by omega, it_br hm9 hax hsq (by omega) (by omega)⟩, by rw [ht]; exact hP, va_K.moved hW.alike hK, hD⟩, hS.F ht⟩) hS.2.2 dX10_takesBracket_158
                    · skip
                      have f_c11 := i_ne c11
                      refine lv_aload_n hx hb dX10_takesBracket_126 rfl (lv_at hl 2 rfl) ?_
                      refine lv_iload hx hb dX10_takesBracket_127 (lv_at hl 0 rfl) ?_
                      obtain ⟨hPc, hDc, hFc, hCm, hNw⟩ := C_s (wc := [eO h0 9 [.ref q_s, .long v_fees, .ref q_thought, .long v_thoughtFees, .ref q_image, .long v_imageFees, .int v_hasImage, .ref q_tape, .int v_taped, .ref q_texts, .ref q_sizes, .int v_programs, .ref q_imageTexts, .ref q_imageSizes, .int v_imagePrograms, .int hq9, .int ho, .int v_running, .int v_begun, .ref q_held, .ref q_marks, .int v_markMany, .ref q_trace, .int v_traced, .ref q_keptBalances, .ref q_keptFees, .int v_deep, .ref q_way, .ref q_sorts, .ref q_rowMany, .ref q_items, .ref q_moved], eI q_tape k_tape 80 f_tape]) hP hD hS hA [(0, 2)] 2 rfl (by decide +kernel) rfl
                      have hKc := K_s (tys' := [(k_tape, .int)]) hK [(0, 1)] rfl
                      refine va_calli (va_runV (As := [.int 1]) (rest := []) ⟨hx, hb, hml, hown, hts⟩ (ih_m h0 1 q_s v_fees q_thought v_thoughtFees q_image v_imageFees v_hasImage q_tape v_taped q_texts q_sizes v_programs q_imageTexts q_imageSizes v_imagePrograms hq9 ho v_running v_begun q_held q_marks v_markMany q_trace v_traced q_keptBalances q_keptFees v_deep q_way q_sorts q_rowMany q_items q_moved k_tape f_tape jx n9 H.size (by first | assumption | omega) htn hn80 (by first | assumption | omega) (by first | assumption | omega) (by first | assumption | omega)) (cwV 1 hts gX10_takesBracket_X10_takesItem rfl rfl rfl (by decide +kernel) ⟨(show (5 * m9 + 10) + 1 ≤ 5 * nd + 9 by omega), (show 8 + (3 + 11) + (200 * m9 + 200) ≤ 200 * nd + 150 by omega)⟩) ⟨fun a U g mk q => by obtain ⟨q0, q1, qP, qK, qD⟩ := q; exact ⟨q0, q1, qP, va_K.moved (u := U) (U := U.calling g mk a) (Vm.Alike.refl U.vm) qK, qD⟩, va_recv (s := s) (q := (RX10, TX10, 32)) hKc hPc (ci := 9) (q0 := 0) rfl rfl, fun U hU hW => ⟨rfl, by rw [hU], by rw [hU]; exact hPc, va_K.moved hW.alike hKc, hDc.weaken (fun _ _ _ _ => trivial)⟩⟩ rfl rfl hl.1 rfl (lv_room (Nat.le_of_ble_eq_true rfl)) dX10_takesBracket_129 ⟨Nat.le_of_ble_eq_true rfl, Nat.le_of_ble_eq_true rfl⟩) hS (fun q _ h => hFc q h) hFc (fun r14 u t H1 locs ht hvm hw hB hz1 hk1 hS => ?_)
                      obtain ⟨u15, u16⟩ := u
                      obtain ⟨hP1, hK1, hD1⟩ := hB
                      rw [ht] at hP1
                      have hK1 := va_K.moved hvm.symm hK1
                      try dsimp only at hw
                      obtain ⟨hP, hD⟩ := J_s (wL := [eO h0 9 [.ref q_s, .long v_fees, .ref q_thought, .long v_thoughtFees, .ref q_image, .long v_imageFees, .int v_hasImage, .ref q_tape, .int v_taped, .ref q_texts, .ref q_sizes, .int v_programs, .ref q_imageTexts, .ref q_imageSizes, .int v_imagePrograms, .int u15, .int u16, .int v_running, .int v_begun, .ref q_held, .ref q_marks, .int v_markMany, .ref q_trace, .int v_traced, .ref q_keptBalances, .ref q_keptFees, .int v_deep, .ref q_way, .ref q_sorts, .ref q_rowMany, .ref q_items, .ref q_moved], eI q_tape k_tape 80 f_tape]) hP hD [(0, 2)] [] hCm hNw (by decide +kernel) hk1 hFc hP1 hD1 rfl
                      have hK := KJ_s (tys' := [(k_tape, .int)]) hK hK1 [] rfl
                      generalize H1 = H at hP hS ⊢
                      rcases hw with ⟨e_r14, f_r14⟩ | ⟨e_r14, f_r14⟩
                      · subst e_r14
                        obtain ⟨hoq, e9, he9, hit9⟩ := f_r14
                        have hl9 := it_lt _ _ _ hit9
                        refine lv_if_ne (tgt := 118) hx hb dX10_takesBracket_132 (by decide) (fun c17 => ?_) (fun c17 => absurd c17 (by decide))
                        exact ih_118 u15 u16 (by omega) ⟨ax, cx + 1, e9, hax, by omega, by omega, sq_snoc cx ax jx e9 hsq hit9⟩ (by omega) _ _ (K_s hK [(0, 1)] rfl) (P_s hP [(0, 2)] rfl) (D_s hD [(0, 2)] 2 rfl (by decide +kernel) rfl) hS ls (lv_sub hl [0, 1, 2, 3, 4] rfl)
                      · subst e_r14
                        refine lv_if_ne (tgt := 118) hx hb dX10_takesBracket_132 (by decide) (fun c18 => absurd (by decide) c18) (fun c18 => ?_)
                        refine lv_iconst (v := 0) hx hb dX10_takesBracket_135 (by decide) ?_
                        rw [hQ9]
                        exact W.zret (v := 0) hx hb hr (by decide) (fun t ht hW => ⟨⟨0, (u15, u16), rfl, Or.inr ⟨rfl, by omega⟩, by rw [ht]; exact hP, va_K.moved hW.alike hK, hD⟩, hS.F ht⟩) hS.2.2 dX10_takesBracket_136
                exact loop_118 (1000) z3 z2 (by omega) ⟨z3.toInt.toNat, 0, z3.toInt.toNat, by omega, by omega, by omega, rfl⟩ (by omega) _ _ hK hP hD hS ls (lv_sub hl [0, 1, 2, 3, 4] rfl)
              · skip
                have f_c9 := i_eq c9
                refine lv_iload_n hx hb dX10_takesBracket_105 rfl (lv_at hl 2 rfl) ?_
                refine lv_bipush (v := 123) hx hb dX10_takesBracket_106 (by decide) ?_
                refine lv_icmp_ne (tgt := 115) hx hb dX10_takesBracket_108 (by decide) (fun c19 => ?_) (fun c19 => ?_)
                · skip
                  have f_c19 := i_ne c19
                  refine lv_iconst (v := 0) hx hb dX10_takesBracket_115 (by decide) ?_
                  refine lv_istore (lv' := [(4, .int 0), (3, .int 125), (0, .ref h0), (1, .int p0), (2, .int p1)]) hx hb dX10_takesBracket_116 hl (by decide) rfl (fun ls hl => ?_)
                  have loop_118 : ∀ (n : Nat) (hq9 : Int32) (ho : Int32), (ho.toInt = v_open.toInt + 1 ∧ 0 ≤ hq9.toInt ∧ hq9.toInt ≤ (n9 : Int)) → (∃ ax cx jx : Nat, ((((f_tape kk).toInt = 40 ∨ (f_tape kk).toInt = 123) ∧ ax = kk + 2) ∨ (((f_tape kk).toInt = 91 ∨ (f_tape kk).toInt = 60) ∧ ax = kk + 1)) ∧ hq9.toInt = (jx : Int) ∧ jx ≤ n9 ∧ Sq (It f_tape n9 m9) cx ax jx) → ((n9 : Int) - hq9.toInt) < (n : Int) → ∀ (H : Heap) (locs : List Loc), va_K (dC, dI) vwCl [(k_tape, .int)] s → va_P (dC, dI) vwCl [eO h0 9 [.ref q_s, .long v_fees, .ref q_thought, .long v_thoughtFees, .ref q_image, .long v_imageFees, .int v_hasImage, .ref q_tape, .int v_taped, .ref q_texts, .ref q_sizes, .int v_programs, .ref q_imageTexts, .ref q_imageSizes, .int v_imagePrograms, .int hq9, .int ho, .int v_running, .int v_begun, .ref q_held, .ref q_marks, .int v_markMany, .ref q_trace, .int v_traced, .ref q_keptBalances, .ref q_keptFees, .int v_deep, .ref q_way, .ref q_sorts, .ref q_rowMany, .ref q_items, .ref q_moved], eI q_tape k_tape 80 f_tape] H → va_D A [eO h0 9 [.ref q_s, .long v_fees, .ref q_thought, .long v_thoughtFees, .ref q_image, .long v_imageFees, .int v_hasImage, .ref q_tape, .int v_taped, .ref q_texts, .ref q_sizes, .int v_programs, .ref q_imageTexts, .ref q_imageSizes, .int v_imagePrograms, .int hq9, .int ho, .int v_running, .int v_begun, .ref q_held, .ref q_marks, .int v_markMany, .ref q_trace, .int v_traced, .ref q_keptBalances, .ref q_keptFees, .int v_deep, .ref q_way, .ref q_sorts, .ref q_rowMany, .ref q_items, .ref q_moved], eI q_tape k_tape 80 f_tape] → va_S A s.heap H locs → ∀ (ls : Array Slot), lv_has ls 5 [(4, .int 0), (3, .int 125), (0, .ref h0), (1, .int p0), (2, .int p1)] → W p l e ({ frames := 5 * nd + 9, cells := 0, slots := 0, locals := 200 * nd + 150 }) s m (([.ref h0, .int p0, .int p1] : List Value).toArray) below meth c H locs 0 0 Q9 (F0 m 118 ls []) := by
                    intro n
                    induction n with
                    | zero => intro hq9 ho j1 j2 hM_118; exfalso; omega
                    | succ n ih_118 =>
                      intro hq9 ho j1 j2 hM_118 H locs hK hP hD hS ls hl
                      obtain ⟨ax, cx, jx, hax, hjx, hjn, hsq⟩ := j2
                      refine lv_aload_n hx hb dX10_takesBracket_118 rfl (lv_at hl 2 rfl) ?_
                      obtain ⟨hPc, hDc, hFc, hCm, hNw⟩ := C_s (wc := [eO h0 9 [.ref q_s, .long v_fees, .ref q_thought, .long v_thoughtFees, .ref q_image, .long v_imageFees, .int v_hasImage, .ref q_tape, .int v_taped, .ref q_texts, .ref q_sizes, .int v_programs, .ref q_imageTexts, .ref q_imageSizes, .int v_imagePrograms, .int hq9, .int ho, .int v_running, .int v_begun, .ref q_held, .ref q_marks, .int v_markMany, .ref q_trace, .int v_traced, .ref q_keptBalances, .ref q_keptFees, .int v_deep, .ref q_way, .ref q_sorts, .ref q_rowMany, .ref q_items, .ref q_moved], eI q_tape k_tape 80 f_tape]) hP hD hS hA [(0, 2)] 2 rfl (by decide +kernel) rfl
                      have hKc := K_s (tys' := [(k_tape, .int)]) hK [(0, 1)] rfl
                      refine va_calli (va_runV (As := []) (rest := []) ⟨hx, hb, hml, hown, hts⟩ (c_X10_byteAt l dC dI h0 q_s v_fees q_thought v_thoughtFees q_image v_imageFees v_hasImage q_tape v_taped q_texts q_sizes v_programs q_imageTexts q_imageSizes v_imagePrograms hq9 ho v_running v_begun q_held q_marks v_markMany q_trace v_traced q_keptBalances q_keptFees v_deep q_way q_sorts q_rowMany q_items q_moved k_tape f_tape jx n9 H.size (by first | assumption | omega) htn hn80) (cwV 0 hts gX10_takesBracket_X10_byteAt rfl rfl rfl (by decide +kernel) ⟨(show (0) + 1 ≤ 5 * nd + 9 by omega), (show 8 + (1 + 11) + (0) ≤ 200 * nd + 150 by omega)⟩) ⟨fun a U g mk q => by obtain ⟨q0, q1, qP, qK, qD⟩ := q; exact ⟨q0, q1, qP, va_K.moved (u := U) (U := U.calling g mk a) (Vm.Alike.refl U.vm) qK, qD⟩, va_recv (s := s) (q := (RX10, TX10, 32)) hKc hPc (ci := 9) (q0 := 0) rfl rfl, fun U hU hW => ⟨rfl, by rw [hU], by rw [hU]; exact hPc, va_K.moved hW.alike hKc, hDc.weaken (fun _ _ _ _ => trivial)⟩⟩ rfl rfl hl.1 rfl (lv_room (Nat.le_of_ble_eq_true rfl)) dX10_takesBracket_119 ⟨Nat.le_of_ble_eq_true rfl, Nat.le_of_ble_eq_true rfl⟩) hS (fun q _ h => hFc q h) hFc (fun r20 u t H1 locs ht hvm hw hB hz1 hk1 hS => ?_)
                      obtain ⟨hP1, hK1, hD1⟩ := hB
                      rw [ht] at hP1
                      have hK1 := va_K.moved hvm.symm hK1
                      try dsimp only at hw
                      obtain ⟨hP, hD⟩ := J_s (wL := [eO h0 9 [.ref q_s, .long v_fees, .ref q_thought, .long v_thoughtFees, .ref q_image, .long v_imageFees, .int v_hasImage, .ref q_tape, .int v_taped, .ref q_texts, .ref q_sizes, .int v_programs, .ref q_imageTexts, .ref q_imageSizes, .int v_imagePrograms, .int hq9, .int ho, .int v_running, .int v_begun, .ref q_held, .ref q_marks, .int v_markMany, .ref q_trace, .int v_traced, .ref q_keptBalances, .ref q_keptFees, .int v_deep, .ref q_way, .ref q_sorts, .ref q_rowMany, .ref q_items, .ref q_moved], eI q_tape k_tape 80 f_tape]) hP hD [(0, 2)] [] hCm hNw (by decide +kernel) hk1 hFc hP1 hD1 rfl
                      have hK := KJ_s (tys' := [(k_tape, .int)]) hK hK1 [] rfl
                      generalize H1 = H at hP hS ⊢
                      have h_r20 := hw
                      refine lv_iload_n hx hb dX10_takesBracket_122 rfl (lv_at hl 1 rfl) ?_
                      refine lv_icmp_eq (tgt := 137) hx hb dX10_takesBracket_123 (by decide) (fun c21 => ?_) (fun c21 => ?_)
                      · skip
                        have f_c21 := i_eq c21
                        refine lv_aload_n hx hb dX10_takesBracket_137 rfl (lv_at hl 2 rfl) ?_
                        refine lv_dup hx hb dX10_takesBracket_138 rfl ?_
                        refine va_get (D := (dC, dI)) (ci := 9) (v := .int hq9) (C := RX10) (T := TX10) (N := 32) hx hb hts (fun w h => List.mem_cons_of_mem _ (inlX10 w h)) hown hK hP 0 rfl rfl 15 (by decide) (hts (.fieldLink RX10 124 "ClearingGatesModel" "here" "I") (List.mem_cons_of_mem _ mw_624)) (fun _ h9 => h9) rfl dX10_takesBracket_139 ?_
                        refine lv_iconst (v := 1) hx hb dX10_takesBracket_142 (by decide) ?_
                        refine lv_iadd hx hb dX10_takesBracket_143 ?_
                        refine lv_topi (fun z22 e_z22 => ?_)
                        (first | have t_z22 := i_add e_z22 (by omega) (by omega) | skip)
                        refine va_put (D := (dC, dI)) (ci := 9) (v := .int z22) (ty := .int) (C := RX10) (T := TX10) (N := 32) hx hb hts (fun w h => List.mem_cons_of_mem _ (inlX10 w h)) tyX10 tyX10_ok nmX10 hown hK hP hD hS 0 rfl rfl 15 (by decide) (hts (.fieldLink RX10 124 "ClearingGatesModel" "here" "I") (List.mem_cons_of_mem _ mw_624)) (fun _ h9 => h9) rfl (by decide +kernel) rfl rfl (Nat.le_of_ble_eq_true rfl) dX10_takesBracket_144 (fun H locs hP hD hS => ?_)
                        obtain ⟨hP, hD⟩ := X_s (ws' := [eO h0 9 [.ref q_s, .long v_fees, .ref q_thought, .long v_thoughtFees, .ref q_image, .long v_imageFees, .int v_hasImage, .ref q_tape, .int v_taped, .ref q_texts, .ref q_sizes, .int v_programs, .ref q_imageTexts, .ref q_imageSizes, .int v_imagePrograms, .int z22, .int ho, .int v_running, .int v_begun, .ref q_held, .ref q_marks, .int v_markMany, .ref q_trace, .int v_traced, .ref q_keptBalances, .ref q_keptFees, .int v_deep, .ref q_way, .ref q_sorts, .ref q_rowMany, .ref q_items, .ref q_moved], eI q_tape k_tape 80 f_tape]) hP hD rfl
                        refine lv_aload_n hx hb dX10_takesBracket_147 rfl (lv_at hl 2 rfl) ?_
                        refine lv_dup hx hb dX10_takesBracket_148 rfl ?_
                        refine va_get (D := (dC, dI)) (ci := 9) (v := .int ho) (C := RX10) (T := TX10) (N := 32) hx hb hts (fun w h => List.mem_cons_of_mem _ (inlX10 w h)) hown hK hP 0 rfl rfl 16 (by decide) (hts (.fieldLink RX10 131 "ClearingGatesModel" "open" "I") (List.mem_cons_of_mem _ mw_625)) (fun _ h9 => h9) rfl dX10_takesBracket_149 ?_
                        refine lv_iconst (v := 1) hx hb dX10_takesBracket_152 (by decide) ?_
                        refine lv_isub hx hb dX10_takesBracket_153 ?_
                        refine lv_topi (fun z23 e_z23 => ?_)
                        (first | have t_z23 := i_sub e_z23 (by omega) (by omega) | skip)
                        refine va_put (D := (dC, dI)) (ci := 9) (v := .int z23) (ty := .int) (C := RX10) (T := TX10) (N := 32) hx hb hts (fun w h => List.mem_cons_of_mem _ (inlX10 w h)) tyX10 tyX10_ok nmX10 hown hK hP hD hS 0 rfl rfl 16 (by decide) (hts (.fieldLink RX10 131 "ClearingGatesModel" "open" "I") (List.mem_cons_of_mem _ mw_625)) (fun _ h9 => h9) rfl (by decide +kernel) rfl rfl (Nat.le_of_ble_eq_true rfl) dX10_takesBracket_154 (fun H locs hP hD hS => ?_)
                        obtain ⟨hP, hD⟩ := X_s (ws' := [eO h0 9 [.ref q_s, .long v_fees, .ref q_thought, .long v_thoughtFees, .ref q_image, .long v_imageFees, .int v_hasImage, .ref q_tape, .int v_taped, .ref q_texts, .ref q_sizes, .int v_programs, .ref q_imageTexts, .ref q_imageSizes, .int v_imagePrograms, .int z22, .int z23, .int v_running, .int v_begun, .ref q_held, .ref q_marks, .int v_markMany, .ref q_trace, .int v_traced, .ref q_keptBalances, .ref q_keptFees, .int v_deep, .ref q_way, .ref q_sorts, .ref q_rowMany, .ref q_items, .ref q_moved], eI q_tape k_tape 80 f_tape]) hP hD rfl
                        refine lv_iconst (v := 1) hx hb dX10_takesBracket_157 (by decide) ?_
                        rw [hQ9]
                        exact W.zret (v := 1) hx hb hr (by decide) (fun t ht hW => ⟨⟨1, (z22, z23), rfl, Or.inl ⟨rfl, by omega, jx + 1, by omega, it_br hm9 hax hsq (by omega) (by omega)⟩, by rw [ht]; exact hP, va_K.moved hW.alike hK, hD⟩, hS.F ht⟩) hS.2.2 dX10_takesBracket_158
                      · skip
                        have f_c21 := i_ne c21
                        refine lv_aload_n hx hb dX10_takesBracket_126 rfl (lv_at hl 2 rfl) ?_
                        refine lv_iload hx hb dX10_takesBracket_127 (lv_at hl 0 rfl) ?_
                        obtain ⟨hPc, hDc, hFc, hCm, hNw⟩ := C_s (wc := [eO h0 9 [.ref q_s, .long v_fees, .ref q_thought, .long v_thoughtFees, .ref q_image, .long v_imageFees, .int v_hasImage, .ref q_tape, .int v_taped, .ref q_texts, .ref q_sizes, .int v_programs, .ref q_imageTexts, .ref q_imageSizes, .int v_imagePrograms, .int hq9, .int ho, .int v_running, .int v_begun, .ref q_held, .ref q_marks, .int v_markMany, .ref q_trace, .int v_traced, .ref q_keptBalances, .ref q_keptFees, .int v_deep, .ref q_way, .ref q_sorts, .ref q_rowMany, .ref q_items, .ref q_moved], eI q_tape k_tape 80 f_tape]) hP hD hS hA [(0, 2)] 2 rfl (by decide +kernel) rfl
                        have hKc := K_s (tys' := [(k_tape, .int)]) hK [(0, 1)] rfl
                        refine va_calli (va_runV (As := [.int 0]) (rest := []) ⟨hx, hb, hml, hown, hts⟩ (ih_m h0 0 q_s v_fees q_thought v_thoughtFees q_image v_imageFees v_hasImage q_tape v_taped q_texts q_sizes v_programs q_imageTexts q_imageSizes v_imagePrograms hq9 ho v_running v_begun q_held q_marks v_markMany q_trace v_traced q_keptBalances q_keptFees v_deep q_way q_sorts q_rowMany q_items q_moved k_tape f_tape jx n9 H.size (by first | assumption | omega) htn hn80 (by first | assumption | omega) (by first | assumption | omega) (by first | assumption | omega)) (cwV 1 hts gX10_takesBracket_X10_takesItem rfl rfl rfl (by decide +kernel) ⟨(show (5 * m9 + 10) + 1 ≤ 5 * nd + 9 by omega), (show 8 + (3 + 11) + (200 * m9 + 200) ≤ 200 * nd + 150 by omega)⟩) ⟨fun a U g mk q => by obtain ⟨q0, q1, qP, qK, qD⟩ := q; exact ⟨q0, q1, qP, va_K.moved (u := U) (U := U.calling g mk a) (Vm.Alike.refl U.vm) qK, qD⟩, va_recv (s := s) (q := (RX10, TX10, 32)) hKc hPc (ci := 9) (q0 := 0) rfl rfl, fun U hU hW => ⟨rfl, by rw [hU], by rw [hU]; exact hPc, va_K.moved hW.alike hKc, hDc.weaken (fun _ _ _ _ => trivial)⟩⟩ rfl rfl hl.1 rfl (lv_room (Nat.le_of_ble_eq_true rfl)) dX10_takesBracket_129 ⟨Nat.le_of_ble_eq_true rfl, Nat.le_of_ble_eq_true rfl⟩) hS (fun q _ h => hFc q h) hFc (fun r24 u t H1 locs ht hvm hw hB hz1 hk1 hS => ?_)
                        obtain ⟨u25, u26⟩ := u
                        obtain ⟨hP1, hK1, hD1⟩ := hB
                        rw [ht] at hP1
                        have hK1 := va_K.moved hvm.symm hK1
                        try dsimp only at hw
                        obtain ⟨hP, hD⟩ := J_s (wL := [eO h0 9 [.ref q_s, .long v_fees, .ref q_thought, .long v_thoughtFees, .ref q_image, .long v_imageFees, .int v_hasImage, .ref q_tape, .int v_taped, .ref q_texts, .ref q_sizes, .int v_programs, .ref q_imageTexts, .ref q_imageSizes, .int v_imagePrograms, .int u25, .int u26, .int v_running, .int v_begun, .ref q_held, .ref q_marks, .int v_markMany, .ref q_trace, .int v_traced, .ref q_keptBalances, .ref q_keptFees, .int v_deep, .ref q_way, .ref q_sorts, .ref q_rowMany, .ref q_items, .ref q_moved], eI q_tape k_tape 80 f_tape]) hP hD [(0, 2)] [] hCm hNw (by decide +kernel) hk1 hFc hP1 hD1 rfl
                        have hK := KJ_s (tys' := [(k_tape, .int)]) hK hK1 [] rfl
                        generalize H1 = H at hP hS ⊢
                        rcases hw with ⟨e_r24, f_r24⟩ | ⟨e_r24, f_r24⟩
                        · subst e_r24
                          obtain ⟨hoq, e9, he9, hit9⟩ := f_r24
                          have hl9 := it_lt _ _ _ hit9
                          refine lv_if_ne (tgt := 118) hx hb dX10_takesBracket_132 (by decide) (fun c27 => ?_) (fun c27 => absurd c27 (by decide))
                          exact ih_118 u25 u26 (by omega) ⟨ax, cx + 1, e9, hax, by omega, by omega, sq_snoc cx ax jx e9 hsq hit9⟩ (by omega) _ _ (K_s hK [(0, 1)] rfl) (P_s hP [(0, 2)] rfl) (D_s hD [(0, 2)] 2 rfl (by decide +kernel) rfl) hS ls (lv_sub hl [0, 1, 2, 3, 4] rfl)
                        · subst e_r24
                          refine lv_if_ne (tgt := 118) hx hb dX10_takesBracket_132 (by decide) (fun c28 => absurd (by decide) c28) (fun c28 => ?_)
                          refine lv_iconst (v := 0) hx hb dX10_takesBracket_135 (by decide) ?_
                          rw [hQ9]
                          exact W.zret (v := 0) hx hb hr (by decide) (fun t ht hW => ⟨⟨0, (u25, u26), rfl, Or.inr ⟨rfl, by omega⟩, by rw [ht]; exact hP, va_K.moved hW.alike hK, hD⟩, hS.F ht⟩) hS.2.2 dX10_takesBracket_136
                  exact loop_118 (1000) z3 z2 (by omega) ⟨z3.toInt.toNat, 0, z3.toInt.toNat, by omega, by omega, by omega, rfl⟩ (by omega) _ _ hK hP hD hS ls (lv_sub hl [0, 1, 2, 3, 4] rfl)
                · skip
                  have f_c19 := i_eq c19
                  exfalso; omega
            · skip
              have f_c8 := i_eq c8
              refine lv_bipush (v := 62) hx hb dX10_takesBracket_93 (by decide) ?_
              refine lv_goto (tgt := 100) hx hb dX10_takesBracket_95 (by decide) ?_
              refine lv_istore_n (lv' := [(3, .int 62), (0, .ref h0), (1, .int p0), (2, .int p1)]) hx hb dX10_takesBracket_100 rfl hl (by decide) rfl (fun ls hl => ?_)
              refine lv_iload_n hx hb dX10_takesBracket_101 rfl (lv_at hl 3 rfl) ?_
              refine lv_if_ne (tgt := 111) hx hb dX10_takesBracket_102 (by decide) (fun c29 => ?_) (fun c29 => ?_)
              · skip
                have f_c29 := i_ne c29
                refine lv_iconst (v := 1) hx hb dX10_takesBracket_111 (by decide) ?_
                refine lv_goto (tgt := 116) hx hb dX10_takesBracket_112 (by decide) ?_
                refine lv_istore (lv' := [(4, .int 1), (3, .int 62), (0, .ref h0), (1, .int p0), (2, .int p1)]) hx hb dX10_takesBracket_116 hl (by decide) rfl (fun ls hl => ?_)
                have loop_118 : ∀ (n : Nat) (hq9 : Int32) (ho : Int32), (ho.toInt = v_open.toInt + 1 ∧ 0 ≤ hq9.toInt ∧ hq9.toInt ≤ (n9 : Int)) → (∃ ax cx jx : Nat, ((((f_tape kk).toInt = 40 ∨ (f_tape kk).toInt = 123) ∧ ax = kk + 2) ∨ (((f_tape kk).toInt = 91 ∨ (f_tape kk).toInt = 60) ∧ ax = kk + 1)) ∧ hq9.toInt = (jx : Int) ∧ jx ≤ n9 ∧ Sq (It f_tape n9 m9) cx ax jx) → ((n9 : Int) - hq9.toInt) < (n : Int) → ∀ (H : Heap) (locs : List Loc), va_K (dC, dI) vwCl [(k_tape, .int)] s → va_P (dC, dI) vwCl [eO h0 9 [.ref q_s, .long v_fees, .ref q_thought, .long v_thoughtFees, .ref q_image, .long v_imageFees, .int v_hasImage, .ref q_tape, .int v_taped, .ref q_texts, .ref q_sizes, .int v_programs, .ref q_imageTexts, .ref q_imageSizes, .int v_imagePrograms, .int hq9, .int ho, .int v_running, .int v_begun, .ref q_held, .ref q_marks, .int v_markMany, .ref q_trace, .int v_traced, .ref q_keptBalances, .ref q_keptFees, .int v_deep, .ref q_way, .ref q_sorts, .ref q_rowMany, .ref q_items, .ref q_moved], eI q_tape k_tape 80 f_tape] H → va_D A [eO h0 9 [.ref q_s, .long v_fees, .ref q_thought, .long v_thoughtFees, .ref q_image, .long v_imageFees, .int v_hasImage, .ref q_tape, .int v_taped, .ref q_texts, .ref q_sizes, .int v_programs, .ref q_imageTexts, .ref q_imageSizes, .int v_imagePrograms, .int hq9, .int ho, .int v_running, .int v_begun, .ref q_held, .ref q_marks, .int v_markMany, .ref q_trace, .int v_traced, .ref q_keptBalances, .ref q_keptFees, .int v_deep, .ref q_way, .ref q_sorts, .ref q_rowMany, .ref q_items, .ref q_moved], eI q_tape k_tape 80 f_tape] → va_S A s.heap H locs → ∀ (ls : Array Slot), lv_has ls 5 [(4, .int 1), (3, .int 62), (0, .ref h0), (1, .int p0), (2, .int p1)] → W p l e ({ frames := 5 * nd + 9, cells := 0, slots := 0, locals := 200 * nd + 150 }) s m (([.ref h0, .int p0, .int p1] : List Value).toArray) below meth c H locs 0 0 Q9 (F0 m 118 ls []) := by
                  intro n
                  induction n with
                  | zero => intro hq9 ho j1 j2 hM_118; exfalso; omega
                  | succ n ih_118 =>
                    intro hq9 ho j1 j2 hM_118 H locs hK hP hD hS ls hl
                    obtain ⟨ax, cx, jx, hax, hjx, hjn, hsq⟩ := j2
                    refine lv_aload_n hx hb dX10_takesBracket_118 rfl (lv_at hl 2 rfl) ?_
                    obtain ⟨hPc, hDc, hFc, hCm, hNw⟩ := C_s (wc := [eO h0 9 [.ref q_s, .long v_fees, .ref q_thought, .long v_thoughtFees, .ref q_image, .long v_imageFees, .int v_hasImage, .ref q_tape, .int v_taped, .ref q_texts, .ref q_sizes, .int v_programs, .ref q_imageTexts, .ref q_imageSizes, .int v_imagePrograms, .int hq9, .int ho, .int v_running, .int v_begun, .ref q_held, .ref q_marks, .int v_markMany, .ref q_trace, .int v_traced, .ref q_keptBalances, .ref q_keptFees, .int v_deep, .ref q_way, .ref q_sorts, .ref q_rowMany, .ref q_items, .ref q_moved], eI q_tape k_tape 80 f_tape]) hP hD hS hA [(0, 2)] 2 rfl (by decide +kernel) rfl
                    have hKc := K_s (tys' := [(k_tape, .int)]) hK [(0, 1)] rfl
                    refine va_calli (va_runV (As := []) (rest := []) ⟨hx, hb, hml, hown, hts⟩ (c_X10_byteAt l dC dI h0 q_s v_fees q_thought v_thoughtFees q_image v_imageFees v_hasImage q_tape v_taped q_texts q_sizes v_programs q_imageTexts q_imageSizes v_imagePrograms hq9 ho v_running v_begun q_held q_marks v_markMany q_trace v_traced q_keptBalances q_keptFees v_deep q_way q_sorts q_rowMany q_items q_moved k_tape f_tape jx n9 H.size (by first | assumption | omega) htn hn80) (cwV 0 hts gX10_takesBracket_X10_byteAt rfl rfl rfl (by decide +kernel) ⟨(show (0) + 1 ≤ 5 * nd + 9 by omega), (show 8 + (1 + 11) + (0) ≤ 200 * nd + 150 by omega)⟩) ⟨fun a U g mk q => by obtain ⟨q0, q1, qP, qK, qD⟩ := q; exact ⟨q0, q1, qP, va_K.moved (u := U) (U := U.calling g mk a) (Vm.Alike.refl U.vm) qK, qD⟩, va_recv (s := s) (q := (RX10, TX10, 32)) hKc hPc (ci := 9) (q0 := 0) rfl rfl, fun U hU hW => ⟨rfl, by rw [hU], by rw [hU]; exact hPc, va_K.moved hW.alike hKc, hDc.weaken (fun _ _ _ _ => trivial)⟩⟩ rfl rfl hl.1 rfl (lv_room (Nat.le_of_ble_eq_true rfl)) dX10_takesBracket_119 ⟨Nat.le_of_ble_eq_true rfl, Nat.le_of_ble_eq_true rfl⟩) hS (fun q _ h => hFc q h) hFc (fun r30 u t H1 locs ht hvm hw hB hz1 hk1 hS => ?_)
                    obtain ⟨hP1, hK1, hD1⟩ := hB
                    rw [ht] at hP1
                    have hK1 := va_K.moved hvm.symm hK1
                    try dsimp only at hw
                    obtain ⟨hP, hD⟩ := J_s (wL := [eO h0 9 [.ref q_s, .long v_fees, .ref q_thought, .long v_thoughtFees, .ref q_image, .long v_imageFees, .int v_hasImage, .ref q_tape, .int v_taped, .ref q_texts, .ref q_sizes, .int v_programs, .ref q_imageTexts, .ref q_imageSizes, .int v_imagePrograms, .int hq9, .int ho, .int v_running, .int v_begun, .ref q_held, .ref q_marks, .int v_markMany, .ref q_trace, .int v_traced, .ref q_keptBalances, .ref q_keptFees, .int v_deep, .ref q_way, .ref q_sorts, .ref q_rowMany, .ref q_items, .ref q_moved], eI q_tape k_tape 80 f_tape]) hP hD [(0, 2)] [] hCm hNw (by decide +kernel) hk1 hFc hP1 hD1 rfl
                    have hK := KJ_s (tys' := [(k_tape, .int)]) hK hK1 [] rfl
                    generalize H1 = H at hP hS ⊢
                    have h_r30 := hw
                    refine lv_iload_n hx hb dX10_takesBracket_122 rfl (lv_at hl 1 rfl) ?_
                    refine lv_icmp_eq (tgt := 137) hx hb dX10_takesBracket_123 (by decide) (fun c31 => ?_) (fun c31 => ?_)
                    · skip
                      have f_c31 := i_eq c31
                      refine lv_aload_n hx hb dX10_takesBracket_137 rfl (lv_at hl 2 rfl) ?_
                      refine lv_dup hx hb dX10_takesBracket_138 rfl ?_
                      refine va_get (D := (dC, dI)) (ci := 9) (v := .int hq9) (C := RX10) (T := TX10) (N := 32) hx hb hts (fun w h => List.mem_cons_of_mem _ (inlX10 w h)) hown hK hP 0 rfl rfl 15 (by decide) (hts (.fieldLink RX10 124 "ClearingGatesModel" "here" "I") (List.mem_cons_of_mem _ mw_624)) (fun _ h9 => h9) rfl dX10_takesBracket_139 ?_
                      refine lv_iconst (v := 1) hx hb dX10_takesBracket_142 (by decide) ?_
                      refine lv_iadd hx hb dX10_takesBracket_143 ?_
                      refine lv_topi (fun z32 e_z32 => ?_)
                      (first | have t_z32 := i_add e_z32 (by omega) (by omega) | skip)
                      refine va_put (D := (dC, dI)) (ci := 9) (v := .int z32) (ty := .int) (C := RX10) (T := TX10) (N := 32) hx hb hts (fun w h => List.mem_cons_of_mem _ (inlX10 w h)) tyX10 tyX10_ok nmX10 hown hK hP hD hS 0 rfl rfl 15 (by decide) (hts (.fieldLink RX10 124 "ClearingGatesModel" "here" "I") (List.mem_cons_of_mem _ mw_624)) (fun _ h9 => h9) rfl (by decide +kernel) rfl rfl (Nat.le_of_ble_eq_true rfl) dX10_takesBracket_144 (fun H locs hP hD hS => ?_)
                      obtain ⟨hP, hD⟩ := X_s (ws' := [eO h0 9 [.ref q_s, .long v_fees, .ref q_thought, .long v_thoughtFees, .ref q_image, .long v_imageFees, .int v_hasImage, .ref q_tape, .int v_taped, .ref q_texts, .ref q_sizes, .int v_programs, .ref q_imageTexts, .ref q_imageSizes, .int v_imagePrograms, .int z32, .int ho, .int v_running, .int v_begun, .ref q_held, .ref q_marks, .int v_markMany, .ref q_trace, .int v_traced, .ref q_keptBalances, .ref q_keptFees, .int v_deep, .ref q_way, .ref q_sorts, .ref q_rowMany, .ref q_items, .ref q_moved], eI q_tape k_tape 80 f_tape]) hP hD rfl
                      refine lv_aload_n hx hb dX10_takesBracket_147 rfl (lv_at hl 2 rfl) ?_
                      refine lv_dup hx hb dX10_takesBracket_148 rfl ?_
                      refine va_get (D := (dC, dI)) (ci := 9) (v := .int ho) (C := RX10) (T := TX10) (N := 32) hx hb hts (fun w h => List.mem_cons_of_mem _ (inlX10 w h)) hown hK hP 0 rfl rfl 16 (by decide) (hts (.fieldLink RX10 131 "ClearingGatesModel" "open" "I") (List.mem_cons_of_mem _ mw_625)) (fun _ h9 => h9) rfl dX10_takesBracket_149 ?_
                      refine lv_iconst (v := 1) hx hb dX10_takesBracket_152 (by decide) ?_
                      refine lv_isub hx hb dX10_takesBracket_153 ?_
                      refine lv_topi (fun z33 e_z33 => ?_)
                      (first | have t_z33 := i_sub e_z33 (by omega) (by omega) | skip)
                      refine va_put (D := (dC, dI)) (ci := 9) (v := .int z33) (ty := .int) (C := RX10) (T := TX10) (N := 32) hx hb hts (fun w h => List.mem_cons_of_mem _ (inlX10 w h)) tyX10 tyX10_ok nmX10 hown hK hP hD hS 0 rfl rfl 16 (by decide) (hts (.fieldLink RX10 131 "ClearingGatesModel" "open" "I") (List.mem_cons_of_mem _ mw_625)) (fun _ h9 => h9) rfl (by decide +kernel) rfl rfl (Nat.le_of_ble_eq_true rfl) dX10_takesBracket_154 (fun H locs hP hD hS => ?_)
                      obtain ⟨hP, hD⟩ := X_s (ws' := [eO h0 9 [.ref q_s, .long v_fees, .ref q_thought, .long v_thoughtFees, .ref q_image, .long v_imageFees, .int v_hasImage, .ref q_tape, .int v_taped, .ref q_texts, .ref q_sizes, .int v_programs, .ref q_imageTexts, .ref q_imageSizes, .int v_imagePrograms, .int z32, .int z33, .int v_running, .int v_begun, .ref q_held, .ref q_marks, .int v_markMany, .ref q_trace, .int v_traced, .ref q_keptBalances, .ref q_keptFees, .int v_deep, .ref q_way, .ref q_sorts, .ref q_rowMany, .ref q_items, .ref q_moved], eI q_tape k_tape 80 f_tape]) hP hD rfl
                      refine lv_iconst (v := 1) hx hb dX10_takesBracket_157 (by decide) ?_
                      rw [hQ9]
                      exact W.zret (v := 1) hx hb hr (by decide) (fun t ht hW => ⟨⟨1, (z32, z33), rfl, Or.inl ⟨rfl, by omega, jx + 1, by omega, it_br hm9 hax hsq (by omega) (by omega)⟩, by rw [ht]; exact hP, va_K.moved hW.alike hK, hD⟩, hS.F ht⟩) hS.2.2 dX10_takesBracket_158
                    · skip
                      have f_c31 := i_ne c31
                      refine lv_aload_n hx hb dX10_takesBracket_126 rfl (lv_at hl 2 rfl) ?_
                      refine lv_iload hx hb dX10_takesBracket_127 (lv_at hl 0 rfl) ?_
                      obtain ⟨hPc, hDc, hFc, hCm, hNw⟩ := C_s (wc := [eO h0 9 [.ref q_s, .long v_fees, .ref q_thought, .long v_thoughtFees, .ref q_image, .long v_imageFees, .int v_hasImage, .ref q_tape, .int v_taped, .ref q_texts, .ref q_sizes, .int v_programs, .ref q_imageTexts, .ref q_imageSizes, .int v_imagePrograms, .int hq9, .int ho, .int v_running, .int v_begun, .ref q_held, .ref q_marks, .int v_markMany, .ref q_trace, .int v_traced, .ref q_keptBalances, .ref q_keptFees, .int v_deep, .ref q_way, .ref q_sorts, .ref q_rowMany, .ref q_items, .ref q_moved], eI q_tape k_tape 80 f_tape]) hP hD hS hA [(0, 2)] 2 rfl (by decide +kernel) rfl
                      have hKc := K_s (tys' := [(k_tape, .int)]) hK [(0, 1)] rfl
                      refine va_calli (va_runV (As := [.int 1]) (rest := []) ⟨hx, hb, hml, hown, hts⟩ (ih_m h0 1 q_s v_fees q_thought v_thoughtFees q_image v_imageFees v_hasImage q_tape v_taped q_texts q_sizes v_programs q_imageTexts q_imageSizes v_imagePrograms hq9 ho v_running v_begun q_held q_marks v_markMany q_trace v_traced q_keptBalances q_keptFees v_deep q_way q_sorts q_rowMany q_items q_moved k_tape f_tape jx n9 H.size (by first | assumption | omega) htn hn80 (by first | assumption | omega) (by first | assumption | omega) (by first | assumption | omega)) (cwV 1 hts gX10_takesBracket_X10_takesItem rfl rfl rfl (by decide +kernel) ⟨(show (5 * m9 + 10) + 1 ≤ 5 * nd + 9 by omega), (show 8 + (3 + 11) + (200 * m9 + 200) ≤ 200 * nd + 150 by omega)⟩) ⟨fun a U g mk q => by obtain ⟨q0, q1, qP, qK, qD⟩ := q; exact ⟨q0, q1, qP, va_K.moved (u := U) (U := U.calling g mk a) (Vm.Alike.refl U.vm) qK, qD⟩, va_recv (s := s) (q := (RX10, TX10, 32)) hKc hPc (ci := 9) (q0 := 0) rfl rfl, fun U hU hW => ⟨rfl, by rw [hU], by rw [hU]; exact hPc, va_K.moved hW.alike hKc, hDc.weaken (fun _ _ _ _ => trivial)⟩⟩ rfl rfl hl.1 rfl (lv_room (Nat.le_of_ble_eq_true rfl)) dX10_takesBracket_129 ⟨Nat.le_of_ble_eq_true rfl, Nat.le_of_ble_eq_true rfl⟩) hS (fun q _ h => hFc q h) hFc (fun r34 u t H1 locs ht hvm hw hB hz1 hk1 hS => ?_)
                      obtain ⟨u35, u36⟩ := u
                      obtain ⟨hP1, hK1, hD1⟩ := hB
                      rw [ht] at hP1
                      have hK1 := va_K.moved hvm.symm hK1
                      try dsimp only at hw
                      obtain ⟨hP, hD⟩ := J_s (wL := [eO h0 9 [.ref q_s, .long v_fees, .ref q_thought, .long v_thoughtFees, .ref q_image, .long v_imageFees, .int v_hasImage, .ref q_tape, .int v_taped, .ref q_texts, .ref q_sizes, .int v_programs, .ref q_imageTexts, .ref q_imageSizes, .int v_imagePrograms, .int u35, .int u36, .int v_running, .int v_begun, .ref q_held, .ref q_marks, .int v_markMany, .ref q_trace, .int v_traced, .ref q_keptBalances, .ref q_keptFees, .int v_deep, .ref q_way, .ref q_sorts, .ref q_rowMany, .ref q_items, .ref q_moved], eI q_tape k_tape 80 f_tape]) hP hD [(0, 2)] [] hCm hNw (by decide +kernel) hk1 hFc hP1 hD1 rfl
                      have hK := KJ_s (tys' := [(k_tape, .int)]) hK hK1 [] rfl
                      generalize H1 = H at hP hS ⊢
                      rcases hw with ⟨e_r34, f_r34⟩ | ⟨e_r34, f_r34⟩
                      · subst e_r34
                        obtain ⟨hoq, e9, he9, hit9⟩ := f_r34
                        have hl9 := it_lt _ _ _ hit9
                        refine lv_if_ne (tgt := 118) hx hb dX10_takesBracket_132 (by decide) (fun c37 => ?_) (fun c37 => absurd c37 (by decide))
                        exact ih_118 u35 u36 (by omega) ⟨ax, cx + 1, e9, hax, by omega, by omega, sq_snoc cx ax jx e9 hsq hit9⟩ (by omega) _ _ (K_s hK [(0, 1)] rfl) (P_s hP [(0, 2)] rfl) (D_s hD [(0, 2)] 2 rfl (by decide +kernel) rfl) hS ls (lv_sub hl [0, 1, 2, 3, 4] rfl)
                      · subst e_r34
                        refine lv_if_ne (tgt := 118) hx hb dX10_takesBracket_132 (by decide) (fun c38 => absurd (by decide) c38) (fun c38 => ?_)
                        refine lv_iconst (v := 0) hx hb dX10_takesBracket_135 (by decide) ?_
                        rw [hQ9]
                        exact W.zret (v := 0) hx hb hr (by decide) (fun t ht hW => ⟨⟨0, (u35, u36), rfl, Or.inr ⟨rfl, by omega⟩, by rw [ht]; exact hP, va_K.moved hW.alike hK, hD⟩, hS.F ht⟩) hS.2.2 dX10_takesBracket_136
                exact loop_118 (1000) z3 z2 (by omega) ⟨z3.toInt.toNat, 0, z3.toInt.toNat, by omega, by omega, by omega, rfl⟩ (by omega) _ _ hK hP hD hS ls (lv_sub hl [0, 1, 2, 3, 4] rfl)
              · skip
                have f_c29 := i_eq c29
                refine lv_iload_n hx hb dX10_takesBracket_105 rfl (lv_at hl 2 rfl) ?_
                refine lv_bipush (v := 123) hx hb dX10_takesBracket_106 (by decide) ?_
                refine lv_icmp_ne (tgt := 115) hx hb dX10_takesBracket_108 (by decide) (fun c39 => ?_) (fun c39 => ?_)
                · skip
                  have f_c39 := i_ne c39
                  refine lv_iconst (v := 0) hx hb dX10_takesBracket_115 (by decide) ?_
                  refine lv_istore (lv' := [(4, .int 0), (3, .int 62), (0, .ref h0), (1, .int p0), (2, .int p1)]) hx hb dX10_takesBracket_116 hl (by decide) rfl (fun ls hl => ?_)
                  have loop_118 : ∀ (n : Nat) (hq9 : Int32) (ho : Int32), (ho.toInt = v_open.toInt + 1 ∧ 0 ≤ hq9.toInt ∧ hq9.toInt ≤ (n9 : Int)) → (∃ ax cx jx : Nat, ((((f_tape kk).toInt = 40 ∨ (f_tape kk).toInt = 123) ∧ ax = kk + 2) ∨ (((f_tape kk).toInt = 91 ∨ (f_tape kk).toInt = 60) ∧ ax = kk + 1)) ∧ hq9.toInt = (jx : Int) ∧ jx ≤ n9 ∧ Sq (It f_tape n9 m9) cx ax jx) → ((n9 : Int) - hq9.toInt) < (n : Int) → ∀ (H : Heap) (locs : List Loc), va_K (dC, dI) vwCl [(k_tape, .int)] s → va_P (dC, dI) vwCl [eO h0 9 [.ref q_s, .long v_fees, .ref q_thought, .long v_thoughtFees, .ref q_image, .long v_imageFees, .int v_hasImage, .ref q_tape, .int v_taped, .ref q_texts, .ref q_sizes, .int v_programs, .ref q_imageTexts, .ref q_imageSizes, .int v_imagePrograms, .int hq9, .int ho, .int v_running, .int v_begun, .ref q_held, .ref q_marks, .int v_markMany, .ref q_trace, .int v_traced, .ref q_keptBalances, .ref q_keptFees, .int v_deep, .ref q_way, .ref q_sorts, .ref q_rowMany, .ref q_items, .ref q_moved], eI q_tape k_tape 80 f_tape] H → va_D A [eO h0 9 [.ref q_s, .long v_fees, .ref q_thought, .long v_thoughtFees, .ref q_image, .long v_imageFees, .int v_hasImage, .ref q_tape, .int v_taped, .ref q_texts, .ref q_sizes, .int v_programs, .ref q_imageTexts, .ref q_imageSizes, .int v_imagePrograms, .int hq9, .int ho, .int v_running, .int v_begun, .ref q_held, .ref q_marks, .int v_markMany, .ref q_trace, .int v_traced, .ref q_keptBalances, .ref q_keptFees, .int v_deep, .ref q_way, .ref q_sorts, .ref q_rowMany, .ref q_items, .ref q_moved], eI q_tape k_tape 80 f_tape] → va_S A s.heap H locs → ∀ (ls : Array Slot), lv_has ls 5 [(4, .int 0), (3, .int 62), (0, .ref h0), (1, .int p0), (2, .int p1)] → W p l e ({ frames := 5 * nd + 9, cells := 0, slots := 0, locals := 200 * nd + 150 }) s m (([.ref h0, .int p0, .int p1] : List Value).toArray) below meth c H locs 0 0 Q9 (F0 m 118 ls []) := by
                    intro n
                    induction n with
                    | zero => intro hq9 ho j1 j2 hM_118; exfalso; omega
                    | succ n ih_118 =>
                      intro hq9 ho j1 j2 hM_118 H locs hK hP hD hS ls hl
                      obtain ⟨ax, cx, jx, hax, hjx, hjn, hsq⟩ := j2
                      refine lv_aload_n hx hb dX10_takesBracket_118 rfl (lv_at hl 2 rfl) ?_
                      obtain ⟨hPc, hDc, hFc, hCm, hNw⟩ := C_s (wc := [eO h0 9 [.ref q_s, .long v_fees, .ref q_thought, .long v_thoughtFees, .ref q_image, .long v_imageFees, .int v_hasImage, .ref q_tape, .int v_taped, .ref q_texts, .ref q_sizes, .int v_programs, .ref q_imageTexts, .ref q_imageSizes, .int v_imagePrograms, .int hq9, .int ho, .int v_running, .int v_begun, .ref q_held, .ref q_marks, .int v_markMany, .ref q_trace, .int v_traced, .ref q_keptBalances, .ref q_keptFees, .int v_deep, .ref q_way, .ref q_sorts, .ref q_rowMany, .ref q_items, .ref q_moved], eI q_tape k_tape 80 f_tape]) hP hD hS hA [(0, 2)] 2 rfl (by decide +kernel) rfl
                      have hKc := K_s (tys' := [(k_tape, .int)]) hK [(0, 1)] rfl
                      refine va_calli (va_runV (As := []) (rest := []) ⟨hx, hb, hml, hown, hts⟩ (c_X10_byteAt l dC dI h0 q_s v_fees q_thought v_thoughtFees q_image v_imageFees v_hasImage q_tape v_taped q_texts q_sizes v_programs q_imageTexts q_imageSizes v_imagePrograms hq9 ho v_running v_begun q_held q_marks v_markMany q_trace v_traced q_keptBalances q_keptFees v_deep q_way q_sorts q_rowMany q_items q_moved k_tape f_tape jx n9 H.size (by first | assumption | omega) htn hn80) (cwV 0 hts gX10_takesBracket_X10_byteAt rfl rfl rfl (by decide +kernel) ⟨(show (0) + 1 ≤ 5 * nd + 9 by omega), (show 8 + (1 + 11) + (0) ≤ 200 * nd + 150 by omega)⟩) ⟨fun a U g mk q => by obtain ⟨q0, q1, qP, qK, qD⟩ := q; exact ⟨q0, q1, qP, va_K.moved (u := U) (U := U.calling g mk a) (Vm.Alike.refl U.vm) qK, qD⟩, va_recv (s := s) (q := (RX10, TX10, 32)) hKc hPc (ci := 9) (q0 := 0) rfl rfl, fun U hU hW => ⟨rfl, by rw [hU], by rw [hU]; exact hPc, va_K.moved hW.alike hKc, hDc.weaken (fun _ _ _ _ => trivial)⟩⟩ rfl rfl hl.1 rfl (lv_room (Nat.le_of_ble_eq_true rfl)) dX10_takesBracket_119 ⟨Nat.le_of_ble_eq_true rfl, Nat.le_of_ble_eq_true rfl⟩) hS (fun q _ h => hFc q h) hFc (fun r40 u t H1 locs ht hvm hw hB hz1 hk1 hS => ?_)
                      obtain ⟨hP1, hK1, hD1⟩ := hB
                      rw [ht] at hP1
                      have hK1 := va_K.moved hvm.symm hK1
                      try dsimp only at hw
                      obtain ⟨hP, hD⟩ := J_s (wL := [eO h0 9 [.ref q_s, .long v_fees, .ref q_thought, .long v_thoughtFees, .ref q_image, .long v_imageFees, .int v_hasImage, .ref q_tape, .int v_taped, .ref q_texts, .ref q_sizes, .int v_programs, .ref q_imageTexts, .ref q_imageSizes, .int v_imagePrograms, .int hq9, .int ho, .int v_running, .int v_begun, .ref q_held, .ref q_marks, .int v_markMany, .ref q_trace, .int v_traced, .ref q_keptBalances, .ref q_keptFees, .int v_deep, .ref q_way, .ref q_sorts, .ref q_rowMany, .ref q_items, .ref q_moved], eI q_tape k_tape 80 f_tape]) hP hD [(0, 2)] [] hCm hNw (by decide +kernel) hk1 hFc hP1 hD1 rfl
                      have hK := KJ_s (tys' := [(k_tape, .int)]) hK hK1 [] rfl
                      generalize H1 = H at hP hS ⊢
                      have h_r40 := hw
                      refine lv_iload_n hx hb dX10_takesBracket_122 rfl (lv_at hl 1 rfl) ?_
                      refine lv_icmp_eq (tgt := 137) hx hb dX10_takesBracket_123 (by decide) (fun c41 => ?_) (fun c41 => ?_)
                      · skip
                        have f_c41 := i_eq c41
                        refine lv_aload_n hx hb dX10_takesBracket_137 rfl (lv_at hl 2 rfl) ?_
                        refine lv_dup hx hb dX10_takesBracket_138 rfl ?_
                        refine va_get (D := (dC, dI)) (ci := 9) (v := .int hq9) (C := RX10) (T := TX10) (N := 32) hx hb hts (fun w h => List.mem_cons_of_mem _ (inlX10 w h)) hown hK hP 0 rfl rfl 15 (by decide) (hts (.fieldLink RX10 124 "ClearingGatesModel" "here" "I") (List.mem_cons_of_mem _ mw_624)) (fun _ h9 => h9) rfl dX10_takesBracket_139 ?_
                        refine lv_iconst (v := 1) hx hb dX10_takesBracket_142 (by decide) ?_
                        refine lv_iadd hx hb dX10_takesBracket_143 ?_
                        refine lv_topi (fun z42 e_z42 => ?_)
                        (first | have t_z42 := i_add e_z42 (by omega) (by omega) | skip)
                        refine va_put (D := (dC, dI)) (ci := 9) (v := .int z42) (ty := .int) (C := RX10) (T := TX10) (N := 32) hx hb hts (fun w h => List.mem_cons_of_mem _ (inlX10 w h)) tyX10 tyX10_ok nmX10 hown hK hP hD hS 0 rfl rfl 15 (by decide) (hts (.fieldLink RX10 124 "ClearingGatesModel" "here" "I") (List.mem_cons_of_mem _ mw_624)) (fun _ h9 => h9) rfl (by decide +kernel) rfl rfl (Nat.le_of_ble_eq_true rfl) dX10_takesBracket_144 (fun H locs hP hD hS => ?_)
                        obtain ⟨hP, hD⟩ := X_s (ws' := [eO h0 9 [.ref q_s, .long v_fees, .ref q_thought, .long v_thoughtFees, .ref q_image, .long v_imageFees, .int v_hasImage, .ref q_tape, .int v_taped, .ref q_texts, .ref q_sizes, .int v_programs, .ref q_imageTexts, .ref q_imageSizes, .int v_imagePrograms, .int z42, .int ho, .int v_running, .int v_begun, .ref q_held, .ref q_marks, .int v_markMany, .ref q_trace, .int v_traced, .ref q_keptBalances, .ref q_keptFees, .int v_deep, .ref q_way, .ref q_sorts, .ref q_rowMany, .ref q_items, .ref q_moved], eI q_tape k_tape 80 f_tape]) hP hD rfl
                        refine lv_aload_n hx hb dX10_takesBracket_147 rfl (lv_at hl 2 rfl) ?_
                        refine lv_dup hx hb dX10_takesBracket_148 rfl ?_
                        refine va_get (D := (dC, dI)) (ci := 9) (v := .int ho) (C := RX10) (T := TX10) (N := 32) hx hb hts (fun w h => List.mem_cons_of_mem _ (inlX10 w h)) hown hK hP 0 rfl rfl 16 (by decide) (hts (.fieldLink RX10 131 "ClearingGatesModel" "open" "I") (List.mem_cons_of_mem _ mw_625)) (fun _ h9 => h9) rfl dX10_takesBracket_149 ?_
                        refine lv_iconst (v := 1) hx hb dX10_takesBracket_152 (by decide) ?_
                        refine lv_isub hx hb dX10_takesBracket_153 ?_
                        refine lv_topi (fun z43 e_z43 => ?_)
                        (first | have t_z43 := i_sub e_z43 (by omega) (by omega) | skip)
                        refine va_put (D := (dC, dI)) (ci := 9) (v := .int z43) (ty := .int) (C := RX10) (T := TX10) (N := 32) hx hb hts (fun w h => List.mem_cons_of_mem _ (inlX10 w h)) tyX10 tyX10_ok nmX10 hown hK hP hD hS 0 rfl rfl 16 (by decide) (hts (.fieldLink RX10 131 "ClearingGatesModel" "open" "I") (List.mem_cons_of_mem _ mw_625)) (fun _ h9 => h9) rfl (by decide +kernel) rfl rfl (Nat.le_of_ble_eq_true rfl) dX10_takesBracket_154 (fun H locs hP hD hS => ?_)
                        obtain ⟨hP, hD⟩ := X_s (ws' := [eO h0 9 [.ref q_s, .long v_fees, .ref q_thought, .long v_thoughtFees, .ref q_image, .long v_imageFees, .int v_hasImage, .ref q_tape, .int v_taped, .ref q_texts, .ref q_sizes, .int v_programs, .ref q_imageTexts, .ref q_imageSizes, .int v_imagePrograms, .int z42, .int z43, .int v_running, .int v_begun, .ref q_held, .ref q_marks, .int v_markMany, .ref q_trace, .int v_traced, .ref q_keptBalances, .ref q_keptFees, .int v_deep, .ref q_way, .ref q_sorts, .ref q_rowMany, .ref q_items, .ref q_moved], eI q_tape k_tape 80 f_tape]) hP hD rfl
                        refine lv_iconst (v := 1) hx hb dX10_takesBracket_157 (by decide) ?_
                        rw [hQ9]
                        exact W.zret (v := 1) hx hb hr (by decide) (fun t ht hW => ⟨⟨1, (z42, z43), rfl, Or.inl ⟨rfl, by omega, jx + 1, by omega, it_br hm9 hax hsq (by omega) (by omega)⟩, by rw [ht]; exact hP, va_K.moved hW.alike hK, hD⟩, hS.F ht⟩) hS.2.2 dX10_takesBracket_158
                      · skip
                        have f_c41 := i_ne c41
                        refine lv_aload_n hx hb dX10_takesBracket_126 rfl (lv_at hl 2 rfl) ?_
                        refine lv_iload hx hb dX10_takesBracket_127 (lv_at hl 0 rfl) ?_
                        obtain ⟨hPc, hDc, hFc, hCm, hNw⟩ := C_s (wc := [eO h0 9 [.ref q_s, .long v_fees, .ref q_thought, .long v_thoughtFees, .ref q_image, .long v_imageFees, .int v_hasImage, .ref q_tape, .int v_taped, .ref q_texts, .ref q_sizes, .int v_programs, .ref q_imageTexts, .ref q_imageSizes, .int v_imagePrograms, .int hq9, .int ho, .int v_running, .int v_begun, .ref q_held, .ref q_marks, .int v_markMany, .ref q_trace, .int v_traced, .ref q_keptBalances, .ref q_keptFees, .int v_deep, .ref q_way, .ref q_sorts, .ref q_rowMany, .ref q_items, .ref q_moved], eI q_tape k_tape 80 f_tape]) hP hD hS hA [(0, 2)] 2 rfl (by decide +kernel) rfl
                        have hKc := K_s (tys' := [(k_tape, .int)]) hK [(0, 1)] rfl
                        refine va_calli (va_runV (As := [.int 0]) (rest := []) ⟨hx, hb, hml, hown, hts⟩ (ih_m h0 0 q_s v_fees q_thought v_thoughtFees q_image v_imageFees v_hasImage q_tape v_taped q_texts q_sizes v_programs q_imageTexts q_imageSizes v_imagePrograms hq9 ho v_running v_begun q_held q_marks v_markMany q_trace v_traced q_keptBalances q_keptFees v_deep q_way q_sorts q_rowMany q_items q_moved k_tape f_tape jx n9 H.size (by first | assumption | omega) htn hn80 (by first | assumption | omega) (by first | assumption | omega) (by first | assumption | omega)) (cwV 1 hts gX10_takesBracket_X10_takesItem rfl rfl rfl (by decide +kernel) ⟨(show (5 * m9 + 10) + 1 ≤ 5 * nd + 9 by omega), (show 8 + (3 + 11) + (200 * m9 + 200) ≤ 200 * nd + 150 by omega)⟩) ⟨fun a U g mk q => by obtain ⟨q0, q1, qP, qK, qD⟩ := q; exact ⟨q0, q1, qP, va_K.moved (u := U) (U := U.calling g mk a) (Vm.Alike.refl U.vm) qK, qD⟩, va_recv (s := s) (q := (RX10, TX10, 32)) hKc hPc (ci := 9) (q0 := 0) rfl rfl, fun U hU hW => ⟨rfl, by rw [hU], by rw [hU]; exact hPc, va_K.moved hW.alike hKc, hDc.weaken (fun _ _ _ _ => trivial)⟩⟩ rfl rfl hl.1 rfl (lv_room (Nat.le_of_ble_eq_true rfl)) dX10_takesBracket_129 ⟨Nat.le_of_ble_eq_true rfl, Nat.le_of_ble_eq_true rfl⟩) hS (fun q _ h => hFc q h) hFc (fun r44 u t H1 locs ht hvm hw hB hz1 hk1 hS => ?_)
                        obtain ⟨u45, u46⟩ := u
                        obtain ⟨hP1, hK1, hD1⟩ := hB
                        rw [ht] at hP1
                        have hK1 := va_K.moved hvm.symm hK1
                        try dsimp only at hw
                        obtain ⟨hP, hD⟩ := J_s (wL := [eO h0 9 [.ref q_s, .long v_fees, .ref q_thought, .long v_thoughtFees, .ref q_image, .long v_imageFees, .int v_hasImage, .ref q_tape, .int v_taped, .ref q_texts, .ref q_sizes, .int v_programs, .ref q_imageTexts, .ref q_imageSizes, .int v_imagePrograms, .int u45, .int u46, .int v_running, .int v_begun, .ref q_held, .ref q_marks, .int v_markMany, .ref q_trace, .int v_traced, .ref q_keptBalances, .ref q_keptFees, .int v_deep, .ref q_way, .ref q_sorts, .ref q_rowMany, .ref q_items, .ref q_moved], eI q_tape k_tape 80 f_tape]) hP hD [(0, 2)] [] hCm hNw (by decide +kernel) hk1 hFc hP1 hD1 rfl
                        have hK := KJ_s (tys' := [(k_tape, .int)]) hK hK1 [] rfl
                        generalize H1 = H at hP hS ⊢
                        rcases hw with ⟨e_r44, f_r44⟩ | ⟨e_r44, f_r44⟩
                        · subst e_r44
                          obtain ⟨hoq, e9, he9, hit9⟩ := f_r44
                          have hl9 := it_lt _ _ _ hit9
                          refine lv_if_ne (tgt := 118) hx hb dX10_takesBracket_132 (by decide) (fun c47 => ?_) (fun c47 => absurd c47 (by decide))
                          exact ih_118 u45 u46 (by omega) ⟨ax, cx + 1, e9, hax, by omega, by omega, sq_snoc cx ax jx e9 hsq hit9⟩ (by omega) _ _ (K_s hK [(0, 1)] rfl) (P_s hP [(0, 2)] rfl) (D_s hD [(0, 2)] 2 rfl (by decide +kernel) rfl) hS ls (lv_sub hl [0, 1, 2, 3, 4] rfl)
                        · subst e_r44
                          refine lv_if_ne (tgt := 118) hx hb dX10_takesBracket_132 (by decide) (fun c48 => absurd (by decide) c48) (fun c48 => ?_)
                          refine lv_iconst (v := 0) hx hb dX10_takesBracket_135 (by decide) ?_
                          rw [hQ9]
                          exact W.zret (v := 0) hx hb hr (by decide) (fun t ht hW => ⟨⟨0, (u45, u46), rfl, Or.inr ⟨rfl, by omega⟩, by rw [ht]; exact hP, va_K.moved hW.alike hK, hD⟩, hS.F ht⟩) hS.2.2 dX10_takesBracket_136
                  exact loop_118 (1000) z3 z2 (by omega) ⟨z3.toInt.toNat, 0, z3.toInt.toNat, by omega, by omega, by omega, rfl⟩ (by omega) _ _ hK hP hD hS ls (lv_sub hl [0, 1, 2, 3, 4] rfl)
                · skip
                  have f_c39 := i_eq c39
                  exfalso; omega
          · skip
            have f_c7 := i_eq c7
            refine lv_bipush (v := 93) hx hb dX10_takesBracket_82 (by decide) ?_
            refine lv_goto (tgt := 100) hx hb dX10_takesBracket_84 (by decide) ?_
            refine lv_istore_n (lv' := [(3, .int 93), (0, .ref h0), (1, .int p0), (2, .int p1)]) hx hb dX10_takesBracket_100 rfl hl (by decide) rfl (fun ls hl => ?_)
            refine lv_iload_n hx hb dX10_takesBracket_101 rfl (lv_at hl 3 rfl) ?_
            refine lv_if_ne (tgt := 111) hx hb dX10_takesBracket_102 (by decide) (fun c49 => ?_) (fun c49 => ?_)
            · skip
              have f_c49 := i_ne c49
              refine lv_iconst (v := 1) hx hb dX10_takesBracket_111 (by decide) ?_
              refine lv_goto (tgt := 116) hx hb dX10_takesBracket_112 (by decide) ?_
              refine lv_istore (lv' := [(4, .int 1), (3, .int 93), (0, .ref h0), (1, .int p0), (2, .int p1)]) hx hb dX10_takesBracket_116 hl (by decide) rfl (fun ls hl => ?_)
              have loop_118 : ∀ (n : Nat) (hq9 : Int32) (ho : Int32), (ho.toInt = v_open.toInt + 1 ∧ 0 ≤ hq9.toInt ∧ hq9.toInt ≤ (n9 : Int)) → (∃ ax cx jx : Nat, ((((f_tape kk).toInt = 40 ∨ (f_tape kk).toInt = 123) ∧ ax = kk + 2) ∨ (((f_tape kk).toInt = 91 ∨ (f_tape kk).toInt = 60) ∧ ax = kk + 1)) ∧ hq9.toInt = (jx : Int) ∧ jx ≤ n9 ∧ Sq (It f_tape n9 m9) cx ax jx) → ((n9 : Int) - hq9.toInt) < (n : Int) → ∀ (H : Heap) (locs : List Loc), va_K (dC, dI) vwCl [(k_tape, .int)] s → va_P (dC, dI) vwCl [eO h0 9 [.ref q_s, .long v_fees, .ref q_thought, .long v_thoughtFees, .ref q_image, .long v_imageFees, .int v_hasImage, .ref q_tape, .int v_taped, .ref q_texts, .ref q_sizes, .int v_programs, .ref q_imageTexts, .ref q_imageSizes, .int v_imagePrograms, .int hq9, .int ho, .int v_running, .int v_begun, .ref q_held, .ref q_marks, .int v_markMany, .ref q_trace, .int v_traced, .ref q_keptBalances, .ref q_keptFees, .int v_deep, .ref q_way, .ref q_sorts, .ref q_rowMany, .ref q_items, .ref q_moved], eI q_tape k_tape 80 f_tape] H → va_D A [eO h0 9 [.ref q_s, .long v_fees, .ref q_thought, .long v_thoughtFees, .ref q_image, .long v_imageFees, .int v_hasImage, .ref q_tape, .int v_taped, .ref q_texts, .ref q_sizes, .int v_programs, .ref q_imageTexts, .ref q_imageSizes, .int v_imagePrograms, .int hq9, .int ho, .int v_running, .int v_begun, .ref q_held, .ref q_marks, .int v_markMany, .ref q_trace, .int v_traced, .ref q_keptBalances, .ref q_keptFees, .int v_deep, .ref q_way, .ref q_sorts, .ref q_rowMany, .ref q_items, .ref q_moved], eI q_tape k_tape 80 f_tape] → va_S A s.heap H locs → ∀ (ls : Array Slot), lv_has ls 5 [(4, .int 1), (3, .int 93), (0, .ref h0), (1, .int p0), (2, .int p1)] → W p l e ({ frames := 5 * nd + 9, cells := 0, slots := 0, locals := 200 * nd + 150 }) s m (([.ref h0, .int p0, .int p1] : List Value).toArray) below meth c H locs 0 0 Q9 (F0 m 118 ls []) := by
                intro n
                induction n with
                | zero => intro hq9 ho j1 j2 hM_118; exfalso; omega
                | succ n ih_118 =>
                  intro hq9 ho j1 j2 hM_118 H locs hK hP hD hS ls hl
                  obtain ⟨ax, cx, jx, hax, hjx, hjn, hsq⟩ := j2
                  refine lv_aload_n hx hb dX10_takesBracket_118 rfl (lv_at hl 2 rfl) ?_
                  obtain ⟨hPc, hDc, hFc, hCm, hNw⟩ := C_s (wc := [eO h0 9 [.ref q_s, .long v_fees, .ref q_thought, .long v_thoughtFees, .ref q_image, .long v_imageFees, .int v_hasImage, .ref q_tape, .int v_taped, .ref q_texts, .ref q_sizes, .int v_programs, .ref q_imageTexts, .ref q_imageSizes, .int v_imagePrograms, .int hq9, .int ho, .int v_running, .int v_begun, .ref q_held, .ref q_marks, .int v_markMany, .ref q_trace, .int v_traced, .ref q_keptBalances, .ref q_keptFees, .int v_deep, .ref q_way, .ref q_sorts, .ref q_rowMany, .ref q_items, .ref q_moved], eI q_tape k_tape 80 f_tape]) hP hD hS hA [(0, 2)] 2 rfl (by decide +kernel) rfl
                  have hKc := K_s (tys' := [(k_tape, .int)]) hK [(0, 1)] rfl
                  refine va_calli (va_runV (As := []) (rest := []) ⟨hx, hb, hml, hown, hts⟩ (c_X10_byteAt l dC dI h0 q_s v_fees q_thought v_thoughtFees q_image v_imageFees v_hasImage q_tape v_taped q_texts q_sizes v_programs q_imageTexts q_imageSizes v_imagePrograms hq9 ho v_running v_begun q_held q_marks v_markMany q_trace v_traced q_keptBalances q_keptFees v_deep q_way q_sorts q_rowMany q_items q_moved k_tape f_tape jx n9 H.size (by first | assumption | omega) htn hn80) (cwV 0 hts gX10_takesBracket_X10_byteAt rfl rfl rfl (by decide +kernel) ⟨(show (0) + 1 ≤ 5 * nd + 9 by omega), (show 8 + (1 + 11) + (0) ≤ 200 * nd + 150 by omega)⟩) ⟨fun a U g mk q => by obtain ⟨q0, q1, qP, qK, qD⟩ := q; exact ⟨q0, q1, qP, va_K.moved (u := U) (U := U.calling g mk a) (Vm.Alike.refl U.vm) qK, qD⟩, va_recv (s := s) (q := (RX10, TX10, 32)) hKc hPc (ci := 9) (q0 := 0) rfl rfl, fun U hU hW => ⟨rfl, by rw [hU], by rw [hU]; exact hPc, va_K.moved hW.alike hKc, hDc.weaken (fun _ _ _ _ => trivial)⟩⟩ rfl rfl hl.1 rfl (lv_room (Nat.le_of_ble_eq_true rfl)) dX10_takesBracket_119 ⟨Nat.le_of_ble_eq_true rfl, Nat.le_of_ble_eq_true rfl⟩) hS (fun q _ h => hFc q h) hFc (fun r50 u t H1 locs ht hvm hw hB hz1 hk1 hS => ?_)
                  obtain ⟨hP1, hK1, hD1⟩ := hB
                  rw [ht] at hP1
                  have hK1 := va_K.moved hvm.symm hK1
                  try dsimp only at hw
                  obtain ⟨hP, hD⟩ := J_s (wL := [eO h0 9 [.ref q_s, .long v_fees, .ref q_thought, .long v_thoughtFees, .ref q_image, .long v_imageFees, .int v_hasImage, .ref q_tape, .int v_taped, .ref q_texts, .ref q_sizes, .int v_programs, .ref q_imageTexts, .ref q_imageSizes, .int v_imagePrograms, .int hq9, .int ho, .int v_running, .int v_begun, .ref q_held, .ref q_marks, .int v_markMany, .ref q_trace, .int v_traced, .ref q_keptBalances, .ref q_keptFees, .int v_deep, .ref q_way, .ref q_sorts, .ref q_rowMany, .ref q_items, .ref q_moved], eI q_tape k_tape 80 f_tape]) hP hD [(0, 2)] [] hCm hNw (by decide +kernel) hk1 hFc hP1 hD1 rfl
                  have hK := KJ_s (tys' := [(k_tape, .int)]) hK hK1 [] rfl
                  generalize H1 = H at hP hS ⊢
                  have h_r50 := hw
                  refine lv_iload_n hx hb dX10_takesBracket_122 rfl (lv_at hl 1 rfl) ?_
                  refine lv_icmp_eq (tgt := 137) hx hb dX10_takesBracket_123 (by decide) (fun c51 => ?_) (fun c51 => ?_)
                  · skip
                    have f_c51 := i_eq c51
                    refine lv_aload_n hx hb dX10_takesBracket_137 rfl (lv_at hl 2 rfl) ?_
                    refine lv_dup hx hb dX10_takesBracket_138 rfl ?_
                    refine va_get (D := (dC, dI)) (ci := 9) (v := .int hq9) (C := RX10) (T := TX10) (N := 32) hx hb hts (fun w h => List.mem_cons_of_mem _ (inlX10 w h)) hown hK hP 0 rfl rfl 15 (by decide) (hts (.fieldLink RX10 124 "ClearingGatesModel" "here" "I") (List.mem_cons_of_mem _ mw_624)) (fun _ h9 => h9) rfl dX10_takesBracket_139 ?_
                    refine lv_iconst (v := 1) hx hb dX10_takesBracket_142 (by decide) ?_
                    refine lv_iadd hx hb dX10_takesBracket_143 ?_
                    refine lv_topi (fun z52 e_z52 => ?_)
                    (first | have t_z52 := i_add e_z52 (by omega) (by omega) | skip)
                    refine va_put (D := (dC, dI)) (ci := 9) (v := .int z52) (ty := .int) (C := RX10) (T := TX10) (N := 32) hx hb hts (fun w h => List.mem_cons_of_mem _ (inlX10 w h)) tyX10 tyX10_ok nmX10 hown hK hP hD hS 0 rfl rfl 15 (by decide) (hts (.fieldLink RX10 124 "ClearingGatesModel" "here" "I") (List.mem_cons_of_mem _ mw_624)) (fun _ h9 => h9) rfl (by decide +kernel) rfl rfl (Nat.le_of_ble_eq_true rfl) dX10_takesBracket_144 (fun H locs hP hD hS => ?_)
                    obtain ⟨hP, hD⟩ := X_s (ws' := [eO h0 9 [.ref q_s, .long v_fees, .ref q_thought, .long v_thoughtFees, .ref q_image, .long v_imageFees, .int v_hasImage, .ref q_tape, .int v_taped, .ref q_texts, .ref q_sizes, .int v_programs, .ref q_imageTexts, .ref q_imageSizes, .int v_imagePrograms, .int z52, .int ho, .int v_running, .int v_begun, .ref q_held, .ref q_marks, .int v_markMany, .ref q_trace, .int v_traced, .ref q_keptBalances, .ref q_keptFees, .int v_deep, .ref q_way, .ref q_sorts, .ref q_rowMany, .ref q_items, .ref q_moved], eI q_tape k_tape 80 f_tape]) hP hD rfl
                    refine lv_aload_n hx hb dX10_takesBracket_147 rfl (lv_at hl 2 rfl) ?_
                    refine lv_dup hx hb dX10_takesBracket_148 rfl ?_
                    refine va_get (D := (dC, dI)) (ci := 9) (v := .int ho) (C := RX10) (T := TX10) (N := 32) hx hb hts (fun w h => List.mem_cons_of_mem _ (inlX10 w h)) hown hK hP 0 rfl rfl 16 (by decide) (hts (.fieldLink RX10 131 "ClearingGatesModel" "open" "I") (List.mem_cons_of_mem _ mw_625)) (fun _ h9 => h9) rfl dX10_takesBracket_149 ?_
                    refine lv_iconst (v := 1) hx hb dX10_takesBracket_152 (by decide) ?_
                    refine lv_isub hx hb dX10_takesBracket_153 ?_
                    refine lv_topi (fun z53 e_z53 => ?_)
                    (first | have t_z53 := i_sub e_z53 (by omega) (by omega) | skip)
                    refine va_put (D := (dC, dI)) (ci := 9) (v := .int z53) (ty := .int) (C := RX10) (T := TX10) (N := 32) hx hb hts (fun w h => List.mem_cons_of_mem _ (inlX10 w h)) tyX10 tyX10_ok nmX10 hown hK hP hD hS 0 rfl rfl 16 (by decide) (hts (.fieldLink RX10 131 "ClearingGatesModel" "open" "I") (List.mem_cons_of_mem _ mw_625)) (fun _ h9 => h9) rfl (by decide +kernel) rfl rfl (Nat.le_of_ble_eq_true rfl) dX10_takesBracket_154 (fun H locs hP hD hS => ?_)
                    obtain ⟨hP, hD⟩ := X_s (ws' := [eO h0 9 [.ref q_s, .long v_fees, .ref q_thought, .long v_thoughtFees, .ref q_image, .long v_imageFees, .int v_hasImage, .ref q_tape, .int v_taped, .ref q_texts, .ref q_sizes, .int v_programs, .ref q_imageTexts, .ref q_imageSizes, .int v_imagePrograms, .int z52, .int z53, .int v_running, .int v_begun, .ref q_held, .ref q_marks, .int v_markMany, .ref q_trace, .int v_traced, .ref q_keptBalances, .ref q_keptFees, .int v_deep, .ref q_way, .ref q_sorts, .ref q_rowMany, .ref q_items, .ref q_moved], eI q_tape k_tape 80 f_tape]) hP hD rfl
                    refine lv_iconst (v := 1) hx hb dX10_takesBracket_157 (by decide) ?_
                    rw [hQ9]
                    exact W.zret (v := 1) hx hb hr (by decide) (fun t ht hW => ⟨⟨1, (z52, z53), rfl, Or.inl ⟨rfl, by omega, jx + 1, by omega, it_br hm9 hax hsq (by omega) (by omega)⟩, by rw [ht]; exact hP, va_K.moved hW.alike hK, hD⟩, hS.F ht⟩) hS.2.2 dX10_takesBracket_158
                  · skip
                    have f_c51 := i_ne c51
                    refine lv_aload_n hx hb dX10_takesBracket_126 rfl (lv_at hl 2 rfl) ?_
                    refine lv_iload hx hb dX10_takesBracket_127 (lv_at hl 0 rfl) ?_
                    obtain ⟨hPc, hDc, hFc, hCm, hNw⟩ := C_s (wc := [eO h0 9 [.ref q_s, .long v_fees, .ref q_thought, .long v_thoughtFees, .ref q_image, .long v_imageFees, .int v_hasImage, .ref q_tape, .int v_taped, .ref q_texts, .ref q_sizes, .int v_programs, .ref q_imageTexts, .ref q_imageSizes, .int v_imagePrograms, .int hq9, .int ho, .int v_running, .int v_begun, .ref q_held, .ref q_marks, .int v_markMany, .ref q_trace, .int v_traced, .ref q_keptBalances, .ref q_keptFees, .int v_deep, .ref q_way, .ref q_sorts, .ref q_rowMany, .ref q_items, .ref q_moved], eI q_tape k_tape 80 f_tape]) hP hD hS hA [(0, 2)] 2 rfl (by decide +kernel) rfl
                    have hKc := K_s (tys' := [(k_tape, .int)]) hK [(0, 1)] rfl
                    refine va_calli (va_runV (As := [.int 1]) (rest := []) ⟨hx, hb, hml, hown, hts⟩ (ih_m h0 1 q_s v_fees q_thought v_thoughtFees q_image v_imageFees v_hasImage q_tape v_taped q_texts q_sizes v_programs q_imageTexts q_imageSizes v_imagePrograms hq9 ho v_running v_begun q_held q_marks v_markMany q_trace v_traced q_keptBalances q_keptFees v_deep q_way q_sorts q_rowMany q_items q_moved k_tape f_tape jx n9 H.size (by first | assumption | omega) htn hn80 (by first | assumption | omega) (by first | assumption | omega) (by first | assumption | omega)) (cwV 1 hts gX10_takesBracket_X10_takesItem rfl rfl rfl (by decide +kernel) ⟨(show (5 * m9 + 10) + 1 ≤ 5 * nd + 9 by omega), (show 8 + (3 + 11) + (200 * m9 + 200) ≤ 200 * nd + 150 by omega)⟩) ⟨fun a U g mk q => by obtain ⟨q0, q1, qP, qK, qD⟩ := q; exact ⟨q0, q1, qP, va_K.moved (u := U) (U := U.calling g mk a) (Vm.Alike.refl U.vm) qK, qD⟩, va_recv (s := s) (q := (RX10, TX10, 32)) hKc hPc (ci := 9) (q0 := 0) rfl rfl, fun U hU hW => ⟨rfl, by rw [hU], by rw [hU]; exact hPc, va_K.moved hW.alike hKc, hDc.weaken (fun _ _ _ _ => trivial)⟩⟩ rfl rfl hl.1 rfl (lv_room (Nat.le_of_ble_eq_true rfl)) dX10_takesBracket_129 ⟨Nat.le_of_ble_eq_true rfl, Nat.le_of_ble_eq_true rfl⟩) hS (fun q _ h => hFc q h) hFc (fun r54 u t H1 locs ht hvm hw hB hz1 hk1 hS => ?_)
                    obtain ⟨u55, u56⟩ := u
                    obtain ⟨hP1, hK1, hD1⟩ := hB
                    rw [ht] at hP1
                    have hK1 := va_K.moved hvm.symm hK1
                    try dsimp only at hw
                    obtain ⟨hP, hD⟩ := J_s (wL := [eO h0 9 [.ref q_s, .long v_fees, .ref q_thought, .long v_thoughtFees, .ref q_image, .long v_imageFees, .int v_hasImage, .ref q_tape, .int v_taped, .ref q_texts, .ref q_sizes, .int v_programs, .ref q_imageTexts, .ref q_imageSizes, .int v_imagePrograms, .int u55, .int u56, .int v_running, .int v_begun, .ref q_held, .ref q_marks, .int v_markMany, .ref q_trace, .int v_traced, .ref q_keptBalances, .ref q_keptFees, .int v_deep, .ref q_way, .ref q_sorts, .ref q_rowMany, .ref q_items, .ref q_moved], eI q_tape k_tape 80 f_tape]) hP hD [(0, 2)] [] hCm hNw (by decide +kernel) hk1 hFc hP1 hD1 rfl
                    have hK := KJ_s (tys' := [(k_tape, .int)]) hK hK1 [] rfl
                    generalize H1 = H at hP hS ⊢
                    rcases hw with ⟨e_r54, f_r54⟩ | ⟨e_r54, f_r54⟩
                    · subst e_r54
                      obtain ⟨hoq, e9, he9, hit9⟩ := f_r54
                      have hl9 := it_lt _ _ _ hit9
                      refine lv_if_ne (tgt := 118) hx hb dX10_takesBracket_132 (by decide) (fun c57 => ?_) (fun c57 => absurd c57 (by decide))
                      exact ih_118 u55 u56 (by omega) ⟨ax, cx + 1, e9, hax, by omega, by omega, sq_snoc cx ax jx e9 hsq hit9⟩ (by omega) _ _ (K_s hK [(0, 1)] rfl) (P_s hP [(0, 2)] rfl) (D_s hD [(0, 2)] 2 rfl (by decide +kernel) rfl) hS ls (lv_sub hl [0, 1, 2, 3, 4] rfl)
                    · subst e_r54
                      refine lv_if_ne (tgt := 118) hx hb dX10_takesBracket_132 (by decide) (fun c58 => absurd (by decide) c58) (fun c58 => ?_)
                      refine lv_iconst (v := 0) hx hb dX10_takesBracket_135 (by decide) ?_
                      rw [hQ9]
                      exact W.zret (v := 0) hx hb hr (by decide) (fun t ht hW => ⟨⟨0, (u55, u56), rfl, Or.inr ⟨rfl, by omega⟩, by rw [ht]; exact hP, va_K.moved hW.alike hK, hD⟩, hS.F ht⟩) hS.2.2 dX10_takesBracket_136
              exact loop_118 (1000) z3 z2 (by omega) ⟨z3.toInt.toNat, 0, z3.toInt.toNat, by omega, by omega, by omega, rfl⟩ (by omega) _ _ hK hP hD hS ls (lv_sub hl [0, 1, 2, 3, 4] rfl)
            · skip
              have f_c49 := i_eq c49
              refine lv_iload_n hx hb dX10_takesBracket_105 rfl (lv_at hl 2 rfl) ?_
              refine lv_bipush (v := 123) hx hb dX10_takesBracket_106 (by decide) ?_
              refine lv_icmp_ne (tgt := 115) hx hb dX10_takesBracket_108 (by decide) (fun c59 => ?_) (fun c59 => ?_)
              · skip
                have f_c59 := i_ne c59
                refine lv_iconst (v := 0) hx hb dX10_takesBracket_115 (by decide) ?_
                refine lv_istore (lv' := [(4, .int 0), (3, .int 93), (0, .ref h0), (1, .int p0), (2, .int p1)]) hx hb dX10_takesBracket_116 hl (by decide) rfl (fun ls hl => ?_)
                have loop_118 : ∀ (n : Nat) (hq9 : Int32) (ho : Int32), (ho.toInt = v_open.toInt + 1 ∧ 0 ≤ hq9.toInt ∧ hq9.toInt ≤ (n9 : Int)) → (∃ ax cx jx : Nat, ((((f_tape kk).toInt = 40 ∨ (f_tape kk).toInt = 123) ∧ ax = kk + 2) ∨ (((f_tape kk).toInt = 91 ∨ (f_tape kk).toInt = 60) ∧ ax = kk + 1)) ∧ hq9.toInt = (jx : Int) ∧ jx ≤ n9 ∧ Sq (It f_tape n9 m9) cx ax jx) → ((n9 : Int) - hq9.toInt) < (n : Int) → ∀ (H : Heap) (locs : List Loc), va_K (dC, dI) vwCl [(k_tape, .int)] s → va_P (dC, dI) vwCl [eO h0 9 [.ref q_s, .long v_fees, .ref q_thought, .long v_thoughtFees, .ref q_image, .long v_imageFees, .int v_hasImage, .ref q_tape, .int v_taped, .ref q_texts, .ref q_sizes, .int v_programs, .ref q_imageTexts, .ref q_imageSizes, .int v_imagePrograms, .int hq9, .int ho, .int v_running, .int v_begun, .ref q_held, .ref q_marks, .int v_markMany, .ref q_trace, .int v_traced, .ref q_keptBalances, .ref q_keptFees, .int v_deep, .ref q_way, .ref q_sorts, .ref q_rowMany, .ref q_items, .ref q_moved], eI q_tape k_tape 80 f_tape] H → va_D A [eO h0 9 [.ref q_s, .long v_fees, .ref q_thought, .long v_thoughtFees, .ref q_image, .long v_imageFees, .int v_hasImage, .ref q_tape, .int v_taped, .ref q_texts, .ref q_sizes, .int v_programs, .ref q_imageTexts, .ref q_imageSizes, .int v_imagePrograms, .int hq9, .int ho, .int v_running, .int v_begun, .ref q_held, .ref q_marks, .int v_markMany, .ref q_trace, .int v_traced, .ref q_keptBalances, .ref q_keptFees, .int v_deep, .ref q_way, .ref q_sorts, .ref q_rowMany, .ref q_items, .ref q_moved], eI q_tape k_tape 80 f_tape] → va_S A s.heap H locs → ∀ (ls : Array Slot), lv_has ls 5 [(4, .int 0), (3, .int 93), (0, .ref h0), (1, .int p0), (2, .int p1)] → W p l e ({ frames := 5 * nd + 9, cells := 0, slots := 0, locals := 200 * nd + 150 }) s m (([.ref h0, .int p0, .int p1] : List Value).toArray) below meth c H locs 0 0 Q9 (F0 m 118 ls []) := by
                  intro n
                  induction n with
                  | zero => intro hq9 ho j1 j2 hM_118; exfalso; omega
                  | succ n ih_118 =>
                    intro hq9 ho j1 j2 hM_118 H locs hK hP hD hS ls hl
                    obtain ⟨ax, cx, jx, hax, hjx, hjn, hsq⟩ := j2
                    refine lv_aload_n hx hb dX10_takesBracket_118 rfl (lv_at hl 2 rfl) ?_
                    obtain ⟨hPc, hDc, hFc, hCm, hNw⟩ := C_s (wc := [eO h0 9 [.ref q_s, .long v_fees, .ref q_thought, .long v_thoughtFees, .ref q_image, .long v_imageFees, .int v_hasImage, .ref q_tape, .int v_taped, .ref q_texts, .ref q_sizes, .int v_programs, .ref q_imageTexts, .ref q_imageSizes, .int v_imagePrograms, .int hq9, .int ho, .int v_running, .int v_begun, .ref q_held, .ref q_marks, .int v_markMany, .ref q_trace, .int v_traced, .ref q_keptBalances, .ref q_keptFees, .int v_deep, .ref q_way, .ref q_sorts, .ref q_rowMany, .ref q_items, .ref q_moved], eI q_tape k_tape 80 f_tape]) hP hD hS hA [(0, 2)] 2 rfl (by decide +kernel) rfl
                    have hKc := K_s (tys' := [(k_tape, .int)]) hK [(0, 1)] rfl
                    refine va_calli (va_runV (As := []) (rest := []) ⟨hx, hb, hml, hown, hts⟩ (c_X10_byteAt l dC dI h0 q_s v_fees q_thought v_thoughtFees q_image v_imageFees v_hasImage q_tape v_taped q_texts q_sizes v_programs q_imageTexts q_imageSizes v_imagePrograms hq9 ho v_running v_begun q_held q_marks v_markMany q_trace v_traced q_keptBalances q_keptFees v_deep q_way q_sorts q_rowMany q_items q_moved k_tape f_tape jx n9 H.size (by first | assumption | omega) htn hn80) (cwV 0 hts gX10_takesBracket_X10_byteAt rfl rfl rfl (by decide +kernel) ⟨(show (0) + 1 ≤ 5 * nd + 9 by omega), (show 8 + (1 + 11) + (0) ≤ 200 * nd + 150 by omega)⟩) ⟨fun a U g mk q => by obtain ⟨q0, q1, qP, qK, qD⟩ := q; exact ⟨q0, q1, qP, va_K.moved (u := U) (U := U.calling g mk a) (Vm.Alike.refl U.vm) qK, qD⟩, va_recv (s := s) (q := (RX10, TX10, 32)) hKc hPc (ci := 9) (q0 := 0) rfl rfl, fun U hU hW => ⟨rfl, by rw [hU], by rw [hU]; exact hPc, va_K.moved hW.alike hKc, hDc.weaken (fun _ _ _ _ => trivial)⟩⟩ rfl rfl hl.1 rfl (lv_room (Nat.le_of_ble_eq_true rfl)) dX10_takesBracket_119 ⟨Nat.le_of_ble_eq_true rfl, Nat.le_of_ble_eq_true rfl⟩) hS (fun q _ h => hFc q h) hFc (fun r60 u t H1 locs ht hvm hw hB hz1 hk1 hS => ?_)
                    obtain ⟨hP1, hK1, hD1⟩ := hB
                    rw [ht] at hP1
                    have hK1 := va_K.moved hvm.symm hK1
                    try dsimp only at hw
                    obtain ⟨hP, hD⟩ := J_s (wL := [eO h0 9 [.ref q_s, .long v_fees, .ref q_thought, .long v_thoughtFees, .ref q_image, .long v_imageFees, .int v_hasImage, .ref q_tape, .int v_taped, .ref q_texts, .ref q_sizes, .int v_programs, .ref q_imageTexts, .ref q_imageSizes, .int v_imagePrograms, .int hq9, .int ho, .int v_running, .int v_begun, .ref q_held, .ref q_marks, .int v_markMany, .ref q_trace, .int v_traced, .ref q_keptBalances, .ref q_keptFees, .int v_deep, .ref q_way, .ref q_sorts, .ref q_rowMany, .ref q_items, .ref q_moved], eI q_tape k_tape 80 f_tape]) hP hD [(0, 2)] [] hCm hNw (by decide +kernel) hk1 hFc hP1 hD1 rfl
                    have hK := KJ_s (tys' := [(k_tape, .int)]) hK hK1 [] rfl
                    generalize H1 = H at hP hS ⊢
                    have h_r60 := hw
                    refine lv_iload_n hx hb dX10_takesBracket_122 rfl (lv_at hl 1 rfl) ?_
                    refine lv_icmp_eq (tgt := 137) hx hb dX10_takesBracket_123 (by decide) (fun c61 => ?_) (fun c61 => ?_)
                    · skip
                      have f_c61 := i_eq c61
                      refine lv_aload_n hx hb dX10_takesBracket_137 rfl (lv_at hl 2 rfl) ?_
                      refine lv_dup hx hb dX10_takesBracket_138 rfl ?_
                      refine va_get (D := (dC, dI)) (ci := 9) (v := .int hq9) (C := RX10) (T := TX10) (N := 32) hx hb hts (fun w h => List.mem_cons_of_mem _ (inlX10 w h)) hown hK hP 0 rfl rfl 15 (by decide) (hts (.fieldLink RX10 124 "ClearingGatesModel" "here" "I") (List.mem_cons_of_mem _ mw_624)) (fun _ h9 => h9) rfl dX10_takesBracket_139 ?_
                      refine lv_iconst (v := 1) hx hb dX10_takesBracket_142 (by decide) ?_
                      refine lv_iadd hx hb dX10_takesBracket_143 ?_
                      refine lv_topi (fun z62 e_z62 => ?_)
                      (first | have t_z62 := i_add e_z62 (by omega) (by omega) | skip)
                      refine va_put (D := (dC, dI)) (ci := 9) (v := .int z62) (ty := .int) (C := RX10) (T := TX10) (N := 32) hx hb hts (fun w h => List.mem_cons_of_mem _ (inlX10 w h)) tyX10 tyX10_ok nmX10 hown hK hP hD hS 0 rfl rfl 15 (by decide) (hts (.fieldLink RX10 124 "ClearingGatesModel" "here" "I") (List.mem_cons_of_mem _ mw_624)) (fun _ h9 => h9) rfl (by decide +kernel) rfl rfl (Nat.le_of_ble_eq_true rfl) dX10_takesBracket_144 (fun H locs hP hD hS => ?_)
                      obtain ⟨hP, hD⟩ := X_s (ws' := [eO h0 9 [.ref q_s, .long v_fees, .ref q_thought, .long v_thoughtFees, .ref q_image, .long v_imageFees, .int v_hasImage, .ref q_tape, .int v_taped, .ref q_texts, .ref q_sizes, .int v_programs, .ref q_imageTexts, .ref q_imageSizes, .int v_imagePrograms, .int z62, .int ho, .int v_running, .int v_begun, .ref q_held, .ref q_marks, .int v_markMany, .ref q_trace, .int v_traced, .ref q_keptBalances, .ref q_keptFees, .int v_deep, .ref q_way, .ref q_sorts, .ref q_rowMany, .ref q_items, .ref q_moved], eI q_tape k_tape 80 f_tape]) hP hD rfl
                      refine lv_aload_n hx hb dX10_takesBracket_147 rfl (lv_at hl 2 rfl) ?_
                      refine lv_dup hx hb dX10_takesBracket_148 rfl ?_
                      refine va_get (D := (dC, dI)) (ci := 9) (v := .int ho) (C := RX10) (T := TX10) (N := 32) hx hb hts (fun w h => List.mem_cons_of_mem _ (inlX10 w h)) hown hK hP 0 rfl rfl 16 (by decide) (hts (.fieldLink RX10 131 "ClearingGatesModel" "open" "I") (List.mem_cons_of_mem _ mw_625)) (fun _ h9 => h9) rfl dX10_takesBracket_149 ?_
                      refine lv_iconst (v := 1) hx hb dX10_takesBracket_152 (by decide) ?_
                      refine lv_isub hx hb dX10_takesBracket_153 ?_
                      refine lv_topi (fun z63 e_z63 => ?_)
                      (first | have t_z63 := i_sub e_z63 (by omega) (by omega) | skip)
                      refine va_put (D := (dC, dI)) (ci := 9) (v := .int z63) (ty := .int) (C := RX10) (T := TX10) (N := 32) hx hb hts (fun w h => List.mem_cons_of_mem _ (inlX10 w h)) tyX10 tyX10_ok nmX10 hown hK hP hD hS 0 rfl rfl 16 (by decide) (hts (.fieldLink RX10 131 "ClearingGatesModel" "open" "I") (List.mem_cons_of_mem _ mw_625)) (fun _ h9 => h9) rfl (by decide +kernel) rfl rfl (Nat.le_of_ble_eq_true rfl) dX10_takesBracket_154 (fun H locs hP hD hS => ?_)
                      obtain ⟨hP, hD⟩ := X_s (ws' := [eO h0 9 [.ref q_s, .long v_fees, .ref q_thought, .long v_thoughtFees, .ref q_image, .long v_imageFees, .int v_hasImage, .ref q_tape, .int v_taped, .ref q_texts, .ref q_sizes, .int v_programs, .ref q_imageTexts, .ref q_imageSizes, .int v_imagePrograms, .int z62, .int z63, .int v_running, .int v_begun, .ref q_held, .ref q_marks, .int v_markMany, .ref q_trace, .int v_traced, .ref q_keptBalances, .ref q_keptFees, .int v_deep, .ref q_way, .ref q_sorts, .ref q_rowMany, .ref q_items, .ref q_moved], eI q_tape k_tape 80 f_tape]) hP hD rfl
                      refine lv_iconst (v := 1) hx hb dX10_takesBracket_157 (by decide) ?_
                      rw [hQ9]
                      exact W.zret (v := 1) hx hb hr (by decide) (fun t ht hW => ⟨⟨1, (z62, z63), rfl, Or.inl ⟨rfl, by omega, jx + 1, by omega, it_br hm9 hax hsq (by omega) (by omega)⟩, by rw [ht]; exact hP, va_K.moved hW.alike hK, hD⟩, hS.F ht⟩) hS.2.2 dX10_takesBracket_158
                    · skip
                      have f_c61 := i_ne c61
                      refine lv_aload_n hx hb dX10_takesBracket_126 rfl (lv_at hl 2 rfl) ?_
                      refine lv_iload hx hb dX10_takesBracket_127 (lv_at hl 0 rfl) ?_
                      obtain ⟨hPc, hDc, hFc, hCm, hNw⟩ := C_s (wc := [eO h0 9 [.ref q_s, .long v_fees, .ref q_thought, .long v_thoughtFees, .ref q_image, .long v_imageFees, .int v_hasImage, .ref q_tape, .int v_taped, .ref q_texts, .ref q_sizes, .int v_programs, .ref q_imageTexts, .ref q_imageSizes, .int v_imagePrograms, .int hq9, .int ho, .int v_running, .int v_begun, .ref q_held, .ref q_marks, .int v_markMany, .ref q_trace, .int v_traced, .ref q_keptBalances, .ref q_keptFees, .int v_deep, .ref q_way, .ref q_sorts, .ref q_rowMany, .ref q_items, .ref q_moved], eI q_tape k_tape 80 f_tape]) hP hD hS hA [(0, 2)] 2 rfl (by decide +kernel) rfl
                      have hKc := K_s (tys' := [(k_tape, .int)]) hK [(0, 1)] rfl
                      refine va_calli (va_runV (As := [.int 0]) (rest := []) ⟨hx, hb, hml, hown, hts⟩ (ih_m h0 0 q_s v_fees q_thought v_thoughtFees q_image v_imageFees v_hasImage q_tape v_taped q_texts q_sizes v_programs q_imageTexts q_imageSizes v_imagePrograms hq9 ho v_running v_begun q_held q_marks v_markMany q_trace v_traced q_keptBalances q_keptFees v_deep q_way q_sorts q_rowMany q_items q_moved k_tape f_tape jx n9 H.size (by first | assumption | omega) htn hn80 (by first | assumption | omega) (by first | assumption | omega) (by first | assumption | omega)) (cwV 1 hts gX10_takesBracket_X10_takesItem rfl rfl rfl (by decide +kernel) ⟨(show (5 * m9 + 10) + 1 ≤ 5 * nd + 9 by omega), (show 8 + (3 + 11) + (200 * m9 + 200) ≤ 200 * nd + 150 by omega)⟩) ⟨fun a U g mk q => by obtain ⟨q0, q1, qP, qK, qD⟩ := q; exact ⟨q0, q1, qP, va_K.moved (u := U) (U := U.calling g mk a) (Vm.Alike.refl U.vm) qK, qD⟩, va_recv (s := s) (q := (RX10, TX10, 32)) hKc hPc (ci := 9) (q0 := 0) rfl rfl, fun U hU hW => ⟨rfl, by rw [hU], by rw [hU]; exact hPc, va_K.moved hW.alike hKc, hDc.weaken (fun _ _ _ _ => trivial)⟩⟩ rfl rfl hl.1 rfl (lv_room (Nat.le_of_ble_eq_true rfl)) dX10_takesBracket_129 ⟨Nat.le_of_ble_eq_true rfl, Nat.le_of_ble_eq_true rfl⟩) hS (fun q _ h => hFc q h) hFc (fun r64 u t H1 locs ht hvm hw hB hz1 hk1 hS => ?_)
                      obtain ⟨u65, u66⟩ := u
                      obtain ⟨hP1, hK1, hD1⟩ := hB
                      rw [ht] at hP1
                      have hK1 := va_K.moved hvm.symm hK1
                      try dsimp only at hw
                      obtain ⟨hP, hD⟩ := J_s (wL := [eO h0 9 [.ref q_s, .long v_fees, .ref q_thought, .long v_thoughtFees, .ref q_image, .long v_imageFees, .int v_hasImage, .ref q_tape, .int v_taped, .ref q_texts, .ref q_sizes, .int v_programs, .ref q_imageTexts, .ref q_imageSizes, .int v_imagePrograms, .int u65, .int u66, .int v_running, .int v_begun, .ref q_held, .ref q_marks, .int v_markMany, .ref q_trace, .int v_traced, .ref q_keptBalances, .ref q_keptFees, .int v_deep, .ref q_way, .ref q_sorts, .ref q_rowMany, .ref q_items, .ref q_moved], eI q_tape k_tape 80 f_tape]) hP hD [(0, 2)] [] hCm hNw (by decide +kernel) hk1 hFc hP1 hD1 rfl
                      have hK := KJ_s (tys' := [(k_tape, .int)]) hK hK1 [] rfl
                      generalize H1 = H at hP hS ⊢
                      rcases hw with ⟨e_r64, f_r64⟩ | ⟨e_r64, f_r64⟩
                      · subst e_r64
                        obtain ⟨hoq, e9, he9, hit9⟩ := f_r64
                        have hl9 := it_lt _ _ _ hit9
                        refine lv_if_ne (tgt := 118) hx hb dX10_takesBracket_132 (by decide) (fun c67 => ?_) (fun c67 => absurd c67 (by decide))
                        exact ih_118 u65 u66 (by omega) ⟨ax, cx + 1, e9, hax, by omega, by omega, sq_snoc cx ax jx e9 hsq hit9⟩ (by omega) _ _ (K_s hK [(0, 1)] rfl) (P_s hP [(0, 2)] rfl) (D_s hD [(0, 2)] 2 rfl (by decide +kernel) rfl) hS ls (lv_sub hl [0, 1, 2, 3, 4] rfl)
                      · subst e_r64
                        refine lv_if_ne (tgt := 118) hx hb dX10_takesBracket_132 (by decide) (fun c68 => absurd (by decide) c68) (fun c68 => ?_)
                        refine lv_iconst (v := 0) hx hb dX10_takesBracket_135 (by decide) ?_
                        rw [hQ9]
                        exact W.zret (v := 0) hx hb hr (by decide) (fun t ht hW => ⟨⟨0, (u65, u66), rfl, Or.inr ⟨rfl, by omega⟩, by rw [ht]; exact hP, va_K.moved hW.alike hK, hD⟩, hS.F ht⟩) hS.2.2 dX10_takesBracket_136
                exact loop_118 (1000) z3 z2 (by omega) ⟨z3.toInt.toNat, 0, z3.toInt.toNat, by omega, by omega, by omega, rfl⟩ (by omega) _ _ hK hP hD hS ls (lv_sub hl [0, 1, 2, 3, 4] rfl)
              · skip
                have f_c59 := i_eq c59
                exfalso; omega
        · skip
          have f_c6 := i_eq c6
          exfalso; omega
      · skip
        have f_c5 := i_eq c5
        refine lv_aload_n hx hb dX10_takesBracket_53 rfl (lv_at hl 0 rfl) ?_
        refine lv_iconst (v := 1) hx hb dX10_takesBracket_54 (by decide) ?_
        refine lv_bipush (v := 9) hx hb dX10_takesBracket_55 (by decide) ?_
        obtain ⟨hPc, hDc, hFc, hCm, hNw⟩ := C_s (wc := [eO h0 9 [.ref q_s, .long v_fees, .ref q_thought, .long v_thoughtFees, .ref q_image, .long v_imageFees, .int v_hasImage, .ref q_tape, .int v_taped, .ref q_texts, .ref q_sizes, .int v_programs, .ref q_imageTexts, .ref q_imageSizes, .int v_imagePrograms, .int z3, .int z2, .int v_running, .int v_begun, .ref q_held, .ref q_marks, .int v_markMany, .ref q_trace, .int v_traced, .ref q_keptBalances, .ref q_keptFees, .int v_deep, .ref q_way, .ref q_sorts, .ref q_rowMany, .ref q_items, .ref q_moved], eI q_tape k_tape 80 f_tape]) hP hD hS hA [(0, 2)] 2 rfl (by decide +kernel) rfl
        have hKc := K_s (tys' := [(k_tape, .int)]) hK [(0, 1)] rfl
        refine va_calli (va_runV (As := [.int 1, .int 9]) (rest := []) ⟨hx, hb, hml, hown, hts⟩ (c_X10_takesFigure l dC dI h0 1 9 q_s v_fees q_thought v_thoughtFees q_image v_imageFees v_hasImage q_tape v_taped q_texts q_sizes v_programs q_imageTexts q_imageSizes v_imagePrograms z3 z2 v_running v_begun q_held q_marks v_markMany q_trace v_traced q_keptBalances q_keptFees v_deep q_way q_sorts q_rowMany q_items q_moved k_tape f_tape (kk + 1) n9 H.size (by first | assumption | omega) htn hn80 (by first | assumption | omega) (by first | assumption | omega) (by first | assumption | omega) (by first | assumption | omega) (by first | assumption | omega)) (cwV 2 hts gX10_takesBracket_X10_takesFigure rfl rfl rfl (by decide +kernel) ⟨(show (1) + 1 ≤ 5 * nd + 9 by omega), (show 8 + (3 + 11) + (25) ≤ 200 * nd + 150 by omega)⟩) ⟨fun a U g mk q => by obtain ⟨q0, q1, qP, qK, qD⟩ := q; exact ⟨q0, q1, qP, va_K.moved (u := U) (U := U.calling g mk a) (Vm.Alike.refl U.vm) qK, qD⟩, va_recv (s := s) (q := (RX10, TX10, 32)) hKc hPc (ci := 9) (q0 := 0) rfl rfl, fun U hU hW => ⟨rfl, by rw [hU], by rw [hU]; exact hPc, va_K.moved hW.alike hKc, hDc.weaken (fun _ _ _ _ => trivial)⟩⟩ rfl rfl hl.1 rfl (lv_room (Nat.le_of_ble_eq_true rfl)) dX10_takesBracket_57 ⟨Nat.le_of_ble_eq_true rfl, Nat.le_of_ble_eq_true rfl⟩) hS (fun q _ h => hFc q h) hFc (fun r69 u t H1 locs ht hvm hw hB hz1 hk1 hS => ?_)
        obtain ⟨u70, rfl⟩ : ∃ z, z = u := ⟨_, rfl⟩
        obtain ⟨hP1, hK1, hD1⟩ := hB
        rw [ht] at hP1
        have hK1 := va_K.moved hvm.symm hK1
        try dsimp only at hw
        obtain ⟨hP, hD⟩ := J_s (wL := [eO h0 9 [.ref q_s, .long v_fees, .ref q_thought, .long v_thoughtFees, .ref q_image, .long v_imageFees, .int v_hasImage, .ref q_tape, .int v_taped, .ref q_texts, .ref q_sizes, .int v_programs, .ref q_imageTexts, .ref q_imageSizes, .int v_imagePrograms, .int u70, .int z2, .int v_running, .int v_begun, .ref q_held, .ref q_marks, .int v_markMany, .ref q_trace, .int v_traced, .ref q_keptBalances, .ref q_keptFees, .int v_deep, .ref q_way, .ref q_sorts, .ref q_rowMany, .ref q_items, .ref q_moved], eI q_tape k_tape 80 f_tape]) hP hD [(0, 2)] [] hCm hNw (by decide +kernel) hk1 hFc hP1 hD1 rfl
        have hK := KJ_s (tys' := [(k_tape, .int)]) hK hK1 [] rfl
        generalize H1 = H at hP hS ⊢
        rcases hw with ⟨e_r69, f_r69⟩ | ⟨e_r69, f_r69⟩
        · subst e_r69
          refine lv_if_ne (tgt := 65) hx hb dX10_takesBracket_60 (by decide) (fun c71 => ?_) (fun c71 => absurd c71 (by decide))
          refine lv_iload_n hx hb dX10_takesBracket_65 rfl (lv_at hl 1 rfl) ?_
          refine lv_bipush (v := 40) hx hb dX10_takesBracket_66 (by decide) ?_
          refine lv_icmp_ne (tgt := 76) hx hb dX10_takesBracket_68 (by decide) (fun c72 => ?_) (fun c72 => ?_)
          · skip
            have f_c72 := i_ne c72
            refine lv_iload_n hx hb dX10_takesBracket_76 rfl (lv_at hl 1 rfl) ?_
            refine lv_bipush (v := 91) hx hb dX10_takesBracket_77 (by decide) ?_
            refine lv_icmp_ne (tgt := 87) hx hb dX10_takesBracket_79 (by decide) (fun c73 => ?_) (fun c73 => ?_)
            · skip
              have f_c73 := i_ne c73
              refine lv_iload_n hx hb dX10_takesBracket_87 rfl (lv_at hl 1 rfl) ?_
              refine lv_bipush (v := 60) hx hb dX10_takesBracket_88 (by decide) ?_
              refine lv_icmp_ne (tgt := 98) hx hb dX10_takesBracket_90 (by decide) (fun c74 => ?_) (fun c74 => ?_)
              · skip
                have f_c74 := i_ne c74
                refine lv_bipush (v := 125) hx hb dX10_takesBracket_98 (by decide) ?_
                refine lv_istore_n (lv' := [(3, .int 125), (0, .ref h0), (1, .int p0), (2, .int p1)]) hx hb dX10_takesBracket_100 rfl hl (by decide) rfl (fun ls hl => ?_)
                refine lv_iload_n hx hb dX10_takesBracket_101 rfl (lv_at hl 3 rfl) ?_
                refine lv_if_ne (tgt := 111) hx hb dX10_takesBracket_102 (by decide) (fun c75 => ?_) (fun c75 => ?_)
                · skip
                  have f_c75 := i_ne c75
                  refine lv_iconst (v := 1) hx hb dX10_takesBracket_111 (by decide) ?_
                  refine lv_goto (tgt := 116) hx hb dX10_takesBracket_112 (by decide) ?_
                  refine lv_istore (lv' := [(4, .int 1), (3, .int 125), (0, .ref h0), (1, .int p0), (2, .int p1)]) hx hb dX10_takesBracket_116 hl (by decide) rfl (fun ls hl => ?_)
                  have loop_118 : ∀ (n : Nat) (hq9 : Int32) (ho : Int32), (ho.toInt = v_open.toInt + 1 ∧ 0 ≤ hq9.toInt ∧ hq9.toInt ≤ (n9 : Int)) → (∃ ax cx jx : Nat, ((((f_tape kk).toInt = 40 ∨ (f_tape kk).toInt = 123) ∧ ax = kk + 2) ∨ (((f_tape kk).toInt = 91 ∨ (f_tape kk).toInt = 60) ∧ ax = kk + 1)) ∧ hq9.toInt = (jx : Int) ∧ jx ≤ n9 ∧ Sq (It f_tape n9 m9) cx ax jx) → ((n9 : Int) - hq9.toInt) < (n : Int) → ∀ (H : Heap) (locs : List Loc), va_K (dC, dI) vwCl [(k_tape, .int)] s → va_P (dC, dI) vwCl [eO h0 9 [.ref q_s, .long v_fees, .ref q_thought, .long v_thoughtFees, .ref q_image, .long v_imageFees, .int v_hasImage, .ref q_tape, .int v_taped, .ref q_texts, .ref q_sizes, .int v_programs, .ref q_imageTexts, .ref q_imageSizes, .int v_imagePrograms, .int hq9, .int ho, .int v_running, .int v_begun, .ref q_held, .ref q_marks, .int v_markMany, .ref q_trace, .int v_traced, .ref q_keptBalances, .ref q_keptFees, .int v_deep, .ref q_way, .ref q_sorts, .ref q_rowMany, .ref q_items, .ref q_moved], eI q_tape k_tape 80 f_tape] H → va_D A [eO h0 9 [.ref q_s, .long v_fees, .ref q_thought, .long v_thoughtFees, .ref q_image, .long v_imageFees, .int v_hasImage, .ref q_tape, .int v_taped, .ref q_texts, .ref q_sizes, .int v_programs, .ref q_imageTexts, .ref q_imageSizes, .int v_imagePrograms, .int hq9, .int ho, .int v_running, .int v_begun, .ref q_held, .ref q_marks, .int v_markMany, .ref q_trace, .int v_traced, .ref q_keptBalances, .ref q_keptFees, .int v_deep, .ref q_way, .ref q_sorts, .ref q_rowMany, .ref q_items, .ref q_moved], eI q_tape k_tape 80 f_tape] → va_S A s.heap H locs → ∀ (ls : Array Slot), lv_has ls 5 [(4, .int 1), (3, .int 125), (0, .ref h0), (1, .int p0), (2, .int p1)] → W p l e ({ frames := 5 * nd + 9, cells := 0, slots := 0, locals := 200 * nd + 150 }) s m (([.ref h0, .int p0, .int p1] : List Value).toArray) below meth c H locs 0 0 Q9 (F0 m 118 ls []) := by
                    intro n
                    induction n with
                    | zero => intro hq9 ho j1 j2 hM_118; exfalso; omega
                    | succ n ih_118 =>
                      intro hq9 ho j1 j2 hM_118 H locs hK hP hD hS ls hl
                      obtain ⟨ax, cx, jx, hax, hjx, hjn, hsq⟩ := j2
                      refine lv_aload_n hx hb dX10_takesBracket_118 rfl (lv_at hl 2 rfl) ?_
                      obtain ⟨hPc, hDc, hFc, hCm, hNw⟩ := C_s (wc := [eO h0 9 [.ref q_s, .long v_fees, .ref q_thought, .long v_thoughtFees, .ref q_image, .long v_imageFees, .int v_hasImage, .ref q_tape, .int v_taped, .ref q_texts, .ref q_sizes, .int v_programs, .ref q_imageTexts, .ref q_imageSizes, .int v_imagePrograms, .int hq9, .int ho, .int v_running, .int v_begun, .ref q_held, .ref q_marks, .int v_markMany, .ref q_trace, .int v_traced, .ref q_keptBalances, .ref q_keptFees, .int v_deep, .ref q_way, .ref q_sorts, .ref q_rowMany, .ref q_items, .ref q_moved], eI q_tape k_tape 80 f_tape]) hP hD hS hA [(0, 2)] 2 rfl (by decide +kernel) rfl
                      have hKc := K_s (tys' := [(k_tape, .int)]) hK [(0, 1)] rfl
                      refine va_calli (va_runV (As := []) (rest := []) ⟨hx, hb, hml, hown, hts⟩ (c_X10_byteAt l dC dI h0 q_s v_fees q_thought v_thoughtFees q_image v_imageFees v_hasImage q_tape v_taped q_texts q_sizes v_programs q_imageTexts q_imageSizes v_imagePrograms hq9 ho v_running v_begun q_held q_marks v_markMany q_trace v_traced q_keptBalances q_keptFees v_deep q_way q_sorts q_rowMany q_items q_moved k_tape f_tape jx n9 H.size (by first | assumption | omega) htn hn80) (cwV 0 hts gX10_takesBracket_X10_byteAt rfl rfl rfl (by decide +kernel) ⟨(show (0) + 1 ≤ 5 * nd + 9 by omega), (show 8 + (1 + 11) + (0) ≤ 200 * nd + 150 by omega)⟩) ⟨fun a U g mk q => by obtain ⟨q0, q1, qP, qK, qD⟩ := q; exact ⟨q0, q1, qP, va_K.moved (u := U) (U := U.calling g mk a) (Vm.Alike.refl U.vm) qK, qD⟩, va_recv (s := s) (q := (RX10, TX10, 32)) hKc hPc (ci := 9) (q0 := 0) rfl rfl, fun U hU hW => ⟨rfl, by rw [hU], by rw [hU]; exact hPc, va_K.moved hW.alike hKc, hDc.weaken (fun _ _ _ _ => trivial)⟩⟩ rfl rfl hl.1 rfl (lv_room (Nat.le_of_ble_eq_true rfl)) dX10_takesBracket_119 ⟨Nat.le_of_ble_eq_true rfl, Nat.le_of_ble_eq_true rfl⟩) hS (fun q _ h => hFc q h) hFc (fun r76 u t H1 locs ht hvm hw hB hz1 hk1 hS => ?_)
                      obtain ⟨hP1, hK1, hD1⟩ := hB
                      rw [ht] at hP1
                      have hK1 := va_K.moved hvm.symm hK1
                      try dsimp only at hw
                      obtain ⟨hP, hD⟩ := J_s (wL := [eO h0 9 [.ref q_s, .long v_fees, .ref q_thought, .long v_thoughtFees, .ref q_image, .long v_imageFees, .int v_hasImage, .ref q_tape, .int v_taped, .ref q_texts, .ref q_sizes, .int v_programs, .ref q_imageTexts, .ref q_imageSizes, .int v_imagePrograms, .int hq9, .int ho, .int v_running, .int v_begun, .ref q_held, .ref q_marks, .int v_markMany, .ref q_trace, .int v_traced, .ref q_keptBalances, .ref q_keptFees, .int v_deep, .ref q_way, .ref q_sorts, .ref q_rowMany, .ref q_items, .ref q_moved], eI q_tape k_tape 80 f_tape]) hP hD [(0, 2)] [] hCm hNw (by decide +kernel) hk1 hFc hP1 hD1 rfl
                      have hK := KJ_s (tys' := [(k_tape, .int)]) hK hK1 [] rfl
                      generalize H1 = H at hP hS ⊢
                      have h_r76 := hw
                      refine lv_iload_n hx hb dX10_takesBracket_122 rfl (lv_at hl 1 rfl) ?_
                      refine lv_icmp_eq (tgt := 137) hx hb dX10_takesBracket_123 (by decide) (fun c77 => ?_) (fun c77 => ?_)
                      · skip
                        have f_c77 := i_eq c77
                        refine lv_aload_n hx hb dX10_takesBracket_137 rfl (lv_at hl 2 rfl) ?_
                        refine lv_dup hx hb dX10_takesBracket_138 rfl ?_
                        refine va_get (D := (dC, dI)) (ci := 9) (v := .int hq9) (C := RX10) (T := TX10) (N := 32) hx hb hts (fun w h => List.mem_cons_of_mem _ (inlX10 w h)) hown hK hP 0 rfl rfl 15 (by decide) (hts (.fieldLink RX10 124 "ClearingGatesModel" "here" "I") (List.mem_cons_of_mem _ mw_624)) (fun _ h9 => h9) rfl dX10_takesBracket_139 ?_
                        refine lv_iconst (v := 1) hx hb dX10_takesBracket_142 (by decide) ?_
                        refine lv_iadd hx hb dX10_takesBracket_143 ?_
                        refine lv_topi (fun z78 e_z78 => ?_)
                        (first | have t_z78 := i_add e_z78 (by omega) (by omega) | skip)
                        refine va_put (D := (dC, dI)) (ci := 9) (v := .int z78) (ty := .int) (C := RX10) (T := TX10) (N := 32) hx hb hts (fun w h => List.mem_cons_of_mem _ (inlX10 w h)) tyX10 tyX10_ok nmX10 hown hK hP hD hS 0 rfl rfl 15 (by decide) (hts (.fieldLink RX10 124 "ClearingGatesModel" "here" "I") (List.mem_cons_of_mem _ mw_624)) (fun _ h9 => h9) rfl (by decide +kernel) rfl rfl (Nat.le_of_ble_eq_true rfl) dX10_takesBracket_144 (fun H locs hP hD hS => ?_)
                        obtain ⟨hP, hD⟩ := X_s (ws' := [eO h0 9 [.ref q_s, .long v_fees, .ref q_thought, .long v_thoughtFees, .ref q_image, .long v_imageFees, .int v_hasImage, .ref q_tape, .int v_taped, .ref q_texts, .ref q_sizes, .int v_programs, .ref q_imageTexts, .ref q_imageSizes, .int v_imagePrograms, .int z78, .int ho, .int v_running, .int v_begun, .ref q_held, .ref q_marks, .int v_markMany, .ref q_trace, .int v_traced, .ref q_keptBalances, .ref q_keptFees, .int v_deep, .ref q_way, .ref q_sorts, .ref q_rowMany, .ref q_items, .ref q_moved], eI q_tape k_tape 80 f_tape]) hP hD rfl
                        refine lv_aload_n hx hb dX10_takesBracket_147 rfl (lv_at hl 2 rfl) ?_
                        refine lv_dup hx hb dX10_takesBracket_148 rfl ?_
                        refine va_get (D := (dC, dI)) (ci := 9) (v := .int ho) (C := RX10) (T := TX10) (N := 32) hx hb hts (fun w h => List.mem_cons_of_mem _ (inlX10 w h)) hown hK hP 0 rfl rfl 16 (by decide) (hts (.fieldLink RX10 131 "ClearingGatesModel" "open" "I") (List.mem_cons_of_mem _ mw_625)) (fun _ h9 => h9) rfl dX10_takesBracket_149 ?_
                        refine lv_iconst (v := 1) hx hb dX10_takesBracket_152 (by decide) ?_
                        refine lv_isub hx hb dX10_takesBracket_153 ?_
                        refine lv_topi (fun z79 e_z79 => ?_)
                        (first | have t_z79 := i_sub e_z79 (by omega) (by omega) | skip)
                        refine va_put (D := (dC, dI)) (ci := 9) (v := .int z79) (ty := .int) (C := RX10) (T := TX10) (N := 32) hx hb hts (fun w h => List.mem_cons_of_mem _ (inlX10 w h)) tyX10 tyX10_ok nmX10 hown hK hP hD hS 0 rfl rfl 16 (by decide) (hts (.fieldLink RX10 131 "ClearingGatesModel" "open" "I") (List.mem_cons_of_mem _ mw_625)) (fun _ h9 => h9) rfl (by decide +kernel) rfl rfl (Nat.le_of_ble_eq_true rfl) dX10_takesBracket_154 (fun H locs hP hD hS => ?_)
                        obtain ⟨hP, hD⟩ := X_s (ws' := [eO h0 9 [.ref q_s, .long v_fees, .ref q_thought, .long v_thoughtFees, .ref q_image, .long v_imageFees, .int v_hasImage, .ref q_tape, .int v_taped, .ref q_texts, .ref q_sizes, .int v_programs, .ref q_imageTexts, .ref q_imageSizes, .int v_imagePrograms, .int z78, .int z79, .int v_running, .int v_begun, .ref q_held, .ref q_marks, .int v_markMany, .ref q_trace, .int v_traced, .ref q_keptBalances, .ref q_keptFees, .int v_deep, .ref q_way, .ref q_sorts, .ref q_rowMany, .ref q_items, .ref q_moved], eI q_tape k_tape 80 f_tape]) hP hD rfl
                        refine lv_iconst (v := 1) hx hb dX10_takesBracket_157 (by decide) ?_
                        rw [hQ9]
                        exact W.zret (v := 1) hx hb hr (by decide) (fun t ht hW => ⟨⟨1, (z78, z79), rfl, Or.inl ⟨rfl, by omega, jx + 1, by omega, it_br hm9 hax hsq (by omega) (by omega)⟩, by rw [ht]; exact hP, va_K.moved hW.alike hK, hD⟩, hS.F ht⟩) hS.2.2 dX10_takesBracket_158
                      · skip
                        have f_c77 := i_ne c77
                        refine lv_aload_n hx hb dX10_takesBracket_126 rfl (lv_at hl 2 rfl) ?_
                        refine lv_iload hx hb dX10_takesBracket_127 (lv_at hl 0 rfl) ?_
                        obtain ⟨hPc, hDc, hFc, hCm, hNw⟩ := C_s (wc := [eO h0 9 [.ref q_s, .long v_fees, .ref q_thought, .long v_thoughtFees, .ref q_image, .long v_imageFees, .int v_hasImage, .ref q_tape, .int v_taped, .ref q_texts, .ref q_sizes, .int v_programs, .ref q_imageTexts, .ref q_imageSizes, .int v_imagePrograms, .int hq9, .int ho, .int v_running, .int v_begun, .ref q_held, .ref q_marks, .int v_markMany, .ref q_trace, .int v_traced, .ref q_keptBalances, .ref q_keptFees, .int v_deep, .ref q_way, .ref q_sorts, .ref q_rowMany, .ref q_items, .ref q_moved], eI q_tape k_tape 80 f_tape]) hP hD hS hA [(0, 2)] 2 rfl (by decide +kernel) rfl
                        have hKc := K_s (tys' := [(k_tape, .int)]) hK [(0, 1)] rfl
                        refine va_calli (va_runV (As := [.int 1]) (rest := []) ⟨hx, hb, hml, hown, hts⟩ (ih_m h0 1 q_s v_fees q_thought v_thoughtFees q_image v_imageFees v_hasImage q_tape v_taped q_texts q_sizes v_programs q_imageTexts q_imageSizes v_imagePrograms hq9 ho v_running v_begun q_held q_marks v_markMany q_trace v_traced q_keptBalances q_keptFees v_deep q_way q_sorts q_rowMany q_items q_moved k_tape f_tape jx n9 H.size (by first | assumption | omega) htn hn80 (by first | assumption | omega) (by first | assumption | omega) (by first | assumption | omega)) (cwV 1 hts gX10_takesBracket_X10_takesItem rfl rfl rfl (by decide +kernel) ⟨(show (5 * m9 + 10) + 1 ≤ 5 * nd + 9 by omega), (show 8 + (3 + 11) + (200 * m9 + 200) ≤ 200 * nd + 150 by omega)⟩) ⟨fun a U g mk q => by obtain ⟨q0, q1, qP, qK, qD⟩ := q; exact ⟨q0, q1, qP, va_K.moved (u := U) (U := U.calling g mk a) (Vm.Alike.refl U.vm) qK, qD⟩, va_recv (s := s) (q := (RX10, TX10, 32)) hKc hPc (ci := 9) (q0 := 0) rfl rfl, fun U hU hW => ⟨rfl, by rw [hU], by rw [hU]; exact hPc, va_K.moved hW.alike hKc, hDc.weaken (fun _ _ _ _ => trivial)⟩⟩ rfl rfl hl.1 rfl (lv_room (Nat.le_of_ble_eq_true rfl)) dX10_takesBracket_129 ⟨Nat.le_of_ble_eq_true rfl, Nat.le_of_ble_eq_true rfl⟩) hS (fun q _ h => hFc q h) hFc (fun r80 u t H1 locs ht hvm hw hB hz1 hk1 hS => ?_)
                        obtain ⟨u81, u82⟩ := u
                        obtain ⟨hP1, hK1, hD1⟩ := hB
                        rw [ht] at hP1
                        have hK1 := va_K.moved hvm.symm hK1
                        try dsimp only at hw
                        obtain ⟨hP, hD⟩ := J_s (wL := [eO h0 9 [.ref q_s, .long v_fees, .ref q_thought, .long v_thoughtFees, .ref q_image, .long v_imageFees, .int v_hasImage, .ref q_tape, .int v_taped, .ref q_texts, .ref q_sizes, .int v_programs, .ref q_imageTexts, .ref q_imageSizes, .int v_imagePrograms, .int u81, .int u82, .int v_running, .int v_begun, .ref q_held, .ref q_marks, .int v_markMany, .ref q_trace, .int v_traced, .ref q_keptBalances, .ref q_keptFees, .int v_deep, .ref q_way, .ref q_sorts, .ref q_rowMany, .ref q_items, .ref q_moved], eI q_tape k_tape 80 f_tape]) hP hD [(0, 2)] [] hCm hNw (by decide +kernel) hk1 hFc hP1 hD1 rfl
                        have hK := KJ_s (tys' := [(k_tape, .int)]) hK hK1 [] rfl
                        generalize H1 = H at hP hS ⊢
                        rcases hw with ⟨e_r80, f_r80⟩ | ⟨e_r80, f_r80⟩
                        · subst e_r80
                          obtain ⟨hoq, e9, he9, hit9⟩ := f_r80
                          have hl9 := it_lt _ _ _ hit9
                          refine lv_if_ne (tgt := 118) hx hb dX10_takesBracket_132 (by decide) (fun c83 => ?_) (fun c83 => absurd c83 (by decide))
                          exact ih_118 u81 u82 (by omega) ⟨ax, cx + 1, e9, hax, by omega, by omega, sq_snoc cx ax jx e9 hsq hit9⟩ (by omega) _ _ (K_s hK [(0, 1)] rfl) (P_s hP [(0, 2)] rfl) (D_s hD [(0, 2)] 2 rfl (by decide +kernel) rfl) hS ls (lv_sub hl [0, 1, 2, 3, 4] rfl)
                        · subst e_r80
                          refine lv_if_ne (tgt := 118) hx hb dX10_takesBracket_132 (by decide) (fun c84 => absurd (by decide) c84) (fun c84 => ?_)
                          refine lv_iconst (v := 0) hx hb dX10_takesBracket_135 (by decide) ?_
                          rw [hQ9]
                          exact W.zret (v := 0) hx hb hr (by decide) (fun t ht hW => ⟨⟨0, (u81, u82), rfl, Or.inr ⟨rfl, by omega⟩, by rw [ht]; exact hP, va_K.moved hW.alike hK, hD⟩, hS.F ht⟩) hS.2.2 dX10_takesBracket_136
                  exact loop_118 (1000) u70 z2 (by omega) ⟨u70.toInt.toNat, 0, u70.toInt.toNat, by omega, by omega, by omega, rfl⟩ (by omega) _ _ hK hP hD hS ls (lv_sub hl [0, 1, 2, 3, 4] rfl)
                · skip
                  have f_c75 := i_eq c75
                  refine lv_iload_n hx hb dX10_takesBracket_105 rfl (lv_at hl 2 rfl) ?_
                  refine lv_bipush (v := 123) hx hb dX10_takesBracket_106 (by decide) ?_
                  refine lv_icmp_ne (tgt := 115) hx hb dX10_takesBracket_108 (by decide) (fun c85 => ?_) (fun c85 => ?_)
                  · skip
                    have f_c85 := i_ne c85
                    exfalso; omega
                  · skip
                    have f_c85 := i_eq c85
                    refine lv_iconst (v := 1) hx hb dX10_takesBracket_111 (by decide) ?_
                    refine lv_goto (tgt := 116) hx hb dX10_takesBracket_112 (by decide) ?_
                    refine lv_istore (lv' := [(4, .int 1), (3, .int 125), (0, .ref h0), (1, .int p0), (2, .int p1)]) hx hb dX10_takesBracket_116 hl (by decide) rfl (fun ls hl => ?_)
                    have loop_118 : ∀ (n : Nat) (hq9 : Int32) (ho : Int32), (ho.toInt = v_open.toInt + 1 ∧ 0 ≤ hq9.toInt ∧ hq9.toInt ≤ (n9 : Int)) → (∃ ax cx jx : Nat, ((((f_tape kk).toInt = 40 ∨ (f_tape kk).toInt = 123) ∧ ax = kk + 2) ∨ (((f_tape kk).toInt = 91 ∨ (f_tape kk).toInt = 60) ∧ ax = kk + 1)) ∧ hq9.toInt = (jx : Int) ∧ jx ≤ n9 ∧ Sq (It f_tape n9 m9) cx ax jx) → ((n9 : Int) - hq9.toInt) < (n : Int) → ∀ (H : Heap) (locs : List Loc), va_K (dC, dI) vwCl [(k_tape, .int)] s → va_P (dC, dI) vwCl [eO h0 9 [.ref q_s, .long v_fees, .ref q_thought, .long v_thoughtFees, .ref q_image, .long v_imageFees, .int v_hasImage, .ref q_tape, .int v_taped, .ref q_texts, .ref q_sizes, .int v_programs, .ref q_imageTexts, .ref q_imageSizes, .int v_imagePrograms, .int hq9, .int ho, .int v_running, .int v_begun, .ref q_held, .ref q_marks, .int v_markMany, .ref q_trace, .int v_traced, .ref q_keptBalances, .ref q_keptFees, .int v_deep, .ref q_way, .ref q_sorts, .ref q_rowMany, .ref q_items, .ref q_moved], eI q_tape k_tape 80 f_tape] H → va_D A [eO h0 9 [.ref q_s, .long v_fees, .ref q_thought, .long v_thoughtFees, .ref q_image, .long v_imageFees, .int v_hasImage, .ref q_tape, .int v_taped, .ref q_texts, .ref q_sizes, .int v_programs, .ref q_imageTexts, .ref q_imageSizes, .int v_imagePrograms, .int hq9, .int ho, .int v_running, .int v_begun, .ref q_held, .ref q_marks, .int v_markMany, .ref q_trace, .int v_traced, .ref q_keptBalances, .ref q_keptFees, .int v_deep, .ref q_way, .ref q_sorts, .ref q_rowMany, .ref q_items, .ref q_moved], eI q_tape k_tape 80 f_tape] → va_S A s.heap H locs → ∀ (ls : Array Slot), lv_has ls 5 [(4, .int 1), (3, .int 125), (0, .ref h0), (1, .int p0), (2, .int p1)] → W p l e ({ frames := 5 * nd + 9, cells := 0, slots := 0, locals := 200 * nd + 150 }) s m (([.ref h0, .int p0, .int p1] : List Value).toArray) below meth c H locs 0 0 Q9 (F0 m 118 ls []) := by
                      intro n
                      induction n with
                      | zero => intro hq9 ho j1 j2 hM_118; exfalso; omega
                      | succ n ih_118 =>
                        intro hq9 ho j1 j2 hM_118 H locs hK hP hD hS ls hl
                        obtain ⟨ax, cx, jx, hax, hjx, hjn, hsq⟩ := j2
                        refine lv_aload_n hx hb dX10_takesBracket_118 rfl (lv_at hl 2 rfl) ?_
                        obtain ⟨hPc, hDc, hFc, hCm, hNw⟩ := C_s (wc := [eO h0 9 [.ref q_s, .long v_fees, .ref q_thought, .long v_thoughtFees, .ref q_image, .long v_imageFees, .int v_hasImage, .ref q_tape, .int v_taped, .ref q_texts, .ref q_sizes, .int v_programs, .ref q_imageTexts, .ref q_imageSizes, .int v_imagePrograms, .int hq9, .int ho, .int v_running, .int v_begun, .ref q_held, .ref q_marks, .int v_markMany, .ref q_trace, .int v_traced, .ref q_keptBalances, .ref q_keptFees, .int v_deep, .ref q_way, .ref q_sorts, .ref q_rowMany, .ref q_items, .ref q_moved], eI q_tape k_tape 80 f_tape]) hP hD hS hA [(0, 2)] 2 rfl (by decide +kernel) rfl
                        have hKc := K_s (tys' := [(k_tape, .int)]) hK [(0, 1)] rfl
                        refine va_calli (va_runV (As := []) (rest := []) ⟨hx, hb, hml, hown, hts⟩ (c_X10_byteAt l dC dI h0 q_s v_fees q_thought v_thoughtFees q_image v_imageFees v_hasImage q_tape v_taped q_texts q_sizes v_programs q_imageTexts q_imageSizes v_imagePrograms hq9 ho v_running v_begun q_held q_marks v_markMany q_trace v_traced q_keptBalances q_keptFees v_deep q_way q_sorts q_rowMany q_items q_moved k_tape f_tape jx n9 H.size (by first | assumption | omega) htn hn80) (cwV 0 hts gX10_takesBracket_X10_byteAt rfl rfl rfl (by decide +kernel) ⟨(show (0) + 1 ≤ 5 * nd + 9 by omega), (show 8 + (1 + 11) + (0) ≤ 200 * nd + 150 by omega)⟩) ⟨fun a U g mk q => by obtain ⟨q0, q1, qP, qK, qD⟩ := q; exact ⟨q0, q1, qP, va_K.moved (u := U) (U := U.calling g mk a) (Vm.Alike.refl U.vm) qK, qD⟩, va_recv (s := s) (q := (RX10, TX10, 32)) hKc hPc (ci := 9) (q0 := 0) rfl rfl, fun U hU hW => ⟨rfl, by rw [hU], by rw [hU]; exact hPc, va_K.moved hW.alike hKc, hDc.weaken (fun _ _ _ _ => trivial)⟩⟩ rfl rfl hl.1 rfl (lv_room (Nat.le_of_ble_eq_true rfl)) dX10_takesBracket_119 ⟨Nat.le_of_ble_eq_true rfl, Nat.le_of_ble_eq_true rfl⟩) hS (fun q _ h => hFc q h) hFc (fun r86 u t H1 locs ht hvm hw hB hz1 hk1 hS => ?_)
                        obtain ⟨hP1, hK1, hD1⟩ := hB
                        rw [ht] at hP1
                        have hK1 := va_K.moved hvm.symm hK1
                        try dsimp only at hw
                        obtain ⟨hP, hD⟩ := J_s (wL := [eO h0 9 [.ref q_s, .long v_fees, .ref q_thought, .long v_thoughtFees, .ref q_image, .long v_imageFees, .int v_hasImage, .ref q_tape, .int v_taped, .ref q_texts, .ref q_sizes, .int v_programs, .ref q_imageTexts, .ref q_imageSizes, .int v_imagePrograms, .int hq9, .int ho, .int v_running, .int v_begun, .ref q_held, .ref q_marks, .int v_markMany, .ref q_trace, .int v_traced, .ref q_keptBalances, .ref q_keptFees, .int v_deep, .ref q_way, .ref q_sorts, .ref q_rowMany, .ref q_items, .ref q_moved], eI q_tape k_tape 80 f_tape]) hP hD [(0, 2)] [] hCm hNw (by decide +kernel) hk1 hFc hP1 hD1 rfl
                        have hK := KJ_s (tys' := [(k_tape, .int)]) hK hK1 [] rfl
                        generalize H1 = H at hP hS ⊢
                        have h_r86 := hw
                        refine lv_iload_n hx hb dX10_takesBracket_122 rfl (lv_at hl 1 rfl) ?_
                        refine lv_icmp_eq (tgt := 137) hx hb dX10_takesBracket_123 (by decide) (fun c87 => ?_) (fun c87 => ?_)
                        · skip
                          have f_c87 := i_eq c87
                          refine lv_aload_n hx hb dX10_takesBracket_137 rfl (lv_at hl 2 rfl) ?_
                          refine lv_dup hx hb dX10_takesBracket_138 rfl ?_
                          refine va_get (D := (dC, dI)) (ci := 9) (v := .int hq9) (C := RX10) (T := TX10) (N := 32) hx hb hts (fun w h => List.mem_cons_of_mem _ (inlX10 w h)) hown hK hP 0 rfl rfl 15 (by decide) (hts (.fieldLink RX10 124 "ClearingGatesModel" "here" "I") (List.mem_cons_of_mem _ mw_624)) (fun _ h9 => h9) rfl dX10_takesBracket_139 ?_
                          refine lv_iconst (v := 1) hx hb dX10_takesBracket_142 (by decide) ?_
                          refine lv_iadd hx hb dX10_takesBracket_143 ?_
                          refine lv_topi (fun z88 e_z88 => ?_)
                          (first | have t_z88 := i_add e_z88 (by omega) (by omega) | skip)
                          refine va_put (D := (dC, dI)) (ci := 9) (v := .int z88) (ty := .int) (C := RX10) (T := TX10) (N := 32) hx hb hts (fun w h => List.mem_cons_of_mem _ (inlX10 w h)) tyX10 tyX10_ok nmX10 hown hK hP hD hS 0 rfl rfl 15 (by decide) (hts (.fieldLink RX10 124 "ClearingGatesModel" "here" "I") (List.mem_cons_of_mem _ mw_624)) (fun _ h9 => h9) rfl (by decide +kernel) rfl rfl (Nat.le_of_ble_eq_true rfl) dX10_takesBracket_144 (fun H locs hP hD hS => ?_)
                          obtain ⟨hP, hD⟩ := X_s (ws' := [eO h0 9 [.ref q_s, .long v_fees, .ref q_thought, .long v_thoughtFees, .ref q_image, .long v_imageFees, .int v_hasImage, .ref q_tape, .int v_taped, .ref q_texts, .ref q_sizes, .int v_programs, .ref q_imageTexts, .ref q_imageSizes, .int v_imagePrograms, .int z88, .int ho, .int v_running, .int v_begun, .ref q_held, .ref q_marks, .int v_markMany, .ref q_trace, .int v_traced, .ref q_keptBalances, .ref q_keptFees, .int v_deep, .ref q_way, .ref q_sorts, .ref q_rowMany, .ref q_items, .ref q_moved], eI q_tape k_tape 80 f_tape]) hP hD rfl
                          refine lv_aload_n hx hb dX10_takesBracket_147 rfl (lv_at hl 2 rfl) ?_
                          refine lv_dup hx hb dX10_takesBracket_148 rfl ?_
                          refine va_get (D := (dC, dI)) (ci := 9) (v := .int ho) (C := RX10) (T := TX10) (N := 32) hx hb hts (fun w h => List.mem_cons_of_mem _ (inlX10 w h)) hown hK hP 0 rfl rfl 16 (by decide) (hts (.fieldLink RX10 131 "ClearingGatesModel" "open" "I") (List.mem_cons_of_mem _ mw_625)) (fun _ h9 => h9) rfl dX10_takesBracket_149 ?_
                          refine lv_iconst (v := 1) hx hb dX10_takesBracket_152 (by decide) ?_
                          refine lv_isub hx hb dX10_takesBracket_153 ?_
                          refine lv_topi (fun z89 e_z89 => ?_)
                          (first | have t_z89 := i_sub e_z89 (by omega) (by omega) | skip)
                          refine va_put (D := (dC, dI)) (ci := 9) (v := .int z89) (ty := .int) (C := RX10) (T := TX10) (N := 32) hx hb hts (fun w h => List.mem_cons_of_mem _ (inlX10 w h)) tyX10 tyX10_ok nmX10 hown hK hP hD hS 0 rfl rfl 16 (by decide) (hts (.fieldLink RX10 131 "ClearingGatesModel" "open" "I") (List.mem_cons_of_mem _ mw_625)) (fun _ h9 => h9) rfl (by decide +kernel) rfl rfl (Nat.le_of_ble_eq_true rfl) dX10_takesBracket_154 (fun H locs hP hD hS => ?_)
                          obtain ⟨hP, hD⟩ := X_s (ws' := [eO h0 9 [.ref q_s, .long v_fees, .ref q_thought, .long v_thoughtFees, .ref q_image, .long v_imageFees, .int v_hasImage, .ref q_tape, .int v_taped, .ref q_texts, .ref q_sizes, .int v_programs, .ref q_imageTexts, .ref q_imageSizes, .int v_imagePrograms, .int z88, .int z89, .int v_running, .int v_begun, .ref q_held, .ref q_marks, .int v_markMany, .ref q_trace, .int v_traced, .ref q_keptBalances, .ref q_keptFees, .int v_deep, .ref q_way, .ref q_sorts, .ref q_rowMany, .ref q_items, .ref q_moved], eI q_tape k_tape 80 f_tape]) hP hD rfl
                          refine lv_iconst (v := 1) hx hb dX10_takesBracket_157 (by decide) ?_
                          rw [hQ9]
                          exact W.zret (v := 1) hx hb hr (by decide) (fun t ht hW => ⟨⟨1, (z88, z89), rfl, Or.inl ⟨rfl, by omega, jx + 1, by omega, it_br hm9 hax hsq (by omega) (by omega)⟩, by rw [ht]; exact hP, va_K.moved hW.alike hK, hD⟩, hS.F ht⟩) hS.2.2 dX10_takesBracket_158
                        · skip
                          have f_c87 := i_ne c87
                          refine lv_aload_n hx hb dX10_takesBracket_126 rfl (lv_at hl 2 rfl) ?_
                          refine lv_iload hx hb dX10_takesBracket_127 (lv_at hl 0 rfl) ?_
                          obtain ⟨hPc, hDc, hFc, hCm, hNw⟩ := C_s (wc := [eO h0 9 [.ref q_s, .long v_fees, .ref q_thought, .long v_thoughtFees, .ref q_image, .long v_imageFees, .int v_hasImage, .ref q_tape, .int v_taped, .ref q_texts, .ref q_sizes, .int v_programs, .ref q_imageTexts, .ref q_imageSizes, .int v_imagePrograms, .int hq9, .int ho, .int v_running, .int v_begun, .ref q_held, .ref q_marks, .int v_markMany, .ref q_trace, .int v_traced, .ref q_keptBalances, .ref q_keptFees, .int v_deep, .ref q_way, .ref q_sorts, .ref q_rowMany, .ref q_items, .ref q_moved], eI q_tape k_tape 80 f_tape]) hP hD hS hA [(0, 2)] 2 rfl (by decide +kernel) rfl
                          have hKc := K_s (tys' := [(k_tape, .int)]) hK [(0, 1)] rfl
                          refine va_calli (va_runV (As := [.int 1]) (rest := []) ⟨hx, hb, hml, hown, hts⟩ (ih_m h0 1 q_s v_fees q_thought v_thoughtFees q_image v_imageFees v_hasImage q_tape v_taped q_texts q_sizes v_programs q_imageTexts q_imageSizes v_imagePrograms hq9 ho v_running v_begun q_held q_marks v_markMany q_trace v_traced q_keptBalances q_keptFees v_deep q_way q_sorts q_rowMany q_items q_moved k_tape f_tape jx n9 H.size (by first | assumption | omega) htn hn80 (by first | assumption | omega) (by first | assumption | omega) (by first | assumption | omega)) (cwV 1 hts gX10_takesBracket_X10_takesItem rfl rfl rfl (by decide +kernel) ⟨(show (5 * m9 + 10) + 1 ≤ 5 * nd + 9 by omega), (show 8 + (3 + 11) + (200 * m9 + 200) ≤ 200 * nd + 150 by omega)⟩) ⟨fun a U g mk q => by obtain ⟨q0, q1, qP, qK, qD⟩ := q; exact ⟨q0, q1, qP, va_K.moved (u := U) (U := U.calling g mk a) (Vm.Alike.refl U.vm) qK, qD⟩, va_recv (s := s) (q := (RX10, TX10, 32)) hKc hPc (ci := 9) (q0 := 0) rfl rfl, fun U hU hW => ⟨rfl, by rw [hU], by rw [hU]; exact hPc, va_K.moved hW.alike hKc, hDc.weaken (fun _ _ _ _ => trivial)⟩⟩ rfl rfl hl.1 rfl (lv_room (Nat.le_of_ble_eq_true rfl)) dX10_takesBracket_129 ⟨Nat.le_of_ble_eq_true rfl, Nat.le_of_ble_eq_true rfl⟩) hS (fun q _ h => hFc q h) hFc (fun r90 u t H1 locs ht hvm hw hB hz1 hk1 hS => ?_)
                          obtain ⟨u91, u92⟩ := u
                          obtain ⟨hP1, hK1, hD1⟩ := hB
                          rw [ht] at hP1
                          have hK1 := va_K.moved hvm.symm hK1
                          try dsimp only at hw
                          obtain ⟨hP, hD⟩ := J_s (wL := [eO h0 9 [.ref q_s, .long v_fees, .ref q_thought, .long v_thoughtFees, .ref q_image, .long v_imageFees, .int v_hasImage, .ref q_tape, .int v_taped, .ref q_texts, .ref q_sizes, .int v_programs, .ref q_imageTexts, .ref q_imageSizes, .int v_imagePrograms, .int u91, .int u92, .int v_running, .int v_begun, .ref q_held, .ref q_marks, .int v_markMany, .ref q_trace, .int v_traced, .ref q_keptBalances, .ref q_keptFees, .int v_deep, .ref q_way, .ref q_sorts, .ref q_rowMany, .ref q_items, .ref q_moved], eI q_tape k_tape 80 f_tape]) hP hD [(0, 2)] [] hCm hNw (by decide +kernel) hk1 hFc hP1 hD1 rfl
                          have hK := KJ_s (tys' := [(k_tape, .int)]) hK hK1 [] rfl
                          generalize H1 = H at hP hS ⊢
                          rcases hw with ⟨e_r90, f_r90⟩ | ⟨e_r90, f_r90⟩
                          · subst e_r90
                            obtain ⟨hoq, e9, he9, hit9⟩ := f_r90
                            have hl9 := it_lt _ _ _ hit9
                            refine lv_if_ne (tgt := 118) hx hb dX10_takesBracket_132 (by decide) (fun c93 => ?_) (fun c93 => absurd c93 (by decide))
                            exact ih_118 u91 u92 (by omega) ⟨ax, cx + 1, e9, hax, by omega, by omega, sq_snoc cx ax jx e9 hsq hit9⟩ (by omega) _ _ (K_s hK [(0, 1)] rfl) (P_s hP [(0, 2)] rfl) (D_s hD [(0, 2)] 2 rfl (by decide +kernel) rfl) hS ls (lv_sub hl [0, 1, 2, 3, 4] rfl)
                          · subst e_r90
                            refine lv_if_ne (tgt := 118) hx hb dX10_takesBracket_132 (by decide) (fun c94 => absurd (by decide) c94) (fun c94 => ?_)
                            refine lv_iconst (v := 0) hx hb dX10_takesBracket_135 (by decide) ?_
                            rw [hQ9]
                            exact W.zret (v := 0) hx hb hr (by decide) (fun t ht hW => ⟨⟨0, (u91, u92), rfl, Or.inr ⟨rfl, by omega⟩, by rw [ht]; exact hP, va_K.moved hW.alike hK, hD⟩, hS.F ht⟩) hS.2.2 dX10_takesBracket_136
                    exact loop_118 (1000) u70 z2 (by omega) ⟨u70.toInt.toNat, 0, u70.toInt.toNat, by omega, by omega, by omega, rfl⟩ (by omega) _ _ hK hP hD hS ls (lv_sub hl [0, 1, 2, 3, 4] rfl)
              · skip
                have f_c74 := i_eq c74
                exfalso; omega
            · skip
              have f_c73 := i_eq c73
              exfalso; omega
          · skip
            have f_c72 := i_eq c72
            exfalso; omega
        · subst e_r69
          refine lv_if_ne (tgt := 65) hx hb dX10_takesBracket_60 (by decide) (fun c95 => absurd (by decide) c95) (fun c95 => ?_)
          refine lv_iconst (v := 0) hx hb dX10_takesBracket_63 (by decide) ?_
          rw [hQ9]
          exact W.zret (v := 0) hx hb hr (by decide) (fun t ht hW => ⟨⟨0, (u70, z2), rfl, Or.inr ⟨rfl, by omega⟩, by rw [ht]; exact hP, va_K.moved hW.alike hK, hD⟩, hS.F ht⟩) hS.2.2 dX10_takesBracket_64
    · skip
      have f_c4 := i_eq c4
      refine lv_aload_n hx hb dX10_takesBracket_37 rfl (lv_at hl 0 rfl) ?_
      refine lv_iconst (v := 0) hx hb dX10_takesBracket_38 (by decide) ?_
      refine lv_bipush (v := 7) hx hb dX10_takesBracket_39 (by decide) ?_
      obtain ⟨hPc, hDc, hFc, hCm, hNw⟩ := C_s (wc := [eO h0 9 [.ref q_s, .long v_fees, .ref q_thought, .long v_thoughtFees, .ref q_image, .long v_imageFees, .int v_hasImage, .ref q_tape, .int v_taped, .ref q_texts, .ref q_sizes, .int v_programs, .ref q_imageTexts, .ref q_imageSizes, .int v_imagePrograms, .int z3, .int z2, .int v_running, .int v_begun, .ref q_held, .ref q_marks, .int v_markMany, .ref q_trace, .int v_traced, .ref q_keptBalances, .ref q_keptFees, .int v_deep, .ref q_way, .ref q_sorts, .ref q_rowMany, .ref q_items, .ref q_moved], eI q_tape k_tape 80 f_tape]) hP hD hS hA [(0, 2)] 2 rfl (by decide +kernel) rfl
      have hKc := K_s (tys' := [(k_tape, .int)]) hK [(0, 1)] rfl
      refine va_calli (va_runV (As := [.int 0, .int 7]) (rest := []) ⟨hx, hb, hml, hown, hts⟩ (c_X10_takesFigure l dC dI h0 0 7 q_s v_fees q_thought v_thoughtFees q_image v_imageFees v_hasImage q_tape v_taped q_texts q_sizes v_programs q_imageTexts q_imageSizes v_imagePrograms z3 z2 v_running v_begun q_held q_marks v_markMany q_trace v_traced q_keptBalances q_keptFees v_deep q_way q_sorts q_rowMany q_items q_moved k_tape f_tape (kk + 1) n9 H.size (by first | assumption | omega) htn hn80 (by first | assumption | omega) (by first | assumption | omega) (by first | assumption | omega) (by first | assumption | omega) (by first | assumption | omega)) (cwV 2 hts gX10_takesBracket_X10_takesFigure rfl rfl rfl (by decide +kernel) ⟨(show (1) + 1 ≤ 5 * nd + 9 by omega), (show 8 + (3 + 11) + (25) ≤ 200 * nd + 150 by omega)⟩) ⟨fun a U g mk q => by obtain ⟨q0, q1, qP, qK, qD⟩ := q; exact ⟨q0, q1, qP, va_K.moved (u := U) (U := U.calling g mk a) (Vm.Alike.refl U.vm) qK, qD⟩, va_recv (s := s) (q := (RX10, TX10, 32)) hKc hPc (ci := 9) (q0 := 0) rfl rfl, fun U hU hW => ⟨rfl, by rw [hU], by rw [hU]; exact hPc, va_K.moved hW.alike hKc, hDc.weaken (fun _ _ _ _ => trivial)⟩⟩ rfl rfl hl.1 rfl (lv_room (Nat.le_of_ble_eq_true rfl)) dX10_takesBracket_41 ⟨Nat.le_of_ble_eq_true rfl, Nat.le_of_ble_eq_true rfl⟩) hS (fun q _ h => hFc q h) hFc (fun r96 u t H1 locs ht hvm hw hB hz1 hk1 hS => ?_)
      obtain ⟨u97, rfl⟩ : ∃ z, z = u := ⟨_, rfl⟩
      obtain ⟨hP1, hK1, hD1⟩ := hB
      rw [ht] at hP1
      have hK1 := va_K.moved hvm.symm hK1
      try dsimp only at hw
      obtain ⟨hP, hD⟩ := J_s (wL := [eO h0 9 [.ref q_s, .long v_fees, .ref q_thought, .long v_thoughtFees, .ref q_image, .long v_imageFees, .int v_hasImage, .ref q_tape, .int v_taped, .ref q_texts, .ref q_sizes, .int v_programs, .ref q_imageTexts, .ref q_imageSizes, .int v_imagePrograms, .int u97, .int z2, .int v_running, .int v_begun, .ref q_held, .ref q_marks, .int v_markMany, .ref q_trace, .int v_traced, .ref q_keptBalances, .ref q_keptFees, .int v_deep, .ref q_way, .ref q_sorts, .ref q_rowMany, .ref q_items, .ref q_moved], eI q_tape k_tape 80 f_tape]) hP hD [(0, 2)] [] hCm hNw (by decide +kernel) hk1 hFc hP1 hD1 rfl
      have hK := KJ_s (tys' := [(k_tape, .int)]) hK hK1 [] rfl
      generalize H1 = H at hP hS ⊢
      rcases hw with ⟨e_r96, f_r96⟩ | ⟨e_r96, f_r96⟩
      · subst e_r96
        refine lv_if_eq (tgt := 63) hx hb dX10_takesBracket_44 (by decide) (fun c98 => absurd c98 (by decide)) (fun c98 => ?_)
        refine lv_iload_n hx hb dX10_takesBracket_47 rfl (lv_at hl 1 rfl) ?_
        refine lv_bipush (v := 123) hx hb dX10_takesBracket_48 (by decide) ?_
        refine lv_icmp_ne (tgt := 65) hx hb dX10_takesBracket_50 (by decide) (fun c99 => ?_) (fun c99 => ?_)
        · skip
          have f_c99 := i_ne c99
          refine lv_iload_n hx hb dX10_takesBracket_65 rfl (lv_at hl 1 rfl) ?_
          refine lv_bipush (v := 40) hx hb dX10_takesBracket_66 (by decide) ?_
          refine lv_icmp_ne (tgt := 76) hx hb dX10_takesBracket_68 (by decide) (fun c100 => ?_) (fun c100 => ?_)
          · skip
            have f_c100 := i_ne c100
            exfalso; omega
          · skip
            have f_c100 := i_eq c100
            refine lv_bipush (v := 41) hx hb dX10_takesBracket_71 (by decide) ?_
            refine lv_goto (tgt := 100) hx hb dX10_takesBracket_73 (by decide) ?_
            refine lv_istore_n (lv' := [(3, .int 41), (0, .ref h0), (1, .int p0), (2, .int p1)]) hx hb dX10_takesBracket_100 rfl hl (by decide) rfl (fun ls hl => ?_)
            refine lv_iload_n hx hb dX10_takesBracket_101 rfl (lv_at hl 3 rfl) ?_
            refine lv_if_ne (tgt := 111) hx hb dX10_takesBracket_102 (by decide) (fun c101 => ?_) (fun c101 => ?_)
            · skip
              have f_c101 := i_ne c101
              refine lv_iconst (v := 1) hx hb dX10_takesBracket_111 (by decide) ?_
              refine lv_goto (tgt := 116) hx hb dX10_takesBracket_112 (by decide) ?_
              refine lv_istore (lv' := [(4, .int 1), (3, .int 41), (0, .ref h0), (1, .int p0), (2, .int p1)]) hx hb dX10_takesBracket_116 hl (by decide) rfl (fun ls hl => ?_)
              have loop_118 : ∀ (n : Nat) (hq9 : Int32) (ho : Int32), (ho.toInt = v_open.toInt + 1 ∧ 0 ≤ hq9.toInt ∧ hq9.toInt ≤ (n9 : Int)) → (∃ ax cx jx : Nat, ((((f_tape kk).toInt = 40 ∨ (f_tape kk).toInt = 123) ∧ ax = kk + 2) ∨ (((f_tape kk).toInt = 91 ∨ (f_tape kk).toInt = 60) ∧ ax = kk + 1)) ∧ hq9.toInt = (jx : Int) ∧ jx ≤ n9 ∧ Sq (It f_tape n9 m9) cx ax jx) → ((n9 : Int) - hq9.toInt) < (n : Int) → ∀ (H : Heap) (locs : List Loc), va_K (dC, dI) vwCl [(k_tape, .int)] s → va_P (dC, dI) vwCl [eO h0 9 [.ref q_s, .long v_fees, .ref q_thought, .long v_thoughtFees, .ref q_image, .long v_imageFees, .int v_hasImage, .ref q_tape, .int v_taped, .ref q_texts, .ref q_sizes, .int v_programs, .ref q_imageTexts, .ref q_imageSizes, .int v_imagePrograms, .int hq9, .int ho, .int v_running, .int v_begun, .ref q_held, .ref q_marks, .int v_markMany, .ref q_trace, .int v_traced, .ref q_keptBalances, .ref q_keptFees, .int v_deep, .ref q_way, .ref q_sorts, .ref q_rowMany, .ref q_items, .ref q_moved], eI q_tape k_tape 80 f_tape] H → va_D A [eO h0 9 [.ref q_s, .long v_fees, .ref q_thought, .long v_thoughtFees, .ref q_image, .long v_imageFees, .int v_hasImage, .ref q_tape, .int v_taped, .ref q_texts, .ref q_sizes, .int v_programs, .ref q_imageTexts, .ref q_imageSizes, .int v_imagePrograms, .int hq9, .int ho, .int v_running, .int v_begun, .ref q_held, .ref q_marks, .int v_markMany, .ref q_trace, .int v_traced, .ref q_keptBalances, .ref q_keptFees, .int v_deep, .ref q_way, .ref q_sorts, .ref q_rowMany, .ref q_items, .ref q_moved], eI q_tape k_tape 80 f_tape] → va_S A s.heap H locs → ∀ (ls : Array Slot), lv_has ls 5 [(4, .int 1), (3, .int 41), (0, .ref h0), (1, .int p0), (2, .int p1)] → W p l e ({ frames := 5 * nd + 9, cells := 0, slots := 0, locals := 200 * nd + 150 }) s m (([.ref h0, .int p0, .int p1] : List Value).toArray) below meth c H locs 0 0 Q9 (F0 m 118 ls []) := by
                intro n
                induction n with
                | zero => intro hq9 ho j1 j2 hM_118; exfalso; omega
                | succ n ih_118 =>
                  intro hq9 ho j1 j2 hM_118 H locs hK hP hD hS ls hl
                  obtain ⟨ax, cx, jx, hax, hjx, hjn, hsq⟩ := j2
                  refine lv_aload_n hx hb dX10_takesBracket_118 rfl (lv_at hl 2 rfl) ?_
                  obtain ⟨hPc, hDc, hFc, hCm, hNw⟩ := C_s (wc := [eO h0 9 [.ref q_s, .long v_fees, .ref q_thought, .long v_thoughtFees, .ref q_image, .long v_imageFees, .int v_hasImage, .ref q_tape, .int v_taped, .ref q_texts, .ref q_sizes, .int v_programs, .ref q_imageTexts, .ref q_imageSizes, .int v_imagePrograms, .int hq9, .int ho, .int v_running, .int v_begun, .ref q_held, .ref q_marks, .int v_markMany, .ref q_trace, .int v_traced, .ref q_keptBalances, .ref q_keptFees, .int v_deep, .ref q_way, .ref q_sorts, .ref q_rowMany, .ref q_items, .ref q_moved], eI q_tape k_tape 80 f_tape]) hP hD hS hA [(0, 2)] 2 rfl (by decide +kernel) rfl
                  have hKc := K_s (tys' := [(k_tape, .int)]) hK [(0, 1)] rfl
                  refine va_calli (va_runV (As := []) (rest := []) ⟨hx, hb, hml, hown, hts⟩ (c_X10_byteAt l dC dI h0 q_s v_fees q_thought v_thoughtFees q_image v_imageFees v_hasImage q_tape v_taped q_texts q_sizes v_programs q_imageTexts q_imageSizes v_imagePrograms hq9 ho v_running v_begun q_held q_marks v_markMany q_trace v_traced q_keptBalances q_keptFees v_deep q_way q_sorts q_rowMany q_items q_moved k_tape f_tape jx n9 H.size (by first | assumption | omega) htn hn80) (cwV 0 hts gX10_takesBracket_X10_byteAt rfl rfl rfl (by decide +kernel) ⟨(show (0) + 1 ≤ 5 * nd + 9 by omega), (show 8 + (1 + 11) + (0) ≤ 200 * nd + 150 by omega)⟩) ⟨fun a U g mk q => by obtain ⟨q0, q1, qP, qK, qD⟩ := q; exact ⟨q0, q1, qP, va_K.moved (u := U) (U := U.calling g mk a) (Vm.Alike.refl U.vm) qK, qD⟩, va_recv (s := s) (q := (RX10, TX10, 32)) hKc hPc (ci := 9) (q0 := 0) rfl rfl, fun U hU hW => ⟨rfl, by rw [hU], by rw [hU]; exact hPc, va_K.moved hW.alike hKc, hDc.weaken (fun _ _ _ _ => trivial)⟩⟩ rfl rfl hl.1 rfl (lv_room (Nat.le_of_ble_eq_true rfl)) dX10_takesBracket_119 ⟨Nat.le_of_ble_eq_true rfl, Nat.le_of_ble_eq_true rfl⟩) hS (fun q _ h => hFc q h) hFc (fun r102 u t H1 locs ht hvm hw hB hz1 hk1 hS => ?_)
                  obtain ⟨hP1, hK1, hD1⟩ := hB
                  rw [ht] at hP1
                  have hK1 := va_K.moved hvm.symm hK1
                  try dsimp only at hw
                  obtain ⟨hP, hD⟩ := J_s (wL := [eO h0 9 [.ref q_s, .long v_fees, .ref q_thought, .long v_thoughtFees, .ref q_image, .long v_imageFees, .int v_hasImage, .ref q_tape, .int v_taped, .ref q_texts, .ref q_sizes, .int v_programs, .ref q_imageTexts, .ref q_imageSizes, .int v_imagePrograms, .int hq9, .int ho, .int v_running, .int v_begun, .ref q_held, .ref q_marks, .int v_markMany, .ref q_trace, .int v_traced, .ref q_keptBalances, .ref q_keptFees, .int v_deep, .ref q_way, .ref q_sorts, .ref q_rowMany, .ref q_items, .ref q_moved], eI q_tape k_tape 80 f_tape]) hP hD [(0, 2)] [] hCm hNw (by decide +kernel) hk1 hFc hP1 hD1 rfl
                  have hK := KJ_s (tys' := [(k_tape, .int)]) hK hK1 [] rfl
                  generalize H1 = H at hP hS ⊢
                  have h_r102 := hw
                  refine lv_iload_n hx hb dX10_takesBracket_122 rfl (lv_at hl 1 rfl) ?_
                  refine lv_icmp_eq (tgt := 137) hx hb dX10_takesBracket_123 (by decide) (fun c103 => ?_) (fun c103 => ?_)
                  · skip
                    have f_c103 := i_eq c103
                    refine lv_aload_n hx hb dX10_takesBracket_137 rfl (lv_at hl 2 rfl) ?_
                    refine lv_dup hx hb dX10_takesBracket_138 rfl ?_
                    refine va_get (D := (dC, dI)) (ci := 9) (v := .int hq9) (C := RX10) (T := TX10) (N := 32) hx hb hts (fun w h => List.mem_cons_of_mem _ (inlX10 w h)) hown hK hP 0 rfl rfl 15 (by decide) (hts (.fieldLink RX10 124 "ClearingGatesModel" "here" "I") (List.mem_cons_of_mem _ mw_624)) (fun _ h9 => h9) rfl dX10_takesBracket_139 ?_
                    refine lv_iconst (v := 1) hx hb dX10_takesBracket_142 (by decide) ?_
                    refine lv_iadd hx hb dX10_takesBracket_143 ?_
                    refine lv_topi (fun z104 e_z104 => ?_)
                    (first | have t_z104 := i_add e_z104 (by omega) (by omega) | skip)
                    refine va_put (D := (dC, dI)) (ci := 9) (v := .int z104) (ty := .int) (C := RX10) (T := TX10) (N := 32) hx hb hts (fun w h => List.mem_cons_of_mem _ (inlX10 w h)) tyX10 tyX10_ok nmX10 hown hK hP hD hS 0 rfl rfl 15 (by decide) (hts (.fieldLink RX10 124 "ClearingGatesModel" "here" "I") (List.mem_cons_of_mem _ mw_624)) (fun _ h9 => h9) rfl (by decide +kernel) rfl rfl (Nat.le_of_ble_eq_true rfl) dX10_takesBracket_144 (fun H locs hP hD hS => ?_)
                    obtain ⟨hP, hD⟩ := X_s (ws' := [eO h0 9 [.ref q_s, .long v_fees, .ref q_thought, .long v_thoughtFees, .ref q_image, .long v_imageFees, .int v_hasImage, .ref q_tape, .int v_taped, .ref q_texts, .ref q_sizes, .int v_programs, .ref q_imageTexts, .ref q_imageSizes, .int v_imagePrograms, .int z104, .int ho, .int v_running, .int v_begun, .ref q_held, .ref q_marks, .int v_markMany, .ref q_trace, .int v_traced, .ref q_keptBalances, .ref q_keptFees, .int v_deep, .ref q_way, .ref q_sorts, .ref q_rowMany, .ref q_items, .ref q_moved], eI q_tape k_tape 80 f_tape]) hP hD rfl
                    refine lv_aload_n hx hb dX10_takesBracket_147 rfl (lv_at hl 2 rfl) ?_
                    refine lv_dup hx hb dX10_takesBracket_148 rfl ?_
                    refine va_get (D := (dC, dI)) (ci := 9) (v := .int ho) (C := RX10) (T := TX10) (N := 32) hx hb hts (fun w h => List.mem_cons_of_mem _ (inlX10 w h)) hown hK hP 0 rfl rfl 16 (by decide) (hts (.fieldLink RX10 131 "ClearingGatesModel" "open" "I") (List.mem_cons_of_mem _ mw_625)) (fun _ h9 => h9) rfl dX10_takesBracket_149 ?_
                    refine lv_iconst (v := 1) hx hb dX10_takesBracket_152 (by decide) ?_
                    refine lv_isub hx hb dX10_takesBracket_153 ?_
                    refine lv_topi (fun z105 e_z105 => ?_)
                    (first | have t_z105 := i_sub e_z105 (by omega) (by omega) | skip)
                    refine va_put (D := (dC, dI)) (ci := 9) (v := .int z105) (ty := .int) (C := RX10) (T := TX10) (N := 32) hx hb hts (fun w h => List.mem_cons_of_mem _ (inlX10 w h)) tyX10 tyX10_ok nmX10 hown hK hP hD hS 0 rfl rfl 16 (by decide) (hts (.fieldLink RX10 131 "ClearingGatesModel" "open" "I") (List.mem_cons_of_mem _ mw_625)) (fun _ h9 => h9) rfl (by decide +kernel) rfl rfl (Nat.le_of_ble_eq_true rfl) dX10_takesBracket_154 (fun H locs hP hD hS => ?_)
                    obtain ⟨hP, hD⟩ := X_s (ws' := [eO h0 9 [.ref q_s, .long v_fees, .ref q_thought, .long v_thoughtFees, .ref q_image, .long v_imageFees, .int v_hasImage, .ref q_tape, .int v_taped, .ref q_texts, .ref q_sizes, .int v_programs, .ref q_imageTexts, .ref q_imageSizes, .int v_imagePrograms, .int z104, .int z105, .int v_running, .int v_begun, .ref q_held, .ref q_marks, .int v_markMany, .ref q_trace, .int v_traced, .ref q_keptBalances, .ref q_keptFees, .int v_deep, .ref q_way, .ref q_sorts, .ref q_rowMany, .ref q_items, .ref q_moved], eI q_tape k_tape 80 f_tape]) hP hD rfl
                    refine lv_iconst (v := 1) hx hb dX10_takesBracket_157 (by decide) ?_
                    rw [hQ9]
                    exact W.zret (v := 1) hx hb hr (by decide) (fun t ht hW => ⟨⟨1, (z104, z105), rfl, Or.inl ⟨rfl, by omega, jx + 1, by omega, it_br hm9 hax hsq (by omega) (by omega)⟩, by rw [ht]; exact hP, va_K.moved hW.alike hK, hD⟩, hS.F ht⟩) hS.2.2 dX10_takesBracket_158
                  · skip
                    have f_c103 := i_ne c103
                    refine lv_aload_n hx hb dX10_takesBracket_126 rfl (lv_at hl 2 rfl) ?_
                    refine lv_iload hx hb dX10_takesBracket_127 (lv_at hl 0 rfl) ?_
                    obtain ⟨hPc, hDc, hFc, hCm, hNw⟩ := C_s (wc := [eO h0 9 [.ref q_s, .long v_fees, .ref q_thought, .long v_thoughtFees, .ref q_image, .long v_imageFees, .int v_hasImage, .ref q_tape, .int v_taped, .ref q_texts, .ref q_sizes, .int v_programs, .ref q_imageTexts, .ref q_imageSizes, .int v_imagePrograms, .int hq9, .int ho, .int v_running, .int v_begun, .ref q_held, .ref q_marks, .int v_markMany, .ref q_trace, .int v_traced, .ref q_keptBalances, .ref q_keptFees, .int v_deep, .ref q_way, .ref q_sorts, .ref q_rowMany, .ref q_items, .ref q_moved], eI q_tape k_tape 80 f_tape]) hP hD hS hA [(0, 2)] 2 rfl (by decide +kernel) rfl
                    have hKc := K_s (tys' := [(k_tape, .int)]) hK [(0, 1)] rfl
                    refine va_calli (va_runV (As := [.int 1]) (rest := []) ⟨hx, hb, hml, hown, hts⟩ (ih_m h0 1 q_s v_fees q_thought v_thoughtFees q_image v_imageFees v_hasImage q_tape v_taped q_texts q_sizes v_programs q_imageTexts q_imageSizes v_imagePrograms hq9 ho v_running v_begun q_held q_marks v_markMany q_trace v_traced q_keptBalances q_keptFees v_deep q_way q_sorts q_rowMany q_items q_moved k_tape f_tape jx n9 H.size (by first | assumption | omega) htn hn80 (by first | assumption | omega) (by first | assumption | omega) (by first | assumption | omega)) (cwV 1 hts gX10_takesBracket_X10_takesItem rfl rfl rfl (by decide +kernel) ⟨(show (5 * m9 + 10) + 1 ≤ 5 * nd + 9 by omega), (show 8 + (3 + 11) + (200 * m9 + 200) ≤ 200 * nd + 150 by omega)⟩) ⟨fun a U g mk q => by obtain ⟨q0, q1, qP, qK, qD⟩ := q; exact ⟨q0, q1, qP, va_K.moved (u := U) (U := U.calling g mk a) (Vm.Alike.refl U.vm) qK, qD⟩, va_recv (s := s) (q := (RX10, TX10, 32)) hKc hPc (ci := 9) (q0 := 0) rfl rfl, fun U hU hW => ⟨rfl, by rw [hU], by rw [hU]; exact hPc, va_K.moved hW.alike hKc, hDc.weaken (fun _ _ _ _ => trivial)⟩⟩ rfl rfl hl.1 rfl (lv_room (Nat.le_of_ble_eq_true rfl)) dX10_takesBracket_129 ⟨Nat.le_of_ble_eq_true rfl, Nat.le_of_ble_eq_true rfl⟩) hS (fun q _ h => hFc q h) hFc (fun r106 u t H1 locs ht hvm hw hB hz1 hk1 hS => ?_)
                    obtain ⟨u107, u108⟩ := u
                    obtain ⟨hP1, hK1, hD1⟩ := hB
                    rw [ht] at hP1
                    have hK1 := va_K.moved hvm.symm hK1
                    try dsimp only at hw
                    obtain ⟨hP, hD⟩ := J_s (wL := [eO h0 9 [.ref q_s, .long v_fees, .ref q_thought, .long v_thoughtFees, .ref q_image, .long v_imageFees, .int v_hasImage, .ref q_tape, .int v_taped, .ref q_texts, .ref q_sizes, .int v_programs, .ref q_imageTexts, .ref q_imageSizes, .int v_imagePrograms, .int u107, .int u108, .int v_running, .int v_begun, .ref q_held, .ref q_marks, .int v_markMany, .ref q_trace, .int v_traced, .ref q_keptBalances, .ref q_keptFees, .int v_deep, .ref q_way, .ref q_sorts, .ref q_rowMany, .ref q_items, .ref q_moved], eI q_tape k_tape 80 f_tape]) hP hD [(0, 2)] [] hCm hNw (by decide +kernel) hk1 hFc hP1 hD1 rfl
                    have hK := KJ_s (tys' := [(k_tape, .int)]) hK hK1 [] rfl
                    generalize H1 = H at hP hS ⊢
                    rcases hw with ⟨e_r106, f_r106⟩ | ⟨e_r106, f_r106⟩
                    · subst e_r106
                      obtain ⟨hoq, e9, he9, hit9⟩ := f_r106
                      have hl9 := it_lt _ _ _ hit9
                      refine lv_if_ne (tgt := 118) hx hb dX10_takesBracket_132 (by decide) (fun c109 => ?_) (fun c109 => absurd c109 (by decide))
                      exact ih_118 u107 u108 (by omega) ⟨ax, cx + 1, e9, hax, by omega, by omega, sq_snoc cx ax jx e9 hsq hit9⟩ (by omega) _ _ (K_s hK [(0, 1)] rfl) (P_s hP [(0, 2)] rfl) (D_s hD [(0, 2)] 2 rfl (by decide +kernel) rfl) hS ls (lv_sub hl [0, 1, 2, 3, 4] rfl)
                    · subst e_r106
                      refine lv_if_ne (tgt := 118) hx hb dX10_takesBracket_132 (by decide) (fun c110 => absurd (by decide) c110) (fun c110 => ?_)
                      refine lv_iconst (v := 0) hx hb dX10_takesBracket_135 (by decide) ?_
                      rw [hQ9]
                      exact W.zret (v := 0) hx hb hr (by decide) (fun t ht hW => ⟨⟨0, (u107, u108), rfl, Or.inr ⟨rfl, by omega⟩, by rw [ht]; exact hP, va_K.moved hW.alike hK, hD⟩, hS.F ht⟩) hS.2.2 dX10_takesBracket_136
              exact loop_118 (1000) u97 z2 (by omega) ⟨u97.toInt.toNat, 0, u97.toInt.toNat, by omega, by omega, by omega, rfl⟩ (by omega) _ _ hK hP hD hS ls (lv_sub hl [0, 1, 2, 3, 4] rfl)
            · skip
              have f_c101 := i_eq c101
              refine lv_iload_n hx hb dX10_takesBracket_105 rfl (lv_at hl 2 rfl) ?_
              refine lv_bipush (v := 123) hx hb dX10_takesBracket_106 (by decide) ?_
              refine lv_icmp_ne (tgt := 115) hx hb dX10_takesBracket_108 (by decide) (fun c111 => ?_) (fun c111 => ?_)
              · skip
                have f_c111 := i_ne c111
                refine lv_iconst (v := 0) hx hb dX10_takesBracket_115 (by decide) ?_
                refine lv_istore (lv' := [(4, .int 0), (3, .int 41), (0, .ref h0), (1, .int p0), (2, .int p1)]) hx hb dX10_takesBracket_116 hl (by decide) rfl (fun ls hl => ?_)
                have loop_118 : ∀ (n : Nat) (hq9 : Int32) (ho : Int32), (ho.toInt = v_open.toInt + 1 ∧ 0 ≤ hq9.toInt ∧ hq9.toInt ≤ (n9 : Int)) → (∃ ax cx jx : Nat, ((((f_tape kk).toInt = 40 ∨ (f_tape kk).toInt = 123) ∧ ax = kk + 2) ∨ (((f_tape kk).toInt = 91 ∨ (f_tape kk).toInt = 60) ∧ ax = kk + 1)) ∧ hq9.toInt = (jx : Int) ∧ jx ≤ n9 ∧ Sq (It f_tape n9 m9) cx ax jx) → ((n9 : Int) - hq9.toInt) < (n : Int) → ∀ (H : Heap) (locs : List Loc), va_K (dC, dI) vwCl [(k_tape, .int)] s → va_P (dC, dI) vwCl [eO h0 9 [.ref q_s, .long v_fees, .ref q_thought, .long v_thoughtFees, .ref q_image, .long v_imageFees, .int v_hasImage, .ref q_tape, .int v_taped, .ref q_texts, .ref q_sizes, .int v_programs, .ref q_imageTexts, .ref q_imageSizes, .int v_imagePrograms, .int hq9, .int ho, .int v_running, .int v_begun, .ref q_held, .ref q_marks, .int v_markMany, .ref q_trace, .int v_traced, .ref q_keptBalances, .ref q_keptFees, .int v_deep, .ref q_way, .ref q_sorts, .ref q_rowMany, .ref q_items, .ref q_moved], eI q_tape k_tape 80 f_tape] H → va_D A [eO h0 9 [.ref q_s, .long v_fees, .ref q_thought, .long v_thoughtFees, .ref q_image, .long v_imageFees, .int v_hasImage, .ref q_tape, .int v_taped, .ref q_texts, .ref q_sizes, .int v_programs, .ref q_imageTexts, .ref q_imageSizes, .int v_imagePrograms, .int hq9, .int ho, .int v_running, .int v_begun, .ref q_held, .ref q_marks, .int v_markMany, .ref q_trace, .int v_traced, .ref q_keptBalances, .ref q_keptFees, .int v_deep, .ref q_way, .ref q_sorts, .ref q_rowMany, .ref q_items, .ref q_moved], eI q_tape k_tape 80 f_tape] → va_S A s.heap H locs → ∀ (ls : Array Slot), lv_has ls 5 [(4, .int 0), (3, .int 41), (0, .ref h0), (1, .int p0), (2, .int p1)] → W p l e ({ frames := 5 * nd + 9, cells := 0, slots := 0, locals := 200 * nd + 150 }) s m (([.ref h0, .int p0, .int p1] : List Value).toArray) below meth c H locs 0 0 Q9 (F0 m 118 ls []) := by
                  intro n
                  induction n with
                  | zero => intro hq9 ho j1 j2 hM_118; exfalso; omega
                  | succ n ih_118 =>
                    intro hq9 ho j1 j2 hM_118 H locs hK hP hD hS ls hl
                    obtain ⟨ax, cx, jx, hax, hjx, hjn, hsq⟩ := j2
                    refine lv_aload_n hx hb dX10_takesBracket_118 rfl (lv_at hl 2 rfl) ?_
                    obtain ⟨hPc, hDc, hFc, hCm, hNw⟩ := C_s (wc := [eO h0 9 [.ref q_s, .long v_fees, .ref q_thought, .long v_thoughtFees, .ref q_image, .long v_imageFees, .int v_hasImage, .ref q_tape, .int v_taped, .ref q_texts, .ref q_sizes, .int v_programs, .ref q_imageTexts, .ref q_imageSizes, .int v_imagePrograms, .int hq9, .int ho, .int v_running, .int v_begun, .ref q_held, .ref q_marks, .int v_markMany, .ref q_trace, .int v_traced, .ref q_keptBalances, .ref q_keptFees, .int v_deep, .ref q_way, .ref q_sorts, .ref q_rowMany, .ref q_items, .ref q_moved], eI q_tape k_tape 80 f_tape]) hP hD hS hA [(0, 2)] 2 rfl (by decide +kernel) rfl
                    have hKc := K_s (tys' := [(k_tape, .int)]) hK [(0, 1)] rfl
                    refine va_calli (va_runV (As := []) (rest := []) ⟨hx, hb, hml, hown, hts⟩ (c_X10_byteAt l dC dI h0 q_s v_fees q_thought v_thoughtFees q_image v_imageFees v_hasImage q_tape v_taped q_texts q_sizes v_programs q_imageTexts q_imageSizes v_imagePrograms hq9 ho v_running v_begun q_held q_marks v_markMany q_trace v_traced q_keptBalances q_keptFees v_deep q_way q_sorts q_rowMany q_items q_moved k_tape f_tape jx n9 H.size (by first | assumption | omega) htn hn80) (cwV 0 hts gX10_takesBracket_X10_byteAt rfl rfl rfl (by decide +kernel) ⟨(show (0) + 1 ≤ 5 * nd + 9 by omega), (show 8 + (1 + 11) + (0) ≤ 200 * nd + 150 by omega)⟩) ⟨fun a U g mk q => by obtain ⟨q0, q1, qP, qK, qD⟩ := q; exact ⟨q0, q1, qP, va_K.moved (u := U) (U := U.calling g mk a) (Vm.Alike.refl U.vm) qK, qD⟩, va_recv (s := s) (q := (RX10, TX10, 32)) hKc hPc (ci := 9) (q0 := 0) rfl rfl, fun U hU hW => ⟨rfl, by rw [hU], by rw [hU]; exact hPc, va_K.moved hW.alike hKc, hDc.weaken (fun _ _ _ _ => trivial)⟩⟩ rfl rfl hl.1 rfl (lv_room (Nat.le_of_ble_eq_true rfl)) dX10_takesBracket_119 ⟨Nat.le_of_ble_eq_true rfl, Nat.le_of_ble_eq_true rfl⟩) hS (fun q _ h => hFc q h) hFc (fun r112 u t H1 locs ht hvm hw hB hz1 hk1 hS => ?_)
                    obtain ⟨hP1, hK1, hD1⟩ := hB
                    rw [ht] at hP1
                    have hK1 := va_K.moved hvm.symm hK1
                    try dsimp only at hw
                    obtain ⟨hP, hD⟩ := J_s (wL := [eO h0 9 [.ref q_s, .long v_fees, .ref q_thought, .long v_thoughtFees, .ref q_image, .long v_imageFees, .int v_hasImage, .ref q_tape, .int v_taped, .ref q_texts, .ref q_sizes, .int v_programs, .ref q_imageTexts, .ref q_imageSizes, .int v_imagePrograms, .int hq9, .int ho, .int v_running, .int v_begun, .ref q_held, .ref q_marks, .int v_markMany, .ref q_trace, .int v_traced, .ref q_keptBalances, .ref q_keptFees, .int v_deep, .ref q_way, .ref q_sorts, .ref q_rowMany, .ref q_items, .ref q_moved], eI q_tape k_tape 80 f_tape]) hP hD [(0, 2)] [] hCm hNw (by decide +kernel) hk1 hFc hP1 hD1 rfl
                    have hK := KJ_s (tys' := [(k_tape, .int)]) hK hK1 [] rfl
                    generalize H1 = H at hP hS ⊢
                    have h_r112 := hw
                    refine lv_iload_n hx hb dX10_takesBracket_122 rfl (lv_at hl 1 rfl) ?_
                    refine lv_icmp_eq (tgt := 137) hx hb dX10_takesBracket_123 (by decide) (fun c113 => ?_) (fun c113 => ?_)
                    · skip
                      have f_c113 := i_eq c113
                      refine lv_aload_n hx hb dX10_takesBracket_137 rfl (lv_at hl 2 rfl) ?_
                      refine lv_dup hx hb dX10_takesBracket_138 rfl ?_
                      refine va_get (D := (dC, dI)) (ci := 9) (v := .int hq9) (C := RX10) (T := TX10) (N := 32) hx hb hts (fun w h => List.mem_cons_of_mem _ (inlX10 w h)) hown hK hP 0 rfl rfl 15 (by decide) (hts (.fieldLink RX10 124 "ClearingGatesModel" "here" "I") (List.mem_cons_of_mem _ mw_624)) (fun _ h9 => h9) rfl dX10_takesBracket_139 ?_
                      refine lv_iconst (v := 1) hx hb dX10_takesBracket_142 (by decide) ?_
                      refine lv_iadd hx hb dX10_takesBracket_143 ?_
                      refine lv_topi (fun z114 e_z114 => ?_)
                      (first | have t_z114 := i_add e_z114 (by omega) (by omega) | skip)
                      refine va_put (D := (dC, dI)) (ci := 9) (v := .int z114) (ty := .int) (C := RX10) (T := TX10) (N := 32) hx hb hts (fun w h => List.mem_cons_of_mem _ (inlX10 w h)) tyX10 tyX10_ok nmX10 hown hK hP hD hS 0 rfl rfl 15 (by decide) (hts (.fieldLink RX10 124 "ClearingGatesModel" "here" "I") (List.mem_cons_of_mem _ mw_624)) (fun _ h9 => h9) rfl (by decide +kernel) rfl rfl (Nat.le_of_ble_eq_true rfl) dX10_takesBracket_144 (fun H locs hP hD hS => ?_)
                      obtain ⟨hP, hD⟩ := X_s (ws' := [eO h0 9 [.ref q_s, .long v_fees, .ref q_thought, .long v_thoughtFees, .ref q_image, .long v_imageFees, .int v_hasImage, .ref q_tape, .int v_taped, .ref q_texts, .ref q_sizes, .int v_programs, .ref q_imageTexts, .ref q_imageSizes, .int v_imagePrograms, .int z114, .int ho, .int v_running, .int v_begun, .ref q_held, .ref q_marks, .int v_markMany, .ref q_trace, .int v_traced, .ref q_keptBalances, .ref q_keptFees, .int v_deep, .ref q_way, .ref q_sorts, .ref q_rowMany, .ref q_items, .ref q_moved], eI q_tape k_tape 80 f_tape]) hP hD rfl
                      refine lv_aload_n hx hb dX10_takesBracket_147 rfl (lv_at hl 2 rfl) ?_
                      refine lv_dup hx hb dX10_takesBracket_148 rfl ?_
                      refine va_get (D := (dC, dI)) (ci := 9) (v := .int ho) (C := RX10) (T := TX10) (N := 32) hx hb hts (fun w h => List.mem_cons_of_mem _ (inlX10 w h)) hown hK hP 0 rfl rfl 16 (by decide) (hts (.fieldLink RX10 131 "ClearingGatesModel" "open" "I") (List.mem_cons_of_mem _ mw_625)) (fun _ h9 => h9) rfl dX10_takesBracket_149 ?_
                      refine lv_iconst (v := 1) hx hb dX10_takesBracket_152 (by decide) ?_
                      refine lv_isub hx hb dX10_takesBracket_153 ?_
                      refine lv_topi (fun z115 e_z115 => ?_)
                      (first | have t_z115 := i_sub e_z115 (by omega) (by omega) | skip)
                      refine va_put (D := (dC, dI)) (ci := 9) (v := .int z115) (ty := .int) (C := RX10) (T := TX10) (N := 32) hx hb hts (fun w h => List.mem_cons_of_mem _ (inlX10 w h)) tyX10 tyX10_ok nmX10 hown hK hP hD hS 0 rfl rfl 16 (by decide) (hts (.fieldLink RX10 131 "ClearingGatesModel" "open" "I") (List.mem_cons_of_mem _ mw_625)) (fun _ h9 => h9) rfl (by decide +kernel) rfl rfl (Nat.le_of_ble_eq_true rfl) dX10_takesBracket_154 (fun H locs hP hD hS => ?_)
                      obtain ⟨hP, hD⟩ := X_s (ws' := [eO h0 9 [.ref q_s, .long v_fees, .ref q_thought, .long v_thoughtFees, .ref q_image, .long v_imageFees, .int v_hasImage, .ref q_tape, .int v_taped, .ref q_texts, .ref q_sizes, .int v_programs, .ref q_imageTexts, .ref q_imageSizes, .int v_imagePrograms, .int z114, .int z115, .int v_running, .int v_begun, .ref q_held, .ref q_marks, .int v_markMany, .ref q_trace, .int v_traced, .ref q_keptBalances, .ref q_keptFees, .int v_deep, .ref q_way, .ref q_sorts, .ref q_rowMany, .ref q_items, .ref q_moved], eI q_tape k_tape 80 f_tape]) hP hD rfl
                      refine lv_iconst (v := 1) hx hb dX10_takesBracket_157 (by decide) ?_
                      rw [hQ9]
                      exact W.zret (v := 1) hx hb hr (by decide) (fun t ht hW => ⟨⟨1, (z114, z115), rfl, Or.inl ⟨rfl, by omega, jx + 1, by omega, it_br hm9 hax hsq (by omega) (by omega)⟩, by rw [ht]; exact hP, va_K.moved hW.alike hK, hD⟩, hS.F ht⟩) hS.2.2 dX10_takesBracket_158
                    · skip
                      have f_c113 := i_ne c113
                      refine lv_aload_n hx hb dX10_takesBracket_126 rfl (lv_at hl 2 rfl) ?_
                      refine lv_iload hx hb dX10_takesBracket_127 (lv_at hl 0 rfl) ?_
                      obtain ⟨hPc, hDc, hFc, hCm, hNw⟩ := C_s (wc := [eO h0 9 [.ref q_s, .long v_fees, .ref q_thought, .long v_thoughtFees, .ref q_image, .long v_imageFees, .int v_hasImage, .ref q_tape, .int v_taped, .ref q_texts, .ref q_sizes, .int v_programs, .ref q_imageTexts, .ref q_imageSizes, .int v_imagePrograms, .int hq9, .int ho, .int v_running, .int v_begun, .ref q_held, .ref q_marks, .int v_markMany, .ref q_trace, .int v_traced, .ref q_keptBalances, .ref q_keptFees, .int v_deep, .ref q_way, .ref q_sorts, .ref q_rowMany, .ref q_items, .ref q_moved], eI q_tape k_tape 80 f_tape]) hP hD hS hA [(0, 2)] 2 rfl (by decide +kernel) rfl
                      have hKc := K_s (tys' := [(k_tape, .int)]) hK [(0, 1)] rfl
                      refine va_calli (va_runV (As := [.int 0]) (rest := []) ⟨hx, hb, hml, hown, hts⟩ (ih_m h0 0 q_s v_fees q_thought v_thoughtFees q_image v_imageFees v_hasImage q_tape v_taped q_texts q_sizes v_programs q_imageTexts q_imageSizes v_imagePrograms hq9 ho v_running v_begun q_held q_marks v_markMany q_trace v_traced q_keptBalances q_keptFees v_deep q_way q_sorts q_rowMany q_items q_moved k_tape f_tape jx n9 H.size (by first | assumption | omega) htn hn80 (by first | assumption | omega) (by first | assumption | omega) (by first | assumption | omega)) (cwV 1 hts gX10_takesBracket_X10_takesItem rfl rfl rfl (by decide +kernel) ⟨(show (5 * m9 + 10) + 1 ≤ 5 * nd + 9 by omega), (show 8 + (3 + 11) + (200 * m9 + 200) ≤ 200 * nd + 150 by omega)⟩) ⟨fun a U g mk q => by obtain ⟨q0, q1, qP, qK, qD⟩ := q; exact ⟨q0, q1, qP, va_K.moved (u := U) (U := U.calling g mk a) (Vm.Alike.refl U.vm) qK, qD⟩, va_recv (s := s) (q := (RX10, TX10, 32)) hKc hPc (ci := 9) (q0 := 0) rfl rfl, fun U hU hW => ⟨rfl, by rw [hU], by rw [hU]; exact hPc, va_K.moved hW.alike hKc, hDc.weaken (fun _ _ _ _ => trivial)⟩⟩ rfl rfl hl.1 rfl (lv_room (Nat.le_of_ble_eq_true rfl)) dX10_takesBracket_129 ⟨Nat.le_of_ble_eq_true rfl, Nat.le_of_ble_eq_true rfl⟩) hS (fun q _ h => hFc q h) hFc (fun r116 u t H1 locs ht hvm hw hB hz1 hk1 hS => ?_)
                      obtain ⟨u117, u118⟩ := u
                      obtain ⟨hP1, hK1, hD1⟩ := hB
                      rw [ht] at hP1
                      have hK1 := va_K.moved hvm.symm hK1
                      try dsimp only at hw
                      obtain ⟨hP, hD⟩ := J_s (wL := [eO h0 9 [.ref q_s, .long v_fees, .ref q_thought, .long v_thoughtFees, .ref q_image, .long v_imageFees, .int v_hasImage, .ref q_tape, .int v_taped, .ref q_texts, .ref q_sizes, .int v_programs, .ref q_imageTexts, .ref q_imageSizes, .int v_imagePrograms, .int u117, .int u118, .int v_running, .int v_begun, .ref q_held, .ref q_marks, .int v_markMany, .ref q_trace, .int v_traced, .ref q_keptBalances, .ref q_keptFees, .int v_deep, .ref q_way, .ref q_sorts, .ref q_rowMany, .ref q_items, .ref q_moved], eI q_tape k_tape 80 f_tape]) hP hD [(0, 2)] [] hCm hNw (by decide +kernel) hk1 hFc hP1 hD1 rfl
                      have hK := KJ_s (tys' := [(k_tape, .int)]) hK hK1 [] rfl
                      generalize H1 = H at hP hS ⊢
                      rcases hw with ⟨e_r116, f_r116⟩ | ⟨e_r116, f_r116⟩
                      · subst e_r116
                        obtain ⟨hoq, e9, he9, hit9⟩ := f_r116
                        have hl9 := it_lt _ _ _ hit9
                        refine lv_if_ne (tgt := 118) hx hb dX10_takesBracket_132 (by decide) (fun c119 => ?_) (fun c119 => absurd c119 (by decide))
                        exact ih_118 u117 u118 (by omega) ⟨ax, cx + 1, e9, hax, by omega, by omega, sq_snoc cx ax jx e9 hsq hit9⟩ (by omega) _ _ (K_s hK [(0, 1)] rfl) (P_s hP [(0, 2)] rfl) (D_s hD [(0, 2)] 2 rfl (by decide +kernel) rfl) hS ls (lv_sub hl [0, 1, 2, 3, 4] rfl)
                      · subst e_r116
                        refine lv_if_ne (tgt := 118) hx hb dX10_takesBracket_132 (by decide) (fun c120 => absurd (by decide) c120) (fun c120 => ?_)
                        refine lv_iconst (v := 0) hx hb dX10_takesBracket_135 (by decide) ?_
                        rw [hQ9]
                        exact W.zret (v := 0) hx hb hr (by decide) (fun t ht hW => ⟨⟨0, (u117, u118), rfl, Or.inr ⟨rfl, by omega⟩, by rw [ht]; exact hP, va_K.moved hW.alike hK, hD⟩, hS.F ht⟩) hS.2.2 dX10_takesBracket_136
                exact loop_118 (1000) u97 z2 (by omega) ⟨u97.toInt.toNat, 0, u97.toInt.toNat, by omega, by omega, by omega, rfl⟩ (by omega) _ _ hK hP hD hS ls (lv_sub hl [0, 1, 2, 3, 4] rfl)
              · skip
                have f_c111 := i_eq c111
                exfalso; omega
        · skip
          have f_c99 := i_eq c99
          exfalso; omega
      · subst e_r96
        refine lv_if_eq (tgt := 63) hx hb dX10_takesBracket_44 (by decide) (fun c121 => ?_) (fun c121 => absurd (by decide) c121)
        refine lv_iconst (v := 0) hx hb dX10_takesBracket_63 (by decide) ?_
        rw [hQ9]
        exact W.zret (v := 0) hx hb hr (by decide) (fun t ht hW => ⟨⟨0, (u97, z2), rfl, Or.inr ⟨rfl, by omega⟩, by rw [ht]; exact hP, va_K.moved hW.alike hK, hD⟩, hS.F ht⟩) hS.2.2 dX10_takesBracket_64
  · skip
    have f_c1 := i_eq c1
    refine lv_iconst (v := 0) hx hb dX10_takesBracket_9 (by decide) ?_
    rw [hQ9]
    exact W.zret (v := 0) hx hb hr (by decide) (fun t ht hW => ⟨⟨0, (v_here, v_open), rfl, Or.inr ⟨rfl, by omega⟩, by rw [ht]; exact hP, va_K.moved hW.alike hK, hD⟩, hS.F ht⟩) hS.2.2 dX10_takesBracket_10

set_option maxRecDepth 100000 in
set_option maxHeartbeats 4000000 in
/-- takesItem of the reference -/
theorem c_X10_takesItem (l : Launch) (dC : Nat → ClassId) (dI : Nat → Nat → Nat) (h0 : Nat) (p0 : Int32) (q_s : Nat) (v_fees : Int64) (q_thought : Nat) (v_thoughtFees : Int64) (q_image : Nat) (v_imageFees : Int64) (v_hasImage : Int32) (q_tape : Nat) (v_taped : Int32) (q_texts : Nat) (q_sizes : Nat) (v_programs : Int32) (q_imageTexts : Nat) (q_imageSizes : Nat) (v_imagePrograms : Int32) (v_here : Int32) (v_open : Int32) (v_running : Int32) (v_begun : Int32) (q_held : Nat) (q_marks : Nat) (v_markMany : Int32) (q_trace : Nat) (v_traced : Int32) (q_keptBalances : Nat) (q_keptFees : Nat) (v_deep : Int32) (q_way : Nat) (q_sorts : Nat) (q_rowMany : Nat) (q_items : Nat) (q_moved : Nat) (k_tape : ClassId) (f_tape : Nat → Int32) (kk : Nat) (n9 : Nat) (nd : Nat) (sz : Nat) (hh : v_here.toInt = (kk : Int)) (htn : v_taped.toInt = (n9 : Int)) (hn80 : n9 ≤ 80) (hkk : kk ≤ n9) (hop1 : 0 ≤ v_open.toInt) (hop : v_open.toInt + (nd : Int) = 8) (iht : ∀ m : Nat, m + 1 = nd → KT l dC dI m) : Met l yX10_takesItem wsX10_takesItem ({ frames := 5 * nd + 10, cells := 0, slots := 0, locals := 200 * nd + 200 }) (va_Pc [.ref h0, .int p0] (fun U => U.heap.size = sz ∧ va_P (dC, dI) vwCl [eO h0 9 [.ref q_s, .long v_fees, .ref q_thought, .long v_thoughtFees, .ref q_image, .long v_imageFees, .int v_hasImage, .ref q_tape, .int v_taped, .ref q_texts, .ref q_sizes, .int v_programs, .ref q_imageTexts, .ref q_imageSizes, .int v_imagePrograms, .int v_here, .int v_open, .int v_running, .int v_begun, .ref q_held, .ref q_marks, .int v_markMany, .ref q_trace, .int v_traced, .ref q_keptBalances, .ref q_keptFees, .int v_deep, .ref q_way, .ref q_sorts, .ref q_rowMany, .ref q_items, .ref q_moved], eI q_tape k_tape 80 f_tape] U.heap ∧ va_K (dC, dI) vwCl [(k_tape, .int)] U ∧ va_D (fun _ => True) [eO h0 9 [.ref q_s, .long v_fees, .ref q_thought, .long v_thoughtFees, .ref q_image, .long v_imageFees, .int v_hasImage, .ref q_tape, .int v_taped, .ref q_texts, .ref q_sizes, .int v_programs, .ref q_imageTexts, .ref q_imageSizes, .int v_imagePrograms, .int v_here, .int v_open, .int v_running, .int v_begun, .ref q_held, .ref q_marks, .int v_markMany, .ref q_trace, .int v_traced, .ref q_keptBalances, .ref q_keptFees, .int v_deep, .ref q_way, .ref q_sorts, .ref q_rowMany, .ref q_items, .ref q_moved], eI q_tape k_tape 80 f_tape])) (va_Qi (fun (r : Int32) (u : Int32 × Int32) => match u with | (v_here2, v_open2) => (r = 1 ∧ v_open2.toInt = v_open.toInt ∧ ∃ e : Nat, v_here2.toInt = (e : Int) ∧ It f_tape n9 nd kk e) ∨ (r = 0 ∧ (0 : Int) ≤ 0)) (fun (u : Int32 × Int32) (t : State) => match u with | (v_here2, v_open2) => va_P (dC, dI) vwCl [eO h0 9 [.ref q_s, .long v_fees, .ref q_thought, .long v_thoughtFees, .ref q_image, .long v_imageFees, .int v_hasImage, .ref q_tape, .int v_taped, .ref q_texts, .ref q_sizes, .int v_programs, .ref q_imageTexts, .ref q_imageSizes, .int v_imagePrograms, .int v_here2, .int v_open2, .int v_running, .int v_begun, .ref q_held, .ref q_marks, .int v_markMany, .ref q_trace, .int v_traced, .ref q_keptBalances, .ref q_keptFees, .int v_deep, .ref q_way, .ref q_sorts, .ref q_rowMany, .ref q_items, .ref q_moved], eI q_tape k_tape 80 f_tape] t.heap ∧ va_K (dC, dI) vwCl [(k_tape, .int)] t ∧ va_D (va_A [eO h0 9 [.ref q_s, .long v_fees, .ref q_thought, .long v_thoughtFees, .ref q_image, .long v_imageFees, .int v_hasImage, .ref q_tape, .int v_taped, .ref q_texts, .ref q_sizes, .int v_programs, .ref q_imageTexts, .ref q_imageSizes, .int v_imagePrograms, .int v_here, .int v_open, .int v_running, .int v_begun, .ref q_held, .ref q_marks, .int v_markMany, .ref q_trace, .int v_traced, .ref q_keptBalances, .ref q_keptFees, .int v_deep, .ref q_way, .ref q_sorts, .ref q_rowMany, .ref q_items, .ref q_moved], eI q_tape k_tape 80 f_tape] sz) [eO h0 9 [.ref q_s, .long v_fees, .ref q_thought, .long v_thoughtFees, .ref q_image, .long v_imageFees, .int v_hasImage, .ref q_tape, .int v_taped, .ref q_texts, .ref q_sizes, .int v_programs, .ref q_imageTexts, .ref q_imageSizes, .int v_imagePrograms, .int v_here2, .int v_open2, .int v_running, .int v_begun, .ref q_held, .ref q_marks, .int v_markMany, .ref q_trace, .int v_traced, .ref q_keptBalances, .ref q_keptFees, .int v_deep, .ref q_way, .ref q_sorts, .ref q_rowMany, .ref q_items, .ref q_moved], eI q_tape k_tape 80 f_tape]) (va_A [eO h0 9 [.ref q_s, .long v_fees, .ref q_thought, .long v_thoughtFees, .ref q_image, .long v_imageFees, .int v_hasImage, .ref q_tape, .int v_taped, .ref q_texts, .ref q_sizes, .int v_programs, .ref q_imageTexts, .ref q_imageSizes, .int v_imagePrograms, .int v_here, .int v_open, .int v_running, .int v_begun, .ref q_held, .ref q_marks, .int v_markMany, .ref q_trace, .int v_traced, .ref q_keptBalances, .ref q_keptFees, .int v_deep, .ref q_way, .ref q_sorts, .ref q_rowMany, .ref q_items, .ref q_moved], eI q_tape k_tape 80 f_tape] sz)) 0 0 (va_A [eO h0 9 [.ref q_s, .long v_fees, .ref q_thought, .long v_thoughtFees, .ref q_image, .long v_imageFees, .int v_hasImage, .ref q_tape, .int v_taped, .ref q_texts, .ref q_sizes, .int v_programs, .ref q_imageTexts, .ref q_imageSizes, .int v_imagePrograms, .int v_here, .int v_open, .int v_running, .int v_begun, .ref q_held, .ref q_marks, .int v_markMany, .ref q_trace, .int v_traced, .ref q_keptBalances, .ref q_keptFees, .int v_deep, .ref q_way, .ref q_sorts, .ref q_rowMany, .ref q_items, .ref q_moved], eI q_tape k_tape 80 f_tape] sz) := by
  refine Met.ofW (cc := cX10_takesItem) (maxL := 3) (ret := (some .boolean)) (by decide) rfl ?_
  intro p e s m args below meth c s₁ B hml hv
  obtain ⟨rfl, hsz, hP, hK, hD0⟩ := hv
  have hx := B.exec
  have hb := B.bytes
  have hr := B.returns
  have hts := atoms_spec (ws := wsX10_takesItem) B.pre
  have hown : s.vm.findClass RX10 = some m.cls := findClass_of_methodNamed B.named
  have hlocks := B.notSynchronized
  subst hsz
  have hD := hD0.self (sz := s.heap.size)
  generalize hAe : va_A [eO h0 9 [.ref q_s, .long v_fees, .ref q_thought, .long v_thoughtFees, .ref q_image, .long v_imageFees, .int v_hasImage, .ref q_tape, .int v_taped, .ref q_texts, .ref q_sizes, .int v_programs, .ref q_imageTexts, .ref q_imageSizes, .int v_imagePrograms, .int v_here, .int v_open, .int v_running, .int v_begun, .ref q_held, .ref q_marks, .int v_markMany, .ref q_trace, .int v_traced, .ref q_keptBalances, .ref q_keptFees, .int v_deep, .ref q_way, .ref q_sorts, .ref q_rowMany, .ref q_items, .ref q_moved], eI q_tape k_tape 80 f_tape] s.heap.size = A at hD ⊢
  have hA : ∀ q : Nat, s.heap.size ≤ q → A q := fun q h => by rw [← hAe]; exact Or.inr h
  have hS : va_S A s.heap s.heap [] := va_S.rf
  have hP : va_P (dC, dI) vwCl [eO h0 9 [.ref q_s, .long v_fees, .ref q_thought, .long v_thoughtFees, .ref q_image, .long v_imageFees, .int v_hasImage, .ref q_tape, .int v_taped, .ref q_texts, .ref q_sizes, .int v_programs, .ref q_imageTexts, .ref q_imageSizes, .int v_imagePrograms, .int v_here, .int v_open, .int v_running, .int v_begun, .ref q_held, .ref q_marks, .int v_markMany, .ref q_trace, .int v_traced, .ref q_keptBalances, .ref q_keptFees, .int v_deep, .ref q_way, .ref q_sorts, .ref q_rowMany, .ref q_items, .ref q_moved], eI q_tape k_tape 80 f_tape] s.heap := hP
  have hl := lv_entry ([.ref h0, .int p0]) (n := 3) (Nat.le_of_ble_eq_true rfl)
  rw [lg_entry_eq]
  generalize (lg_sl ([.ref h0, .int p0]) ++ List.replicate (3 - (lg_sl ([.ref h0, .int p0])).length) Slot.unset).toArray = ls at hl ⊢
  have hl : lv_has ls 3 [(0, .ref h0), (1, .int p0)] := hl
  suffices key9 : ∀ Q9 : State → Prop, Q9 = (MQ below (va_Qi (fun (r : Int32) (u : Int32 × Int32) => match u with | (v_here2, v_open2) => (r = 1 ∧ v_open2.toInt = v_open.toInt ∧ ∃ e : Nat, v_here2.toInt = (e : Int) ∧ It f_tape n9 nd kk e) ∨ (r = 0 ∧ (0 : Int) ≤ 0)) (fun (u : Int32 × Int32) (t : State) => match u with | (v_here2, v_open2) => va_P (dC, dI) vwCl [eO h0 9 [.ref q_s, .long v_fees, .ref q_thought, .long v_thoughtFees, .ref q_image, .long v_imageFees, .int v_hasImage, .ref q_tape, .int v_taped, .ref q_texts, .ref q_sizes, .int v_programs, .ref q_imageTexts, .ref q_imageSizes, .int v_imagePrograms, .int v_here2, .int v_open2, .int v_running, .int v_begun, .ref q_held, .ref q_marks, .int v_markMany, .ref q_trace, .int v_traced, .ref q_keptBalances, .ref q_keptFees, .int v_deep, .ref q_way, .ref q_sorts, .ref q_rowMany, .ref q_items, .ref q_moved], eI q_tape k_tape 80 f_tape] t.heap ∧ va_K (dC, dI) vwCl [(k_tape, .int)] t ∧ va_D A [eO h0 9 [.ref q_s, .long v_fees, .ref q_thought, .long v_thoughtFees, .ref q_image, .long v_imageFees, .int v_hasImage, .ref q_tape, .int v_taped, .ref q_texts, .ref q_sizes, .int v_programs, .ref q_imageTexts, .ref q_imageSizes, .int v_imagePrograms, .int v_here2, .int v_open2, .int v_running, .int v_begun, .ref q_held, .ref q_marks, .int v_markMany, .ref q_trace, .int v_traced, .ref q_keptBalances, .ref q_keptFees, .int v_deep, .ref q_way, .ref q_sorts, .ref q_rowMany, .ref q_items, .ref q_moved], eI q_tape k_tape 80 f_tape]) A) (([.ref h0, .int p0] : List Value).toArray) s 0 0 A) → W p l e ({ frames := 5 * nd + 10, cells := 0, slots := 0, locals := 200 * nd + 200 }) s m (([.ref h0, .int p0] : List Value).toArray) below meth c s.heap [] 0 0 Q9 (F0 m 0 ls []) from key9 _ rfl
  intro Q9 hQ9
  have k_0 : (0 : Int32).toInt = 0 := by decide
  have k_1 : (1 : Int32).toInt = 1 := by decide
  have k_7 : (7 : Int32).toInt = 7 := by decide
  have k_40 : (40 : Int32).toInt = 40 := by decide
  have k_60 : (60 : Int32).toInt = 60 := by decide
  have k_91 : (91 : Int32).toInt = 91 := by decide
  have k_97 : (97 : Int32).toInt = 97 := by decide
  have k_98 : (98 : Int32).toInt = 98 := by decide
  have k_99 : (99 : Int32).toInt = 99 := by decide
  have k_110 : (110 : Int32).toInt = 110 := by decide
  have k_112 : (112 : Int32).toInt = 112 := by decide
  have k_120 : (120 : Int32).toInt = 120 := by decide
  have k_123 : (123 : Int32).toInt = 123 := by decide
  refine lv_aload_n hx hb dX10_takesItem_0 rfl (lv_at hl 0 rfl) ?_
  obtain ⟨hPc, hDc, hFc, hCm, hNw⟩ := C_s (wc := [eO h0 9 [.ref q_s, .long v_fees, .ref q_thought, .long v_thoughtFees, .ref q_image, .long v_imageFees, .int v_hasImage, .ref q_tape, .int v_taped, .ref q_texts, .ref q_sizes, .int v_programs, .ref q_imageTexts, .ref q_imageSizes, .int v_imagePrograms, .int v_here, .int v_open, .int v_running, .int v_begun, .ref q_held, .ref q_marks, .int v_markMany, .ref q_trace, .int v_traced, .ref q_keptBalances, .ref q_keptFees, .int v_deep, .ref q_way, .ref q_sorts, .ref q_rowMany, .ref q_items, .ref q_moved], eI q_tape k_tape 80 f_tape]) hP hD hS hA [(0, 2)] 2 rfl (by decide +kernel) rfl
  have hKc := K_s (tys' := [(k_tape, .int)]) hK [(0, 1)] rfl
  refine va_calli (va_runV (As := []) (rest := []) ⟨hx, hb, hml, hown, hts⟩ (c_X10_byteAt l dC dI h0 q_s v_fees q_thought v_thoughtFees q_image v_imageFees v_hasImage q_tape v_taped q_texts q_sizes v_programs q_imageTexts q_imageSizes v_imagePrograms v_here v_open v_running v_begun q_held q_marks v_markMany q_trace v_traced q_keptBalances q_keptFees v_deep q_way q_sorts q_rowMany q_items q_moved k_tape f_tape kk n9 s.heap.size hh htn hn80) (cwV 0 hts gX10_takesItem_X10_byteAt rfl rfl rfl (by decide +kernel) ⟨(show (0) + 1 ≤ 5 * nd + 10 by omega), (show 8 + (1 + 11) + (0) ≤ 200 * nd + 200 by omega)⟩) ⟨fun a U g mk q => by obtain ⟨q0, q1, qP, qK, qD⟩ := q; exact ⟨q0, q1, qP, va_K.moved (u := U) (U := U.calling g mk a) (Vm.Alike.refl U.vm) qK, qD⟩, va_recv (s := s) (q := (RX10, TX10, 32)) hKc hPc (ci := 9) (q0 := 0) rfl rfl, fun U hU hW => ⟨rfl, by rw [hU], by rw [hU]; exact hPc, va_K.moved hW.alike hKc, hDc.weaken (fun _ _ _ _ => trivial)⟩⟩ rfl rfl hl.1 rfl (lv_room (Nat.le_of_ble_eq_true rfl)) dX10_takesItem_1 ⟨Nat.le_of_ble_eq_true rfl, Nat.le_of_ble_eq_true rfl⟩) hS (fun q _ h => hFc q h) hFc (fun r1 u t H1 locs ht hvm hw hB hz1 hk1 hS => ?_)
  obtain ⟨hP1, hK1, hD1⟩ := hB
  rw [ht] at hP1
  have hK1 := va_K.moved hvm.symm hK1
  try dsimp only at hw
  obtain ⟨hP, hD⟩ := J_s (wL := [eO h0 9 [.ref q_s, .long v_fees, .ref q_thought, .long v_thoughtFees, .ref q_image, .long v_imageFees, .int v_hasImage, .ref q_tape, .int v_taped, .ref q_texts, .ref q_sizes, .int v_programs, .ref q_imageTexts, .ref q_imageSizes, .int v_imagePrograms, .int v_here, .int v_open, .int v_running, .int v_begun, .ref q_held, .ref q_marks, .int v_markMany, .ref q_trace, .int v_traced, .ref q_keptBalances, .ref q_keptFees, .int v_deep, .ref q_way, .ref q_sorts, .ref q_rowMany, .ref q_items, .ref q_moved], eI q_tape k_tape 80 f_tape]) hP hD [(0, 2)] [] hCm hNw (by decide +kernel) hk1 hFc hP1 hD1 rfl
  have hK := KJ_s (tys' := [(k_tape, .int)]) hK hK1 [] rfl
  generalize H1 = H at hP hS ⊢
  have h_r1 := hw
  refine lv_istore_n (lv' := [(2, .int r1), (0, .ref h0), (1, .int p0)]) hx hb dX10_takesItem_4 rfl hl (by decide) rfl (fun ls hl => ?_)
  refine lv_iload_n hx hb dX10_takesItem_5 rfl (lv_at hl 0 rfl) ?_
  refine lv_bipush (v := 40) hx hb dX10_takesItem_6 (by decide) ?_
  refine lv_icmp_eq (tgt := 29) hx hb dX10_takesItem_8 (by decide) (fun c2 => ?_) (fun c2 => ?_)
  · skip
    have f_c2 := i_eq c2
    refine lv_aload_n hx hb dX10_takesItem_29 rfl (lv_at hl 1 rfl) ?_
    refine lv_iload_n hx hb dX10_takesItem_30 rfl (lv_at hl 0 rfl) ?_
    refine lv_iload_n hx hb dX10_takesItem_31 rfl (lv_at hl 2 rfl) ?_
    obtain ⟨hPc, hDc, hFc, hCm, hNw⟩ := C_s (wc := [eO h0 9 [.ref q_s, .long v_fees, .ref q_thought, .long v_thoughtFees, .ref q_image, .long v_imageFees, .int v_hasImage, .ref q_tape, .int v_taped, .ref q_texts, .ref q_sizes, .int v_programs, .ref q_imageTexts, .ref q_imageSizes, .int v_imagePrograms, .int v_here, .int v_open, .int v_running, .int v_begun, .ref q_held, .ref q_marks, .int v_markMany, .ref q_trace, .int v_traced, .ref q_keptBalances, .ref q_keptFees, .int v_deep, .ref q_way, .ref q_sorts, .ref q_rowMany, .ref q_items, .ref q_moved], eI q_tape k_tape 80 f_tape]) hP hD hS hA [(0, 2)] 2 rfl (by decide +kernel) rfl
    have hKc := K_s (tys' := [(k_tape, .int)]) hK [(0, 1)] rfl
    refine va_calli (va_runV (As := [.int r1, .int p0]) (rest := []) ⟨hx, hb, hml, hown, hts⟩ (c_X10_takesBracket l dC dI h0 r1 p0 q_s v_fees q_thought v_thoughtFees q_image v_imageFees v_hasImage q_tape v_taped q_texts q_sizes v_programs q_imageTexts q_imageSizes v_imagePrograms v_here v_open v_running v_begun q_held q_marks v_markMany q_trace v_traced q_keptBalances q_keptFees v_deep q_way q_sorts q_rowMany q_items q_moved k_tape f_tape kk n9 nd H.size hh htn hn80 hkk hop1 hop (by first | assumption | omega) (by first | assumption | omega) (by first | assumption | omega) iht) (cwV 2 hts gX10_takesItem_X10_takesBracket rfl rfl rfl (by decide +kernel) ⟨(show (5 * nd + 9) + 1 ≤ 5 * nd + 10 by omega), (show 8 + (5 + 11) + (200 * nd + 150) ≤ 200 * nd + 200 by omega)⟩) ⟨fun a U g mk q => by obtain ⟨q0, q1, qP, qK, qD⟩ := q; exact ⟨q0, q1, qP, va_K.moved (u := U) (U := U.calling g mk a) (Vm.Alike.refl U.vm) qK, qD⟩, va_recv (s := s) (q := (RX10, TX10, 32)) hKc hPc (ci := 9) (q0 := 0) rfl rfl, fun U hU hW => ⟨rfl, by rw [hU], by rw [hU]; exact hPc, va_K.moved hW.alike hKc, hDc.weaken (fun _ _ _ _ => trivial)⟩⟩ rfl rfl hl.1 rfl (lv_room (Nat.le_of_ble_eq_true rfl)) dX10_takesItem_32 ⟨Nat.le_of_ble_eq_true rfl, Nat.le_of_ble_eq_true rfl⟩) hS (fun q _ h => hFc q h) hFc (fun r3 u t H1 locs ht hvm hw hB hz1 hk1 hS => ?_)
    obtain ⟨u4, u5⟩ := u
    obtain ⟨hP1, hK1, hD1⟩ := hB
    rw [ht] at hP1
    have hK1 := va_K.moved hvm.symm hK1
    try dsimp only at hw
    obtain ⟨hP, hD⟩ := J_s (wL := [eO h0 9 [.ref q_s, .long v_fees, .ref q_thought, .long v_thoughtFees, .ref q_image, .long v_imageFees, .int v_hasImage, .ref q_tape, .int v_taped, .ref q_texts, .ref q_sizes, .int v_programs, .ref q_imageTexts, .ref q_imageSizes, .int v_imagePrograms, .int u4, .int u5, .int v_running, .int v_begun, .ref q_held, .ref q_marks, .int v_markMany, .ref q_trace, .int v_traced, .ref q_keptBalances, .ref q_keptFees, .int v_deep, .ref q_way, .ref q_sorts, .ref q_rowMany, .ref q_items, .ref q_moved], eI q_tape k_tape 80 f_tape]) hP hD [(0, 2)] [] hCm hNw (by decide +kernel) hk1 hFc hP1 hD1 rfl
    have hK := KJ_s (tys' := [(k_tape, .int)]) hK hK1 [] rfl
    generalize H1 = H at hP hS ⊢
    rcases hw with ⟨e_r3, f_r3⟩ | ⟨e_r3, f_r3⟩
    · subst e_r3
      rw [hQ9]
      exact W.zret (v := 1) hx hb hr (by decide) (fun t ht hW => ⟨⟨1, (u4, u5), rfl, Or.inl ⟨rfl, f_r3⟩, by rw [ht]; exact hP, va_K.moved hW.alike hK, hD⟩, hS.F ht⟩) hS.2.2 dX10_takesItem_35
    · subst e_r3
      rw [hQ9]
      exact W.zret (v := 0) hx hb hr (by decide) (fun t ht hW => ⟨⟨0, (u4, u5), rfl, Or.inr ⟨rfl, by omega⟩, by rw [ht]; exact hP, va_K.moved hW.alike hK, hD⟩, hS.F ht⟩) hS.2.2 dX10_takesItem_35
  · skip
    have f_c2 := i_ne c2
    refine lv_iload_n hx hb dX10_takesItem_11 rfl (lv_at hl 0 rfl) ?_
    refine lv_bipush (v := 91) hx hb dX10_takesItem_12 (by decide) ?_
    refine lv_icmp_eq (tgt := 29) hx hb dX10_takesItem_14 (by decide) (fun c6 => ?_) (fun c6 => ?_)
    · skip
      have f_c6 := i_eq c6
      refine lv_aload_n hx hb dX10_takesItem_29 rfl (lv_at hl 1 rfl) ?_
      refine lv_iload_n hx hb dX10_takesItem_30 rfl (lv_at hl 0 rfl) ?_
      refine lv_iload_n hx hb dX10_takesItem_31 rfl (lv_at hl 2 rfl) ?_
      obtain ⟨hPc, hDc, hFc, hCm, hNw⟩ := C_s (wc := [eO h0 9 [.ref q_s, .long v_fees, .ref q_thought, .long v_thoughtFees, .ref q_image, .long v_imageFees, .int v_hasImage, .ref q_tape, .int v_taped, .ref q_texts, .ref q_sizes, .int v_programs, .ref q_imageTexts, .ref q_imageSizes, .int v_imagePrograms, .int v_here, .int v_open, .int v_running, .int v_begun, .ref q_held, .ref q_marks, .int v_markMany, .ref q_trace, .int v_traced, .ref q_keptBalances, .ref q_keptFees, .int v_deep, .ref q_way, .ref q_sorts, .ref q_rowMany, .ref q_items, .ref q_moved], eI q_tape k_tape 80 f_tape]) hP hD hS hA [(0, 2)] 2 rfl (by decide +kernel) rfl
      have hKc := K_s (tys' := [(k_tape, .int)]) hK [(0, 1)] rfl
      refine va_calli (va_runV (As := [.int r1, .int p0]) (rest := []) ⟨hx, hb, hml, hown, hts⟩ (c_X10_takesBracket l dC dI h0 r1 p0 q_s v_fees q_thought v_thoughtFees q_image v_imageFees v_hasImage q_tape v_taped q_texts q_sizes v_programs q_imageTexts q_imageSizes v_imagePrograms v_here v_open v_running v_begun q_held q_marks v_markMany q_trace v_traced q_keptBalances q_keptFees v_deep q_way q_sorts q_rowMany q_items q_moved k_tape f_tape kk n9 nd H.size hh htn hn80 hkk hop1 hop (by first | assumption | omega) (by first | assumption | omega) (by first | assumption | omega) iht) (cwV 2 hts gX10_takesItem_X10_takesBracket rfl rfl rfl (by decide +kernel) ⟨(show (5 * nd + 9) + 1 ≤ 5 * nd + 10 by omega), (show 8 + (5 + 11) + (200 * nd + 150) ≤ 200 * nd + 200 by omega)⟩) ⟨fun a U g mk q => by obtain ⟨q0, q1, qP, qK, qD⟩ := q; exact ⟨q0, q1, qP, va_K.moved (u := U) (U := U.calling g mk a) (Vm.Alike.refl U.vm) qK, qD⟩, va_recv (s := s) (q := (RX10, TX10, 32)) hKc hPc (ci := 9) (q0 := 0) rfl rfl, fun U hU hW => ⟨rfl, by rw [hU], by rw [hU]; exact hPc, va_K.moved hW.alike hKc, hDc.weaken (fun _ _ _ _ => trivial)⟩⟩ rfl rfl hl.1 rfl (lv_room (Nat.le_of_ble_eq_true rfl)) dX10_takesItem_32 ⟨Nat.le_of_ble_eq_true rfl, Nat.le_of_ble_eq_true rfl⟩) hS (fun q _ h => hFc q h) hFc (fun r7 u t H1 locs ht hvm hw hB hz1 hk1 hS => ?_)
      obtain ⟨u8, u9⟩ := u
      obtain ⟨hP1, hK1, hD1⟩ := hB
      rw [ht] at hP1
      have hK1 := va_K.moved hvm.symm hK1
      try dsimp only at hw
      obtain ⟨hP, hD⟩ := J_s (wL := [eO h0 9 [.ref q_s, .long v_fees, .ref q_thought, .long v_thoughtFees, .ref q_image, .long v_imageFees, .int v_hasImage, .ref q_tape, .int v_taped, .ref q_texts, .ref q_sizes, .int v_programs, .ref q_imageTexts, .ref q_imageSizes, .int v_imagePrograms, .int u8, .int u9, .int v_running, .int v_begun, .ref q_held, .ref q_marks, .int v_markMany, .ref q_trace, .int v_traced, .ref q_keptBalances, .ref q_keptFees, .int v_deep, .ref q_way, .ref q_sorts, .ref q_rowMany, .ref q_items, .ref q_moved], eI q_tape k_tape 80 f_tape]) hP hD [(0, 2)] [] hCm hNw (by decide +kernel) hk1 hFc hP1 hD1 rfl
      have hK := KJ_s (tys' := [(k_tape, .int)]) hK hK1 [] rfl
      generalize H1 = H at hP hS ⊢
      rcases hw with ⟨e_r7, f_r7⟩ | ⟨e_r7, f_r7⟩
      · subst e_r7
        rw [hQ9]
        exact W.zret (v := 1) hx hb hr (by decide) (fun t ht hW => ⟨⟨1, (u8, u9), rfl, Or.inl ⟨rfl, f_r7⟩, by rw [ht]; exact hP, va_K.moved hW.alike hK, hD⟩, hS.F ht⟩) hS.2.2 dX10_takesItem_35
      · subst e_r7
        rw [hQ9]
        exact W.zret (v := 0) hx hb hr (by decide) (fun t ht hW => ⟨⟨0, (u8, u9), rfl, Or.inr ⟨rfl, by omega⟩, by rw [ht]; exact hP, va_K.moved hW.alike hK, hD⟩, hS.F ht⟩) hS.2.2 dX10_takesItem_35
    · skip
      have f_c6 := i_ne c6
      refine lv_iload_n hx hb dX10_takesItem_17 rfl (lv_at hl 0 rfl) ?_
      refine lv_bipush (v := 60) hx hb dX10_takesItem_18 (by decide) ?_
      refine lv_icmp_eq (tgt := 29) hx hb dX10_takesItem_20 (by decide) (fun c10 => ?_) (fun c10 => ?_)
      · skip
        have f_c10 := i_eq c10
        refine lv_aload_n hx hb dX10_takesItem_29 rfl (lv_at hl 1 rfl) ?_
        refine lv_iload_n hx hb dX10_takesItem_30 rfl (lv_at hl 0 rfl) ?_
        refine lv_iload_n hx hb dX10_takesItem_31 rfl (lv_at hl 2 rfl) ?_
        obtain ⟨hPc, hDc, hFc, hCm, hNw⟩ := C_s (wc := [eO h0 9 [.ref q_s, .long v_fees, .ref q_thought, .long v_thoughtFees, .ref q_image, .long v_imageFees, .int v_hasImage, .ref q_tape, .int v_taped, .ref q_texts, .ref q_sizes, .int v_programs, .ref q_imageTexts, .ref q_imageSizes, .int v_imagePrograms, .int v_here, .int v_open, .int v_running, .int v_begun, .ref q_held, .ref q_marks, .int v_markMany, .ref q_trace, .int v_traced, .ref q_keptBalances, .ref q_keptFees, .int v_deep, .ref q_way, .ref q_sorts, .ref q_rowMany, .ref q_items, .ref q_moved], eI q_tape k_tape 80 f_tape]) hP hD hS hA [(0, 2)] 2 rfl (by decide +kernel) rfl
        have hKc := K_s (tys' := [(k_tape, .int)]) hK [(0, 1)] rfl
        refine va_calli (va_runV (As := [.int r1, .int p0]) (rest := []) ⟨hx, hb, hml, hown, hts⟩ (c_X10_takesBracket l dC dI h0 r1 p0 q_s v_fees q_thought v_thoughtFees q_image v_imageFees v_hasImage q_tape v_taped q_texts q_sizes v_programs q_imageTexts q_imageSizes v_imagePrograms v_here v_open v_running v_begun q_held q_marks v_markMany q_trace v_traced q_keptBalances q_keptFees v_deep q_way q_sorts q_rowMany q_items q_moved k_tape f_tape kk n9 nd H.size hh htn hn80 hkk hop1 hop (by first | assumption | omega) (by first | assumption | omega) (by first | assumption | omega) iht) (cwV 2 hts gX10_takesItem_X10_takesBracket rfl rfl rfl (by decide +kernel) ⟨(show (5 * nd + 9) + 1 ≤ 5 * nd + 10 by omega), (show 8 + (5 + 11) + (200 * nd + 150) ≤ 200 * nd + 200 by omega)⟩) ⟨fun a U g mk q => by obtain ⟨q0, q1, qP, qK, qD⟩ := q; exact ⟨q0, q1, qP, va_K.moved (u := U) (U := U.calling g mk a) (Vm.Alike.refl U.vm) qK, qD⟩, va_recv (s := s) (q := (RX10, TX10, 32)) hKc hPc (ci := 9) (q0 := 0) rfl rfl, fun U hU hW => ⟨rfl, by rw [hU], by rw [hU]; exact hPc, va_K.moved hW.alike hKc, hDc.weaken (fun _ _ _ _ => trivial)⟩⟩ rfl rfl hl.1 rfl (lv_room (Nat.le_of_ble_eq_true rfl)) dX10_takesItem_32 ⟨Nat.le_of_ble_eq_true rfl, Nat.le_of_ble_eq_true rfl⟩) hS (fun q _ h => hFc q h) hFc (fun r11 u t H1 locs ht hvm hw hB hz1 hk1 hS => ?_)
        obtain ⟨u12, u13⟩ := u
        obtain ⟨hP1, hK1, hD1⟩ := hB
        rw [ht] at hP1
        have hK1 := va_K.moved hvm.symm hK1
        try dsimp only at hw
        obtain ⟨hP, hD⟩ := J_s (wL := [eO h0 9 [.ref q_s, .long v_fees, .ref q_thought, .long v_thoughtFees, .ref q_image, .long v_imageFees, .int v_hasImage, .ref q_tape, .int v_taped, .ref q_texts, .ref q_sizes, .int v_programs, .ref q_imageTexts, .ref q_imageSizes, .int v_imagePrograms, .int u12, .int u13, .int v_running, .int v_begun, .ref q_held, .ref q_marks, .int v_markMany, .ref q_trace, .int v_traced, .ref q_keptBalances, .ref q_keptFees, .int v_deep, .ref q_way, .ref q_sorts, .ref q_rowMany, .ref q_items, .ref q_moved], eI q_tape k_tape 80 f_tape]) hP hD [(0, 2)] [] hCm hNw (by decide +kernel) hk1 hFc hP1 hD1 rfl
        have hK := KJ_s (tys' := [(k_tape, .int)]) hK hK1 [] rfl
        generalize H1 = H at hP hS ⊢
        rcases hw with ⟨e_r11, f_r11⟩ | ⟨e_r11, f_r11⟩
        · subst e_r11
          rw [hQ9]
          exact W.zret (v := 1) hx hb hr (by decide) (fun t ht hW => ⟨⟨1, (u12, u13), rfl, Or.inl ⟨rfl, f_r11⟩, by rw [ht]; exact hP, va_K.moved hW.alike hK, hD⟩, hS.F ht⟩) hS.2.2 dX10_takesItem_35
        · subst e_r11
          rw [hQ9]
          exact W.zret (v := 0) hx hb hr (by decide) (fun t ht hW => ⟨⟨0, (u12, u13), rfl, Or.inr ⟨rfl, by omega⟩, by rw [ht]; exact hP, va_K.moved hW.alike hK, hD⟩, hS.F ht⟩) hS.2.2 dX10_takesItem_35
      · skip
        have f_c10 := i_ne c10
        refine lv_iload_n hx hb dX10_takesItem_23 rfl (lv_at hl 0 rfl) ?_
        refine lv_bipush (v := 123) hx hb dX10_takesItem_24 (by decide) ?_
        refine lv_icmp_ne (tgt := 36) hx hb dX10_takesItem_26 (by decide) (fun c14 => ?_) (fun c14 => ?_)
        · skip
          have f_c14 := i_ne c14
          refine lv_iload_n hx hb dX10_takesItem_36 rfl (lv_at hl 0 rfl) ?_
          refine lv_bipush (v := 112) hx hb dX10_takesItem_37 (by decide) ?_
          refine lv_icmp_ne (tgt := 47) hx hb dX10_takesItem_39 (by decide) (fun c15 => ?_) (fun c15 => ?_)
          · skip
            have f_c15 := i_ne c15
            refine lv_iload_n hx hb dX10_takesItem_47 rfl (lv_at hl 0 rfl) ?_
            refine lv_bipush (v := 120) hx hb dX10_takesItem_48 (by decide) ?_
            refine lv_icmp_eq (tgt := 69) hx hb dX10_takesItem_50 (by decide) (fun c16 => ?_) (fun c16 => ?_)
            · skip
              have f_c16 := i_eq c16
              refine lv_aload_n hx hb dX10_takesItem_69 rfl (lv_at hl 1 rfl) ?_
              refine lv_dup hx hb dX10_takesItem_70 rfl ?_
              refine va_get (D := (dC, dI)) (ci := 9) (v := .int v_here) (C := RX10) (T := TX10) (N := 32) hx hb hts (fun w h => List.mem_cons_of_mem _ (inlX10 w h)) hown hK hP 0 rfl rfl 15 (by decide) (hts (.fieldLink RX10 124 "ClearingGatesModel" "here" "I") (List.mem_cons_of_mem _ mw_624)) (fun _ h9 => h9) rfl dX10_takesItem_71 ?_
              refine lv_iconst (v := 1) hx hb dX10_takesItem_74 (by decide) ?_
              refine lv_iadd hx hb dX10_takesItem_75 ?_
              refine lv_topi (fun z17 e_z17 => ?_)
              (first | have t_z17 := i_add e_z17 (by omega) (by omega) | skip)
              refine va_put (D := (dC, dI)) (ci := 9) (v := .int z17) (ty := .int) (C := RX10) (T := TX10) (N := 32) hx hb hts (fun w h => List.mem_cons_of_mem _ (inlX10 w h)) tyX10 tyX10_ok nmX10 hown hK hP hD hS 0 rfl rfl 15 (by decide) (hts (.fieldLink RX10 124 "ClearingGatesModel" "here" "I") (List.mem_cons_of_mem _ mw_624)) (fun _ h9 => h9) rfl (by decide +kernel) rfl rfl (Nat.le_of_ble_eq_true rfl) dX10_takesItem_76 (fun H locs hP hD hS => ?_)
              obtain ⟨hP, hD⟩ := X_s (ws' := [eO h0 9 [.ref q_s, .long v_fees, .ref q_thought, .long v_thoughtFees, .ref q_image, .long v_imageFees, .int v_hasImage, .ref q_tape, .int v_taped, .ref q_texts, .ref q_sizes, .int v_programs, .ref q_imageTexts, .ref q_imageSizes, .int v_imagePrograms, .int z17, .int v_open, .int v_running, .int v_begun, .ref q_held, .ref q_marks, .int v_markMany, .ref q_trace, .int v_traced, .ref q_keptBalances, .ref q_keptFees, .int v_deep, .ref q_way, .ref q_sorts, .ref q_rowMany, .ref q_items, .ref q_moved], eI q_tape k_tape 80 f_tape]) hP hD rfl
              refine lv_iconst (v := 1) hx hb dX10_takesItem_79 (by decide) ?_
              rw [hQ9]
              exact W.zret (v := 1) hx hb hr (by decide) (fun t ht hW => ⟨⟨1, (z17, v_open), rfl, Or.inl ⟨rfl, rfl, kk + 1, by omega, it_leaf (leaf_x (by omega) (by omega))⟩, by rw [ht]; exact hP, va_K.moved hW.alike hK, hD⟩, hS.F ht⟩) hS.2.2 dX10_takesItem_80
            · skip
              have f_c16 := i_ne c16
              refine lv_iload_n hx hb dX10_takesItem_53 rfl (lv_at hl 2 rfl) ?_
              refine lv_if_eq (tgt := 81) hx hb dX10_takesItem_54 (by decide) (fun c18 => ?_) (fun c18 => ?_)
              · skip
                have f_c18 := i_eq c18
                refine lv_iload_n hx hb dX10_takesItem_81 rfl (lv_at hl 0 rfl) ?_
                refine lv_bipush (v := 110) hx hb dX10_takesItem_82 (by decide) ?_
                refine lv_icmp_eq (tgt := 93) hx hb dX10_takesItem_84 (by decide) (fun c19 => ?_) (fun c19 => ?_)
                · skip
                  have f_c19 := i_eq c19
                  refine lv_aload_n hx hb dX10_takesItem_93 rfl (lv_at hl 1 rfl) ?_
                  refine lv_dup hx hb dX10_takesItem_94 rfl ?_
                  refine va_get (D := (dC, dI)) (ci := 9) (v := .int v_here) (C := RX10) (T := TX10) (N := 32) hx hb hts (fun w h => List.mem_cons_of_mem _ (inlX10 w h)) hown hK hP 0 rfl rfl 15 (by decide) (hts (.fieldLink RX10 124 "ClearingGatesModel" "here" "I") (List.mem_cons_of_mem _ mw_624)) (fun _ h9 => h9) rfl dX10_takesItem_95 ?_
                  refine lv_iconst (v := 1) hx hb dX10_takesItem_98 (by decide) ?_
                  refine lv_iadd hx hb dX10_takesItem_99 ?_
                  refine lv_topi (fun z20 e_z20 => ?_)
                  (first | have t_z20 := i_add e_z20 (by omega) (by omega) | skip)
                  refine va_put (D := (dC, dI)) (ci := 9) (v := .int z20) (ty := .int) (C := RX10) (T := TX10) (N := 32) hx hb hts (fun w h => List.mem_cons_of_mem _ (inlX10 w h)) tyX10 tyX10_ok nmX10 hown hK hP hD hS 0 rfl rfl 15 (by decide) (hts (.fieldLink RX10 124 "ClearingGatesModel" "here" "I") (List.mem_cons_of_mem _ mw_624)) (fun _ h9 => h9) rfl (by decide +kernel) rfl rfl (Nat.le_of_ble_eq_true rfl) dX10_takesItem_100 (fun H locs hP hD hS => ?_)
                  obtain ⟨hP, hD⟩ := X_s (ws' := [eO h0 9 [.ref q_s, .long v_fees, .ref q_thought, .long v_thoughtFees, .ref q_image, .long v_imageFees, .int v_hasImage, .ref q_tape, .int v_taped, .ref q_texts, .ref q_sizes, .int v_programs, .ref q_imageTexts, .ref q_imageSizes, .int v_imagePrograms, .int z20, .int v_open, .int v_running, .int v_begun, .ref q_held, .ref q_marks, .int v_markMany, .ref q_trace, .int v_traced, .ref q_keptBalances, .ref q_keptFees, .int v_deep, .ref q_way, .ref q_sorts, .ref q_rowMany, .ref q_items, .ref q_moved], eI q_tape k_tape 80 f_tape]) hP hD rfl
                  refine lv_aload_n hx hb dX10_takesItem_103 rfl (lv_at hl 1 rfl) ?_
                  refine lv_iconst (v := 0) hx hb dX10_takesItem_104 (by decide) ?_
                  refine lv_bipush (v := 7) hx hb dX10_takesItem_105 (by decide) ?_
                  obtain ⟨hPc, hDc, hFc, hCm, hNw⟩ := C_s (wc := [eO h0 9 [.ref q_s, .long v_fees, .ref q_thought, .long v_thoughtFees, .ref q_image, .long v_imageFees, .int v_hasImage, .ref q_tape, .int v_taped, .ref q_texts, .ref q_sizes, .int v_programs, .ref q_imageTexts, .ref q_imageSizes, .int v_imagePrograms, .int z20, .int v_open, .int v_running, .int v_begun, .ref q_held, .ref q_marks, .int v_markMany, .ref q_trace, .int v_traced, .ref q_keptBalances, .ref q_keptFees, .int v_deep, .ref q_way, .ref q_sorts, .ref q_rowMany, .ref q_items, .ref q_moved], eI q_tape k_tape 80 f_tape]) hP hD hS hA [(0, 2)] 2 rfl (by decide +kernel) rfl
                  have hKc := K_s (tys' := [(k_tape, .int)]) hK [(0, 1)] rfl
                  refine va_calli (va_runV (As := [.int 0, .int 7]) (rest := []) ⟨hx, hb, hml, hown, hts⟩ (c_X10_takesFigure l dC dI h0 0 7 q_s v_fees q_thought v_thoughtFees q_image v_imageFees v_hasImage q_tape v_taped q_texts q_sizes v_programs q_imageTexts q_imageSizes v_imagePrograms z20 v_open v_running v_begun q_held q_marks v_markMany q_trace v_traced q_keptBalances q_keptFees v_deep q_way q_sorts q_rowMany q_items q_moved k_tape f_tape (kk + 1) n9 H.size (by first | assumption | omega) htn hn80 (by first | assumption | omega) (by first | assumption | omega) (by first | assumption | omega) (by first | assumption | omega) (by first | assumption | omega)) (cwV 2 hts gX10_takesItem_X10_takesFigure rfl rfl rfl (by decide +kernel) ⟨(show (1) + 1 ≤ 5 * nd + 10 by omega), (show 8 + (3 + 11) + (25) ≤ 200 * nd + 200 by omega)⟩) ⟨fun a U g mk q => by obtain ⟨q0, q1, qP, qK, qD⟩ := q; exact ⟨q0, q1, qP, va_K.moved (u := U) (U := U.calling g mk a) (Vm.Alike.refl U.vm) qK, qD⟩, va_recv (s := s) (q := (RX10, TX10, 32)) hKc hPc (ci := 9) (q0 := 0) rfl rfl, fun U hU hW => ⟨rfl, by rw [hU], by rw [hU]; exact hPc, va_K.moved hW.alike hKc, hDc.weaken (fun _ _ _ _ => trivial)⟩⟩ rfl rfl hl.1 rfl (lv_room (Nat.le_of_ble_eq_true rfl)) dX10_takesItem_107 ⟨Nat.le_of_ble_eq_true rfl, Nat.le_of_ble_eq_true rfl⟩) hS (fun q _ h => hFc q h) hFc (fun r21 u t H1 locs ht hvm hw hB hz1 hk1 hS => ?_)
                  obtain ⟨u22, rfl⟩ : ∃ z, z = u := ⟨_, rfl⟩
                  obtain ⟨hP1, hK1, hD1⟩ := hB
                  rw [ht] at hP1
                  have hK1 := va_K.moved hvm.symm hK1
                  try dsimp only at hw
                  obtain ⟨hP, hD⟩ := J_s (wL := [eO h0 9 [.ref q_s, .long v_fees, .ref q_thought, .long v_thoughtFees, .ref q_image, .long v_imageFees, .int v_hasImage, .ref q_tape, .int v_taped, .ref q_texts, .ref q_sizes, .int v_programs, .ref q_imageTexts, .ref q_imageSizes, .int v_imagePrograms, .int u22, .int v_open, .int v_running, .int v_begun, .ref q_held, .ref q_marks, .int v_markMany, .ref q_trace, .int v_traced, .ref q_keptBalances, .ref q_keptFees, .int v_deep, .ref q_way, .ref q_sorts, .ref q_rowMany, .ref q_items, .ref q_moved], eI q_tape k_tape 80 f_tape]) hP hD [(0, 2)] [] hCm hNw (by decide +kernel) hk1 hFc hP1 hD1 rfl
                  have hK := KJ_s (tys' := [(k_tape, .int)]) hK hK1 [] rfl
                  generalize H1 = H at hP hS ⊢
                  rcases hw with ⟨e_r21, f_r21⟩ | ⟨e_r21, f_r21⟩
                  · subst e_r21
                    rw [hQ9]
                    exact W.zret (v := 1) hx hb hr (by decide) (fun t ht hW => ⟨⟨1, (u22, v_open), rfl, Or.inl ⟨rfl, rfl, kk + 2, by omega, it_leaf (leaf_n (by omega) (by omega))⟩, by rw [ht]; exact hP, va_K.moved hW.alike hK, hD⟩, hS.F ht⟩) hS.2.2 dX10_takesItem_110
                  · subst e_r21
                    rw [hQ9]
                    exact W.zret (v := 0) hx hb hr (by decide) (fun t ht hW => ⟨⟨0, (u22, v_open), rfl, Or.inr ⟨rfl, by omega⟩, by rw [ht]; exact hP, va_K.moved hW.alike hK, hD⟩, hS.F ht⟩) hS.2.2 dX10_takesItem_110
                · skip
                  have f_c19 := i_ne c19
                  refine lv_iload_n hx hb dX10_takesItem_87 rfl (lv_at hl 0 rfl) ?_
                  refine lv_bipush (v := 97) hx hb dX10_takesItem_88 (by decide) ?_
                  refine lv_icmp_ne (tgt := 111) hx hb dX10_takesItem_90 (by decide) (fun c23 => ?_) (fun c23 => ?_)
                  · skip
                    have f_c23 := i_ne c23
                    refine lv_iconst (v := 0) hx hb dX10_takesItem_111 (by decide) ?_
                    rw [hQ9]
                    exact W.zret (v := 0) hx hb hr (by decide) (fun t ht hW => ⟨⟨0, (v_here, v_open), rfl, Or.inr ⟨rfl, by omega⟩, by rw [ht]; exact hP, va_K.moved hW.alike hK, hD⟩, hS.F ht⟩) hS.2.2 dX10_takesItem_112
                  · skip
                    have f_c23 := i_eq c23
                    refine lv_aload_n hx hb dX10_takesItem_93 rfl (lv_at hl 1 rfl) ?_
                    refine lv_dup hx hb dX10_takesItem_94 rfl ?_
                    refine va_get (D := (dC, dI)) (ci := 9) (v := .int v_here) (C := RX10) (T := TX10) (N := 32) hx hb hts (fun w h => List.mem_cons_of_mem _ (inlX10 w h)) hown hK hP 0 rfl rfl 15 (by decide) (hts (.fieldLink RX10 124 "ClearingGatesModel" "here" "I") (List.mem_cons_of_mem _ mw_624)) (fun _ h9 => h9) rfl dX10_takesItem_95 ?_
                    refine lv_iconst (v := 1) hx hb dX10_takesItem_98 (by decide) ?_
                    refine lv_iadd hx hb dX10_takesItem_99 ?_
                    refine lv_topi (fun z24 e_z24 => ?_)
                    (first | have t_z24 := i_add e_z24 (by omega) (by omega) | skip)
                    refine va_put (D := (dC, dI)) (ci := 9) (v := .int z24) (ty := .int) (C := RX10) (T := TX10) (N := 32) hx hb hts (fun w h => List.mem_cons_of_mem _ (inlX10 w h)) tyX10 tyX10_ok nmX10 hown hK hP hD hS 0 rfl rfl 15 (by decide) (hts (.fieldLink RX10 124 "ClearingGatesModel" "here" "I") (List.mem_cons_of_mem _ mw_624)) (fun _ h9 => h9) rfl (by decide +kernel) rfl rfl (Nat.le_of_ble_eq_true rfl) dX10_takesItem_100 (fun H locs hP hD hS => ?_)
                    obtain ⟨hP, hD⟩ := X_s (ws' := [eO h0 9 [.ref q_s, .long v_fees, .ref q_thought, .long v_thoughtFees, .ref q_image, .long v_imageFees, .int v_hasImage, .ref q_tape, .int v_taped, .ref q_texts, .ref q_sizes, .int v_programs, .ref q_imageTexts, .ref q_imageSizes, .int v_imagePrograms, .int z24, .int v_open, .int v_running, .int v_begun, .ref q_held, .ref q_marks, .int v_markMany, .ref q_trace, .int v_traced, .ref q_keptBalances, .ref q_keptFees, .int v_deep, .ref q_way, .ref q_sorts, .ref q_rowMany, .ref q_items, .ref q_moved], eI q_tape k_tape 80 f_tape]) hP hD rfl
                    refine lv_aload_n hx hb dX10_takesItem_103 rfl (lv_at hl 1 rfl) ?_
                    refine lv_iconst (v := 0) hx hb dX10_takesItem_104 (by decide) ?_
                    refine lv_bipush (v := 7) hx hb dX10_takesItem_105 (by decide) ?_
                    obtain ⟨hPc, hDc, hFc, hCm, hNw⟩ := C_s (wc := [eO h0 9 [.ref q_s, .long v_fees, .ref q_thought, .long v_thoughtFees, .ref q_image, .long v_imageFees, .int v_hasImage, .ref q_tape, .int v_taped, .ref q_texts, .ref q_sizes, .int v_programs, .ref q_imageTexts, .ref q_imageSizes, .int v_imagePrograms, .int z24, .int v_open, .int v_running, .int v_begun, .ref q_held, .ref q_marks, .int v_markMany, .ref q_trace, .int v_traced, .ref q_keptBalances, .ref q_keptFees, .int v_deep, .ref q_way, .ref q_sorts, .ref q_rowMany, .ref q_items, .ref q_moved], eI q_tape k_tape 80 f_tape]) hP hD hS hA [(0, 2)] 2 rfl (by decide +kernel) rfl
                    have hKc := K_s (tys' := [(k_tape, .int)]) hK [(0, 1)] rfl
                    refine va_calli (va_runV (As := [.int 0, .int 7]) (rest := []) ⟨hx, hb, hml, hown, hts⟩ (c_X10_takesFigure l dC dI h0 0 7 q_s v_fees q_thought v_thoughtFees q_image v_imageFees v_hasImage q_tape v_taped q_texts q_sizes v_programs q_imageTexts q_imageSizes v_imagePrograms z24 v_open v_running v_begun q_held q_marks v_markMany q_trace v_traced q_keptBalances q_keptFees v_deep q_way q_sorts q_rowMany q_items q_moved k_tape f_tape (kk + 1) n9 H.size (by first | assumption | omega) htn hn80 (by first | assumption | omega) (by first | assumption | omega) (by first | assumption | omega) (by first | assumption | omega) (by first | assumption | omega)) (cwV 2 hts gX10_takesItem_X10_takesFigure rfl rfl rfl (by decide +kernel) ⟨(show (1) + 1 ≤ 5 * nd + 10 by omega), (show 8 + (3 + 11) + (25) ≤ 200 * nd + 200 by omega)⟩) ⟨fun a U g mk q => by obtain ⟨q0, q1, qP, qK, qD⟩ := q; exact ⟨q0, q1, qP, va_K.moved (u := U) (U := U.calling g mk a) (Vm.Alike.refl U.vm) qK, qD⟩, va_recv (s := s) (q := (RX10, TX10, 32)) hKc hPc (ci := 9) (q0 := 0) rfl rfl, fun U hU hW => ⟨rfl, by rw [hU], by rw [hU]; exact hPc, va_K.moved hW.alike hKc, hDc.weaken (fun _ _ _ _ => trivial)⟩⟩ rfl rfl hl.1 rfl (lv_room (Nat.le_of_ble_eq_true rfl)) dX10_takesItem_107 ⟨Nat.le_of_ble_eq_true rfl, Nat.le_of_ble_eq_true rfl⟩) hS (fun q _ h => hFc q h) hFc (fun r25 u t H1 locs ht hvm hw hB hz1 hk1 hS => ?_)
                    obtain ⟨u26, rfl⟩ : ∃ z, z = u := ⟨_, rfl⟩
                    obtain ⟨hP1, hK1, hD1⟩ := hB
                    rw [ht] at hP1
                    have hK1 := va_K.moved hvm.symm hK1
                    try dsimp only at hw
                    obtain ⟨hP, hD⟩ := J_s (wL := [eO h0 9 [.ref q_s, .long v_fees, .ref q_thought, .long v_thoughtFees, .ref q_image, .long v_imageFees, .int v_hasImage, .ref q_tape, .int v_taped, .ref q_texts, .ref q_sizes, .int v_programs, .ref q_imageTexts, .ref q_imageSizes, .int v_imagePrograms, .int u26, .int v_open, .int v_running, .int v_begun, .ref q_held, .ref q_marks, .int v_markMany, .ref q_trace, .int v_traced, .ref q_keptBalances, .ref q_keptFees, .int v_deep, .ref q_way, .ref q_sorts, .ref q_rowMany, .ref q_items, .ref q_moved], eI q_tape k_tape 80 f_tape]) hP hD [(0, 2)] [] hCm hNw (by decide +kernel) hk1 hFc hP1 hD1 rfl
                    have hK := KJ_s (tys' := [(k_tape, .int)]) hK hK1 [] rfl
                    generalize H1 = H at hP hS ⊢
                    rcases hw with ⟨e_r25, f_r25⟩ | ⟨e_r25, f_r25⟩
                    · subst e_r25
                      rw [hQ9]
                      exact W.zret (v := 1) hx hb hr (by decide) (fun t ht hW => ⟨⟨1, (u26, v_open), rfl, Or.inl ⟨rfl, rfl, kk + 2, by omega, it_leaf (leaf_n (by omega) (by omega))⟩, by rw [ht]; exact hP, va_K.moved hW.alike hK, hD⟩, hS.F ht⟩) hS.2.2 dX10_takesItem_110
                    · subst e_r25
                      rw [hQ9]
                      exact W.zret (v := 0) hx hb hr (by decide) (fun t ht hW => ⟨⟨0, (u26, v_open), rfl, Or.inr ⟨rfl, by omega⟩, by rw [ht]; exact hP, va_K.moved hW.alike hK, hD⟩, hS.F ht⟩) hS.2.2 dX10_takesItem_110
              · skip
                have f_c18 := i_ne c18
                refine lv_iload_n hx hb dX10_takesItem_57 rfl (lv_at hl 0 rfl) ?_
                refine lv_bipush (v := 98) hx hb dX10_takesItem_58 (by decide) ?_
                refine lv_icmp_eq (tgt := 69) hx hb dX10_takesItem_60 (by decide) (fun c27 => ?_) (fun c27 => ?_)
                · skip
                  have f_c27 := i_eq c27
                  refine lv_aload_n hx hb dX10_takesItem_69 rfl (lv_at hl 1 rfl) ?_
                  refine lv_dup hx hb dX10_takesItem_70 rfl ?_
                  refine va_get (D := (dC, dI)) (ci := 9) (v := .int v_here) (C := RX10) (T := TX10) (N := 32) hx hb hts (fun w h => List.mem_cons_of_mem _ (inlX10 w h)) hown hK hP 0 rfl rfl 15 (by decide) (hts (.fieldLink RX10 124 "ClearingGatesModel" "here" "I") (List.mem_cons_of_mem _ mw_624)) (fun _ h9 => h9) rfl dX10_takesItem_71 ?_
                  refine lv_iconst (v := 1) hx hb dX10_takesItem_74 (by decide) ?_
                  refine lv_iadd hx hb dX10_takesItem_75 ?_
                  refine lv_topi (fun z28 e_z28 => ?_)
                  (first | have t_z28 := i_add e_z28 (by omega) (by omega) | skip)
                  refine va_put (D := (dC, dI)) (ci := 9) (v := .int z28) (ty := .int) (C := RX10) (T := TX10) (N := 32) hx hb hts (fun w h => List.mem_cons_of_mem _ (inlX10 w h)) tyX10 tyX10_ok nmX10 hown hK hP hD hS 0 rfl rfl 15 (by decide) (hts (.fieldLink RX10 124 "ClearingGatesModel" "here" "I") (List.mem_cons_of_mem _ mw_624)) (fun _ h9 => h9) rfl (by decide +kernel) rfl rfl (Nat.le_of_ble_eq_true rfl) dX10_takesItem_76 (fun H locs hP hD hS => ?_)
                  obtain ⟨hP, hD⟩ := X_s (ws' := [eO h0 9 [.ref q_s, .long v_fees, .ref q_thought, .long v_thoughtFees, .ref q_image, .long v_imageFees, .int v_hasImage, .ref q_tape, .int v_taped, .ref q_texts, .ref q_sizes, .int v_programs, .ref q_imageTexts, .ref q_imageSizes, .int v_imagePrograms, .int z28, .int v_open, .int v_running, .int v_begun, .ref q_held, .ref q_marks, .int v_markMany, .ref q_trace, .int v_traced, .ref q_keptBalances, .ref q_keptFees, .int v_deep, .ref q_way, .ref q_sorts, .ref q_rowMany, .ref q_items, .ref q_moved], eI q_tape k_tape 80 f_tape]) hP hD rfl
                  refine lv_iconst (v := 1) hx hb dX10_takesItem_79 (by decide) ?_
                  rw [hQ9]
                  exact W.zret (v := 1) hx hb hr (by decide) (fun t ht hW => ⟨⟨1, (z28, v_open), rfl, Or.inl ⟨rfl, rfl, kk + 1, by omega, it_leaf (leaf_x (by omega) (by omega))⟩, by rw [ht]; exact hP, va_K.moved hW.alike hK, hD⟩, hS.F ht⟩) hS.2.2 dX10_takesItem_80
                · skip
                  have f_c27 := i_ne c27
                  refine lv_iload_n hx hb dX10_takesItem_63 rfl (lv_at hl 0 rfl) ?_
                  refine lv_bipush (v := 99) hx hb dX10_takesItem_64 (by decide) ?_
                  refine lv_icmp_ne (tgt := 81) hx hb dX10_takesItem_66 (by decide) (fun c29 => ?_) (fun c29 => ?_)
                  · skip
                    have f_c29 := i_ne c29
                    refine lv_iload_n hx hb dX10_takesItem_81 rfl (lv_at hl 0 rfl) ?_
                    refine lv_bipush (v := 110) hx hb dX10_takesItem_82 (by decide) ?_
                    refine lv_icmp_eq (tgt := 93) hx hb dX10_takesItem_84 (by decide) (fun c30 => ?_) (fun c30 => ?_)
                    · skip
                      have f_c30 := i_eq c30
                      refine lv_aload_n hx hb dX10_takesItem_93 rfl (lv_at hl 1 rfl) ?_
                      refine lv_dup hx hb dX10_takesItem_94 rfl ?_
                      refine va_get (D := (dC, dI)) (ci := 9) (v := .int v_here) (C := RX10) (T := TX10) (N := 32) hx hb hts (fun w h => List.mem_cons_of_mem _ (inlX10 w h)) hown hK hP 0 rfl rfl 15 (by decide) (hts (.fieldLink RX10 124 "ClearingGatesModel" "here" "I") (List.mem_cons_of_mem _ mw_624)) (fun _ h9 => h9) rfl dX10_takesItem_95 ?_
                      refine lv_iconst (v := 1) hx hb dX10_takesItem_98 (by decide) ?_
                      refine lv_iadd hx hb dX10_takesItem_99 ?_
                      refine lv_topi (fun z31 e_z31 => ?_)
                      (first | have t_z31 := i_add e_z31 (by omega) (by omega) | skip)
                      refine va_put (D := (dC, dI)) (ci := 9) (v := .int z31) (ty := .int) (C := RX10) (T := TX10) (N := 32) hx hb hts (fun w h => List.mem_cons_of_mem _ (inlX10 w h)) tyX10 tyX10_ok nmX10 hown hK hP hD hS 0 rfl rfl 15 (by decide) (hts (.fieldLink RX10 124 "ClearingGatesModel" "here" "I") (List.mem_cons_of_mem _ mw_624)) (fun _ h9 => h9) rfl (by decide +kernel) rfl rfl (Nat.le_of_ble_eq_true rfl) dX10_takesItem_100 (fun H locs hP hD hS => ?_)
                      obtain ⟨hP, hD⟩ := X_s (ws' := [eO h0 9 [.ref q_s, .long v_fees, .ref q_thought, .long v_thoughtFees, .ref q_image, .long v_imageFees, .int v_hasImage, .ref q_tape, .int v_taped, .ref q_texts, .ref q_sizes, .int v_programs, .ref q_imageTexts, .ref q_imageSizes, .int v_imagePrograms, .int z31, .int v_open, .int v_running, .int v_begun, .ref q_held, .ref q_marks, .int v_markMany, .ref q_trace, .int v_traced, .ref q_keptBalances, .ref q_keptFees, .int v_deep, .ref q_way, .ref q_sorts, .ref q_rowMany, .ref q_items, .ref q_moved], eI q_tape k_tape 80 f_tape]) hP hD rfl
                      refine lv_aload_n hx hb dX10_takesItem_103 rfl (lv_at hl 1 rfl) ?_
                      refine lv_iconst (v := 0) hx hb dX10_takesItem_104 (by decide) ?_
                      refine lv_bipush (v := 7) hx hb dX10_takesItem_105 (by decide) ?_
                      obtain ⟨hPc, hDc, hFc, hCm, hNw⟩ := C_s (wc := [eO h0 9 [.ref q_s, .long v_fees, .ref q_thought, .long v_thoughtFees, .ref q_image, .long v_imageFees, .int v_hasImage, .ref q_tape, .int v_taped, .ref q_texts, .ref q_sizes, .int v_programs, .ref q_imageTexts, .ref q_imageSizes, .int v_imagePrograms, .int z31, .int v_open, .int v_running, .int v_begun, .ref q_held, .ref q_marks, .int v_markMany, .ref q_trace, .int v_traced, .ref q_keptBalances, .ref q_keptFees, .int v_deep, .ref q_way, .ref q_sorts, .ref q_rowMany, .ref q_items, .ref q_moved], eI q_tape k_tape 80 f_tape]) hP hD hS hA [(0, 2)] 2 rfl (by decide +kernel) rfl
                      have hKc := K_s (tys' := [(k_tape, .int)]) hK [(0, 1)] rfl
                      refine va_calli (va_runV (As := [.int 0, .int 7]) (rest := []) ⟨hx, hb, hml, hown, hts⟩ (c_X10_takesFigure l dC dI h0 0 7 q_s v_fees q_thought v_thoughtFees q_image v_imageFees v_hasImage q_tape v_taped q_texts q_sizes v_programs q_imageTexts q_imageSizes v_imagePrograms z31 v_open v_running v_begun q_held q_marks v_markMany q_trace v_traced q_keptBalances q_keptFees v_deep q_way q_sorts q_rowMany q_items q_moved k_tape f_tape (kk + 1) n9 H.size (by first | assumption | omega) htn hn80 (by first | assumption | omega) (by first | assumption | omega) (by first | assumption | omega) (by first | assumption | omega) (by first | assumption | omega)) (cwV 2 hts gX10_takesItem_X10_takesFigure rfl rfl rfl (by decide +kernel) ⟨(show (1) + 1 ≤ 5 * nd + 10 by omega), (show 8 + (3 + 11) + (25) ≤ 200 * nd + 200 by omega)⟩) ⟨fun a U g mk q => by obtain ⟨q0, q1, qP, qK, qD⟩ := q; exact ⟨q0, q1, qP, va_K.moved (u := U) (U := U.calling g mk a) (Vm.Alike.refl U.vm) qK, qD⟩, va_recv (s := s) (q := (RX10, TX10, 32)) hKc hPc (ci := 9) (q0 := 0) rfl rfl, fun U hU hW => ⟨rfl, by rw [hU], by rw [hU]; exact hPc, va_K.moved hW.alike hKc, hDc.weaken (fun _ _ _ _ => trivial)⟩⟩ rfl rfl hl.1 rfl (lv_room (Nat.le_of_ble_eq_true rfl)) dX10_takesItem_107 ⟨Nat.le_of_ble_eq_true rfl, Nat.le_of_ble_eq_true rfl⟩) hS (fun q _ h => hFc q h) hFc (fun r32 u t H1 locs ht hvm hw hB hz1 hk1 hS => ?_)
                      obtain ⟨u33, rfl⟩ : ∃ z, z = u := ⟨_, rfl⟩
                      obtain ⟨hP1, hK1, hD1⟩ := hB
                      rw [ht] at hP1
                      have hK1 := va_K.moved hvm.symm hK1
                      try dsimp only at hw
                      obtain ⟨hP, hD⟩ := J_s (wL := [eO h0 9 [.ref q_s, .long v_fees, .ref q_thought, .long v_thoughtFees, .ref q_image, .long v_imageFees, .int v_hasImage, .ref q_tape, .int v_taped, .ref q_texts, .ref q_sizes, .int v_programs, .ref q_imageTexts, .ref q_imageSizes, .int v_imagePrograms, .int u33, .int v_open, .int v_running, .int v_begun, .ref q_held, .ref q_marks, .int v_markMany, .ref q_trace, .int v_traced, .ref q_keptBalances, .ref q_keptFees, .int v_deep, .ref q_way, .ref q_sorts, .ref q_rowMany, .ref q_items, .ref q_moved], eI q_tape k_tape 80 f_tape]) hP hD [(0, 2)] [] hCm hNw (by decide +kernel) hk1 hFc hP1 hD1 rfl
                      have hK := KJ_s (tys' := [(k_tape, .int)]) hK hK1 [] rfl
                      generalize H1 = H at hP hS ⊢
                      rcases hw with ⟨e_r32, f_r32⟩ | ⟨e_r32, f_r32⟩
                      · subst e_r32
                        rw [hQ9]
                        exact W.zret (v := 1) hx hb hr (by decide) (fun t ht hW => ⟨⟨1, (u33, v_open), rfl, Or.inl ⟨rfl, rfl, kk + 2, by omega, it_leaf (leaf_n (by omega) (by omega))⟩, by rw [ht]; exact hP, va_K.moved hW.alike hK, hD⟩, hS.F ht⟩) hS.2.2 dX10_takesItem_110
                      · subst e_r32
                        rw [hQ9]
                        exact W.zret (v := 0) hx hb hr (by decide) (fun t ht hW => ⟨⟨0, (u33, v_open), rfl, Or.inr ⟨rfl, by omega⟩, by rw [ht]; exact hP, va_K.moved hW.alike hK, hD⟩, hS.F ht⟩) hS.2.2 dX10_takesItem_110
                    · skip
                      have f_c30 := i_ne c30
                      refine lv_iload_n hx hb dX10_takesItem_87 rfl (lv_at hl 0 rfl) ?_
                      refine lv_bipush (v := 97) hx hb dX10_takesItem_88 (by decide) ?_
                      refine lv_icmp_ne (tgt := 111) hx hb dX10_takesItem_90 (by decide) (fun c34 => ?_) (fun c34 => ?_)
                      · skip
                        have f_c34 := i_ne c34
                        refine lv_iconst (v := 0) hx hb dX10_takesItem_111 (by decide) ?_
                        rw [hQ9]
                        exact W.zret (v := 0) hx hb hr (by decide) (fun t ht hW => ⟨⟨0, (v_here, v_open), rfl, Or.inr ⟨rfl, by omega⟩, by rw [ht]; exact hP, va_K.moved hW.alike hK, hD⟩, hS.F ht⟩) hS.2.2 dX10_takesItem_112
                      · skip
                        have f_c34 := i_eq c34
                        refine lv_aload_n hx hb dX10_takesItem_93 rfl (lv_at hl 1 rfl) ?_
                        refine lv_dup hx hb dX10_takesItem_94 rfl ?_
                        refine va_get (D := (dC, dI)) (ci := 9) (v := .int v_here) (C := RX10) (T := TX10) (N := 32) hx hb hts (fun w h => List.mem_cons_of_mem _ (inlX10 w h)) hown hK hP 0 rfl rfl 15 (by decide) (hts (.fieldLink RX10 124 "ClearingGatesModel" "here" "I") (List.mem_cons_of_mem _ mw_624)) (fun _ h9 => h9) rfl dX10_takesItem_95 ?_
                        refine lv_iconst (v := 1) hx hb dX10_takesItem_98 (by decide) ?_
                        refine lv_iadd hx hb dX10_takesItem_99 ?_
                        refine lv_topi (fun z35 e_z35 => ?_)
                        (first | have t_z35 := i_add e_z35 (by omega) (by omega) | skip)
                        refine va_put (D := (dC, dI)) (ci := 9) (v := .int z35) (ty := .int) (C := RX10) (T := TX10) (N := 32) hx hb hts (fun w h => List.mem_cons_of_mem _ (inlX10 w h)) tyX10 tyX10_ok nmX10 hown hK hP hD hS 0 rfl rfl 15 (by decide) (hts (.fieldLink RX10 124 "ClearingGatesModel" "here" "I") (List.mem_cons_of_mem _ mw_624)) (fun _ h9 => h9) rfl (by decide +kernel) rfl rfl (Nat.le_of_ble_eq_true rfl) dX10_takesItem_100 (fun H locs hP hD hS => ?_)
                        obtain ⟨hP, hD⟩ := X_s (ws' := [eO h0 9 [.ref q_s, .long v_fees, .ref q_thought, .long v_thoughtFees, .ref q_image, .long v_imageFees, .int v_hasImage, .ref q_tape, .int v_taped, .ref q_texts, .ref q_sizes, .int v_programs, .ref q_imageTexts, .ref q_imageSizes, .int v_imagePrograms, .int z35, .int v_open, .int v_running, .int v_begun, .ref q_held, .ref q_marks, .int v_markMany, .ref q_trace, .int v_traced, .ref q_keptBalances, .ref q_keptFees, .int v_deep, .ref q_way, .ref q_sorts, .ref q_rowMany, .ref q_items, .ref q_moved], eI q_tape k_tape 80 f_tape]) hP hD rfl
                        refine lv_aload_n hx hb dX10_takesItem_103 rfl (lv_at hl 1 rfl) ?_
                        refine lv_iconst (v := 0) hx hb dX10_takesItem_104 (by decide) ?_
                        refine lv_bipush (v := 7) hx hb dX10_takesItem_105 (by decide) ?_
                        obtain ⟨hPc, hDc, hFc, hCm, hNw⟩ := C_s (wc := [eO h0 9 [.ref q_s, .long v_fees, .ref q_thought, .long v_thoughtFees, .ref q_image, .long v_imageFees, .int v_hasImage, .ref q_tape, .int v_taped, .ref q_texts, .ref q_sizes, .int v_programs, .ref q_imageTexts, .ref q_imageSizes, .int v_imagePrograms, .int z35, .int v_open, .int v_running, .int v_begun, .ref q_held, .ref q_marks, .int v_markMany, .ref q_trace, .int v_traced, .ref q_keptBalances, .ref q_keptFees, .int v_deep, .ref q_way, .ref q_sorts, .ref q_rowMany, .ref q_items, .ref q_moved], eI q_tape k_tape 80 f_tape]) hP hD hS hA [(0, 2)] 2 rfl (by decide +kernel) rfl
                        have hKc := K_s (tys' := [(k_tape, .int)]) hK [(0, 1)] rfl
                        refine va_calli (va_runV (As := [.int 0, .int 7]) (rest := []) ⟨hx, hb, hml, hown, hts⟩ (c_X10_takesFigure l dC dI h0 0 7 q_s v_fees q_thought v_thoughtFees q_image v_imageFees v_hasImage q_tape v_taped q_texts q_sizes v_programs q_imageTexts q_imageSizes v_imagePrograms z35 v_open v_running v_begun q_held q_marks v_markMany q_trace v_traced q_keptBalances q_keptFees v_deep q_way q_sorts q_rowMany q_items q_moved k_tape f_tape (kk + 1) n9 H.size (by first | assumption | omega) htn hn80 (by first | assumption | omega) (by first | assumption | omega) (by first | assumption | omega) (by first | assumption | omega) (by first | assumption | omega)) (cwV 2 hts gX10_takesItem_X10_takesFigure rfl rfl rfl (by decide +kernel) ⟨(show (1) + 1 ≤ 5 * nd + 10 by omega), (show 8 + (3 + 11) + (25) ≤ 200 * nd + 200 by omega)⟩) ⟨fun a U g mk q => by obtain ⟨q0, q1, qP, qK, qD⟩ := q; exact ⟨q0, q1, qP, va_K.moved (u := U) (U := U.calling g mk a) (Vm.Alike.refl U.vm) qK, qD⟩, va_recv (s := s) (q := (RX10, TX10, 32)) hKc hPc (ci := 9) (q0 := 0) rfl rfl, fun U hU hW => ⟨rfl, by rw [hU], by rw [hU]; exact hPc, va_K.moved hW.alike hKc, hDc.weaken (fun _ _ _ _ => trivial)⟩⟩ rfl rfl hl.1 rfl (lv_room (Nat.le_of_ble_eq_true rfl)) dX10_takesItem_107 ⟨Nat.le_of_ble_eq_true rfl, Nat.le_of_ble_eq_true rfl⟩) hS (fun q _ h => hFc q h) hFc (fun r36 u t H1 locs ht hvm hw hB hz1 hk1 hS => ?_)
                        obtain ⟨u37, rfl⟩ : ∃ z, z = u := ⟨_, rfl⟩
                        obtain ⟨hP1, hK1, hD1⟩ := hB
                        rw [ht] at hP1
                        have hK1 := va_K.moved hvm.symm hK1
                        try dsimp only at hw
                        obtain ⟨hP, hD⟩ := J_s (wL := [eO h0 9 [.ref q_s, .long v_fees, .ref q_thought, .long v_thoughtFees, .ref q_image, .long v_imageFees, .int v_hasImage, .ref q_tape, .int v_taped, .ref q_texts, .ref q_sizes, .int v_programs, .ref q_imageTexts, .ref q_imageSizes, .int v_imagePrograms, .int u37, .int v_open, .int v_running, .int v_begun, .ref q_held, .ref q_marks, .int v_markMany, .ref q_trace, .int v_traced, .ref q_keptBalances, .ref q_keptFees, .int v_deep, .ref q_way, .ref q_sorts, .ref q_rowMany, .ref q_items, .ref q_moved], eI q_tape k_tape 80 f_tape]) hP hD [(0, 2)] [] hCm hNw (by decide +kernel) hk1 hFc hP1 hD1 rfl
                        have hK := KJ_s (tys' := [(k_tape, .int)]) hK hK1 [] rfl
                        generalize H1 = H at hP hS ⊢
                        rcases hw with ⟨e_r36, f_r36⟩ | ⟨e_r36, f_r36⟩
                        · subst e_r36
                          rw [hQ9]
                          exact W.zret (v := 1) hx hb hr (by decide) (fun t ht hW => ⟨⟨1, (u37, v_open), rfl, Or.inl ⟨rfl, rfl, kk + 2, by omega, it_leaf (leaf_n (by omega) (by omega))⟩, by rw [ht]; exact hP, va_K.moved hW.alike hK, hD⟩, hS.F ht⟩) hS.2.2 dX10_takesItem_110
                        · subst e_r36
                          rw [hQ9]
                          exact W.zret (v := 0) hx hb hr (by decide) (fun t ht hW => ⟨⟨0, (u37, v_open), rfl, Or.inr ⟨rfl, by omega⟩, by rw [ht]; exact hP, va_K.moved hW.alike hK, hD⟩, hS.F ht⟩) hS.2.2 dX10_takesItem_110
                  · skip
                    have f_c29 := i_eq c29
                    refine lv_aload_n hx hb dX10_takesItem_69 rfl (lv_at hl 1 rfl) ?_
                    refine lv_dup hx hb dX10_takesItem_70 rfl ?_
                    refine va_get (D := (dC, dI)) (ci := 9) (v := .int v_here) (C := RX10) (T := TX10) (N := 32) hx hb hts (fun w h => List.mem_cons_of_mem _ (inlX10 w h)) hown hK hP 0 rfl rfl 15 (by decide) (hts (.fieldLink RX10 124 "ClearingGatesModel" "here" "I") (List.mem_cons_of_mem _ mw_624)) (fun _ h9 => h9) rfl dX10_takesItem_71 ?_
                    refine lv_iconst (v := 1) hx hb dX10_takesItem_74 (by decide) ?_
                    refine lv_iadd hx hb dX10_takesItem_75 ?_
                    refine lv_topi (fun z38 e_z38 => ?_)
                    (first | have t_z38 := i_add e_z38 (by omega) (by omega) | skip)
                    refine va_put (D := (dC, dI)) (ci := 9) (v := .int z38) (ty := .int) (C := RX10) (T := TX10) (N := 32) hx hb hts (fun w h => List.mem_cons_of_mem _ (inlX10 w h)) tyX10 tyX10_ok nmX10 hown hK hP hD hS 0 rfl rfl 15 (by decide) (hts (.fieldLink RX10 124 "ClearingGatesModel" "here" "I") (List.mem_cons_of_mem _ mw_624)) (fun _ h9 => h9) rfl (by decide +kernel) rfl rfl (Nat.le_of_ble_eq_true rfl) dX10_takesItem_76 (fun H locs hP hD hS => ?_)
                    obtain ⟨hP, hD⟩ := X_s (ws' := [eO h0 9 [.ref q_s, .long v_fees, .ref q_thought, .long v_thoughtFees, .ref q_image, .long v_imageFees, .int v_hasImage, .ref q_tape, .int v_taped, .ref q_texts, .ref q_sizes, .int v_programs, .ref q_imageTexts, .ref q_imageSizes, .int v_imagePrograms, .int z38, .int v_open, .int v_running, .int v_begun, .ref q_held, .ref q_marks, .int v_markMany, .ref q_trace, .int v_traced, .ref q_keptBalances, .ref q_keptFees, .int v_deep, .ref q_way, .ref q_sorts, .ref q_rowMany, .ref q_items, .ref q_moved], eI q_tape k_tape 80 f_tape]) hP hD rfl
                    refine lv_iconst (v := 1) hx hb dX10_takesItem_79 (by decide) ?_
                    rw [hQ9]
                    exact W.zret (v := 1) hx hb hr (by decide) (fun t ht hW => ⟨⟨1, (z38, v_open), rfl, Or.inl ⟨rfl, rfl, kk + 1, by omega, it_leaf (leaf_x (by omega) (by omega))⟩, by rw [ht]; exact hP, va_K.moved hW.alike hK, hD⟩, hS.F ht⟩) hS.2.2 dX10_takesItem_80
          · skip
            have f_c15 := i_eq c15
            refine lv_aload_n hx hb dX10_takesItem_42 rfl (lv_at hl 1 rfl) ?_
            obtain ⟨hPc, hDc, hFc, hCm, hNw⟩ := C_s (wc := [eO h0 9 [.ref q_s, .long v_fees, .ref q_thought, .long v_thoughtFees, .ref q_image, .long v_imageFees, .int v_hasImage, .ref q_tape, .int v_taped, .ref q_texts, .ref q_sizes, .int v_programs, .ref q_imageTexts, .ref q_imageSizes, .int v_imagePrograms, .int v_here, .int v_open, .int v_running, .int v_begun, .ref q_held, .ref q_marks, .int v_markMany, .ref q_trace, .int v_traced, .ref q_keptBalances, .ref q_keptFees, .int v_deep, .ref q_way, .ref q_sorts, .ref q_rowMany, .ref q_items, .ref q_moved], eI q_tape k_tape 80 f_tape]) hP hD hS hA [(0, 2)] 2 rfl (by decide +kernel) rfl
            have hKc := K_s (tys' := [(k_tape, .int)]) hK [(0, 1)] rfl
            refine va_calli (va_runV (As := []) (rest := []) ⟨hx, hb, hml, hown, hts⟩ (c_X10_takesPayment l dC dI h0 q_s v_fees q_thought v_thoughtFees q_image v_imageFees v_hasImage q_tape v_taped q_texts q_sizes v_programs q_imageTexts q_imageSizes v_imagePrograms v_here v_open v_running v_begun q_held q_marks v_markMany q_trace v_traced q_keptBalances q_keptFees v_deep q_way q_sorts q_rowMany q_items q_moved k_tape f_tape kk n9 H.size hh htn hn80 (by first | assumption | omega) (by first | assumption | omega)) (cwV 0 hts gX10_takesItem_X10_takesPayment rfl rfl rfl (by decide +kernel) ⟨(show (2) + 1 ≤ 5 * nd + 10 by omega), (show 8 + (2 + 11) + (47) ≤ 200 * nd + 200 by omega)⟩) ⟨fun a U g mk q => by obtain ⟨q0, q1, qP, qK, qD⟩ := q; exact ⟨q0, q1, qP, va_K.moved (u := U) (U := U.calling g mk a) (Vm.Alike.refl U.vm) qK, qD⟩, va_recv (s := s) (q := (RX10, TX10, 32)) hKc hPc (ci := 9) (q0 := 0) rfl rfl, fun U hU hW => ⟨rfl, by rw [hU], by rw [hU]; exact hPc, va_K.moved hW.alike hKc, hDc.weaken (fun _ _ _ _ => trivial)⟩⟩ rfl rfl hl.1 rfl (lv_room (Nat.le_of_ble_eq_true rfl)) dX10_takesItem_43 ⟨Nat.le_of_ble_eq_true rfl, Nat.le_of_ble_eq_true rfl⟩) hS (fun q _ h => hFc q h) hFc (fun r39 u t H1 locs ht hvm hw hB hz1 hk1 hS => ?_)
            obtain ⟨u40, rfl⟩ : ∃ z, z = u := ⟨_, rfl⟩
            obtain ⟨hP1, hK1, hD1⟩ := hB
            rw [ht] at hP1
            have hK1 := va_K.moved hvm.symm hK1
            try dsimp only at hw
            obtain ⟨hP, hD⟩ := J_s (wL := [eO h0 9 [.ref q_s, .long v_fees, .ref q_thought, .long v_thoughtFees, .ref q_image, .long v_imageFees, .int v_hasImage, .ref q_tape, .int v_taped, .ref q_texts, .ref q_sizes, .int v_programs, .ref q_imageTexts, .ref q_imageSizes, .int v_imagePrograms, .int u40, .int v_open, .int v_running, .int v_begun, .ref q_held, .ref q_marks, .int v_markMany, .ref q_trace, .int v_traced, .ref q_keptBalances, .ref q_keptFees, .int v_deep, .ref q_way, .ref q_sorts, .ref q_rowMany, .ref q_items, .ref q_moved], eI q_tape k_tape 80 f_tape]) hP hD [(0, 2)] [] hCm hNw (by decide +kernel) hk1 hFc hP1 hD1 rfl
            have hK := KJ_s (tys' := [(k_tape, .int)]) hK hK1 [] rfl
            generalize H1 = H at hP hS ⊢
            rcases hw with ⟨e_r39, f_r39⟩ | ⟨e_r39, f_r39⟩
            · subst e_r39
              rw [hQ9]
              exact W.zret (v := 1) hx hb hr (by decide) (fun t ht hW => ⟨⟨1, (u40, v_open), rfl, Or.inl ⟨rfl, rfl, f_r39.elim fun e9 he9 => ⟨e9, he9.1, it_leaf he9.2⟩⟩, by rw [ht]; exact hP, va_K.moved hW.alike hK, hD⟩, hS.F ht⟩) hS.2.2 dX10_takesItem_46
            · subst e_r39
              rw [hQ9]
              exact W.zret (v := 0) hx hb hr (by decide) (fun t ht hW => ⟨⟨0, (u40, v_open), rfl, Or.inr ⟨rfl, by omega⟩, by rw [ht]; exact hP, va_K.moved hW.alike hK, hD⟩, hS.F ht⟩) hS.2.2 dX10_takesItem_46
        · skip
          have f_c14 := i_eq c14
          refine lv_aload_n hx hb dX10_takesItem_29 rfl (lv_at hl 1 rfl) ?_
          refine lv_iload_n hx hb dX10_takesItem_30 rfl (lv_at hl 0 rfl) ?_
          refine lv_iload_n hx hb dX10_takesItem_31 rfl (lv_at hl 2 rfl) ?_
          obtain ⟨hPc, hDc, hFc, hCm, hNw⟩ := C_s (wc := [eO h0 9 [.ref q_s, .long v_fees, .ref q_thought, .long v_thoughtFees, .ref q_image, .long v_imageFees, .int v_hasImage, .ref q_tape, .int v_taped, .ref q_texts, .ref q_sizes, .int v_programs, .ref q_imageTexts, .ref q_imageSizes, .int v_imagePrograms, .int v_here, .int v_open, .int v_running, .int v_begun, .ref q_held, .ref q_marks, .int v_markMany, .ref q_trace, .int v_traced, .ref q_keptBalances, .ref q_keptFees, .int v_deep, .ref q_way, .ref q_sorts, .ref q_rowMany, .ref q_items, .ref q_moved], eI q_tape k_tape 80 f_tape]) hP hD hS hA [(0, 2)] 2 rfl (by decide +kernel) rfl
          have hKc := K_s (tys' := [(k_tape, .int)]) hK [(0, 1)] rfl
          refine va_calli (va_runV (As := [.int r1, .int p0]) (rest := []) ⟨hx, hb, hml, hown, hts⟩ (c_X10_takesBracket l dC dI h0 r1 p0 q_s v_fees q_thought v_thoughtFees q_image v_imageFees v_hasImage q_tape v_taped q_texts q_sizes v_programs q_imageTexts q_imageSizes v_imagePrograms v_here v_open v_running v_begun q_held q_marks v_markMany q_trace v_traced q_keptBalances q_keptFees v_deep q_way q_sorts q_rowMany q_items q_moved k_tape f_tape kk n9 nd H.size hh htn hn80 hkk hop1 hop (by first | assumption | omega) (by first | assumption | omega) (by first | assumption | omega) iht) (cwV 2 hts gX10_takesItem_X10_takesBracket rfl rfl rfl (by decide +kernel) ⟨(show (5 * nd + 9) + 1 ≤ 5 * nd + 10 by omega), (show 8 + (5 + 11) + (200 * nd + 150) ≤ 200 * nd + 200 by omega)⟩) ⟨fun a U g mk q => by obtain ⟨q0, q1, qP, qK, qD⟩ := q; exact ⟨q0, q1, qP, va_K.moved (u := U) (U := U.calling g mk a) (Vm.Alike.refl U.vm) qK, qD⟩, va_recv (s := s) (q := (RX10, TX10, 32)) hKc hPc (ci := 9) (q0 := 0) rfl rfl, fun U hU hW => ⟨rfl, by rw [hU], by rw [hU]; exact hPc, va_K.moved hW.alike hKc, hDc.weaken (fun _ _ _ _ => trivial)⟩⟩ rfl rfl hl.1 rfl (lv_room (Nat.le_of_ble_eq_true rfl)) dX10_takesItem_32 ⟨Nat.le_of_ble_eq_true rfl, Nat.le_of_ble_eq_true rfl⟩) hS (fun q _ h => hFc q h) hFc (fun r41 u t H1 locs ht hvm hw hB hz1 hk1 hS => ?_)
          obtain ⟨u42, u43⟩ := u
          obtain ⟨hP1, hK1, hD1⟩ := hB
          rw [ht] at hP1
          have hK1 := va_K.moved hvm.symm hK1
          try dsimp only at hw
          obtain ⟨hP, hD⟩ := J_s (wL := [eO h0 9 [.ref q_s, .long v_fees, .ref q_thought, .long v_thoughtFees, .ref q_image, .long v_imageFees, .int v_hasImage, .ref q_tape, .int v_taped, .ref q_texts, .ref q_sizes, .int v_programs, .ref q_imageTexts, .ref q_imageSizes, .int v_imagePrograms, .int u42, .int u43, .int v_running, .int v_begun, .ref q_held, .ref q_marks, .int v_markMany, .ref q_trace, .int v_traced, .ref q_keptBalances, .ref q_keptFees, .int v_deep, .ref q_way, .ref q_sorts, .ref q_rowMany, .ref q_items, .ref q_moved], eI q_tape k_tape 80 f_tape]) hP hD [(0, 2)] [] hCm hNw (by decide +kernel) hk1 hFc hP1 hD1 rfl
          have hK := KJ_s (tys' := [(k_tape, .int)]) hK hK1 [] rfl
          generalize H1 = H at hP hS ⊢
          rcases hw with ⟨e_r41, f_r41⟩ | ⟨e_r41, f_r41⟩
          · subst e_r41
            rw [hQ9]
            exact W.zret (v := 1) hx hb hr (by decide) (fun t ht hW => ⟨⟨1, (u42, u43), rfl, Or.inl ⟨rfl, f_r41⟩, by rw [ht]; exact hP, va_K.moved hW.alike hK, hD⟩, hS.F ht⟩) hS.2.2 dX10_takesItem_35
          · subst e_r41
            rw [hQ9]
            exact W.zret (v := 0) hx hb hr (by decide) (fun t ht hW => ⟨⟨0, (u42, u43), rfl, Or.inr ⟨rfl, by omega⟩, by rw [ht]; exact hP, va_K.moved hW.alike hK, hD⟩, hS.F ht⟩) hS.2.2 dX10_takesItem_35

theorem kt_all (l : Launch) (dC : Nat → ClassId) (dI : Nat → Nat → Nat) : ∀ nd : Nat, KT l dC dI nd := by
  intro nd
  induction nd with
  | zero => intro h0 p0 q_s v_fees q_thought v_thoughtFees q_image v_imageFees v_hasImage q_tape v_taped q_texts q_sizes v_programs q_imageTexts q_imageSizes v_imagePrograms v_here v_open v_running v_begun q_held q_marks v_markMany q_trace v_traced q_keptBalances q_keptFees v_deep q_way q_sorts q_rowMany q_items q_moved k_tape f_tape kk n9 sz hh htn hn80 hkk hop1 hop; exact c_X10_takesItem l dC dI h0 p0 q_s v_fees q_thought v_thoughtFees q_image v_imageFees v_hasImage q_tape v_taped q_texts q_sizes v_programs q_imageTexts q_imageSizes v_imagePrograms v_here v_open v_running v_begun q_held q_marks v_markMany q_trace v_traced q_keptBalances q_keptFees v_deep q_way q_sorts q_rowMany q_items q_moved k_tape f_tape kk n9 0 sz hh htn hn80 hkk hop1 hop (fun m hm => absurd hm (by omega))
  | succ nd ih => intro h0 p0 q_s v_fees q_thought v_thoughtFees q_image v_imageFees v_hasImage q_tape v_taped q_texts q_sizes v_programs q_imageTexts q_imageSizes v_imagePrograms v_here v_open v_running v_begun q_held q_marks v_markMany q_trace v_traced q_keptBalances q_keptFees v_deep q_way q_sorts q_rowMany q_items q_moved k_tape f_tape kk n9 sz hh htn hn80 hkk hop1 hop; exact c_X10_takesItem l dC dI h0 p0 q_s v_fees q_thought v_thoughtFees q_image v_imageFees v_hasImage q_tape v_taped q_texts q_sizes v_programs q_imageTexts q_imageSizes v_imagePrograms v_here v_open v_running v_begun q_held q_marks v_markMany q_trace v_traced q_keptBalances q_keptFees v_deep q_way q_sorts q_rowMany q_items q_moved k_tape f_tape kk n9 (nd + 1) sz hh htn hn80 hkk hop1 hop (fun m hm => by have e : m = nd := (by omega); rw [e]; exact ih)
