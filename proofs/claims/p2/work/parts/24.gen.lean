set_option maxRecDepth 100000 in
def KB (l : Launch) (dC : Nat → ClassId) (dI : Nat → Nat → Nat) (nd : Nat) : Prop := ∀ (h0 : Nat) (p0 : Int32) (q_s : Nat) (v_fees : Int64) (q_thought : Nat) (v_thoughtFees : Int64) (q_image : Nat) (v_imageFees : Int64) (v_hasImage : Int32) (q_tape : Nat) (v_taped : Int32) (q_texts : Nat) (q_sizes : Nat) (v_programs : Int32) (q_imageTexts : Nat) (q_imageSizes : Nat) (v_imagePrograms : Int32) (v_here : Int32) (v_open : Int32) (v_running : Int32) (v_begun : Int32) (q_held : Nat) (q_marks : Nat) (v_markMany : Int32) (q_trace : Nat) (v_traced : Int32) (q_keptBalances : Nat) (q_keptFees : Nat) (v_deep : Int32) (q_way : Nat) (q_sorts : Nat) (q_rowMany : Nat) (q_items : Nat) (q_moved : Nat) (k_texts : ClassId) (f_texts : Nat → Int32) (k_sizes : ClassId) (f_sizes : Nat → Int32) (rp : Nat) (n9 : Nat) (kk : Nat) (ee : Nat) (sz : Nat) (hrp : v_running.toInt = (rp : Int)) (hrp3 : rp ≤ 3) (hn : (f_sizes rp).toInt = (n9 : Int)) (hn80 : n9 ≤ 80) (hk : p0.toInt = (kk : Int)) (hit : It (tr f_texts rp) n9 nd kk ee), Met l yX10_behind wsX10_behind ({ frames := 3 * nd + 6, cells := 0, slots := 0, locals := 100 * nd + 100 }) (va_Pc [.ref h0, .int p0] (fun U => U.heap.size = sz ∧ va_P (dC, dI) vwCl [eO h0 9 [.ref q_s, .long v_fees, .ref q_thought, .long v_thoughtFees, .ref q_image, .long v_imageFees, .int v_hasImage, .ref q_tape, .int v_taped, .ref q_texts, .ref q_sizes, .int v_programs, .ref q_imageTexts, .ref q_imageSizes, .int v_imagePrograms, .int v_here, .int v_open, .int v_running, .int v_begun, .ref q_held, .ref q_marks, .int v_markMany, .ref q_trace, .int v_traced, .ref q_keptBalances, .ref q_keptFees, .int v_deep, .ref q_way, .ref q_sorts, .ref q_rowMany, .ref q_items, .ref q_moved], eI q_texts k_texts 320 f_texts, eI q_sizes k_sizes 4 f_sizes] U.heap ∧ va_K (dC, dI) vwCl [(k_texts, .int), (k_sizes, .int)] U ∧ va_D (fun _ => True) [eO h0 9 [.ref q_s, .long v_fees, .ref q_thought, .long v_thoughtFees, .ref q_image, .long v_imageFees, .int v_hasImage, .ref q_tape, .int v_taped, .ref q_texts, .ref q_sizes, .int v_programs, .ref q_imageTexts, .ref q_imageSizes, .int v_imagePrograms, .int v_here, .int v_open, .int v_running, .int v_begun, .ref q_held, .ref q_marks, .int v_markMany, .ref q_trace, .int v_traced, .ref q_keptBalances, .ref q_keptFees, .int v_deep, .ref q_way, .ref q_sorts, .ref q_rowMany, .ref q_items, .ref q_moved], eI q_texts k_texts 320 f_texts, eI q_sizes k_sizes 4 f_sizes])) (va_Qi (fun (r : Int32) (_ : Unit) => r.toInt = (ee : Int)) (fun (_ : Unit) (t : State) => va_P (dC, dI) vwCl [eO h0 9 [.ref q_s, .long v_fees, .ref q_thought, .long v_thoughtFees, .ref q_image, .long v_imageFees, .int v_hasImage, .ref q_tape, .int v_taped, .ref q_texts, .ref q_sizes, .int v_programs, .ref q_imageTexts, .ref q_imageSizes, .int v_imagePrograms, .int v_here, .int v_open, .int v_running, .int v_begun, .ref q_held, .ref q_marks, .int v_markMany, .ref q_trace, .int v_traced, .ref q_keptBalances, .ref q_keptFees, .int v_deep, .ref q_way, .ref q_sorts, .ref q_rowMany, .ref q_items, .ref q_moved], eI q_texts k_texts 320 f_texts, eI q_sizes k_sizes 4 f_sizes] t.heap ∧ va_K (dC, dI) vwCl [(k_texts, .int), (k_sizes, .int)] t ∧ va_D (va_A [eO h0 9 [.ref q_s, .long v_fees, .ref q_thought, .long v_thoughtFees, .ref q_image, .long v_imageFees, .int v_hasImage, .ref q_tape, .int v_taped, .ref q_texts, .ref q_sizes, .int v_programs, .ref q_imageTexts, .ref q_imageSizes, .int v_imagePrograms, .int v_here, .int v_open, .int v_running, .int v_begun, .ref q_held, .ref q_marks, .int v_markMany, .ref q_trace, .int v_traced, .ref q_keptBalances, .ref q_keptFees, .int v_deep, .ref q_way, .ref q_sorts, .ref q_rowMany, .ref q_items, .ref q_moved], eI q_texts k_texts 320 f_texts, eI q_sizes k_sizes 4 f_sizes] sz) [eO h0 9 [.ref q_s, .long v_fees, .ref q_thought, .long v_thoughtFees, .ref q_image, .long v_imageFees, .int v_hasImage, .ref q_tape, .int v_taped, .ref q_texts, .ref q_sizes, .int v_programs, .ref q_imageTexts, .ref q_imageSizes, .int v_imagePrograms, .int v_here, .int v_open, .int v_running, .int v_begun, .ref q_held, .ref q_marks, .int v_markMany, .ref q_trace, .int v_traced, .ref q_keptBalances, .ref q_keptFees, .int v_deep, .ref q_way, .ref q_sorts, .ref q_rowMany, .ref q_items, .ref q_moved], eI q_texts k_texts 320 f_texts, eI q_sizes k_sizes 4 f_sizes]) (va_A [eO h0 9 [.ref q_s, .long v_fees, .ref q_thought, .long v_thoughtFees, .ref q_image, .long v_imageFees, .int v_hasImage, .ref q_tape, .int v_taped, .ref q_texts, .ref q_sizes, .int v_programs, .ref q_imageTexts, .ref q_imageSizes, .int v_imagePrograms, .int v_here, .int v_open, .int v_running, .int v_begun, .ref q_held, .ref q_marks, .int v_markMany, .ref q_trace, .int v_traced, .ref q_keptBalances, .ref q_keptFees, .int v_deep, .ref q_way, .ref q_sorts, .ref q_rowMany, .ref q_items, .ref q_moved], eI q_texts k_texts 320 f_texts, eI q_sizes k_sizes 4 f_sizes] sz)) 0 0 (va_A [eO h0 9 [.ref q_s, .long v_fees, .ref q_thought, .long v_thoughtFees, .ref q_image, .long v_imageFees, .int v_hasImage, .ref q_tape, .int v_taped, .ref q_texts, .ref q_sizes, .int v_programs, .ref q_imageTexts, .ref q_imageSizes, .int v_imagePrograms, .int v_here, .int v_open, .int v_running, .int v_begun, .ref q_held, .ref q_marks, .int v_markMany, .ref q_trace, .int v_traced, .ref q_keptBalances, .ref q_keptFees, .int v_deep, .ref q_way, .ref q_sorts, .ref q_rowMany, .ref q_items, .ref q_moved], eI q_texts k_texts 320 f_texts, eI q_sizes k_sizes 4 f_sizes] sz)

set_option maxRecDepth 100000 in
set_option maxHeartbeats 4000000 in
/-- behind of the reference -/
theorem c_X10_behind (l : Launch) (dC : Nat → ClassId) (dI : Nat → Nat → Nat) (h0 : Nat) (p0 : Int32) (q_s : Nat) (v_fees : Int64) (q_thought : Nat) (v_thoughtFees : Int64) (q_image : Nat) (v_imageFees : Int64) (v_hasImage : Int32) (q_tape : Nat) (v_taped : Int32) (q_texts : Nat) (q_sizes : Nat) (v_programs : Int32) (q_imageTexts : Nat) (q_imageSizes : Nat) (v_imagePrograms : Int32) (v_here : Int32) (v_open : Int32) (v_running : Int32) (v_begun : Int32) (q_held : Nat) (q_marks : Nat) (v_markMany : Int32) (q_trace : Nat) (v_traced : Int32) (q_keptBalances : Nat) (q_keptFees : Nat) (v_deep : Int32) (q_way : Nat) (q_sorts : Nat) (q_rowMany : Nat) (q_items : Nat) (q_moved : Nat) (k_texts : ClassId) (f_texts : Nat → Int32) (k_sizes : ClassId) (f_sizes : Nat → Int32) (rp : Nat) (n9 : Nat) (kk : Nat) (ee : Nat) (nd : Nat) (sz : Nat) (hrp : v_running.toInt = (rp : Int)) (hrp3 : rp ≤ 3) (hn : (f_sizes rp).toInt = (n9 : Int)) (hn80 : n9 ≤ 80) (hk : p0.toInt = (kk : Int)) (hit : It (tr f_texts rp) n9 nd kk ee) (ihb : ∀ m : Nat, m + 1 = nd → KB l dC dI m) : Met l yX10_behind wsX10_behind ({ frames := 3 * nd + 6, cells := 0, slots := 0, locals := 100 * nd + 100 }) (va_Pc [.ref h0, .int p0] (fun U => U.heap.size = sz ∧ va_P (dC, dI) vwCl [eO h0 9 [.ref q_s, .long v_fees, .ref q_thought, .long v_thoughtFees, .ref q_image, .long v_imageFees, .int v_hasImage, .ref q_tape, .int v_taped, .ref q_texts, .ref q_sizes, .int v_programs, .ref q_imageTexts, .ref q_imageSizes, .int v_imagePrograms, .int v_here, .int v_open, .int v_running, .int v_begun, .ref q_held, .ref q_marks, .int v_markMany, .ref q_trace, .int v_traced, .ref q_keptBalances, .ref q_keptFees, .int v_deep, .ref q_way, .ref q_sorts, .ref q_rowMany, .ref q_items, .ref q_moved], eI q_texts k_texts 320 f_texts, eI q_sizes k_sizes 4 f_sizes] U.heap ∧ va_K (dC, dI) vwCl [(k_texts, .int), (k_sizes, .int)] U ∧ va_D (fun _ => True) [eO h0 9 [.ref q_s, .long v_fees, .ref q_thought, .long v_thoughtFees, .ref q_image, .long v_imageFees, .int v_hasImage, .ref q_tape, .int v_taped, .ref q_texts, .ref q_sizes, .int v_programs, .ref q_imageTexts, .ref q_imageSizes, .int v_imagePrograms, .int v_here, .int v_open, .int v_running, .int v_begun, .ref q_held, .ref q_marks, .int v_markMany, .ref q_trace, .int v_traced, .ref q_keptBalances, .ref q_keptFees, .int v_deep, .ref q_way, .ref q_sorts, .ref q_rowMany, .ref q_items, .ref q_moved], eI q_texts k_texts 320 f_texts, eI q_sizes k_sizes 4 f_sizes])) (va_Qi (fun (r : Int32) (_ : Unit) => r.toInt = (ee : Int)) (fun (_ : Unit) (t : State) => va_P (dC, dI) vwCl [eO h0 9 [.ref q_s, .long v_fees, .ref q_thought, .long v_thoughtFees, .ref q_image, .long v_imageFees, .int v_hasImage, .ref q_tape, .int v_taped, .ref q_texts, .ref q_sizes, .int v_programs, .ref q_imageTexts, .ref q_imageSizes, .int v_imagePrograms, .int v_here, .int v_open, .int v_running, .int v_begun, .ref q_held, .ref q_marks, .int v_markMany, .ref q_trace, .int v_traced, .ref q_keptBalances, .ref q_keptFees, .int v_deep, .ref q_way, .ref q_sorts, .ref q_rowMany, .ref q_items, .ref q_moved], eI q_texts k_texts 320 f_texts, eI q_sizes k_sizes 4 f_sizes] t.heap ∧ va_K (dC, dI) vwCl [(k_texts, .int), (k_sizes, .int)] t ∧ va_D (va_A [eO h0 9 [.ref q_s, .long v_fees, .ref q_thought, .long v_thoughtFees, .ref q_image, .long v_imageFees, .int v_hasImage, .ref q_tape, .int v_taped, .ref q_texts, .ref q_sizes, .int v_programs, .ref q_imageTexts, .ref q_imageSizes, .int v_imagePrograms, .int v_here, .int v_open, .int v_running, .int v_begun, .ref q_held, .ref q_marks, .int v_markMany, .ref q_trace, .int v_traced, .ref q_keptBalances, .ref q_keptFees, .int v_deep, .ref q_way, .ref q_sorts, .ref q_rowMany, .ref q_items, .ref q_moved], eI q_texts k_texts 320 f_texts, eI q_sizes k_sizes 4 f_sizes] sz) [eO h0 9 [.ref q_s, .long v_fees, .ref q_thought, .long v_thoughtFees, .ref q_image, .long v_imageFees, .int v_hasImage, .ref q_tape, .int v_taped, .ref q_texts, .ref q_sizes, .int v_programs, .ref q_imageTexts, .ref q_imageSizes, .int v_imagePrograms, .int v_here, .int v_open, .int v_running, .int v_begun, .ref q_held, .ref q_marks, .int v_markMany, .ref q_trace, .int v_traced, .ref q_keptBalances, .ref q_keptFees, .int v_deep, .ref q_way, .ref q_sorts, .ref q_rowMany, .ref q_items, .ref q_moved], eI q_texts k_texts 320 f_texts, eI q_sizes k_sizes 4 f_sizes]) (va_A [eO h0 9 [.ref q_s, .long v_fees, .ref q_thought, .long v_thoughtFees, .ref q_image, .long v_imageFees, .int v_hasImage, .ref q_tape, .int v_taped, .ref q_texts, .ref q_sizes, .int v_programs, .ref q_imageTexts, .ref q_imageSizes, .int v_imagePrograms, .int v_here, .int v_open, .int v_running, .int v_begun, .ref q_held, .ref q_marks, .int v_markMany, .ref q_trace, .int v_traced, .ref q_keptBalances, .ref q_keptFees, .int v_deep, .ref q_way, .ref q_sorts, .ref q_rowMany, .ref q_items, .ref q_moved], eI q_texts k_texts 320 f_texts, eI q_sizes k_sizes 4 f_sizes] sz)) 0 0 (va_A [eO h0 9 [.ref q_s, .long v_fees, .ref q_thought, .long v_thoughtFees, .ref q_image, .long v_imageFees, .int v_hasImage, .ref q_tape, .int v_taped, .ref q_texts, .ref q_sizes, .int v_programs, .ref q_imageTexts, .ref q_imageSizes, .int v_imagePrograms, .int v_here, .int v_open, .int v_running, .int v_begun, .ref q_held, .ref q_marks, .int v_markMany, .ref q_trace, .int v_traced, .ref q_keptBalances, .ref q_keptFees, .int v_deep, .ref q_way, .ref q_sorts, .ref q_rowMany, .ref q_items, .ref q_moved], eI q_texts k_texts 320 f_texts, eI q_sizes k_sizes 4 f_sizes] sz) := by
  refine Met.ofW (cc := cX10_behind) (maxL := 4) (ret := (some .int)) (by decide) rfl ?_
  intro p e s m args below meth c s₁ B hml hv
  obtain ⟨rfl, hsz, hP, hK, hD0⟩ := hv
  have hx := B.exec
  have hb := B.bytes
  have hr := B.returns
  have hts := atoms_spec (ws := wsX10_behind) B.pre
  have hown : s.vm.findClass RX10 = some m.cls := findClass_of_methodNamed B.named
  have hlocks := B.notSynchronized
  subst hsz
  have hD := hD0.self (sz := s.heap.size)
  generalize hAe : va_A [eO h0 9 [.ref q_s, .long v_fees, .ref q_thought, .long v_thoughtFees, .ref q_image, .long v_imageFees, .int v_hasImage, .ref q_tape, .int v_taped, .ref q_texts, .ref q_sizes, .int v_programs, .ref q_imageTexts, .ref q_imageSizes, .int v_imagePrograms, .int v_here, .int v_open, .int v_running, .int v_begun, .ref q_held, .ref q_marks, .int v_markMany, .ref q_trace, .int v_traced, .ref q_keptBalances, .ref q_keptFees, .int v_deep, .ref q_way, .ref q_sorts, .ref q_rowMany, .ref q_items, .ref q_moved], eI q_texts k_texts 320 f_texts, eI q_sizes k_sizes 4 f_sizes] s.heap.size = A at hD ⊢
  have hA : ∀ q : Nat, s.heap.size ≤ q → A q := fun q h => by rw [← hAe]; exact Or.inr h
  have hS : va_S A s.heap s.heap [] := va_S.rf
  have hP : va_P (dC, dI) vwCl [eO h0 9 [.ref q_s, .long v_fees, .ref q_thought, .long v_thoughtFees, .ref q_image, .long v_imageFees, .int v_hasImage, .ref q_tape, .int v_taped, .ref q_texts, .ref q_sizes, .int v_programs, .ref q_imageTexts, .ref q_imageSizes, .int v_imagePrograms, .int v_here, .int v_open, .int v_running, .int v_begun, .ref q_held, .ref q_marks, .int v_markMany, .ref q_trace, .int v_traced, .ref q_keptBalances, .ref q_keptFees, .int v_deep, .ref q_way, .ref q_sorts, .ref q_rowMany, .ref q_items, .ref q_moved], eI q_texts k_texts 320 f_texts, eI q_sizes k_sizes 4 f_sizes] s.heap := hP
  have hl := lv_entry ([.ref h0, .int p0]) (n := 4) (Nat.le_of_ble_eq_true rfl)
  rw [lg_entry_eq]
  generalize (lg_sl ([.ref h0, .int p0]) ++ List.replicate (4 - (lg_sl ([.ref h0, .int p0])).length) Slot.unset).toArray = ls at hl ⊢
  have hl : lv_has ls 4 [(0, .ref h0), (1, .int p0)] := hl
  suffices key9 : ∀ Q9 : State → Prop, Q9 = (MQ below (va_Qi (fun (r : Int32) (_ : Unit) => r.toInt = (ee : Int)) (fun (_ : Unit) (t : State) => va_P (dC, dI) vwCl [eO h0 9 [.ref q_s, .long v_fees, .ref q_thought, .long v_thoughtFees, .ref q_image, .long v_imageFees, .int v_hasImage, .ref q_tape, .int v_taped, .ref q_texts, .ref q_sizes, .int v_programs, .ref q_imageTexts, .ref q_imageSizes, .int v_imagePrograms, .int v_here, .int v_open, .int v_running, .int v_begun, .ref q_held, .ref q_marks, .int v_markMany, .ref q_trace, .int v_traced, .ref q_keptBalances, .ref q_keptFees, .int v_deep, .ref q_way, .ref q_sorts, .ref q_rowMany, .ref q_items, .ref q_moved], eI q_texts k_texts 320 f_texts, eI q_sizes k_sizes 4 f_sizes] t.heap ∧ va_K (dC, dI) vwCl [(k_texts, .int), (k_sizes, .int)] t ∧ va_D A [eO h0 9 [.ref q_s, .long v_fees, .ref q_thought, .long v_thoughtFees, .ref q_image, .long v_imageFees, .int v_hasImage, .ref q_tape, .int v_taped, .ref q_texts, .ref q_sizes, .int v_programs, .ref q_imageTexts, .ref q_imageSizes, .int v_imagePrograms, .int v_here, .int v_open, .int v_running, .int v_begun, .ref q_held, .ref q_marks, .int v_markMany, .ref q_trace, .int v_traced, .ref q_keptBalances, .ref q_keptFees, .int v_deep, .ref q_way, .ref q_sorts, .ref q_rowMany, .ref q_items, .ref q_moved], eI q_texts k_texts 320 f_texts, eI q_sizes k_sizes 4 f_sizes]) A) (([.ref h0, .int p0] : List Value).toArray) s 0 0 A) → W p l e ({ frames := 3 * nd + 6, cells := 0, slots := 0, locals := 100 * nd + 100 }) s m (([.ref h0, .int p0] : List Value).toArray) below meth c s.heap [] 0 0 Q9 (F0 m 0 ls []) from key9 _ rfl
  intro Q9 hQ9
  have k_1 : (1 : Int32).toInt = 1 := by decide
  have k_2 : (2 : Int32).toInt = 2 := by decide
  have k_4 : (4 : Int32).toInt = 4 := by decide
  have k_7 : (7 : Int32).toInt = 7 := by decide
  have k_97 : (97 : Int32).toInt = 97 := by decide
  have k_98 : (98 : Int32).toInt = 98 := by decide
  have k_99 : (99 : Int32).toInt = 99 := by decide
  have k_110 : (110 : Int32).toInt = 110 := by decide
  have k_112 : (112 : Int32).toInt = 112 := by decide
  have k_120 : (120 : Int32).toInt = 120 := by decide
  have kl_48 : (48 : Int64).toInt = 48 := by decide
  have kl_57 : (57 : Int64).toInt = 57 := by decide
  have hlt := it_lt nd kk ee hit
  have hcl := it_ncl hit
  refine lv_aload_n hx hb dX10_behind_0 rfl (lv_at hl 0 rfl) ?_
  refine lv_iload_n hx hb dX10_behind_1 rfl (lv_at hl 1 rfl) ?_
  obtain ⟨hPc, hDc, hFc, hCm, hNw⟩ := C_s (wc := [eO h0 9 [.ref q_s, .long v_fees, .ref q_thought, .long v_thoughtFees, .ref q_image, .long v_imageFees, .int v_hasImage, .ref q_tape, .int v_taped, .ref q_texts, .ref q_sizes, .int v_programs, .ref q_imageTexts, .ref q_imageSizes, .int v_imagePrograms, .int v_here, .int v_open, .int v_running, .int v_begun, .ref q_held, .ref q_marks, .int v_markMany, .ref q_trace, .int v_traced, .ref q_keptBalances, .ref q_keptFees, .int v_deep, .ref q_way, .ref q_sorts, .ref q_rowMany, .ref q_items, .ref q_moved], eI q_texts k_texts 320 f_texts]) hP hD hS hA [(0, 2)] 3 rfl (by decide +kernel) rfl
  have hKc := K_s (tys' := [(k_texts, .int)]) hK [(0, 1)] rfl
  refine va_calli (va_runV (As := [.int p0]) (rest := []) ⟨hx, hb, hml, hown, hts⟩ (c_X10_signAt l dC dI h0 p0 q_s v_fees q_thought v_thoughtFees q_image v_imageFees v_hasImage q_tape v_taped q_texts q_sizes v_programs q_imageTexts q_imageSizes v_imagePrograms v_here v_open v_running v_begun q_held q_marks v_markMany q_trace v_traced q_keptBalances q_keptFees v_deep q_way q_sorts q_rowMany q_items q_moved k_texts f_texts rp kk s.heap.size hrp hrp3 hk (by first | assumption | omega)) (cwV 1 hts gX10_behind_X10_signAt rfl rfl rfl (by decide +kernel) ⟨(show (0) + 1 ≤ 3 * nd + 6 by omega), (show 8 + (2 + 11) + (0) ≤ 100 * nd + 100 by omega)⟩) ⟨fun a U g mk q => by obtain ⟨q0, q1, qP, qK, qD⟩ := q; exact ⟨q0, q1, qP, va_K.moved (u := U) (U := U.calling g mk a) (Vm.Alike.refl U.vm) qK, qD⟩, va_recv (s := s) (q := (RX10, TX10, 32)) hKc hPc (ci := 9) (q0 := 0) rfl rfl, fun U hU hW => ⟨rfl, by rw [hU], by rw [hU]; exact hPc, va_K.moved hW.alike hKc, hDc.weaken (fun _ _ _ _ => trivial)⟩⟩ rfl rfl hl.1 rfl (lv_room (Nat.le_of_ble_eq_true rfl)) dX10_behind_2 ⟨Nat.le_of_ble_eq_true rfl, Nat.le_of_ble_eq_true rfl⟩) hS (fun q _ h => hFc q h) hFc (fun r1 u t H1 locs ht hvm hw hB hz1 hk1 hS => ?_)
  obtain ⟨hP1, hK1, hD1⟩ := hB
  rw [ht] at hP1
  have hK1 := va_K.moved hvm.symm hK1
  try dsimp only at hw
  obtain ⟨hP, hD⟩ := J_s (wL := [eI q_sizes k_sizes 4 f_sizes, eO h0 9 [.ref q_s, .long v_fees, .ref q_thought, .long v_thoughtFees, .ref q_image, .long v_imageFees, .int v_hasImage, .ref q_tape, .int v_taped, .ref q_texts, .ref q_sizes, .int v_programs, .ref q_imageTexts, .ref q_imageSizes, .int v_imagePrograms, .int v_here, .int v_open, .int v_running, .int v_begun, .ref q_held, .ref q_marks, .int v_markMany, .ref q_trace, .int v_traced, .ref q_keptBalances, .ref q_keptFees, .int v_deep, .ref q_way, .ref q_sorts, .ref q_rowMany, .ref q_items, .ref q_moved], eI q_texts k_texts 320 f_texts]) hP hD [(0, 2)] [(2, 1)] hCm hNw (by decide +kernel) hk1 hFc hP1 hD1 rfl
  have hK := KJ_s (tys' := [(k_sizes, .int), (k_texts, .int)]) hK hK1 [(1, 1)] rfl
  generalize H1 = H at hP hS ⊢
  have h_r1 := hw
  have t_r1 := i_eq hw
  refine lv_istore_n (lv' := [(2, .int r1), (0, .ref h0), (1, .int p0)]) hx hb dX10_behind_5 rfl hl (by decide) rfl (fun ls hl => ?_)
  refine lv_iload_n hx hb dX10_behind_6 rfl (lv_at hl 0 rfl) ?_
  refine lv_bipush (v := 112) hx hb dX10_behind_7 (by decide) ?_
  refine lv_icmp_ne (tgt := 63) hx hb dX10_behind_9 (by decide) (fun c2 => ?_) (fun c2 => ?_)
  · skip
    have f_c2 := i_ne c2
    refine lv_iload_n hx hb dX10_behind_63 rfl (lv_at hl 0 rfl) ?_
    refine lv_bipush (v := 110) hx hb dX10_behind_64 (by decide) ?_
    refine lv_icmp_eq (tgt := 75) hx hb dX10_behind_66 (by decide) (fun c3 => ?_) (fun c3 => ?_)
    · skip
      have f_c3 := i_eq c3
      have ie := it_n hit (by omega)
      refine lv_iload_n hx hb dX10_behind_75 rfl (lv_at hl 2 rfl) ?_
      refine lv_iconst (v := 2) hx hb dX10_behind_76 (by decide) ?_
      refine lv_iadd hx hb dX10_behind_77 ?_
      refine lv_topi (fun z4 e_z4 => ?_)
      (first | have t_z4 := i_add e_z4 (by omega) (by omega) | skip)
      rw [hQ9]
      exact W.iret (v := z4) hx hb hr (fun t ht hW => ⟨⟨z4, (), rfl, (by omega), by rw [ht]; exact P_s hP [(1, 2), (0, 1)] rfl, va_K.moved hW.alike (K_s hK [(1, 1), (0, 1)] rfl), D_s hD [(1, 2), (0, 1)] 3 rfl (by decide +kernel) rfl⟩, hS.F ht⟩) hS.2.2 dX10_behind_78
    · skip
      have f_c3 := i_ne c3
      refine lv_iload_n hx hb dX10_behind_69 rfl (lv_at hl 0 rfl) ?_
      refine lv_bipush (v := 97) hx hb dX10_behind_70 (by decide) ?_
      refine lv_icmp_ne (tgt := 79) hx hb dX10_behind_72 (by decide) (fun c5 => ?_) (fun c5 => ?_)
      · skip
        have f_c5 := i_ne c5
        refine lv_iload_n hx hb dX10_behind_79 rfl (lv_at hl 0 rfl) ?_
        refine lv_bipush (v := 120) hx hb dX10_behind_80 (by decide) ?_
        refine lv_icmp_eq (tgt := 97) hx hb dX10_behind_82 (by decide) (fun c6 => ?_) (fun c6 => ?_)
        · skip
          have f_c6 := i_eq c6
          have ie := it_x hit (by omega)
          refine lv_iload_n hx hb dX10_behind_97 rfl (lv_at hl 2 rfl) ?_
          refine lv_iconst (v := 1) hx hb dX10_behind_98 (by decide) ?_
          refine lv_iadd hx hb dX10_behind_99 ?_
          refine lv_topi (fun z7 e_z7 => ?_)
          (first | have t_z7 := i_add e_z7 (by omega) (by omega) | skip)
          rw [hQ9]
          exact W.iret (v := z7) hx hb hr (fun t ht hW => ⟨⟨z7, (), rfl, (by omega), by rw [ht]; exact P_s hP [(1, 2), (0, 1)] rfl, va_K.moved hW.alike (K_s hK [(1, 1), (0, 1)] rfl), D_s hD [(1, 2), (0, 1)] 3 rfl (by decide +kernel) rfl⟩, hS.F ht⟩) hS.2.2 dX10_behind_100
        · skip
          have f_c6 := i_ne c6
          refine lv_iload_n hx hb dX10_behind_85 rfl (lv_at hl 0 rfl) ?_
          refine lv_bipush (v := 98) hx hb dX10_behind_86 (by decide) ?_
          refine lv_icmp_eq (tgt := 97) hx hb dX10_behind_88 (by decide) (fun c8 => ?_) (fun c8 => ?_)
          · skip
            have f_c8 := i_eq c8
            have ie := it_x hit (by omega)
            refine lv_iload_n hx hb dX10_behind_97 rfl (lv_at hl 2 rfl) ?_
            refine lv_iconst (v := 1) hx hb dX10_behind_98 (by decide) ?_
            refine lv_iadd hx hb dX10_behind_99 ?_
            refine lv_topi (fun z9 e_z9 => ?_)
            (first | have t_z9 := i_add e_z9 (by omega) (by omega) | skip)
            rw [hQ9]
            exact W.iret (v := z9) hx hb hr (fun t ht hW => ⟨⟨z9, (), rfl, (by omega), by rw [ht]; exact P_s hP [(1, 2), (0, 1)] rfl, va_K.moved hW.alike (K_s hK [(1, 1), (0, 1)] rfl), D_s hD [(1, 2), (0, 1)] 3 rfl (by decide +kernel) rfl⟩, hS.F ht⟩) hS.2.2 dX10_behind_100
          · skip
            have f_c8 := i_ne c8
            refine lv_iload_n hx hb dX10_behind_91 rfl (lv_at hl 0 rfl) ?_
            refine lv_bipush (v := 99) hx hb dX10_behind_92 (by decide) ?_
            refine lv_icmp_ne (tgt := 101) hx hb dX10_behind_94 (by decide) (fun c10 => ?_) (fun c10 => ?_)
            · skip
              have f_c10 := i_ne c10
              obtain ⟨m9, a9, c9, hm9, ho9, hs9, h19, hn9, ha9, hz9⟩ := it_o hit (by omega)
              have ih_m := ihb m9 hm9
              refine lv_aload_n hx hb dX10_behind_101 rfl (lv_at hl 1 rfl) ?_
              refine lv_iload_n hx hb dX10_behind_102 rfl (lv_at hl 2 rfl) ?_
              obtain ⟨hPc, hDc, hFc, hCm, hNw⟩ := C_s (wc := [eO h0 9 [.ref q_s, .long v_fees, .ref q_thought, .long v_thoughtFees, .ref q_image, .long v_imageFees, .int v_hasImage, .ref q_tape, .int v_taped, .ref q_texts, .ref q_sizes, .int v_programs, .ref q_imageTexts, .ref q_imageSizes, .int v_imagePrograms, .int v_here, .int v_open, .int v_running, .int v_begun, .ref q_held, .ref q_marks, .int v_markMany, .ref q_trace, .int v_traced, .ref q_keptBalances, .ref q_keptFees, .int v_deep, .ref q_way, .ref q_sorts, .ref q_rowMany, .ref q_items, .ref q_moved], eI q_texts k_texts 320 f_texts]) hP hD hS hA [(1, 2)] 3 rfl (by decide +kernel) rfl
              have hKc := K_s (tys' := [(k_texts, .int)]) hK [(1, 1)] rfl
              refine va_calli (va_runV (As := [.int p0]) (rest := []) ⟨hx, hb, hml, hown, hts⟩ (c_X10_insideOf l dC dI h0 p0 q_s v_fees q_thought v_thoughtFees q_image v_imageFees v_hasImage q_tape v_taped q_texts q_sizes v_programs q_imageTexts q_imageSizes v_imagePrograms v_here v_open v_running v_begun q_held q_marks v_markMany q_trace v_traced q_keptBalances q_keptFees v_deep q_way q_sorts q_rowMany q_items q_moved k_texts f_texts rp kk H.size hrp hrp3 hk (by first | assumption | omega)) (cwV 1 hts gX10_behind_X10_insideOf rfl rfl rfl (by decide +kernel) ⟨(show (1) + 1 ≤ 3 * nd + 6 by omega), (show 8 + (2 + 11) + (21) ≤ 100 * nd + 100 by omega)⟩) ⟨fun a U g mk q => by obtain ⟨q0, q1, qP, qK, qD⟩ := q; exact ⟨q0, q1, qP, va_K.moved (u := U) (U := U.calling g mk a) (Vm.Alike.refl U.vm) qK, qD⟩, va_recv (s := s) (q := (RX10, TX10, 32)) hKc hPc (ci := 9) (q0 := 0) rfl rfl, fun U hU hW => ⟨rfl, by rw [hU], by rw [hU]; exact hPc, va_K.moved hW.alike hKc, hDc.weaken (fun _ _ _ _ => trivial)⟩⟩ rfl rfl hl.1 rfl (lv_room (Nat.le_of_ble_eq_true rfl)) dX10_behind_103 ⟨Nat.le_of_ble_eq_true rfl, Nat.le_of_ble_eq_true rfl⟩) hS (fun q _ h => hFc q h) hFc (fun r11 u t H1 locs ht hvm hw hB hz1 hk1 hS => ?_)
              obtain ⟨hP1, hK1, hD1⟩ := hB
              rw [ht] at hP1
              have hK1 := va_K.moved hvm.symm hK1
              try dsimp only at hw
              obtain ⟨hP, hD⟩ := J_s (wL := [eI q_sizes k_sizes 4 f_sizes, eO h0 9 [.ref q_s, .long v_fees, .ref q_thought, .long v_thoughtFees, .ref q_image, .long v_imageFees, .int v_hasImage, .ref q_tape, .int v_taped, .ref q_texts, .ref q_sizes, .int v_programs, .ref q_imageTexts, .ref q_imageSizes, .int v_imagePrograms, .int v_here, .int v_open, .int v_running, .int v_begun, .ref q_held, .ref q_marks, .int v_markMany, .ref q_trace, .int v_traced, .ref q_keptBalances, .ref q_keptFees, .int v_deep, .ref q_way, .ref q_sorts, .ref q_rowMany, .ref q_items, .ref q_moved], eI q_texts k_texts 320 f_texts]) hP hD [(1, 2)] [(0, 1)] hCm hNw (by decide +kernel) hk1 hFc hP1 hD1 rfl
              have hK := KJ_s (tys' := [(k_sizes, .int), (k_texts, .int)]) hK hK1 [(0, 1)] rfl
              generalize H1 = H at hP hS ⊢
              have h_r11 := hw
              refine lv_istore_n (lv' := [(3, .int r11), (2, .int r1), (0, .ref h0), (1, .int p0)]) hx hb dX10_behind_106 rfl hl (by decide) rfl (fun ls hl => ?_)
              have loop_107 : ∀ (n : Nat) (x : Int32), (0 ≤ x.toInt ∧ x.toInt ≤ (ee : Int)) → (∃ cx kx : Nat, x.toInt = (kx : Int) ∧ kx ≤ ee - 1 ∧ Sq (It (tr f_texts rp) n9 m9) cx kx (ee - 1)) → ((ee : Int) - x.toInt) < (n : Int) → ∀ (H : Heap) (locs : List Loc), va_K (dC, dI) vwCl [(k_sizes, .int), (k_texts, .int)] s → va_P (dC, dI) vwCl [eI q_sizes k_sizes 4 f_sizes, eO h0 9 [.ref q_s, .long v_fees, .ref q_thought, .long v_thoughtFees, .ref q_image, .long v_imageFees, .int v_hasImage, .ref q_tape, .int v_taped, .ref q_texts, .ref q_sizes, .int v_programs, .ref q_imageTexts, .ref q_imageSizes, .int v_imagePrograms, .int v_here, .int v_open, .int v_running, .int v_begun, .ref q_held, .ref q_marks, .int v_markMany, .ref q_trace, .int v_traced, .ref q_keptBalances, .ref q_keptFees, .int v_deep, .ref q_way, .ref q_sorts, .ref q_rowMany, .ref q_items, .ref q_moved], eI q_texts k_texts 320 f_texts] H → va_D A [eI q_sizes k_sizes 4 f_sizes, eO h0 9 [.ref q_s, .long v_fees, .ref q_thought, .long v_thoughtFees, .ref q_image, .long v_imageFees, .int v_hasImage, .ref q_tape, .int v_taped, .ref q_texts, .ref q_sizes, .int v_programs, .ref q_imageTexts, .ref q_imageSizes, .int v_imagePrograms, .int v_here, .int v_open, .int v_running, .int v_begun, .ref q_held, .ref q_marks, .int v_markMany, .ref q_trace, .int v_traced, .ref q_keptBalances, .ref q_keptFees, .int v_deep, .ref q_way, .ref q_sorts, .ref q_rowMany, .ref q_items, .ref q_moved], eI q_texts k_texts 320 f_texts] → va_S A s.heap H locs → ∀ (ls : Array Slot), lv_has ls 4 [(3, .int x), (2, .int r1), (0, .ref h0), (1, .int p0)] → W p l e ({ frames := 3 * nd + 6, cells := 0, slots := 0, locals := 100 * nd + 100 }) s m (([.ref h0, .int p0] : List Value).toArray) below meth c H locs 0 0 Q9 (F0 m 107 ls []) := by
                intro n
                induction n with
                | zero => intro x j1 j2 hM_107; exfalso; omega
                | succ n ih_107 =>
                  intro x j1 j2 hM_107 H locs hK hP hD hS ls hl
                  obtain ⟨cx, kx, hkx, hkl, hsq⟩ := j2
                  refine lv_aload_n hx hb dX10_behind_107 rfl (lv_at hl 2 rfl) ?_
                  refine lv_iload_n hx hb dX10_behind_108 rfl (lv_at hl 0 rfl) ?_
                  obtain ⟨hPc, hDc, hFc, hCm, hNw⟩ := C_s (wc := [eO h0 9 [.ref q_s, .long v_fees, .ref q_thought, .long v_thoughtFees, .ref q_image, .long v_imageFees, .int v_hasImage, .ref q_tape, .int v_taped, .ref q_texts, .ref q_sizes, .int v_programs, .ref q_imageTexts, .ref q_imageSizes, .int v_imagePrograms, .int v_here, .int v_open, .int v_running, .int v_begun, .ref q_held, .ref q_marks, .int v_markMany, .ref q_trace, .int v_traced, .ref q_keptBalances, .ref q_keptFees, .int v_deep, .ref q_way, .ref q_sorts, .ref q_rowMany, .ref q_items, .ref q_moved], eI q_texts k_texts 320 f_texts, eI q_sizes k_sizes 4 f_sizes]) hP hD hS hA [(1, 2), (0, 1)] 3 rfl (by decide +kernel) rfl
                  have hKc := K_s (tys' := [(k_texts, .int), (k_sizes, .int)]) hK [(1, 1), (0, 1)] rfl
                  refine va_calli (va_runV (As := [.int x]) (rest := []) ⟨hx, hb, hml, hown, hts⟩ (c_X10_isClosed l dC dI h0 x q_s v_fees q_thought v_thoughtFees q_image v_imageFees v_hasImage q_tape v_taped q_texts q_sizes v_programs q_imageTexts q_imageSizes v_imagePrograms v_here v_open v_running v_begun q_held q_marks v_markMany q_trace v_traced q_keptBalances q_keptFees v_deep q_way q_sorts q_rowMany q_items q_moved k_texts f_texts k_sizes f_sizes rp n9 kx H.size hrp hrp3 hn hn80 (by first | assumption | omega)) (cwV 1 hts gX10_behind_X10_isClosed rfl rfl rfl (by decide +kernel) ⟨(show (1) + 1 ≤ 3 * nd + 6 by omega), (show 8 + (2 + 11) + (21) ≤ 100 * nd + 100 by omega)⟩) ⟨fun a U g mk q => by obtain ⟨q0, q1, qP, qK, qD⟩ := q; exact ⟨q0, q1, qP, va_K.moved (u := U) (U := U.calling g mk a) (Vm.Alike.refl U.vm) qK, qD⟩, va_recv (s := s) (q := (RX10, TX10, 32)) hKc hPc (ci := 9) (q0 := 0) rfl rfl, fun U hU hW => ⟨rfl, by rw [hU], by rw [hU]; exact hPc, va_K.moved hW.alike hKc, hDc.weaken (fun _ _ _ _ => trivial)⟩⟩ rfl rfl hl.1 rfl (lv_room (Nat.le_of_ble_eq_true rfl)) dX10_behind_109 ⟨Nat.le_of_ble_eq_true rfl, Nat.le_of_ble_eq_true rfl⟩) hS (fun q _ h => hFc q h) hFc (fun r12 u t H1 locs ht hvm hw hB hz1 hk1 hS => ?_)
                  obtain ⟨hP1, hK1, hD1⟩ := hB
                  rw [ht] at hP1
                  have hK1 := va_K.moved hvm.symm hK1
                  try dsimp only at hw
                  obtain ⟨hP, hD⟩ := J_s (wL := [eO h0 9 [.ref q_s, .long v_fees, .ref q_thought, .long v_thoughtFees, .ref q_image, .long v_imageFees, .int v_hasImage, .ref q_tape, .int v_taped, .ref q_texts, .ref q_sizes, .int v_programs, .ref q_imageTexts, .ref q_imageSizes, .int v_imagePrograms, .int v_here, .int v_open, .int v_running, .int v_begun, .ref q_held, .ref q_marks, .int v_markMany, .ref q_trace, .int v_traced, .ref q_keptBalances, .ref q_keptFees, .int v_deep, .ref q_way, .ref q_sorts, .ref q_rowMany, .ref q_items, .ref q_moved], eI q_texts k_texts 320 f_texts, eI q_sizes k_sizes 4 f_sizes]) hP hD [(1, 2), (0, 1)] [] hCm hNw (by decide +kernel) hk1 hFc hP1 hD1 rfl
                  have hK := KJ_s (tys' := [(k_texts, .int), (k_sizes, .int)]) hK hK1 [] rfl
                  generalize H1 = H at hP hS ⊢
                  rcases hw with ⟨e_r12, f_r12⟩ | ⟨e_r12, f_r12⟩
                  · subst e_r12
                    refine lv_if_ne (tgt := 124) hx hb dX10_behind_112 (by decide) (fun c13 => ?_) (fun c13 => absurd c13 (by decide))
                    have hend := sq_end hsq (by omega)
                    refine lv_iload_n hx hb dX10_behind_124 rfl (lv_at hl 0 rfl) ?_
                    refine lv_iconst (v := 1) hx hb dX10_behind_125 (by decide) ?_
                    refine lv_iadd hx hb dX10_behind_126 ?_
                    refine lv_topi (fun z14 e_z14 => ?_)
                    (first | have t_z14 := i_add e_z14 (by omega) (by omega) | skip)
                    rw [hQ9]
                    exact W.iret (v := z14) hx hb hr (fun t ht hW => ⟨⟨z14, (), rfl, (by omega), by rw [ht]; exact hP, va_K.moved hW.alike hK, hD⟩, hS.F ht⟩) hS.2.2 dX10_behind_127
                  · subst e_r12
                    refine lv_if_ne (tgt := 124) hx hb dX10_behind_112 (by decide) (fun c15 => absurd (by decide) c15) (fun c15 => ?_)
                    obtain ⟨b9, c1, hb9, hs1, hbl⟩ := sq_next hsq (Or.inr hz9) (by omega)
                    have hbk := it_lt _ _ _ hb9
                    refine lv_aload_n hx hb dX10_behind_115 rfl (lv_at hl 2 rfl) ?_
                    refine lv_iload_n hx hb dX10_behind_116 rfl (lv_at hl 0 rfl) ?_
                    obtain ⟨hPc, hDc, hFc, hCm, hNw⟩ := C_s (wc := [eO h0 9 [.ref q_s, .long v_fees, .ref q_thought, .long v_thoughtFees, .ref q_image, .long v_imageFees, .int v_hasImage, .ref q_tape, .int v_taped, .ref q_texts, .ref q_sizes, .int v_programs, .ref q_imageTexts, .ref q_imageSizes, .int v_imagePrograms, .int v_here, .int v_open, .int v_running, .int v_begun, .ref q_held, .ref q_marks, .int v_markMany, .ref q_trace, .int v_traced, .ref q_keptBalances, .ref q_keptFees, .int v_deep, .ref q_way, .ref q_sorts, .ref q_rowMany, .ref q_items, .ref q_moved], eI q_texts k_texts 320 f_texts, eI q_sizes k_sizes 4 f_sizes]) hP hD hS hA [(0, 3)] 3 rfl (by decide +kernel) rfl
                    have hKc := K_s (tys' := [(k_texts, .int), (k_sizes, .int)]) hK [(0, 2)] rfl
                    refine va_calli (va_runV (As := [.int x]) (rest := []) ⟨hx, hb, hml, hown, hts⟩ (ih_m h0 x q_s v_fees q_thought v_thoughtFees q_image v_imageFees v_hasImage q_tape v_taped q_texts q_sizes v_programs q_imageTexts q_imageSizes v_imagePrograms v_here v_open v_running v_begun q_held q_marks v_markMany q_trace v_traced q_keptBalances q_keptFees v_deep q_way q_sorts q_rowMany q_items q_moved k_texts f_texts k_sizes f_sizes rp n9 kx b9 H.size hrp hrp3 hn hn80 (by first | assumption | omega) (by first | assumption | omega)) (cwV 1 hts gX10_behind_X10_behind rfl rfl rfl (by decide +kernel) ⟨(show (3 * m9 + 6) + 1 ≤ 3 * nd + 6 by omega), (show 8 + (4 + 11) + (100 * m9 + 100) ≤ 100 * nd + 100 by omega)⟩) ⟨fun a U g mk q => by obtain ⟨q0, q1, qP, qK, qD⟩ := q; exact ⟨q0, q1, qP, va_K.moved (u := U) (U := U.calling g mk a) (Vm.Alike.refl U.vm) qK, qD⟩, va_recv (s := s) (q := (RX10, TX10, 32)) hKc hPc (ci := 9) (q0 := 0) rfl rfl, fun U hU hW => ⟨rfl, by rw [hU], by rw [hU]; exact hPc, va_K.moved hW.alike hKc, hDc.weaken (fun _ _ _ _ => trivial)⟩⟩ rfl rfl hl.1 rfl (lv_room (Nat.le_of_ble_eq_true rfl)) dX10_behind_117 ⟨Nat.le_of_ble_eq_true rfl, Nat.le_of_ble_eq_true rfl⟩) hS (fun q _ h => hFc q h) hFc (fun r16 u t H1 locs ht hvm hw hB hz1 hk1 hS => ?_)
                    obtain ⟨hP1, hK1, hD1⟩ := hB
                    rw [ht] at hP1
                    have hK1 := va_K.moved hvm.symm hK1
                    try dsimp only at hw
                    obtain ⟨hP, hD⟩ := J_s (wL := [eO h0 9 [.ref q_s, .long v_fees, .ref q_thought, .long v_thoughtFees, .ref q_image, .long v_imageFees, .int v_hasImage, .ref q_tape, .int v_taped, .ref q_texts, .ref q_sizes, .int v_programs, .ref q_imageTexts, .ref q_imageSizes, .int v_imagePrograms, .int v_here, .int v_open, .int v_running, .int v_begun, .ref q_held, .ref q_marks, .int v_markMany, .ref q_trace, .int v_traced, .ref q_keptBalances, .ref q_keptFees, .int v_deep, .ref q_way, .ref q_sorts, .ref q_rowMany, .ref q_items, .ref q_moved], eI q_texts k_texts 320 f_texts, eI q_sizes k_sizes 4 f_sizes]) hP hD [(0, 3)] [] hCm hNw (by decide +kernel) hk1 hFc hP1 hD1 rfl
                    have hK := KJ_s (tys' := [(k_texts, .int), (k_sizes, .int)]) hK hK1 [] rfl
                    generalize H1 = H at hP hS ⊢
                    have h_r16 := hw
                    refine lv_istore_n (lv' := [(3, .int r16), (2, .int r1), (0, .ref h0), (1, .int p0)]) hx hb dX10_behind_120 rfl hl (by decide) rfl (fun ls hl => ?_)
                    refine lv_goto (tgt := 107) hx hb dX10_behind_121 (by decide) ?_
                    exact ih_107 r16 (by omega) ⟨c1, b9, h_r16, by omega, hs1⟩ (by omega) _ _ (K_s hK [(1, 1), (0, 1)] rfl) (P_s hP [(2, 1), (0, 2)] rfl) (D_s hD [(2, 1), (0, 2)] 3 rfl (by decide +kernel) rfl) hS ls (lv_sub hl [0, 1, 2, 3] rfl)
              exact loop_107 (1000) r11 (by omega) ⟨c9, a9, by omega, by omega, hs9⟩ (by omega) _ _ hK hP hD hS ls (lv_sub hl [0, 1, 2, 3] rfl)
            · skip
              have f_c10 := i_eq c10
              have ie := it_x hit (by omega)
              refine lv_iload_n hx hb dX10_behind_97 rfl (lv_at hl 2 rfl) ?_
              refine lv_iconst (v := 1) hx hb dX10_behind_98 (by decide) ?_
              refine lv_iadd hx hb dX10_behind_99 ?_
              refine lv_topi (fun z17 e_z17 => ?_)
              (first | have t_z17 := i_add e_z17 (by omega) (by omega) | skip)
              rw [hQ9]
              exact W.iret (v := z17) hx hb hr (fun t ht hW => ⟨⟨z17, (), rfl, (by omega), by rw [ht]; exact P_s hP [(1, 2), (0, 1)] rfl, va_K.moved hW.alike (K_s hK [(1, 1), (0, 1)] rfl), D_s hD [(1, 2), (0, 1)] 3 rfl (by decide +kernel) rfl⟩, hS.F ht⟩) hS.2.2 dX10_behind_100
      · skip
        have f_c5 := i_eq c5
        have ie := it_n hit (by omega)
        refine lv_iload_n hx hb dX10_behind_75 rfl (lv_at hl 2 rfl) ?_
        refine lv_iconst (v := 2) hx hb dX10_behind_76 (by decide) ?_
        refine lv_iadd hx hb dX10_behind_77 ?_
        refine lv_topi (fun z18 e_z18 => ?_)
        (first | have t_z18 := i_add e_z18 (by omega) (by omega) | skip)
        rw [hQ9]
        exact W.iret (v := z18) hx hb hr (fun t ht hW => ⟨⟨z18, (), rfl, (by omega), by rw [ht]; exact P_s hP [(1, 2), (0, 1)] rfl, va_K.moved hW.alike (K_s hK [(1, 1), (0, 1)] rfl), D_s hD [(1, 2), (0, 1)] 3 rfl (by decide +kernel) rfl⟩, hS.F ht⟩) hS.2.2 dX10_behind_78
  · skip
    have f_c2 := i_eq c2
    obtain ⟨ip1, ip2, ip3, ip4⟩ := it_p hit (by omega)
    refine lv_iload_n hx hb dX10_behind_12 rfl (lv_at hl 2 rfl) ?_
    refine lv_iconst (v := 4) hx hb dX10_behind_13 (by decide) ?_
    refine lv_iadd hx hb dX10_behind_14 ?_
    refine lv_topi (fun z19 e_z19 => ?_)
    (first | have t_z19 := i_add e_z19 (by omega) (by omega) | skip)
    refine lv_istore_n (lv' := [(3, .int z19), (2, .int r1), (0, .ref h0), (1, .int p0)]) hx hb dX10_behind_15 rfl hl (by decide) rfl (fun ls hl => ?_)
    have loop_16 : ∀ (n : Nat) (x : Int32), ((kk : Int) + 4 ≤ x.toInt) → (x.toInt ≤ (ee : Int)) → ((ee : Int) - x.toInt) < (n : Int) → ∀ (H : Heap) (locs : List Loc), va_K (dC, dI) vwCl [(k_sizes, .int), (k_texts, .int)] s → va_P (dC, dI) vwCl [eI q_sizes k_sizes 4 f_sizes, eO h0 9 [.ref q_s, .long v_fees, .ref q_thought, .long v_thoughtFees, .ref q_image, .long v_imageFees, .int v_hasImage, .ref q_tape, .int v_taped, .ref q_texts, .ref q_sizes, .int v_programs, .ref q_imageTexts, .ref q_imageSizes, .int v_imagePrograms, .int v_here, .int v_open, .int v_running, .int v_begun, .ref q_held, .ref q_marks, .int v_markMany, .ref q_trace, .int v_traced, .ref q_keptBalances, .ref q_keptFees, .int v_deep, .ref q_way, .ref q_sorts, .ref q_rowMany, .ref q_items, .ref q_moved], eI q_texts k_texts 320 f_texts] H → va_D A [eI q_sizes k_sizes 4 f_sizes, eO h0 9 [.ref q_s, .long v_fees, .ref q_thought, .long v_thoughtFees, .ref q_image, .long v_imageFees, .int v_hasImage, .ref q_tape, .int v_taped, .ref q_texts, .ref q_sizes, .int v_programs, .ref q_imageTexts, .ref q_imageSizes, .int v_imagePrograms, .int v_here, .int v_open, .int v_running, .int v_begun, .ref q_held, .ref q_marks, .int v_markMany, .ref q_trace, .int v_traced, .ref q_keptBalances, .ref q_keptFees, .int v_deep, .ref q_way, .ref q_sorts, .ref q_rowMany, .ref q_items, .ref q_moved], eI q_texts k_texts 320 f_texts] → va_S A s.heap H locs → ∀ (ls : Array Slot), lv_has ls 4 [(3, .int x), (2, .int r1), (0, .ref h0), (1, .int p0)] → W p l e ({ frames := 3 * nd + 6, cells := 0, slots := 0, locals := 100 * nd + 100 }) s m (([.ref h0, .int p0] : List Value).toArray) below meth c H locs 0 0 Q9 (F0 m 16 ls []) := by
      intro n
      induction n with
      | zero => intro x i1 i2 hM_16; exfalso; omega
      | succ n ih_16 =>
        intro x i1 i2 hM_16 H locs hK hP hD hS ls hl
        refine lv_iload_n hx hb dX10_behind_16 rfl (lv_at hl 0 rfl) ?_
        refine lv_aload_n hx hb dX10_behind_17 rfl (lv_at hl 2 rfl) ?_
        refine va_get (D := (dC, dI)) (ci := 9) (v := .ref q_sizes) (C := RX10) (T := TX10) (N := 32) hx hb hts (fun w h => List.mem_cons_of_mem _ (inlX10 w h)) hown hK hP 1 rfl rfl 10 (by decide) (hts (.fieldLink RX10 27 "ClearingGatesModel" "sizes" "[I") (List.mem_cons_of_mem _ mw_619)) (fun _ h9 => h9) rfl dX10_behind_18 ?_
        refine lv_aload_n hx hb dX10_behind_21 rfl (lv_at hl 2 rfl) ?_
        refine va_get (D := (dC, dI)) (ci := 9) (v := .int v_running) (C := RX10) (T := TX10) (N := 32) hx hb hts (fun w h => List.mem_cons_of_mem _ (inlX10 w h)) hown hK hP 1 rfl rfl 17 (by decide) (hts (.fieldLink RX10 157 "ClearingGatesModel" "running" "I") (List.mem_cons_of_mem _ mw_626)) (fun _ h9 => h9) rfl dX10_behind_22 ?_
        refine va_iald (D := (dC, dI)) hx hb hK hP 0 0 rfl rfl (vp_in_iff.mpr ⟨by omega, by omega⟩) dX10_behind_25 ?_
        refine lv_topi (fun z20 e_z20 => ?_)
        have a_z20 : z20.toInt = (n9 : Int) := by rw [e_z20, i_nat hrp]; exact hn
        refine lv_icmp_ge (tgt := 61) hx hb dX10_behind_26 (by decide) (fun c21 => ?_) (fun c21 => ?_)
        · skip
          have f_c21 := i_le c21
          refine lv_iload_n hx hb dX10_behind_61 rfl (lv_at hl 0 rfl) ?_
          rw [hQ9]
          exact W.iret (v := x) hx hb hr (fun t ht hW => ⟨⟨x, (), rfl, (by omega), by rw [ht]; exact P_s hP [(1, 2), (0, 1)] rfl, va_K.moved hW.alike (K_s hK [(1, 1), (0, 1)] rfl), D_s hD [(1, 2), (0, 1)] 3 rfl (by decide +kernel) rfl⟩, hS.F ht⟩) hS.2.2 dX10_behind_62
        · skip
          have f_c21 := i_nle c21
          refine lv_iload_n hx hb dX10_behind_29 rfl (lv_at hl 0 rfl) ?_
          refine lv_iload_n hx hb dX10_behind_30 rfl (lv_at hl 3 rfl) ?_
          refine lv_bipush (v := 7) hx hb dX10_behind_31 (by decide) ?_
          refine lv_iadd hx hb dX10_behind_33 ?_
          refine lv_topi (fun z22 e_z22 => ?_)
          (first | have t_z22 := i_add e_z22 (by omega) (by omega) | skip)
          refine lv_icmp_ge (tgt := 61) hx hb dX10_behind_34 (by decide) (fun c23 => ?_) (fun c23 => ?_)
          · skip
            have f_c23 := i_le c23
            refine lv_iload_n hx hb dX10_behind_61 rfl (lv_at hl 0 rfl) ?_
            rw [hQ9]
            exact W.iret (v := x) hx hb hr (fun t ht hW => ⟨⟨x, (), rfl, (by omega), by rw [ht]; exact P_s hP [(1, 2), (0, 1)] rfl, va_K.moved hW.alike (K_s hK [(1, 1), (0, 1)] rfl), D_s hD [(1, 2), (0, 1)] 3 rfl (by decide +kernel) rfl⟩, hS.F ht⟩) hS.2.2 dX10_behind_62
          · skip
            have f_c23 := i_nle c23
            obtain ⟨xn, hxn⟩ : ∃ xn : Nat, x.toInt = (xn : Int) := ⟨x.toInt.toNat, by omega⟩
            refine lv_aload_n hx hb dX10_behind_37 rfl (lv_at hl 2 rfl) ?_
            refine lv_iload_n hx hb dX10_behind_38 rfl (lv_at hl 0 rfl) ?_
            obtain ⟨hPc, hDc, hFc, hCm, hNw⟩ := C_s (wc := [eO h0 9 [.ref q_s, .long v_fees, .ref q_thought, .long v_thoughtFees, .ref q_image, .long v_imageFees, .int v_hasImage, .ref q_tape, .int v_taped, .ref q_texts, .ref q_sizes, .int v_programs, .ref q_imageTexts, .ref q_imageSizes, .int v_imagePrograms, .int v_here, .int v_open, .int v_running, .int v_begun, .ref q_held, .ref q_marks, .int v_markMany, .ref q_trace, .int v_traced, .ref q_keptBalances, .ref q_keptFees, .int v_deep, .ref q_way, .ref q_sorts, .ref q_rowMany, .ref q_items, .ref q_moved], eI q_texts k_texts 320 f_texts]) hP hD hS hA [(1, 2)] 3 rfl (by decide +kernel) rfl
            have hKc := K_s (tys' := [(k_texts, .int)]) hK [(1, 1)] rfl
            refine va_calli (va_runV (As := [.int x]) (rest := []) ⟨hx, hb, hml, hown, hts⟩ (c_X10_signAt l dC dI h0 x q_s v_fees q_thought v_thoughtFees q_image v_imageFees v_hasImage q_tape v_taped q_texts q_sizes v_programs q_imageTexts q_imageSizes v_imagePrograms v_here v_open v_running v_begun q_held q_marks v_markMany q_trace v_traced q_keptBalances q_keptFees v_deep q_way q_sorts q_rowMany q_items q_moved k_texts f_texts rp xn H.size hrp hrp3 (by first | assumption | omega) (by first | assumption | omega)) (cwV 1 hts gX10_behind_X10_signAt rfl rfl rfl (by decide +kernel) ⟨(show (0) + 1 ≤ 3 * nd + 6 by omega), (show 8 + (2 + 11) + (0) ≤ 100 * nd + 100 by omega)⟩) ⟨fun a U g mk q => by obtain ⟨q0, q1, qP, qK, qD⟩ := q; exact ⟨q0, q1, qP, va_K.moved (u := U) (U := U.calling g mk a) (Vm.Alike.refl U.vm) qK, qD⟩, va_recv (s := s) (q := (RX10, TX10, 32)) hKc hPc (ci := 9) (q0 := 0) rfl rfl, fun U hU hW => ⟨rfl, by rw [hU], by rw [hU]; exact hPc, va_K.moved hW.alike hKc, hDc.weaken (fun _ _ _ _ => trivial)⟩⟩ rfl rfl hl.1 rfl (lv_room (Nat.le_of_ble_eq_true rfl)) dX10_behind_39 ⟨Nat.le_of_ble_eq_true rfl, Nat.le_of_ble_eq_true rfl⟩) hS (fun q _ h => hFc q h) hFc (fun r24 u t H1 locs ht hvm hw hB hz1 hk1 hS => ?_)
            obtain ⟨hP1, hK1, hD1⟩ := hB
            rw [ht] at hP1
            have hK1 := va_K.moved hvm.symm hK1
            try dsimp only at hw
            obtain ⟨hP, hD⟩ := J_s (wL := [eI q_sizes k_sizes 4 f_sizes, eO h0 9 [.ref q_s, .long v_fees, .ref q_thought, .long v_thoughtFees, .ref q_image, .long v_imageFees, .int v_hasImage, .ref q_tape, .int v_taped, .ref q_texts, .ref q_sizes, .int v_programs, .ref q_imageTexts, .ref q_imageSizes, .int v_imagePrograms, .int v_here, .int v_open, .int v_running, .int v_begun, .ref q_held, .ref q_marks, .int v_markMany, .ref q_trace, .int v_traced, .ref q_keptBalances, .ref q_keptFees, .int v_deep, .ref q_way, .ref q_sorts, .ref q_rowMany, .ref q_items, .ref q_moved], eI q_texts k_texts 320 f_texts]) hP hD [(1, 2)] [(0, 1)] hCm hNw (by decide +kernel) hk1 hFc hP1 hD1 rfl
            have hK := KJ_s (tys' := [(k_sizes, .int), (k_texts, .int)]) hK hK1 [(0, 1)] rfl
            generalize H1 = H at hP hS ⊢
            have fg1 : xn < ee → 48 ≤ (tr f_texts rp xn).toInt ∧ (tr f_texts rp xn).toInt ≤ 57 := fun q => ip3 xn (by omega) q
            have fg3 : xn = ee → (ee = n9 ∨ ee = kk + 7 ∨ ¬ (48 ≤ (tr f_texts rp xn).toInt ∧ (tr f_texts rp xn).toInt ≤ 57)) := fun q => by rw [q]; exact ip4
            have h_r24 := hw
            have t_r24 := i_eq hw
            refine lv_i2l (v := r24.toInt64) hx hb dX10_behind_42 rfl ?_
            have t_t25 := Int32.toInt_toInt64 r24
            refine lv_ldc2 hx hb hown (hts (.constantLong RX10 142 (48)) (List.mem_cons_of_mem _ mw_727)) dX10_behind_43 ?_
            refine lv_ldc2 hx hb hown (hts (.constantLong RX10 144 (57)) (List.mem_cons_of_mem _ mw_728)) dX10_behind_46 ?_
            obtain ⟨hPc, hDc, hFc, hCm, hNw⟩ := C_s (wc := []) hP hD hS hA [] 3 rfl (by decide +kernel) rfl
            have hKc := K_s (tys' := []) hK [] rfl
            refine va_calli (va_runS (As := [.long r24.toInt64, .long 48, .long 57]) (rest := []) ⟨hx, hb, hml, hown, hts⟩ (c_X10_isIn l dC dI (r24.toInt64) 48 57 H.size) (va_cwS 3 hts gX10_behind_X10_isIn rfl rfl rfl (by decide +kernel) ⟨(show (0) + 1 ≤ 3 * nd + 6 by omega), (show 8 + (6 + 11) + (0) ≤ 100 * nd + 100 by omega)⟩) ⟨fun a U g mk q => by obtain ⟨q0, q1, qP, qK, qD⟩ := q; exact ⟨q0, q1, qP, va_K.moved (u := U) (U := U.calling g mk a) (Vm.Alike.refl U.vm) qK, qD⟩, fun U hU hW => ⟨rfl, by rw [hU], by rw [hU]; exact hPc, va_K.moved hW.alike hKc, hDc.weaken (fun _ _ _ _ => trivial)⟩⟩ rfl rfl hl.1 rfl (lv_room (Nat.le_of_ble_eq_true rfl)) dX10_behind_49 ⟨Nat.le_of_ble_eq_true rfl, Nat.le_of_ble_eq_true rfl⟩) hS (fun q _ h => hFc q h) hFc (fun r26 u t H1 locs ht hvm hw hB hz1 hk1 hS => ?_)
            obtain ⟨hP1, hK1, hD1⟩ := hB
            rw [ht] at hP1
            have hK1 := va_K.moved hvm.symm hK1
            try dsimp only at hw
            obtain ⟨hP, hD⟩ := J_s (wL := [eI q_sizes k_sizes 4 f_sizes, eO h0 9 [.ref q_s, .long v_fees, .ref q_thought, .long v_thoughtFees, .ref q_image, .long v_imageFees, .int v_hasImage, .ref q_tape, .int v_taped, .ref q_texts, .ref q_sizes, .int v_programs, .ref q_imageTexts, .ref q_imageSizes, .int v_imagePrograms, .int v_here, .int v_open, .int v_running, .int v_begun, .ref q_held, .ref q_marks, .int v_markMany, .ref q_trace, .int v_traced, .ref q_keptBalances, .ref q_keptFees, .int v_deep, .ref q_way, .ref q_sorts, .ref q_rowMany, .ref q_items, .ref q_moved], eI q_texts k_texts 320 f_texts]) hP hD [] [(0, 3)] hCm hNw (by decide +kernel) hk1 hFc hP1 hD1 rfl
            have hK := KJ_s (tys' := [(k_sizes, .int), (k_texts, .int)]) hK hK1 [(0, 2)] rfl
            generalize H1 = H at hP hS ⊢
            rcases hw with ⟨e_r26, f_r26⟩ | ⟨e_r26, f_r26⟩
            · subst e_r26
              refine lv_if_eq (tgt := 61) hx hb dX10_behind_52 (by decide) (fun c27 => absurd c27 (by decide)) (fun c27 => ?_)
              obtain ⟨x28, e_x28⟩ : ∃ yy : Int32, yy = x + 1 := ⟨_, rfl⟩
              refine lv_iinc (v := x28) (lv' := [(3, .int x28), (2, .int r1), (0, .ref h0), (1, .int p0)]) hx hb dX10_behind_55 hl (k := 0) rfl (by rw [e_x28]; rfl) (by decide) rfl (fun ls hl => ?_)
              (first | have t_x28 := i_add e_x28 (by omega) (by omega) | skip)
              refine lv_goto (tgt := 16) hx hb dX10_behind_58 (by decide) ?_
              exact ih_16 x28 (by first | assumption | omega | exact fz_rf _ | exact fb_rf _ | exact (fun _ _ _ => rfl)) (by first | assumption | omega | exact fz_rf _ | exact fb_rf _ | exact (fun _ _ _ => rfl)) (by omega) _ _ (K_s hK [(0, 2)] rfl) (P_s hP [(0, 3)] rfl) (D_s hD [(0, 3)] 3 rfl (by decide +kernel) rfl) hS ls (lv_sub hl [0, 1, 2, 3] rfl)
            · subst e_r26
              refine lv_if_eq (tgt := 61) hx hb dX10_behind_52 (by decide) (fun c29 => ?_) (fun c29 => absurd (by decide) c29)
              refine lv_iload_n hx hb dX10_behind_61 rfl (lv_at hl 0 rfl) ?_
              rw [hQ9]
              exact W.iret (v := x) hx hb hr (fun t ht hW => ⟨⟨x, (), rfl, (by omega), by rw [ht]; exact P_s hP [(1, 2), (0, 1)] rfl, va_K.moved hW.alike (K_s hK [(1, 1), (0, 1)] rfl), D_s hD [(1, 2), (0, 1)] 3 rfl (by decide +kernel) rfl⟩, hS.F ht⟩) hS.2.2 dX10_behind_62
    exact loop_16 (1000) z19 (by first | assumption | omega | exact fz_rf _ | exact fb_rf _ | exact (fun _ _ _ => rfl)) (by first | assumption | omega | exact fz_rf _ | exact fb_rf _ | exact (fun _ _ _ => rfl)) (by omega) _ _ hK hP hD hS ls (lv_sub hl [0, 1, 2, 3] rfl)

theorem kb_all (l : Launch) (dC : Nat → ClassId) (dI : Nat → Nat → Nat) : ∀ nd : Nat, KB l dC dI nd := by
  intro nd
  induction nd with
  | zero => intro h0 p0 q_s v_fees q_thought v_thoughtFees q_image v_imageFees v_hasImage q_tape v_taped q_texts q_sizes v_programs q_imageTexts q_imageSizes v_imagePrograms v_here v_open v_running v_begun q_held q_marks v_markMany q_trace v_traced q_keptBalances q_keptFees v_deep q_way q_sorts q_rowMany q_items q_moved k_texts f_texts k_sizes f_sizes rp n9 kk ee sz hrp hrp3 hn hn80 hk hit; exact c_X10_behind l dC dI h0 p0 q_s v_fees q_thought v_thoughtFees q_image v_imageFees v_hasImage q_tape v_taped q_texts q_sizes v_programs q_imageTexts q_imageSizes v_imagePrograms v_here v_open v_running v_begun q_held q_marks v_markMany q_trace v_traced q_keptBalances q_keptFees v_deep q_way q_sorts q_rowMany q_items q_moved k_texts f_texts k_sizes f_sizes rp n9 kk ee 0 sz hrp hrp3 hn hn80 hk hit (fun m hm => absurd hm (by omega))
  | succ nd ih => intro h0 p0 q_s v_fees q_thought v_thoughtFees q_image v_imageFees v_hasImage q_tape v_taped q_texts q_sizes v_programs q_imageTexts q_imageSizes v_imagePrograms v_here v_open v_running v_begun q_held q_marks v_markMany q_trace v_traced q_keptBalances q_keptFees v_deep q_way q_sorts q_rowMany q_items q_moved k_texts f_texts k_sizes f_sizes rp n9 kk ee sz hrp hrp3 hn hn80 hk hit; exact c_X10_behind l dC dI h0 p0 q_s v_fees q_thought v_thoughtFees q_image v_imageFees v_hasImage q_tape v_taped q_texts q_sizes v_programs q_imageTexts q_imageSizes v_imagePrograms v_here v_open v_running v_begun q_held q_marks v_markMany q_trace v_traced q_keptBalances q_keptFees v_deep q_way q_sorts q_rowMany q_items q_moved k_texts f_texts k_sizes f_sizes rp n9 kk ee (nd + 1) sz hrp hrp3 hn hn80 hk hit (fun m hm => by have e : m = nd := (by omega); rw [e]; exact ih)
