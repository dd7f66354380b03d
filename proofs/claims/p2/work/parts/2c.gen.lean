set_option maxRecDepth 100000 in
set_option maxHeartbeats 4000000 in
/-- firstRing of the reference -/
theorem c_X10_firstRing (l : Launch) (dC : Nat → ClassId) (dI : Nat → Nat → Nat) (h0 : Nat) (q_s : Nat) (v_fees : Int64) (q_thought : Nat) (v_thoughtFees : Int64) (q_image : Nat) (v_imageFees : Int64) (v_hasImage : Int32) (q_tape : Nat) (v_taped : Int32) (q_texts : Nat) (q_sizes : Nat) (v_programs : Int32) (q_imageTexts : Nat) (q_imageSizes : Nat) (v_imagePrograms : Int32) (v_here : Int32) (v_open : Int32) (v_running : Int32) (v_begun : Int32) (q_held : Nat) (q_marks : Nat) (v_markMany : Int32) (q_trace : Nat) (v_traced : Int32) (q_keptBalances : Nat) (q_keptFees : Nat) (v_deep : Int32) (q_way : Nat) (q_sorts : Nat) (q_rowMany : Nat) (q_items : Nat) (q_moved : Nat) (k_s : ClassId) (f_s : Nat → Int32) (k_way : ClassId) (f_way : Nat → Int32) (sz : Nat) (hms : ms f_s) : Met l yX10_firstRing wsX10_firstRing ({ frames := 23, cells := 0, slots := 0, locals := 925 }) (va_Pc [.ref h0] (fun U => U.heap.size = sz ∧ va_P (dC, dI) vwCl [eO h0 9 [.ref q_s, .long v_fees, .ref q_thought, .long v_thoughtFees, .ref q_image, .long v_imageFees, .int v_hasImage, .ref q_tape, .int v_taped, .ref q_texts, .ref q_sizes, .int v_programs, .ref q_imageTexts, .ref q_imageSizes, .int v_imagePrograms, .int v_here, .int v_open, .int v_running, .int v_begun, .ref q_held, .ref q_marks, .int v_markMany, .ref q_trace, .int v_traced, .ref q_keptBalances, .ref q_keptFees, .int v_deep, .ref q_way, .ref q_sorts, .ref q_rowMany, .ref q_items, .ref q_moved], eI q_s k_s 125 f_s, eI q_way k_way 8 f_way] U.heap ∧ va_K (dC, dI) vwCl [(k_s, .int), (k_way, .int)] U ∧ va_D (fun _ => True) [eO h0 9 [.ref q_s, .long v_fees, .ref q_thought, .long v_thoughtFees, .ref q_image, .long v_imageFees, .int v_hasImage, .ref q_tape, .int v_taped, .ref q_texts, .ref q_sizes, .int v_programs, .ref q_imageTexts, .ref q_imageSizes, .int v_imagePrograms, .int v_here, .int v_open, .int v_running, .int v_begun, .ref q_held, .ref q_marks, .int v_markMany, .ref q_trace, .int v_traced, .ref q_keptBalances, .ref q_keptFees, .int v_deep, .ref q_way, .ref q_sorts, .ref q_rowMany, .ref q_items, .ref q_moved], eI q_s k_s 125 f_s, eI q_way k_way 8 f_way])) (va_Qi (fun (r : Int32) (f_way2 : Nat → Int32) => r.toInt ≤ 0 ∨ Rx f_s f_way2 r) (fun (f_way2 : Nat → Int32) (t : State) => va_P (dC, dI) vwCl [eO h0 9 [.ref q_s, .long v_fees, .ref q_thought, .long v_thoughtFees, .ref q_image, .long v_imageFees, .int v_hasImage, .ref q_tape, .int v_taped, .ref q_texts, .ref q_sizes, .int v_programs, .ref q_imageTexts, .ref q_imageSizes, .int v_imagePrograms, .int v_here, .int v_open, .int v_running, .int v_begun, .ref q_held, .ref q_marks, .int v_markMany, .ref q_trace, .int v_traced, .ref q_keptBalances, .ref q_keptFees, .int v_deep, .ref q_way, .ref q_sorts, .ref q_rowMany, .ref q_items, .ref q_moved], eI q_s k_s 125 f_s, eI q_way k_way 8 f_way2] t.heap ∧ va_K (dC, dI) vwCl [(k_s, .int), (k_way, .int)] t ∧ va_D (va_A [eO h0 9 [.ref q_s, .long v_fees, .ref q_thought, .long v_thoughtFees, .ref q_image, .long v_imageFees, .int v_hasImage, .ref q_tape, .int v_taped, .ref q_texts, .ref q_sizes, .int v_programs, .ref q_imageTexts, .ref q_imageSizes, .int v_imagePrograms, .int v_here, .int v_open, .int v_running, .int v_begun, .ref q_held, .ref q_marks, .int v_markMany, .ref q_trace, .int v_traced, .ref q_keptBalances, .ref q_keptFees, .int v_deep, .ref q_way, .ref q_sorts, .ref q_rowMany, .ref q_items, .ref q_moved], eI q_s k_s 125 f_s, eI q_way k_way 8 f_way] sz) [eO h0 9 [.ref q_s, .long v_fees, .ref q_thought, .long v_thoughtFees, .ref q_image, .long v_imageFees, .int v_hasImage, .ref q_tape, .int v_taped, .ref q_texts, .ref q_sizes, .int v_programs, .ref q_imageTexts, .ref q_imageSizes, .int v_imagePrograms, .int v_here, .int v_open, .int v_running, .int v_begun, .ref q_held, .ref q_marks, .int v_markMany, .ref q_trace, .int v_traced, .ref q_keptBalances, .ref q_keptFees, .int v_deep, .ref q_way, .ref q_sorts, .ref q_rowMany, .ref q_items, .ref q_moved], eI q_s k_s 125 f_s, eI q_way k_way 8 f_way2]) (va_A [eO h0 9 [.ref q_s, .long v_fees, .ref q_thought, .long v_thoughtFees, .ref q_image, .long v_imageFees, .int v_hasImage, .ref q_tape, .int v_taped, .ref q_texts, .ref q_sizes, .int v_programs, .ref q_imageTexts, .ref q_imageSizes, .int v_imagePrograms, .int v_here, .int v_open, .int v_running, .int v_begun, .ref q_held, .ref q_marks, .int v_markMany, .ref q_trace, .int v_traced, .ref q_keptBalances, .ref q_keptFees, .int v_deep, .ref q_way, .ref q_sorts, .ref q_rowMany, .ref q_items, .ref q_moved], eI q_s k_s 125 f_s, eI q_way k_way 8 f_way] sz)) 0 0 (va_A [eO h0 9 [.ref q_s, .long v_fees, .ref q_thought, .long v_thoughtFees, .ref q_image, .long v_imageFees, .int v_hasImage, .ref q_tape, .int v_taped, .ref q_texts, .ref q_sizes, .int v_programs, .ref q_imageTexts, .ref q_imageSizes, .int v_imagePrograms, .int v_here, .int v_open, .int v_running, .int v_begun, .ref q_held, .ref q_marks, .int v_markMany, .ref q_trace, .int v_traced, .ref q_keptBalances, .ref q_keptFees, .int v_deep, .ref q_way, .ref q_sorts, .ref q_rowMany, .ref q_items, .ref q_moved], eI q_s k_s 125 f_s, eI q_way k_way 8 f_way] sz) := by
  refine Met.ofW (cc := cX10_firstRing) (maxL := 3) (ret := (some .int)) (by decide) rfl ?_
  intro p e s m args below meth c s₁ B hml hv
  obtain ⟨rfl, hsz, hP, hK, hD0⟩ := hv
  have hx := B.exec
  have hb := B.bytes
  have hr := B.returns
  have hts := atoms_spec (ws := wsX10_firstRing) B.pre
  have hown : s.vm.findClass RX10 = some m.cls := findClass_of_methodNamed B.named
  have hlocks := B.notSynchronized
  subst hsz
  have hD := hD0.self (sz := s.heap.size)
  generalize hAe : va_A [eO h0 9 [.ref q_s, .long v_fees, .ref q_thought, .long v_thoughtFees, .ref q_image, .long v_imageFees, .int v_hasImage, .ref q_tape, .int v_taped, .ref q_texts, .ref q_sizes, .int v_programs, .ref q_imageTexts, .ref q_imageSizes, .int v_imagePrograms, .int v_here, .int v_open, .int v_running, .int v_begun, .ref q_held, .ref q_marks, .int v_markMany, .ref q_trace, .int v_traced, .ref q_keptBalances, .ref q_keptFees, .int v_deep, .ref q_way, .ref q_sorts, .ref q_rowMany, .ref q_items, .ref q_moved], eI q_s k_s 125 f_s, eI q_way k_way 8 f_way] s.heap.size = A at hD ⊢
  have hA : ∀ q : Nat, s.heap.size ≤ q → A q := fun q h => by rw [← hAe]; exact Or.inr h
  have hS : va_S A s.heap s.heap [] := va_S.rf
  have hP : va_P (dC, dI) vwCl [eO h0 9 [.ref q_s, .long v_fees, .ref q_thought, .long v_thoughtFees, .ref q_image, .long v_imageFees, .int v_hasImage, .ref q_tape, .int v_taped, .ref q_texts, .ref q_sizes, .int v_programs, .ref q_imageTexts, .ref q_imageSizes, .int v_imagePrograms, .int v_here, .int v_open, .int v_running, .int v_begun, .ref q_held, .ref q_marks, .int v_markMany, .ref q_trace, .int v_traced, .ref q_keptBalances, .ref q_keptFees, .int v_deep, .ref q_way, .ref q_sorts, .ref q_rowMany, .ref q_items, .ref q_moved], eI q_s k_s 125 f_s, eI q_way k_way 8 f_way] s.heap := hP
  have hl := lv_entry ([.ref h0]) (n := 3) (Nat.le_of_ble_eq_true rfl)
  rw [lg_entry_eq]
  generalize (lg_sl ([.ref h0]) ++ List.replicate (3 - (lg_sl ([.ref h0])).length) Slot.unset).toArray = ls at hl ⊢
  have hl : lv_has ls 3 [(0, .ref h0)] := hl
  suffices key9 : ∀ Q9 : State → Prop, Q9 = (MQ below (va_Qi (fun (r : Int32) (f_way2 : Nat → Int32) => r.toInt ≤ 0 ∨ Rx f_s f_way2 r) (fun (f_way2 : Nat → Int32) (t : State) => va_P (dC, dI) vwCl [eO h0 9 [.ref q_s, .long v_fees, .ref q_thought, .long v_thoughtFees, .ref q_image, .long v_imageFees, .int v_hasImage, .ref q_tape, .int v_taped, .ref q_texts, .ref q_sizes, .int v_programs, .ref q_imageTexts, .ref q_imageSizes, .int v_imagePrograms, .int v_here, .int v_open, .int v_running, .int v_begun, .ref q_held, .ref q_marks, .int v_markMany, .ref q_trace, .int v_traced, .ref q_keptBalances, .ref q_keptFees, .int v_deep, .ref q_way, .ref q_sorts, .ref q_rowMany, .ref q_items, .ref q_moved], eI q_s k_s 125 f_s, eI q_way k_way 8 f_way2] t.heap ∧ va_K (dC, dI) vwCl [(k_s, .int), (k_way, .int)] t ∧ va_D A [eO h0 9 [.ref q_s, .long v_fees, .ref q_thought, .long v_thoughtFees, .ref q_image, .long v_imageFees, .int v_hasImage, .ref q_tape, .int v_taped, .ref q_texts, .ref q_sizes, .int v_programs, .ref q_imageTexts, .ref q_imageSizes, .int v_imagePrograms, .int v_here, .int v_open, .int v_running, .int v_begun, .ref q_held, .ref q_marks, .int v_markMany, .ref q_trace, .int v_traced, .ref q_keptBalances, .ref q_keptFees, .int v_deep, .ref q_way, .ref q_sorts, .ref q_rowMany, .ref q_items, .ref q_moved], eI q_s k_s 125 f_s, eI q_way k_way 8 f_way2]) A) (([.ref h0] : List Value).toArray) s 0 0 A) → W p l e ({ frames := 23, cells := 0, slots := 0, locals := 925 }) s m (([.ref h0] : List Value).toArray) below meth c s.heap [] 0 0 Q9 (F0 m 0 ls []) from key9 _ rfl
  intro Q9 hQ9
  have k_0 : (0 : Int32).toInt = 0 := by decide
  have k_1 : (1 : Int32).toInt = 1 := by decide
  obtain ⟨ha1, ha2, hown9⟩ := id hms
  refine lv_iconst (v := 0) hx hb dX10_firstRing_0 (by decide) ?_
  refine lv_istore_n (lv' := [(1, .int 0), (0, .ref h0)]) hx hb dX10_firstRing_1 rfl hl (by decide) rfl (fun ls hl => ?_)
  have loop_2 : ∀ (n i_2 : Nat) (x_2 : Int32), i_2 ≤ 8 → 8 < i_2 + n → x_2 = nI i_2 → ∀ (gw : Nat → Int32), ∀ (H : Heap) (locs : List Loc), va_K (dC, dI) vwCl [(k_s, .int), (k_way, .int)] s → va_P (dC, dI) vwCl [eO h0 9 [.ref q_s, .long v_fees, .ref q_thought, .long v_thoughtFees, .ref q_image, .long v_imageFees, .int v_hasImage, .ref q_tape, .int v_taped, .ref q_texts, .ref q_sizes, .int v_programs, .ref q_imageTexts, .ref q_imageSizes, .int v_imagePrograms, .int v_here, .int v_open, .int v_running, .int v_begun, .ref q_held, .ref q_marks, .int v_markMany, .ref q_trace, .int v_traced, .ref q_keptBalances, .ref q_keptFees, .int v_deep, .ref q_way, .ref q_sorts, .ref q_rowMany, .ref q_items, .ref q_moved], eI q_s k_s 125 f_s, eI q_way k_way 8 gw] H → va_D A [eO h0 9 [.ref q_s, .long v_fees, .ref q_thought, .long v_thoughtFees, .ref q_image, .long v_imageFees, .int v_hasImage, .ref q_tape, .int v_taped, .ref q_texts, .ref q_sizes, .int v_programs, .ref q_imageTexts, .ref q_imageSizes, .int v_imagePrograms, .int v_here, .int v_open, .int v_running, .int v_begun, .ref q_held, .ref q_marks, .int v_markMany, .ref q_trace, .int v_traced, .ref q_keptBalances, .ref q_keptFees, .int v_deep, .ref q_way, .ref q_sorts, .ref q_rowMany, .ref q_items, .ref q_moved], eI q_s k_s 125 f_s, eI q_way k_way 8 gw] → va_S A s.heap H locs → ∀ (ls : Array Slot), lv_has ls 3 [(1, .int x_2), (0, .ref h0)] → W p l e ({ frames := 23, cells := 0, slots := 0, locals := 925 }) s m (([.ref h0] : List Value).toArray) below meth c H locs 0 0 Q9 (F0 m 2 ls []) := by
    intro n
    induction n with
    | zero => intro i_2 x_2 h1 h2; exact absurd h2 (by omega)
    | succ n ih_2 =>
      intro i_2 x_2 hi_2 hn_2 e_x_2 gw H locs hK hP hD hS ls hl
      have t_x_2 : x_2.toInt = (i_2 : Int) := by rw [e_x_2]; exact nI_toInt (by omega)
      refine lv_iload_n hx hb dX10_firstRing_2 rfl (lv_at hl 0 rfl) ?_
      refine lv_aload_n hx hb dX10_firstRing_3 rfl (lv_at hl 1 rfl) ?_
      refine va_get (D := (dC, dI)) (ci := 9) (v := .ref q_s) (C := RX10) (T := TX10) (N := 32) hx hb hts (fun w h => List.mem_cons_of_mem _ (inlX10 w h)) hown hK hP 0 rfl rfl 0 (by decide) (hts (.fieldLink RX10 11 "ClearingGatesModel" "s" "[I") (List.mem_cons_of_mem _ mw_609)) (fun _ h9 => h9) rfl dX10_firstRing_4 ?_
      refine lv_bipush (v := 60) hx hb dX10_firstRing_7 (by decide) ?_
      refine va_iald (D := (dC, dI)) hx hb hK hP 1 0 rfl rfl (vp_in_iff.mpr ⟨by decide, by decide⟩) dX10_firstRing_9 ?_
      refine lv_topi (fun z1 e_z1 => ?_)
      have a_z1 : z1.toInt = (f_s 60).toInt := by rw [e_z1]; rfl
      refine lv_icmp_ge (tgt := 41) hx hb dX10_firstRing_10 (by decide) (fun c2 => ?_) (fun c2 => ?_)
      · skip
        have f_c2 := i_le c2
        refine lv_iconst (v := 0) hx hb dX10_firstRing_41 (by decide) ?_
        rw [hQ9]
        exact W.iret (v := 0) hx hb hr (fun t ht hW => ⟨⟨0, gw, rfl, (Or.inl (by omega)), by rw [ht]; exact hP, va_K.moved hW.alike hK, hD⟩, hS.F ht⟩) hS.2.2 dX10_firstRing_42
      · skip
        have f_c2 := i_nle c2
        refine lv_aload_n hx hb dX10_firstRing_13 rfl (lv_at hl 1 rfl) ?_
        refine va_get (D := (dC, dI)) (ci := 9) (v := .ref q_way) (C := RX10) (T := TX10) (N := 32) hx hb hts (fun w h => List.mem_cons_of_mem _ (inlX10 w h)) hown hK hP 0 rfl rfl 27 (by decide) (hts (.fieldLink RX10 52 "ClearingGatesModel" "way" "[I") (List.mem_cons_of_mem _ mw_636)) (fun _ h9 => h9) rfl dX10_firstRing_14 ?_
        refine lv_iconst (v := 0) hx hb dX10_firstRing_17 (by decide) ?_
        refine lv_iload_n hx hb dX10_firstRing_18 rfl (lv_at hl 0 rfl) ?_
        refine va_iast (D := (dC, dI)) hx hb hK hP hD hS 2 1 rfl rfl (vp_in_iff.mpr ⟨by decide, by decide⟩) dX10_firstRing_19 (fun H locs hP hD hS => ?_)
        generalize e_g3 : (upd gw ((0 : Int32)).toNatClampNeg x_2) = g3 at hP hD
        obtain ⟨hP, hD⟩ := X_s (ws' := [eO h0 9 [.ref q_s, .long v_fees, .ref q_thought, .long v_thoughtFees, .ref q_image, .long v_imageFees, .int v_hasImage, .ref q_tape, .int v_taped, .ref q_texts, .ref q_sizes, .int v_programs, .ref q_imageTexts, .ref q_imageSizes, .int v_imagePrograms, .int v_here, .int v_open, .int v_running, .int v_begun, .ref q_held, .ref q_marks, .int v_markMany, .ref q_trace, .int v_traced, .ref q_keptBalances, .ref q_keptFees, .int v_deep, .ref q_way, .ref q_sorts, .ref q_rowMany, .ref q_items, .ref q_moved], eI q_s k_s 125 f_s, eI q_way k_way 8 g3]) hP hD rfl
        have hpo : Pw f_s g3 1 (2 ^ i_2) := by rw [← e_g3]; exact pw_one (by omega) e_x_2
        refine lv_aload_n hx hb dX10_firstRing_20 rfl (lv_at hl 1 rfl) ?_
        refine lv_iconst (v := 1) hx hb dX10_firstRing_21 (by decide) ?_
        refine lv_iconst (v := 1) hx hb dX10_firstRing_22 (by decide) ?_
        refine lv_iload_n hx hb dX10_firstRing_23 rfl (lv_at hl 0 rfl) ?_
        refine lv_ishl hx hb dX10_firstRing_24 ?_
        refine lv_topi (fun z4 e_z4 => ?_)
        obtain ⟨hPc, hDc, hFc, hCm, hNw⟩ := C_s (wc := [eO h0 9 [.ref q_s, .long v_fees, .ref q_thought, .long v_thoughtFees, .ref q_image, .long v_imageFees, .int v_hasImage, .ref q_tape, .int v_taped, .ref q_texts, .ref q_sizes, .int v_programs, .ref q_imageTexts, .ref q_imageSizes, .int v_imagePrograms, .int v_here, .int v_open, .int v_running, .int v_begun, .ref q_held, .ref q_marks, .int v_markMany, .ref q_trace, .int v_traced, .ref q_keptBalances, .ref q_keptFees, .int v_deep, .ref q_way, .ref q_sorts, .ref q_rowMany, .ref q_items, .ref q_moved], eI q_s k_s 125 f_s, eI q_way k_way 8 g3]) hP hD hS hA [(0, 3)] 3 rfl (by decide +kernel) rfl
        have hKc := K_s (tys' := [(k_s, .int), (k_way, .int)]) hK [(0, 2)] rfl
        refine va_calli (va_runV (As := [.int 1, .int z4]) (rest := []) ⟨hx, hb, hml, hown, hts⟩ ((kr_all l dC dI 7) h0 1 z4 q_s v_fees q_thought v_thoughtFees q_image v_imageFees v_hasImage q_tape v_taped q_texts q_sizes v_programs q_imageTexts q_imageSizes v_imagePrograms v_here v_open v_running v_begun q_held q_marks v_markMany q_trace v_traced q_keptBalances q_keptFees v_deep q_way q_sorts q_rowMany q_items q_moved k_s f_s k_way g3 1 (2 ^ i_2) H.size hms (by first | assumption | omega) (by first | assumption | omega) (by first | assumption | omega) (bit_2 (by omega) e_x_2 e_z4) hpo) (cwV 2 hts gX10_firstRing_X10_ringFrom rfl rfl rfl (by decide +kernel) ⟨Nat.le_of_ble_eq_true rfl, Nat.le_of_ble_eq_true rfl⟩) ⟨fun a U g mk q => by obtain ⟨q0, q1, qP, qK, qD⟩ := q; exact ⟨q0, q1, qP, va_K.moved (u := U) (U := U.calling g mk a) (Vm.Alike.refl U.vm) qK, qD⟩, va_recv (s := s) (q := (RX10, TX10, 32)) hKc hPc (ci := 9) (q0 := 0) rfl rfl, fun U hU hW => ⟨rfl, by rw [hU], by rw [hU]; exact hPc, va_K.moved hW.alike hKc, hDc.weaken (fun _ _ _ _ => trivial)⟩⟩ rfl rfl hl.1 rfl (lv_room (Nat.le_of_ble_eq_true rfl)) dX10_firstRing_25 ⟨Nat.le_of_ble_eq_true rfl, Nat.le_of_ble_eq_true rfl⟩) hS (fun q _ h => hFc q h) hFc (fun r5 u t H1 locs ht hvm hw hB hz1 hk1 hS => ?_)
        obtain ⟨u6, rfl⟩ : ∃ z, z = u := ⟨_, rfl⟩
        obtain ⟨hP1, hK1, hD1⟩ := hB
        rw [ht] at hP1
        have hK1 := va_K.moved hvm.symm hK1
        try dsimp only at hw
        obtain ⟨hP, hD⟩ := J_s (wL := [eO h0 9 [.ref q_s, .long v_fees, .ref q_thought, .long v_thoughtFees, .ref q_image, .long v_imageFees, .int v_hasImage, .ref q_tape, .int v_taped, .ref q_texts, .ref q_sizes, .int v_programs, .ref q_imageTexts, .ref q_imageSizes, .int v_imagePrograms, .int v_here, .int v_open, .int v_running, .int v_begun, .ref q_held, .ref q_marks, .int v_markMany, .ref q_trace, .int v_traced, .ref q_keptBalances, .ref q_keptFees, .int v_deep, .ref q_way, .ref q_sorts, .ref q_rowMany, .ref q_items, .ref q_moved], eI q_s k_s 125 f_s, eI q_way k_way 8 u6]) hP hD [(0, 3)] [] hCm hNw (by decide +kernel) hk1 hFc hP1 hD1 rfl
        have hK := KJ_s (tys' := [(k_s, .int), (k_way, .int)]) hK hK1 [] rfl
        generalize H1 = H at hP hS ⊢
        have h_r5 := hw
        refine lv_istore_n (lv' := [(2, .int r5), (1, .int x_2), (0, .ref h0)]) hx hb dX10_firstRing_28 rfl hl (by decide) rfl (fun ls hl => ?_)
        refine lv_iload_n hx hb dX10_firstRing_29 rfl (lv_at hl 0 rfl) ?_
        refine lv_if_le (tgt := 35) hx hb dX10_firstRing_30 (by decide) (fun c7 => ?_) (fun c7 => ?_)
        · skip
          have f_c7 := i_le c7
          obtain ⟨x8, e_x8⟩ : ∃ yy : Int32, yy = x_2 + 1 := ⟨_, rfl⟩
          refine lv_iinc (v := x8) (lv' := [(1, .int x8), (2, .int r5), (0, .ref h0)]) hx hb dX10_firstRing_35 hl (k := 1) rfl (by rw [e_x8]; rfl) (by decide) rfl (fun ls hl => ?_)
          (first | have t_x8 := i_add e_x8 (by omega) (by omega) | skip)
          refine lv_goto (tgt := 2) hx hb dX10_firstRing_38 (by decide) ?_
          exact ih_2 (i_2 + 1) x8 (by omega) (by omega) (by rw [e_x8, e_x_2]; exact nI_1 i_2) u6  _ _ (K_s hK [(0, 2)] rfl) (P_s hP [(0, 3)] rfl) (D_s hD [(0, 3)] 3 rfl (by decide +kernel) rfl) hS ls (lv_sub hl [0, 2] rfl)
        · skip
          have f_c7 := i_nle c7
          refine lv_iload_n hx hb dX10_firstRing_33 rfl (lv_at hl 0 rfl) ?_
          rw [hQ9]
          exact W.iret (v := r5) hx hb hr (fun t ht hW => ⟨⟨r5, u6, rfl, (Or.inr (by rcases h_r5 with q | q; exact absurd q.1 (by omega); exact q)), by rw [ht]; exact hP, va_K.moved hW.alike hK, hD⟩, hS.F ht⟩) hS.2.2 dX10_firstRing_34
  exact loop_2 (8 + 1) 0 0 (by omega) (by omega) rfl f_way  _ _ hK hP hD hS ls hl
