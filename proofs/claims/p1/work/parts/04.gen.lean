theorem in_X0_open_X0 : ∀ w ∈ wsX00, w ∈ wsX0_open := fun _ h => List.mem_cons_of_mem _ (List.mem_append_right _ h)
set_option maxRecDepth 100000 in
set_option maxHeartbeats 4000000 in
/-- Books.open with no account: its number is 0 -/
theorem c_X0_open (l : Launch) (dC : Nat → ClassId) (dI : Nat → Nat → Nat) (h0 : Nat) (p0 : Int32) (p1 : Int32) (aq0 : Nat) (aq1 : Nat) (aq2 : Nat) (aq3 : Nat) (aq4 : Nat) (aq5 : Nat) (aq6 : Nat) (afees : Int64) (amis : Int32) (abel : Int32) (aref : Int32) (acau : Int32) (ak0 : ClassId) (ag0 : Nat → Int32) (ak1 : ClassId) (ag1 : Nat → Int32) (ak2 : ClassId) (ag2 : Nat → Int32) (ak3 : ClassId) (ag3 : Nat → Int32) (ak4 : ClassId) (ag4 : Nat → Int32) (ak5 : ClassId) (ag5 : Nat → Int32) (ak6 : ClassId) (ag6 : Nat → Int32) (sz : Nat) : Met l yX0_open wsX0_open ({ frames := 0, cells := 0, slots := 0, locals := 0 }) (va_Pc [.ref h0, .int p0, .int p1] (fun U => U.heap.size = sz ∧ va_P (dC, dI) vwCl [(h0, .inr (0, [.ref aq0, .ref aq1, .ref aq2, .ref aq3, .ref aq4, .ref aq5, .ref aq6, .int 0, .long afees, .int amis, .int abel, .int aref, .int acau])), (aq0, .inl (ak0, 8, .inl ag0)), (aq1, .inl (ak1, 8, .inl ag1)), (aq2, .inl (ak2, 8, .inl ag2)), (aq3, .inl (ak3, 8, .inl ag3)), (aq4, .inl (ak4, 8, .inl ag4)), (aq5, .inl (ak5, 8, .inl ag5)), (aq6, .inl (ak6, 8, .inl ag6))] U.heap ∧ va_K (dC, dI) vwCl [(ak0, .int), (ak1, .int), (ak2, .int), (ak3, .boolean), (ak4, .int), (ak5, .int), (ak6, .int)] U ∧ va_D (fun _ => True) [(h0, .inr (0, [.ref aq0, .ref aq1, .ref aq2, .ref aq3, .ref aq4, .ref aq5, .ref aq6, .int 0, .long afees, .int amis, .int abel, .int aref, .int acau])), (aq0, .inl (ak0, 8, .inl ag0)), (aq1, .inl (ak1, 8, .inl ag1)), (aq2, .inl (ak2, 8, .inl ag2)), (aq3, .inl (ak3, 8, .inl ag3)), (aq4, .inl (ak4, 8, .inl ag4)), (aq5, .inl (ak5, 8, .inl ag5)), (aq6, .inl (ak6, 8, .inl ag6))])) (va_Qi (fun (r : Int32) (_ : Unit) => r = 0) (fun (_ : Unit) (t : State) => va_P (dC, dI) vwCl [] t.heap ∧ va_K (dC, dI) vwCl [] t ∧ va_D (va_A [(h0, .inr (0, [.ref aq0, .ref aq1, .ref aq2, .ref aq3, .ref aq4, .ref aq5, .ref aq6, .int 0, .long afees, .int amis, .int abel, .int aref, .int acau])), (aq0, .inl (ak0, 8, .inl ag0)), (aq1, .inl (ak1, 8, .inl ag1)), (aq2, .inl (ak2, 8, .inl ag2)), (aq3, .inl (ak3, 8, .inl ag3)), (aq4, .inl (ak4, 8, .inl ag4)), (aq5, .inl (ak5, 8, .inl ag5)), (aq6, .inl (ak6, 8, .inl ag6))] sz) []) (va_A [(h0, .inr (0, [.ref aq0, .ref aq1, .ref aq2, .ref aq3, .ref aq4, .ref aq5, .ref aq6, .int 0, .long afees, .int amis, .int abel, .int aref, .int acau])), (aq0, .inl (ak0, 8, .inl ag0)), (aq1, .inl (ak1, 8, .inl ag1)), (aq2, .inl (ak2, 8, .inl ag2)), (aq3, .inl (ak3, 8, .inl ag3)), (aq4, .inl (ak4, 8, .inl ag4)), (aq5, .inl (ak5, 8, .inl ag5)), (aq6, .inl (ak6, 8, .inl ag6))] sz)) 0 0 (va_A [(h0, .inr (0, [.ref aq0, .ref aq1, .ref aq2, .ref aq3, .ref aq4, .ref aq5, .ref aq6, .int 0, .long afees, .int amis, .int abel, .int aref, .int acau])), (aq0, .inl (ak0, 8, .inl ag0)), (aq1, .inl (ak1, 8, .inl ag1)), (aq2, .inl (ak2, 8, .inl ag2)), (aq3, .inl (ak3, 8, .inl ag3)), (aq4, .inl (ak4, 8, .inl ag4)), (aq5, .inl (ak5, 8, .inl ag5)), (aq6, .inl (ak6, 8, .inl ag6))] sz) := by
  refine Met.ofW (cc := cX0_open) (maxL := 4) (ret := (some .int)) (by decide) rfl ?_
  intro p e s m args below meth c s₁ B hml hv
  obtain ⟨rfl, hsz, hP, hK, hD0⟩ := hv
  have hx := B.exec
  have hb := B.bytes
  have hr := B.returns
  have hts := atoms_spec (ws := wsX0_open) B.pre
  have hown : s.vm.findClass RX0 = some m.cls := findClass_of_methodNamed B.named
  have hlocks := B.notSynchronized
  subst hsz
  have hD := hD0.self (sz := s.heap.size)
  generalize hAe : va_A [(h0, .inr (0, [.ref aq0, .ref aq1, .ref aq2, .ref aq3, .ref aq4, .ref aq5, .ref aq6, .int 0, .long afees, .int amis, .int abel, .int aref, .int acau])), (aq0, .inl (ak0, 8, .inl ag0)), (aq1, .inl (ak1, 8, .inl ag1)), (aq2, .inl (ak2, 8, .inl ag2)), (aq3, .inl (ak3, 8, .inl ag3)), (aq4, .inl (ak4, 8, .inl ag4)), (aq5, .inl (ak5, 8, .inl ag5)), (aq6, .inl (ak6, 8, .inl ag6))] s.heap.size = A at hD ⊢
  have hA : ∀ q : Nat, s.heap.size ≤ q → A q := fun q h => by rw [← hAe]; exact Or.inr h
  have hS : va_S A s.heap s.heap [] := va_S.rf
  have hP : va_P (dC, dI) vwCl [(h0, .inr (0, [.ref aq0, .ref aq1, .ref aq2, .ref aq3, .ref aq4, .ref aq5, .ref aq6, .int 0, .long afees, .int amis, .int abel, .int aref, .int acau])), (aq0, .inl (ak0, 8, .inl ag0)), (aq1, .inl (ak1, 8, .inl ag1)), (aq2, .inl (ak2, 8, .inl ag2)), (aq3, .inl (ak3, 8, .inl ag3)), (aq4, .inl (ak4, 8, .inl ag4)), (aq5, .inl (ak5, 8, .inl ag5)), (aq6, .inl (ak6, 8, .inl ag6))] s.heap := hP
  have hl := lv_entry ([.ref h0, .int p0, .int p1]) (n := 4) (Nat.le_of_ble_eq_true rfl)
  rw [lg_entry_eq]
  generalize (lg_sl ([.ref h0, .int p0, .int p1]) ++ List.replicate (4 - (lg_sl ([.ref h0, .int p0, .int p1])).length) Slot.unset).toArray = ls at hl ⊢
  have hl : lv_has ls 4 [(0, .ref h0), (1, .int p0), (2, .int p1)] := hl
  have k_0 : (0 : Int32).toInt = 0 := by decide
  have k_1 : (1 : Int32).toInt = 1 := by decide
  refine lv_aload_n hx hb dX0_open_0 rfl (lv_at hl 0 rfl) ?_
  refine va_get (D := (dC, dI)) (ci := 0) (v := .int 0) (C := RX0) (T := TX0) (N := 13) hx hb hts in_X0_open_X0 hown hK hP 0 rfl rfl 7 (by decide) (hts (.fieldLink RX0 34 "ClearingGates$Books" "accounts" "I") (List.mem_of_getElem? (i := 1) (by decide +kernel))) (fun _ h9 => h9) rfl dX0_open_1 ?_
  refine lv_istore_n (lv' := [(3, .int 0), (0, .ref h0), (1, .int p0), (2, .int p1)]) hx hb dX0_open_4 rfl hl (by decide) rfl (fun ls hl => ?_)
  refine lv_aload_n hx hb dX0_open_5 rfl (lv_at hl 1 rfl) ?_
  refine va_get (D := (dC, dI)) (ci := 0) (v := .ref aq0) (C := RX0) (T := TX0) (N := 13) hx hb hts in_X0_open_X0 hown hK hP 0 rfl rfl 0 (by decide) (hts (.fieldLink RX0 9 "ClearingGates$Books" "kinds" "[I") (List.mem_of_getElem? (i := 2) (by decide +kernel))) (fun _ h9 => h9) rfl dX0_open_6 ?_
  refine lv_iload_n hx hb dX0_open_9 rfl (lv_at hl 0 rfl) ?_
  refine lv_iload_n hx hb dX0_open_10 rfl (lv_at hl 2 rfl) ?_
  refine va_iast (D := (dC, dI)) hx hb hK hP hD hS 1 0 rfl rfl (vp_in_iff.mpr ⟨by decide, by decide⟩) dX0_open_11 (fun H locs hP hD hS => ?_)
  generalize e_g1 : (upd ag0 ((0 : Int32)).toNatClampNeg p0) = g1 at hP hD
  have hP : va_P (dC, dI) vwCl [(h0, .inr (0, [.ref aq0, .ref aq1, .ref aq2, .ref aq3, .ref aq4, .ref aq5, .ref aq6, .int 0, .long afees, .int amis, .int abel, .int aref, .int acau])), (aq0, .inl (ak0, 8, .inl g1)), (aq1, .inl (ak1, 8, .inl ag1)), (aq2, .inl (ak2, 8, .inl ag2)), (aq3, .inl (ak3, 8, .inl ag3)), (aq4, .inl (ak4, 8, .inl ag4)), (aq5, .inl (ak5, 8, .inl ag5)), (aq6, .inl (ak6, 8, .inl ag6))] H := hP
  have hD : va_D A [(h0, .inr (0, [.ref aq0, .ref aq1, .ref aq2, .ref aq3, .ref aq4, .ref aq5, .ref aq6, .int 0, .long afees, .int amis, .int abel, .int aref, .int acau])), (aq0, .inl (ak0, 8, .inl g1)), (aq1, .inl (ak1, 8, .inl ag1)), (aq2, .inl (ak2, 8, .inl ag2)), (aq3, .inl (ak3, 8, .inl ag3)), (aq4, .inl (ak4, 8, .inl ag4)), (aq5, .inl (ak5, 8, .inl ag5)), (aq6, .inl (ak6, 8, .inl ag6))] := hD
  refine lv_aload_n hx hb dX0_open_12 rfl (lv_at hl 1 rfl) ?_
  refine va_get (D := (dC, dI)) (ci := 0) (v := .ref aq1) (C := RX0) (T := TX0) (N := 13) hx hb hts in_X0_open_X0 hown hK hP 0 rfl rfl 1 (by decide) (hts (.fieldLink RX0 15 "ClearingGates$Books" "balances" "[I") (List.mem_of_getElem? (i := 3) (by decide +kernel))) (fun _ h9 => h9) rfl dX0_open_13 ?_
  refine lv_iload_n hx hb dX0_open_16 rfl (lv_at hl 0 rfl) ?_
  refine lv_iload_n hx hb dX0_open_17 rfl (lv_at hl 3 rfl) ?_
  refine va_iast (D := (dC, dI)) hx hb hK hP hD hS 2 1 rfl rfl (vp_in_iff.mpr ⟨by decide, by decide⟩) dX0_open_18 (fun H locs hP hD hS => ?_)
  generalize e_g2 : (upd ag1 ((0 : Int32)).toNatClampNeg p1) = g2 at hP hD
  have hP : va_P (dC, dI) vwCl [(h0, .inr (0, [.ref aq0, .ref aq1, .ref aq2, .ref aq3, .ref aq4, .ref aq5, .ref aq6, .int 0, .long afees, .int amis, .int abel, .int aref, .int acau])), (aq0, .inl (ak0, 8, .inl g1)), (aq1, .inl (ak1, 8, .inl g2)), (aq2, .inl (ak2, 8, .inl ag2)), (aq3, .inl (ak3, 8, .inl ag3)), (aq4, .inl (ak4, 8, .inl ag4)), (aq5, .inl (ak5, 8, .inl ag5)), (aq6, .inl (ak6, 8, .inl ag6))] H := hP
  have hD : va_D A [(h0, .inr (0, [.ref aq0, .ref aq1, .ref aq2, .ref aq3, .ref aq4, .ref aq5, .ref aq6, .int 0, .long afees, .int amis, .int abel, .int aref, .int acau])), (aq0, .inl (ak0, 8, .inl g1)), (aq1, .inl (ak1, 8, .inl g2)), (aq2, .inl (ak2, 8, .inl ag2)), (aq3, .inl (ak3, 8, .inl ag3)), (aq4, .inl (ak4, 8, .inl ag4)), (aq5, .inl (ak5, 8, .inl ag5)), (aq6, .inl (ak6, 8, .inl ag6))] := hD
  refine lv_aload_n hx hb dX0_open_19 rfl (lv_at hl 1 rfl) ?_
  refine va_get (D := (dC, dI)) (ci := 0) (v := .ref aq2) (C := RX0) (T := TX0) (N := 13) hx hb hts in_X0_open_X0 hown hK hP 0 rfl rfl 2 (by decide) (hts (.fieldLink RX0 18 "ClearingGates$Books" "limits" "[I") (List.mem_of_getElem? (i := 4) (by decide +kernel))) (fun _ h9 => h9) rfl dX0_open_20 ?_
  refine lv_iload_n hx hb dX0_open_23 rfl (lv_at hl 0 rfl) ?_
  refine lv_iconst (v := 0) hx hb dX0_open_24 (by decide) ?_
  refine va_iast (D := (dC, dI)) hx hb hK hP hD hS 3 2 rfl rfl (vp_in_iff.mpr ⟨by decide, by decide⟩) dX0_open_25 (fun H locs hP hD hS => ?_)
  generalize e_g3 : (upd ag2 ((0 : Int32)).toNatClampNeg 0) = g3 at hP hD
  have hP : va_P (dC, dI) vwCl [(h0, .inr (0, [.ref aq0, .ref aq1, .ref aq2, .ref aq3, .ref aq4, .ref aq5, .ref aq6, .int 0, .long afees, .int amis, .int abel, .int aref, .int acau])), (aq0, .inl (ak0, 8, .inl g1)), (aq1, .inl (ak1, 8, .inl g2)), (aq2, .inl (ak2, 8, .inl g3)), (aq3, .inl (ak3, 8, .inl ag3)), (aq4, .inl (ak4, 8, .inl ag4)), (aq5, .inl (ak5, 8, .inl ag5)), (aq6, .inl (ak6, 8, .inl ag6))] H := hP
  have hD : va_D A [(h0, .inr (0, [.ref aq0, .ref aq1, .ref aq2, .ref aq3, .ref aq4, .ref aq5, .ref aq6, .int 0, .long afees, .int amis, .int abel, .int aref, .int acau])), (aq0, .inl (ak0, 8, .inl g1)), (aq1, .inl (ak1, 8, .inl g2)), (aq2, .inl (ak2, 8, .inl g3)), (aq3, .inl (ak3, 8, .inl ag3)), (aq4, .inl (ak4, 8, .inl ag4)), (aq5, .inl (ak5, 8, .inl ag5)), (aq6, .inl (ak6, 8, .inl ag6))] := hD
  refine lv_aload_n hx hb dX0_open_26 rfl (lv_at hl 1 rfl) ?_
  refine va_get (D := (dC, dI)) (ci := 0) (v := .ref aq3) (C := RX0) (T := TX0) (N := 13) hx hb hts in_X0_open_X0 hown hK hP 0 rfl rfl 3 (by decide) (hts (.fieldLink RX0 21 "ClearingGates$Books" "gates" "[Z") (List.mem_of_getElem? (i := 5) (by decide +kernel))) (fun _ h9 => h9) rfl dX0_open_27 ?_
  refine lv_iload_n hx hb dX0_open_30 rfl (lv_at hl 0 rfl) ?_
  refine lv_iconst (v := 1) hx hb dX0_open_31 (by decide) ?_
  refine va_zast (D := (dC, dI)) hx hb hK hP hD hS 4 3 rfl rfl (vp_in_iff.mpr ⟨by decide, by decide⟩) dX0_open_32 (fun H locs hP hD hS => ?_)
  generalize e_g4 : (upd ag3 ((0 : Int32)).toNatClampNeg (vp_nar .boolean 1)) = g4 at hP hD
  have hP : va_P (dC, dI) vwCl [(h0, .inr (0, [.ref aq0, .ref aq1, .ref aq2, .ref aq3, .ref aq4, .ref aq5, .ref aq6, .int 0, .long afees, .int amis, .int abel, .int aref, .int acau])), (aq0, .inl (ak0, 8, .inl g1)), (aq1, .inl (ak1, 8, .inl g2)), (aq2, .inl (ak2, 8, .inl g3)), (aq3, .inl (ak3, 8, .inl g4)), (aq4, .inl (ak4, 8, .inl ag4)), (aq5, .inl (ak5, 8, .inl ag5)), (aq6, .inl (ak6, 8, .inl ag6))] H := hP
  have hD : va_D A [(h0, .inr (0, [.ref aq0, .ref aq1, .ref aq2, .ref aq3, .ref aq4, .ref aq5, .ref aq6, .int 0, .long afees, .int amis, .int abel, .int aref, .int acau])), (aq0, .inl (ak0, 8, .inl g1)), (aq1, .inl (ak1, 8, .inl g2)), (aq2, .inl (ak2, 8, .inl g3)), (aq3, .inl (ak3, 8, .inl g4)), (aq4, .inl (ak4, 8, .inl ag4)), (aq5, .inl (ak5, 8, .inl ag5)), (aq6, .inl (ak6, 8, .inl ag6))] := hD
  refine lv_aload_n hx hb dX0_open_33 rfl (lv_at hl 1 rfl) ?_
  refine va_get (D := (dC, dI)) (ci := 0) (v := .ref aq4) (C := RX0) (T := TX0) (N := 13) hx hb hts in_X0_open_X0 hown hK hP 0 rfl rfl 4 (by decide) (hts (.fieldLink RX0 25 "ClearingGates$Books" "entries" "[I") (List.mem_of_getElem? (i := 6) (by decide +kernel))) (fun _ h9 => h9) rfl dX0_open_34 ?_
  refine lv_iload_n hx hb dX0_open_37 rfl (lv_at hl 0 rfl) ?_
  refine lv_iconst (v := 0) hx hb dX0_open_38 (by decide) ?_
  refine va_iast (D := (dC, dI)) hx hb hK hP hD hS 5 4 rfl rfl (vp_in_iff.mpr ⟨by decide, by decide⟩) dX0_open_39 (fun H locs hP hD hS => ?_)
  generalize e_g5 : (upd ag4 ((0 : Int32)).toNatClampNeg 0) = g5 at hP hD
  have hP : va_P (dC, dI) vwCl [(h0, .inr (0, [.ref aq0, .ref aq1, .ref aq2, .ref aq3, .ref aq4, .ref aq5, .ref aq6, .int 0, .long afees, .int amis, .int abel, .int aref, .int acau])), (aq0, .inl (ak0, 8, .inl g1)), (aq1, .inl (ak1, 8, .inl g2)), (aq2, .inl (ak2, 8, .inl g3)), (aq3, .inl (ak3, 8, .inl g4)), (aq4, .inl (ak4, 8, .inl g5)), (aq5, .inl (ak5, 8, .inl ag5)), (aq6, .inl (ak6, 8, .inl ag6))] H := hP
  have hD : va_D A [(h0, .inr (0, [.ref aq0, .ref aq1, .ref aq2, .ref aq3, .ref aq4, .ref aq5, .ref aq6, .int 0, .long afees, .int amis, .int abel, .int aref, .int acau])), (aq0, .inl (ak0, 8, .inl g1)), (aq1, .inl (ak1, 8, .inl g2)), (aq2, .inl (ak2, 8, .inl g3)), (aq3, .inl (ak3, 8, .inl g4)), (aq4, .inl (ak4, 8, .inl g5)), (aq5, .inl (ak5, 8, .inl ag5)), (aq6, .inl (ak6, 8, .inl ag6))] := hD
  refine lv_aload_n hx hb dX0_open_40 rfl (lv_at hl 1 rfl) ?_
  refine va_get (D := (dC, dI)) (ci := 0) (v := .ref aq5) (C := RX0) (T := TX0) (N := 13) hx hb hts in_X0_open_X0 hown hK hP 0 rfl rfl 5 (by decide) (hts (.fieldLink RX0 28 "ClearingGates$Books" "leavings" "[I") (List.mem_of_getElem? (i := 7) (by decide +kernel))) (fun _ h9 => h9) rfl dX0_open_41 ?_
  refine lv_iload_n hx hb dX0_open_44 rfl (lv_at hl 0 rfl) ?_
  refine lv_iconst (v := 0) hx hb dX0_open_45 (by decide) ?_
  refine va_iast (D := (dC, dI)) hx hb hK hP hD hS 6 5 rfl rfl (vp_in_iff.mpr ⟨by decide, by decide⟩) dX0_open_46 (fun H locs hP hD hS => ?_)
  generalize e_g6 : (upd ag5 ((0 : Int32)).toNatClampNeg 0) = g6 at hP hD
  have hP : va_P (dC, dI) vwCl [(h0, .inr (0, [.ref aq0, .ref aq1, .ref aq2, .ref aq3, .ref aq4, .ref aq5, .ref aq6, .int 0, .long afees, .int amis, .int abel, .int aref, .int acau])), (aq0, .inl (ak0, 8, .inl g1)), (aq1, .inl (ak1, 8, .inl g2)), (aq2, .inl (ak2, 8, .inl g3)), (aq3, .inl (ak3, 8, .inl g4)), (aq4, .inl (ak4, 8, .inl g5)), (aq5, .inl (ak5, 8, .inl g6)), (aq6, .inl (ak6, 8, .inl ag6))] H := hP
  have hD : va_D A [(h0, .inr (0, [.ref aq0, .ref aq1, .ref aq2, .ref aq3, .ref aq4, .ref aq5, .ref aq6, .int 0, .long afees, .int amis, .int abel, .int aref, .int acau])), (aq0, .inl (ak0, 8, .inl g1)), (aq1, .inl (ak1, 8, .inl g2)), (aq2, .inl (ak2, 8, .inl g3)), (aq3, .inl (ak3, 8, .inl g4)), (aq4, .inl (ak4, 8, .inl g5)), (aq5, .inl (ak5, 8, .inl g6)), (aq6, .inl (ak6, 8, .inl ag6))] := hD
  refine lv_aload_n hx hb dX0_open_47 rfl (lv_at hl 1 rfl) ?_
  refine va_get (D := (dC, dI)) (ci := 0) (v := .ref aq6) (C := RX0) (T := TX0) (N := 13) hx hb hts in_X0_open_X0 hown hK hP 0 rfl rfl 6 (by decide) (hts (.fieldLink RX0 31 "ClearingGates$Books" "agains" "[I") (List.mem_of_getElem? (i := 8) (by decide +kernel))) (fun _ h9 => h9) rfl dX0_open_48 ?_
  refine lv_iload_n hx hb dX0_open_51 rfl (lv_at hl 0 rfl) ?_
  refine lv_iconst (v := 0) hx hb dX0_open_52 (by decide) ?_
  refine va_iast (D := (dC, dI)) hx hb hK hP hD hS 7 6 rfl rfl (vp_in_iff.mpr ⟨by decide, by decide⟩) dX0_open_53 (fun H locs hP hD hS => ?_)
  generalize e_g7 : (upd ag6 ((0 : Int32)).toNatClampNeg 0) = g7 at hP hD
  have hP : va_P (dC, dI) vwCl [(h0, .inr (0, [.ref aq0, .ref aq1, .ref aq2, .ref aq3, .ref aq4, .ref aq5, .ref aq6, .int 0, .long afees, .int amis, .int abel, .int aref, .int acau])), (aq0, .inl (ak0, 8, .inl g1)), (aq1, .inl (ak1, 8, .inl g2)), (aq2, .inl (ak2, 8, .inl g3)), (aq3, .inl (ak3, 8, .inl g4)), (aq4, .inl (ak4, 8, .inl g5)), (aq5, .inl (ak5, 8, .inl g6)), (aq6, .inl (ak6, 8, .inl g7))] H := hP
  have hD : va_D A [(h0, .inr (0, [.ref aq0, .ref aq1, .ref aq2, .ref aq3, .ref aq4, .ref aq5, .ref aq6, .int 0, .long afees, .int amis, .int abel, .int aref, .int acau])), (aq0, .inl (ak0, 8, .inl g1)), (aq1, .inl (ak1, 8, .inl g2)), (aq2, .inl (ak2, 8, .inl g3)), (aq3, .inl (ak3, 8, .inl g4)), (aq4, .inl (ak4, 8, .inl g5)), (aq5, .inl (ak5, 8, .inl g6)), (aq6, .inl (ak6, 8, .inl g7))] := hD
  refine lv_aload_n hx hb dX0_open_54 rfl (lv_at hl 1 rfl) ?_
  refine lv_dup hx hb dX0_open_55 rfl ?_
  refine va_get (D := (dC, dI)) (ci := 0) (v := .int 0) (C := RX0) (T := TX0) (N := 13) hx hb hts in_X0_open_X0 hown hK hP 0 rfl rfl 7 (by decide) (hts (.fieldLink RX0 34 "ClearingGates$Books" "accounts" "I") (List.mem_of_getElem? (i := 1) (by decide +kernel))) (fun _ h9 => h9) rfl dX0_open_56 ?_
  refine lv_iconst (v := 1) hx hb dX0_open_59 (by decide) ?_
  refine lv_iadd hx hb dX0_open_60 ?_
  refine lv_topi (fun z8 e_z8 => ?_)
  have e_z8 : z8 = 1 := e_z8.trans (by first | rfl | decide)
  subst e_z8
  refine va_put (D := (dC, dI)) (ci := 0) (v := .int 1) (ty := .int) (C := RX0) (T := TX0) (N := 13) hx hb hts in_X0_open_X0 tyX0 tyX0_ok nmX0 hown hK hP hD hS 0 rfl rfl 7 (by decide) (hts (.fieldLink RX0 34 "ClearingGates$Books" "accounts" "I") (List.mem_of_getElem? (i := 1) (by decide +kernel))) (fun _ h9 => h9) rfl (by decide +kernel) rfl rfl (Nat.le_of_ble_eq_true rfl) dX0_open_61 (fun H locs hP hD hS => ?_)
  have hP : va_P (dC, dI) vwCl [(h0, .inr (0, [.ref aq0, .ref aq1, .ref aq2, .ref aq3, .ref aq4, .ref aq5, .ref aq6, .int 1, .long afees, .int amis, .int abel, .int aref, .int acau])), (aq0, .inl (ak0, 8, .inl g1)), (aq1, .inl (ak1, 8, .inl g2)), (aq2, .inl (ak2, 8, .inl g3)), (aq3, .inl (ak3, 8, .inl g4)), (aq4, .inl (ak4, 8, .inl g5)), (aq5, .inl (ak5, 8, .inl g6)), (aq6, .inl (ak6, 8, .inl g7))] H := hP
  have hD : va_D A [(h0, .inr (0, [.ref aq0, .ref aq1, .ref aq2, .ref aq3, .ref aq4, .ref aq5, .ref aq6, .int 1, .long afees, .int amis, .int abel, .int aref, .int acau])), (aq0, .inl (ak0, 8, .inl g1)), (aq1, .inl (ak1, 8, .inl g2)), (aq2, .inl (ak2, 8, .inl g3)), (aq3, .inl (ak3, 8, .inl g4)), (aq4, .inl (ak4, 8, .inl g5)), (aq5, .inl (ak5, 8, .inl g6)), (aq6, .inl (ak6, 8, .inl g7))] := hD
  refine lv_iload_n hx hb dX0_open_64 rfl (lv_at hl 0 rfl) ?_
  have hP9 := hP.sub (ws' := []) [] rfl
  have hD9 := hD.sub (ws' := []) [] (by decide) rfl
  have hK9 := hK.sub (tys' := []) [] rfl
  exact W.iret (v := 0) hx hb hr (fun t ht hW => ⟨⟨0, (), rfl, (by first | rfl | (simp only [if_pos, if_neg, *]; done)), by rw [ht]; exact hP9, va_K.moved hW.alike hK9, hD9⟩, hS.F ht⟩) hS.2.2 dX0_open_65

theorem in_X0_hasAllGates_X0 : ∀ w ∈ wsX00, w ∈ wsX0_hasAllGates := fun _ h => List.mem_cons_of_mem _ (List.mem_append_right _ h)
set_option maxRecDepth 100000 in
set_option maxHeartbeats 4000000 in
/-- Books.hasAllGates with no account -/
theorem c_X0_hasAllGates (l : Launch) (dC : Nat → ClassId) (dI : Nat → Nat → Nat) (h0 : Nat) (v0 : Value) (v1 : Value) (v2 : Value) (v3 : Value) (v4 : Value) (v5 : Value) (v6 : Value) (v8 : Value) (v9 : Value) (v10 : Value) (v11 : Value) (v12 : Value) (sz : Nat) : Met l yX0_hasAllGates wsX0_hasAllGates ({ frames := 0, cells := 0, slots := 0, locals := 0 }) (va_Pc [.ref h0] (fun U => U.heap.size = sz ∧ va_P (dC, dI) vwCl [(h0, .inr (0, [v0, v1, v2, v3, v4, v5, v6, .int 0, v8, v9, v10, v11, v12]))] U.heap ∧ va_K (dC, dI) vwCl [] U ∧ va_D (fun _ => True) [(h0, .inr (0, [v0, v1, v2, v3, v4, v5, v6, .int 0, v8, v9, v10, v11, v12]))])) (va_Qi (fun (r : Int32) (_ : Unit) => r = 1) (fun (_ : Unit) (t : State) => va_P (dC, dI) vwCl [(h0, .inr (0, [v0, v1, v2, v3, v4, v5, v6, .int 0, v8, v9, v10, v11, v12]))] t.heap ∧ va_K (dC, dI) vwCl [] t ∧ va_D (va_A [(h0, .inr (0, [v0, v1, v2, v3, v4, v5, v6, .int 0, v8, v9, v10, v11, v12]))] sz) [(h0, .inr (0, [v0, v1, v2, v3, v4, v5, v6, .int 0, v8, v9, v10, v11, v12]))]) (va_A [(h0, .inr (0, [v0, v1, v2, v3, v4, v5, v6, .int 0, v8, v9, v10, v11, v12]))] sz)) 0 0 (va_A [(h0, .inr (0, [v0, v1, v2, v3, v4, v5, v6, .int 0, v8, v9, v10, v11, v12]))] sz) := by
  refine Met.ofW (cc := cX0_hasAllGates) (maxL := 2) (ret := (some .boolean)) (by decide) rfl ?_
  intro p e s m args below meth c s₁ B hml hv
  obtain ⟨rfl, hsz, hP, hK, hD0⟩ := hv
  have hx := B.exec
  have hb := B.bytes
  have hr := B.returns
  have hts := atoms_spec (ws := wsX0_hasAllGates) B.pre
  have hown : s.vm.findClass RX0 = some m.cls := findClass_of_methodNamed B.named
  have hlocks := B.notSynchronized
  subst hsz
  have hD := hD0.self (sz := s.heap.size)
  generalize hAe : va_A [(h0, .inr (0, [v0, v1, v2, v3, v4, v5, v6, .int 0, v8, v9, v10, v11, v12]))] s.heap.size = A at hD ⊢
  have hA : ∀ q : Nat, s.heap.size ≤ q → A q := fun q h => by rw [← hAe]; exact Or.inr h
  have hS : va_S A s.heap s.heap [] := va_S.rf
  have hP : va_P (dC, dI) vwCl [(h0, .inr (0, [v0, v1, v2, v3, v4, v5, v6, .int 0, v8, v9, v10, v11, v12]))] s.heap := hP
  have hl := lv_entry ([.ref h0]) (n := 2) (Nat.le_of_ble_eq_true rfl)
  rw [lg_entry_eq]
  generalize (lg_sl ([.ref h0]) ++ List.replicate (2 - (lg_sl ([.ref h0])).length) Slot.unset).toArray = ls at hl ⊢
  have hl : lv_has ls 2 [(0, .ref h0)] := hl
  have k_1 : (1 : Int32).toInt = 1 := by decide
  refine lv_iconst (v := 0) hx hb dX0_hasAllGates_0 (by decide) ?_
  refine lv_istore_n (lv' := [(1, .int 0), (0, .ref h0)]) hx hb dX0_hasAllGates_1 rfl hl (by decide) rfl (fun ls hl => ?_)
  refine lv_iload_n hx hb dX0_hasAllGates_2 rfl (lv_at hl 0 rfl) ?_
  refine lv_aload_n hx hb dX0_hasAllGates_3 rfl (lv_at hl 1 rfl) ?_
  refine va_get (D := (dC, dI)) (ci := 0) (v := .int 0) (C := RX0) (T := TX0) (N := 13) hx hb hts in_X0_hasAllGates_X0 hown hK hP 0 rfl rfl 7 (by decide) (hts (.fieldLink RX0 34 "ClearingGates$Books" "accounts" "I") (List.mem_of_getElem? (i := 1) (by decide +kernel))) (fun _ h9 => h9) rfl dX0_hasAllGates_4 ?_
  refine lv_icmp_ge (tgt := 27) hx hb dX0_hasAllGates_7 (by decide) (fun c1 => ?_) (fun c1 => absurd (by decide) c1)
  refine lv_iconst (v := 1) hx hb dX0_hasAllGates_27 (by decide) ?_
  have hP9 := hP.sub (ws' := [(h0, .inr (0, [v0, v1, v2, v3, v4, v5, v6, .int 0, v8, v9, v10, v11, v12]))]) [0] rfl
  have hD9 := hD.sub (ws' := [(h0, .inr (0, [v0, v1, v2, v3, v4, v5, v6, .int 0, v8, v9, v10, v11, v12]))]) [0] (by decide) rfl
  have hK9 := hK.sub (tys' := []) [] rfl
  exact W.zret (v := 1) hx hb hr (by decide) (fun t ht hW => ⟨⟨1, (), rfl, (by first | rfl | (simp only [if_pos, if_neg, *]; done)), by rw [ht]; exact hP9, va_K.moved hW.alike hK9, hD9⟩, hS.F ht⟩) hS.2.2 dX0_hasAllGates_28

theorem in_X0_enterAll_X0 : ∀ w ∈ wsX00, w ∈ wsX0_enterAll := fun _ h => List.mem_cons_of_mem _ (List.mem_append_right _ h)
set_option maxRecDepth 100000 in
set_option maxHeartbeats 4000000 in
/-- Books.enterAll with no account -/
theorem c_X0_enterAll (l : Launch) (dC : Nat → ClassId) (dI : Nat → Nat → Nat) (h0 : Nat) (v0 : Value) (v1 : Value) (v2 : Value) (v3 : Value) (v4 : Value) (v5 : Value) (v6 : Value) (v8 : Value) (v9 : Value) (v10 : Value) (v11 : Value) (v12 : Value) (sz : Nat) : Met l yX0_enterAll wsX0_enterAll ({ frames := 0, cells := 0, slots := 0, locals := 0 }) (va_Pc [.ref h0] (fun U => U.heap.size = sz ∧ va_P (dC, dI) vwCl [(h0, .inr (0, [v0, v1, v2, v3, v4, v5, v6, .int 0, v8, v9, v10, v11, v12]))] U.heap ∧ va_K (dC, dI) vwCl [] U ∧ va_D (fun _ => True) [(h0, .inr (0, [v0, v1, v2, v3, v4, v5, v6, .int 0, v8, v9, v10, v11, v12]))])) (va_Qv (fun (_ : Unit) => True) (fun (_ : Unit) (t : State) => va_P (dC, dI) vwCl [(h0, .inr (0, [v0, v1, v2, v3, v4, v5, v6, .int 0, v8, v9, v10, v11, v12]))] t.heap ∧ va_K (dC, dI) vwCl [] t ∧ va_D (va_A [(h0, .inr (0, [v0, v1, v2, v3, v4, v5, v6, .int 0, v8, v9, v10, v11, v12]))] sz) [(h0, .inr (0, [v0, v1, v2, v3, v4, v5, v6, .int 0, v8, v9, v10, v11, v12]))]) (va_A [(h0, .inr (0, [v0, v1, v2, v3, v4, v5, v6, .int 0, v8, v9, v10, v11, v12]))] sz)) 0 0 (va_A [(h0, .inr (0, [v0, v1, v2, v3, v4, v5, v6, .int 0, v8, v9, v10, v11, v12]))] sz) := by
  refine Met.ofW (cc := cX0_enterAll) (maxL := 2) (ret := none) (by decide) rfl ?_
  intro p e s m args below meth c s₁ B hml hv
  obtain ⟨rfl, hsz, hP, hK, hD0⟩ := hv
  have hx := B.exec
  have hb := B.bytes
  have hr := B.returns
  have hts := atoms_spec (ws := wsX0_enterAll) B.pre
  have hown : s.vm.findClass RX0 = some m.cls := findClass_of_methodNamed B.named
  have hlocks := B.notSynchronized
  subst hsz
  have hD := hD0.self (sz := s.heap.size)
  generalize hAe : va_A [(h0, .inr (0, [v0, v1, v2, v3, v4, v5, v6, .int 0, v8, v9, v10, v11, v12]))] s.heap.size = A at hD ⊢
  have hA : ∀ q : Nat, s.heap.size ≤ q → A q := fun q h => by rw [← hAe]; exact Or.inr h
  have hS : va_S A s.heap s.heap [] := va_S.rf
  have hP : va_P (dC, dI) vwCl [(h0, .inr (0, [v0, v1, v2, v3, v4, v5, v6, .int 0, v8, v9, v10, v11, v12]))] s.heap := hP
  have hl := lv_entry ([.ref h0]) (n := 2) (Nat.le_of_ble_eq_true rfl)
  rw [lg_entry_eq]
  generalize (lg_sl ([.ref h0]) ++ List.replicate (2 - (lg_sl ([.ref h0])).length) Slot.unset).toArray = ls at hl ⊢
  have hl : lv_has ls 2 [(0, .ref h0)] := hl
  refine lv_iconst (v := 0) hx hb dX0_enterAll_0 (by decide) ?_
  refine lv_istore_n (lv' := [(1, .int 0), (0, .ref h0)]) hx hb dX0_enterAll_1 rfl hl (by decide) rfl (fun ls hl => ?_)
  refine lv_iload_n hx hb dX0_enterAll_2 rfl (lv_at hl 0 rfl) ?_
  refine lv_aload_n hx hb dX0_enterAll_3 rfl (lv_at hl 1 rfl) ?_
  refine va_get (D := (dC, dI)) (ci := 0) (v := .int 0) (C := RX0) (T := TX0) (N := 13) hx hb hts in_X0_enterAll_X0 hown hK hP 0 rfl rfl 7 (by decide) (hts (.fieldLink RX0 34 "ClearingGates$Books" "accounts" "I") (List.mem_of_getElem? (i := 1) (by decide +kernel))) (fun _ h9 => h9) rfl dX0_enterAll_4 ?_
  refine lv_icmp_ge (tgt := 26) hx hb dX0_enterAll_7 (by decide) (fun c1 => ?_) (fun c1 => absurd (by decide) c1)
  have hP9 := hP.sub (ws' := [(h0, .inr (0, [v0, v1, v2, v3, v4, v5, v6, .int 0, v8, v9, v10, v11, v12]))]) [0] rfl
  have hD9 := hD.sub (ws' := [(h0, .inr (0, [v0, v1, v2, v3, v4, v5, v6, .int 0, v8, v9, v10, v11, v12]))]) [0] (by decide) rfl
  have hK9 := hK.sub (tys' := []) [] rfl
  exact W.vret hx hb hr (fun t ht hW => ⟨⟨(), rfl, (by first | rfl | trivial), by rw [ht]; exact hP9, va_K.moved hW.alike hK9, hD9⟩, hS.F ht⟩) hS.2.2 dX0_enterAll_26

theorem in_X0_leaveAll_X0 : ∀ w ∈ wsX00, w ∈ wsX0_leaveAll := fun _ h => List.mem_cons_of_mem _ (List.mem_append_right _ h)
set_option maxRecDepth 100000 in
set_option maxHeartbeats 4000000 in
/-- Books.leaveAll with no account -/
theorem c_X0_leaveAll (l : Launch) (dC : Nat → ClassId) (dI : Nat → Nat → Nat) (h0 : Nat) (v0 : Value) (v1 : Value) (v2 : Value) (v3 : Value) (v4 : Value) (v5 : Value) (v6 : Value) (v8 : Value) (v9 : Value) (v10 : Value) (v11 : Value) (v12 : Value) (sz : Nat) : Met l yX0_leaveAll wsX0_leaveAll ({ frames := 0, cells := 0, slots := 0, locals := 0 }) (va_Pc [.ref h0] (fun U => U.heap.size = sz ∧ va_P (dC, dI) vwCl [(h0, .inr (0, [v0, v1, v2, v3, v4, v5, v6, .int 0, v8, v9, v10, v11, v12]))] U.heap ∧ va_K (dC, dI) vwCl [] U ∧ va_D (fun _ => True) [(h0, .inr (0, [v0, v1, v2, v3, v4, v5, v6, .int 0, v8, v9, v10, v11, v12]))])) (va_Qv (fun (_ : Unit) => True) (fun (_ : Unit) (t : State) => va_P (dC, dI) vwCl [(h0, .inr (0, [v0, v1, v2, v3, v4, v5, v6, .int 0, v8, v9, v10, v11, v12]))] t.heap ∧ va_K (dC, dI) vwCl [] t ∧ va_D (va_A [(h0, .inr (0, [v0, v1, v2, v3, v4, v5, v6, .int 0, v8, v9, v10, v11, v12]))] sz) [(h0, .inr (0, [v0, v1, v2, v3, v4, v5, v6, .int 0, v8, v9, v10, v11, v12]))]) (va_A [(h0, .inr (0, [v0, v1, v2, v3, v4, v5, v6, .int 0, v8, v9, v10, v11, v12]))] sz)) 0 0 (va_A [(h0, .inr (0, [v0, v1, v2, v3, v4, v5, v6, .int 0, v8, v9, v10, v11, v12]))] sz) := by
  refine Met.ofW (cc := cX0_leaveAll) (maxL := 2) (ret := none) (by decide) rfl ?_
  intro p e s m args below meth c s₁ B hml hv
  obtain ⟨rfl, hsz, hP, hK, hD0⟩ := hv
  have hx := B.exec
  have hb := B.bytes
  have hr := B.returns
  have hts := atoms_spec (ws := wsX0_leaveAll) B.pre
  have hown : s.vm.findClass RX0 = some m.cls := findClass_of_methodNamed B.named
  have hlocks := B.notSynchronized
  subst hsz
  have hD := hD0.self (sz := s.heap.size)
  generalize hAe : va_A [(h0, .inr (0, [v0, v1, v2, v3, v4, v5, v6, .int 0, v8, v9, v10, v11, v12]))] s.heap.size = A at hD ⊢
  have hA : ∀ q : Nat, s.heap.size ≤ q → A q := fun q h => by rw [← hAe]; exact Or.inr h
  have hS : va_S A s.heap s.heap [] := va_S.rf
  have hP : va_P (dC, dI) vwCl [(h0, .inr (0, [v0, v1, v2, v3, v4, v5, v6, .int 0, v8, v9, v10, v11, v12]))] s.heap := hP
  have hl := lv_entry ([.ref h0]) (n := 2) (Nat.le_of_ble_eq_true rfl)
  rw [lg_entry_eq]
  generalize (lg_sl ([.ref h0]) ++ List.replicate (2 - (lg_sl ([.ref h0])).length) Slot.unset).toArray = ls at hl ⊢
  have hl : lv_has ls 2 [(0, .ref h0)] := hl
  have k_0 : (0 : Int32).toInt = 0 := by decide
  have k_1 : (1 : Int32).toInt = 1 := by decide
  refine lv_aload_n hx hb dX0_leaveAll_0 rfl (lv_at hl 0 rfl) ?_
  refine va_get (D := (dC, dI)) (ci := 0) (v := .int 0) (C := RX0) (T := TX0) (N := 13) hx hb hts in_X0_leaveAll_X0 hown hK hP 0 rfl rfl 7 (by decide) (hts (.fieldLink RX0 34 "ClearingGates$Books" "accounts" "I") (List.mem_of_getElem? (i := 1) (by decide +kernel))) (fun _ h9 => h9) rfl dX0_leaveAll_1 ?_
  refine lv_iconst (v := 1) hx hb dX0_leaveAll_4 (by decide) ?_
  refine lv_isub hx hb dX0_leaveAll_5 ?_
  refine lv_topi (fun z1 e_z1 => ?_)
  have e_z1 : z1 = (-1) := e_z1.trans (by first | rfl | decide)
  subst e_z1
  refine lv_istore_n (lv' := [(1, .int (-1)), (0, .ref h0)]) hx hb dX0_leaveAll_6 rfl hl (by decide) rfl (fun ls hl => ?_)
  refine lv_iload_n hx hb dX0_leaveAll_7 rfl (lv_at hl 0 rfl) ?_
  refine lv_if_lt (tgt := 27) hx hb dX0_leaveAll_8 (by decide) (fun c2 => ?_) (fun c2 => absurd (by decide) c2)
  have hP9 := hP.sub (ws' := [(h0, .inr (0, [v0, v1, v2, v3, v4, v5, v6, .int 0, v8, v9, v10, v11, v12]))]) [0] rfl
  have hD9 := hD.sub (ws' := [(h0, .inr (0, [v0, v1, v2, v3, v4, v5, v6, .int 0, v8, v9, v10, v11, v12]))]) [0] (by decide) rfl
  have hK9 := hK.sub (tys' := []) [] rfl
  exact W.vret hx hb hr (fun t ht hW => ⟨⟨(), rfl, (by first | rfl | trivial), by rw [ht]; exact hP9, va_K.moved hW.alike hK9, hD9⟩, hS.F ht⟩) hS.2.2 dX0_leaveAll_27

theorem in_X0_allMoney_X0 : ∀ w ∈ wsX00, w ∈ wsX0_allMoney := fun _ h => List.mem_cons_of_mem _ (List.mem_append_right _ h)
set_option maxRecDepth 100000 in
set_option maxHeartbeats 4000000 in
/-- Books.allMoney with no account -/
theorem c_X0_allMoney (l : Launch) (dC : Nat → ClassId) (dI : Nat → Nat → Nat) (h0 : Nat) (v0 : Value) (v1 : Value) (v2 : Value) (v3 : Value) (v4 : Value) (v5 : Value) (v6 : Value) (v9 : Value) (v10 : Value) (v11 : Value) (v12 : Value) (sz : Nat) : Met l yX0_allMoney wsX0_allMoney ({ frames := 0, cells := 0, slots := 0, locals := 0 }) (va_Pc [.ref h0] (fun U => U.heap.size = sz ∧ va_P (dC, dI) vwCl [(h0, .inr (0, [v0, v1, v2, v3, v4, v5, v6, .int 0, .long 0, v9, v10, v11, v12]))] U.heap ∧ va_K (dC, dI) vwCl [] U ∧ va_D (fun _ => True) [(h0, .inr (0, [v0, v1, v2, v3, v4, v5, v6, .int 0, .long 0, v9, v10, v11, v12]))])) (va_Ql (fun (r : Int64) (_ : Unit) => r = 0) (fun (_ : Unit) (t : State) => va_P (dC, dI) vwCl [(h0, .inr (0, [v0, v1, v2, v3, v4, v5, v6, .int 0, .long 0, v9, v10, v11, v12]))] t.heap ∧ va_K (dC, dI) vwCl [] t ∧ va_D (va_A [(h0, .inr (0, [v0, v1, v2, v3, v4, v5, v6, .int 0, .long 0, v9, v10, v11, v12]))] sz) [(h0, .inr (0, [v0, v1, v2, v3, v4, v5, v6, .int 0, .long 0, v9, v10, v11, v12]))]) (va_A [(h0, .inr (0, [v0, v1, v2, v3, v4, v5, v6, .int 0, .long 0, v9, v10, v11, v12]))] sz)) 0 0 (va_A [(h0, .inr (0, [v0, v1, v2, v3, v4, v5, v6, .int 0, .long 0, v9, v10, v11, v12]))] sz) := by
  refine Met.ofW (cc := cX0_allMoney) (maxL := 4) (ret := (some .long)) (by decide) rfl ?_
  intro p e s m args below meth c s₁ B hml hv
  obtain ⟨rfl, hsz, hP, hK, hD0⟩ := hv
  have hx := B.exec
  have hb := B.bytes
  have hr := B.returns
  have hts := atoms_spec (ws := wsX0_allMoney) B.pre
  have hown : s.vm.findClass RX0 = some m.cls := findClass_of_methodNamed B.named
  have hlocks := B.notSynchronized
  subst hsz
  have hD := hD0.self (sz := s.heap.size)
  generalize hAe : va_A [(h0, .inr (0, [v0, v1, v2, v3, v4, v5, v6, .int 0, .long 0, v9, v10, v11, v12]))] s.heap.size = A at hD ⊢
  have hA : ∀ q : Nat, s.heap.size ≤ q → A q := fun q h => by rw [← hAe]; exact Or.inr h
  have hS : va_S A s.heap s.heap [] := va_S.rf
  have hP : va_P (dC, dI) vwCl [(h0, .inr (0, [v0, v1, v2, v3, v4, v5, v6, .int 0, .long 0, v9, v10, v11, v12]))] s.heap := hP
  have hl := lv_entry ([.ref h0]) (n := 4) (Nat.le_of_ble_eq_true rfl)
  rw [lg_entry_eq]
  generalize (lg_sl ([.ref h0]) ++ List.replicate (4 - (lg_sl ([.ref h0])).length) Slot.unset).toArray = ls at hl ⊢
  have hl : lv_has ls 4 [(0, .ref h0)] := hl
  refine lv_aload_n hx hb dX0_allMoney_0 rfl (lv_at hl 0 rfl) ?_
  refine va_get (D := (dC, dI)) (ci := 0) (v := .long 0) (C := RX0) (T := TX0) (N := 13) hx hb hts in_X0_allMoney_X0 hown hK hP 0 rfl rfl 8 (by decide) (hts (.fieldLink RX0 51 "ClearingGates$Books" "fees" "J") (List.mem_of_getElem? (i := 1) (by decide +kernel))) (fun _ h9 => h9) rfl dX0_allMoney_1 ?_
  refine lv_lstore_n (lv' := [(1, .long 0), (0, .ref h0)]) hx hb dX0_allMoney_4 rfl hl (by decide) rfl (fun ls hl => ?_)
  refine lv_iconst (v := 0) hx hb dX0_allMoney_5 (by decide) ?_
  refine lv_istore_n (lv' := [(3, .int 0), (1, .long 0), (0, .ref h0)]) hx hb dX0_allMoney_6 rfl hl (by decide) rfl (fun ls hl => ?_)
  refine lv_iload_n hx hb dX0_allMoney_7 rfl (lv_at hl 0 rfl) ?_
  refine lv_aload_n hx hb dX0_allMoney_8 rfl (lv_at hl 2 rfl) ?_
  refine va_get (D := (dC, dI)) (ci := 0) (v := .int 0) (C := RX0) (T := TX0) (N := 13) hx hb hts in_X0_allMoney_X0 hown hK hP 0 rfl rfl 7 (by decide) (hts (.fieldLink RX0 34 "ClearingGates$Books" "accounts" "I") (List.mem_of_getElem? (i := 2) (by decide +kernel))) (fun _ h9 => h9) rfl dX0_allMoney_9 ?_
  refine lv_icmp_ge (tgt := 31) hx hb dX0_allMoney_12 (by decide) (fun c1 => ?_) (fun c1 => absurd (by decide) c1)
  refine lv_lload_n hx hb dX0_allMoney_31 rfl (lv_at hl 1 rfl) ?_
  have hP9 := hP.sub (ws' := [(h0, .inr (0, [v0, v1, v2, v3, v4, v5, v6, .int 0, .long 0, v9, v10, v11, v12]))]) [0] rfl
  have hD9 := hD.sub (ws' := [(h0, .inr (0, [v0, v1, v2, v3, v4, v5, v6, .int 0, .long 0, v9, v10, v11, v12]))]) [0] (by decide) rfl
  have hK9 := hK.sub (tys' := []) [] rfl
  exact W.lret (v := 0) hx hb hr (fun t ht hW => ⟨⟨0, (), rfl, (by first | rfl | (simp only [if_pos, if_neg, *]; done)), by rw [ht]; exact hP9, va_K.moved hW.alike hK9, hD9⟩, hS.F ht⟩) hS.2.2 dX0_allMoney_32

theorem in_X6_keptMarks_X6 : ∀ w ∈ wsX60, w ∈ wsX6_keptMarks := fun _ h => List.mem_cons_of_mem _ (List.mem_append_right _ h)
set_option maxRecDepth 100000 in
set_option maxHeartbeats 4000000 in
/-- Runner.keptMarks with no mark -/
theorem c_X6_keptMarks (l : Launch) (dC : Nat → ClassId) (dI : Nat → Nat → Nat) (h0 : Nat) (v0 : Value) (v1 : Value) (v3 : Value) (v4 : Value) (v5 : Value) (v6 : Value) (v7 : Value) (sz : Nat) : Met l yX6_keptMarks wsX6_keptMarks ({ frames := 1, cells := 0, slots := 0, locals := 13 }) (va_Pc [.ref h0] (fun U => U.heap.size = sz ∧ va_P (dC, dI) vwCl [(h0, .inr (5, [v0, v1, .int 0, v3, v4, v5, v6, v7]))] U.heap ∧ va_K (dC, dI) vwCl [] U ∧ va_D (fun _ => True) [(h0, .inr (5, [v0, v1, .int 0, v3, v4, v5, v6, v7]))])) (va_Qi (fun (r : Int32) (_ : Unit) => r = 0) (fun (_ : Unit) (t : State) => va_P (dC, dI) vwCl [(h0, .inr (5, [v0, v1, .int 0, v3, v4, v5, v6, v7]))] t.heap ∧ va_K (dC, dI) vwCl [] t ∧ va_D (va_A [(h0, .inr (5, [v0, v1, .int 0, v3, v4, v5, v6, v7]))] sz) [(h0, .inr (5, [v0, v1, .int 0, v3, v4, v5, v6, v7]))]) (va_A [(h0, .inr (5, [v0, v1, .int 0, v3, v4, v5, v6, v7]))] sz)) 0 0 (va_A [(h0, .inr (5, [v0, v1, .int 0, v3, v4, v5, v6, v7]))] sz) := by
  refine Met.ofW (cc := cX6_keptMarks) (maxL := 1) (ret := (some .int)) (by decide) rfl ?_
  intro p e s m args below meth c s₁ B hml hv
  obtain ⟨rfl, hsz, hP, hK, hD0⟩ := hv
  have hx := B.exec
  have hb := B.bytes
  have hr := B.returns
  have hts := atoms_spec (ws := wsX6_keptMarks) B.pre
  have hown : s.vm.findClass RX6 = some m.cls := findClass_of_methodNamed B.named
  have hlocks := B.notSynchronized
  subst hsz
  have hD := hD0.self (sz := s.heap.size)
  generalize hAe : va_A [(h0, .inr (5, [v0, v1, .int 0, v3, v4, v5, v6, v7]))] s.heap.size = A at hD ⊢
  have hA : ∀ q : Nat, s.heap.size ≤ q → A q := fun q h => by rw [← hAe]; exact Or.inr h
  have hS : va_S A s.heap s.heap [] := va_S.rf
  have hP : va_P (dC, dI) vwCl [(h0, .inr (5, [v0, v1, .int 0, v3, v4, v5, v6, v7]))] s.heap := hP
  have hl := lv_entry ([.ref h0]) (n := 1) (Nat.le_of_ble_eq_true rfl)
  rw [lg_entry_eq]
  generalize (lg_sl ([.ref h0]) ++ List.replicate (1 - (lg_sl ([.ref h0])).length) Slot.unset).toArray = ls at hl ⊢
  have hl : lv_has ls 1 [(0, .ref h0)] := hl
  have k_0 : (0 : Int32).toInt = 0 := by decide
  refine lv_aload_n hx hb dX6_keptMarks_0 rfl (lv_at hl 0 rfl) ?_
  refine va_get (D := (dC, dI)) (ci := 5) (v := .int 0) (C := RX6) (T := TX6) (N := 8) hx hb hts in_X6_keptMarks_X6 hown hK hP 0 rfl rfl 2 (by decide) (hts (.fieldLink RX6 31 "ClearingGates$Runner" "markCount" "I") (List.mem_of_getElem? (i := 1) (by decide +kernel))) (fun _ h9 => h9) rfl dX6_keptMarks_1 ?_
  refine lv_bipush (v := 60) hx hb dX6_keptMarks_4 (by decide) ?_
  refine va_mmin hx hb (hml.trans hl.1.symm) hown (hts (.methodLink RX6 35 Lib.Math.min.name) (List.mem_of_getElem? (i := 2) (by decide +kernel))) (hts (.static Lib.Math.min.name) (List.mem_of_getElem? (i := 3) (by decide +kernel))) (hts (.initialized "java/lang/Math") (List.mem_of_getElem? (i := 4) (by decide +kernel))) (hts (.code Lib.Math.min.name Lib.Math.min.code 2 (some .int)) (List.mem_of_getElem? (i := 5) (by decide +kernel))) (Nat.le_of_ble_eq_true rfl) (Nat.le_of_ble_eq_true rfl) (Nat.le_of_ble_eq_true rfl) (Nat.le_of_ble_eq_true rfl) dX6_keptMarks_6 ?_
  refine lv_topi (fun z1 e_z1 => ?_)
  have e_z1 : z1 = 0 := e_z1.trans (by first | rfl | decide)
  subst e_z1
  have hP9 := hP.sub (ws' := [(h0, .inr (5, [v0, v1, .int 0, v3, v4, v5, v6, v7]))]) [0] rfl
  have hD9 := hD.sub (ws' := [(h0, .inr (5, [v0, v1, .int 0, v3, v4, v5, v6, v7]))]) [0] (by decide) rfl
  have hK9 := hK.sub (tys' := []) [] rfl
  exact W.iret (v := 0) hx hb hr (fun t ht hW => ⟨⟨0, (), rfl, (by first | rfl | (simp only [if_pos, if_neg, *]; done)), by rw [ht]; exact hP9, va_K.moved hW.alike hK9, hD9⟩, hS.F ht⟩) hS.2.2 dX6_keptMarks_9

theorem in_X7_isMissing_X7 : ∀ w ∈ wsX70, w ∈ wsX7_isMissing := fun _ h => List.mem_cons_of_mem _ (List.mem_append_right _ h)
set_option maxRecDepth 100000 in
set_option maxHeartbeats 4000000 in
/-- Sheet.isMissing of a missing one -/
theorem c_X7_isMissing (l : Launch) (dC : Nat → ClassId) (dI : Nat → Nat → Nat) (h0 : Nat) (v1 : Value) (v2 : Value) (sz : Nat) : Met l yX7_isMissing wsX7_isMissing ({ frames := 0, cells := 0, slots := 0, locals := 0 }) (va_Pc [.ref h0] (fun U => U.heap.size = sz ∧ va_P (dC, dI) vwCl [(h0, .inr (6, [.int (-1), v1, v2]))] U.heap ∧ va_K (dC, dI) vwCl [] U ∧ va_D (fun _ => True) [(h0, .inr (6, [.int (-1), v1, v2]))])) (va_Qi (fun (r : Int32) (_ : Unit) => r = 1) (fun (_ : Unit) (t : State) => va_P (dC, dI) vwCl [(h0, .inr (6, [.int (-1), v1, v2]))] t.heap ∧ va_K (dC, dI) vwCl [] t ∧ va_D (va_A [(h0, .inr (6, [.int (-1), v1, v2]))] sz) [(h0, .inr (6, [.int (-1), v1, v2]))]) (va_A [(h0, .inr (6, [.int (-1), v1, v2]))] sz)) 0 0 (va_A [(h0, .inr (6, [.int (-1), v1, v2]))] sz) := by
  refine Met.ofW (cc := cX7_isMissing) (maxL := 1) (ret := (some .boolean)) (by decide) rfl ?_
  intro p e s m args below meth c s₁ B hml hv
  obtain ⟨rfl, hsz, hP, hK, hD0⟩ := hv
  have hx := B.exec
  have hb := B.bytes
  have hr := B.returns
  have hts := atoms_spec (ws := wsX7_isMissing) B.pre
  have hown : s.vm.findClass RX7 = some m.cls := findClass_of_methodNamed B.named
  have hlocks := B.notSynchronized
  subst hsz
  have hD := hD0.self (sz := s.heap.size)
  generalize hAe : va_A [(h0, .inr (6, [.int (-1), v1, v2]))] s.heap.size = A at hD ⊢
  have hA : ∀ q : Nat, s.heap.size ≤ q → A q := fun q h => by rw [← hAe]; exact Or.inr h
  have hS : va_S A s.heap s.heap [] := va_S.rf
  have hP : va_P (dC, dI) vwCl [(h0, .inr (6, [.int (-1), v1, v2]))] s.heap := hP
  have hl := lv_entry ([.ref h0]) (n := 1) (Nat.le_of_ble_eq_true rfl)
  rw [lg_entry_eq]
  generalize (lg_sl ([.ref h0]) ++ List.replicate (1 - (lg_sl ([.ref h0])).length) Slot.unset).toArray = ls at hl ⊢
  have hl : lv_has ls 1 [(0, .ref h0)] := hl
  have k_1 : (1 : Int32).toInt = 1 := by decide
  refine lv_aload_n hx hb dX7_isMissing_0 rfl (lv_at hl 0 rfl) ?_
  refine va_get (D := (dC, dI)) (ci := 6) (v := .int (-1)) (C := RX7) (T := TX7) (N := 3) hx hb hts in_X7_isMissing_X7 hown hK hP 0 rfl rfl 0 (by decide) (hts (.fieldLink RX7 11 "ClearingGates$Sheet" "sort" "I") (List.mem_of_getElem? (i := 1) (by decide +kernel))) (fun _ h9 => h9) rfl dX7_isMissing_1 ?_
  refine lv_iconst (v := -1) hx hb dX7_isMissing_4 (by decide) ?_
  refine lv_icmp_ne (tgt := 12) hx hb dX7_isMissing_5 (by decide) (fun c1 => absurd (by decide) c1) (fun c1 => ?_)
  refine lv_iconst (v := 1) hx hb dX7_isMissing_8 (by decide) ?_
  refine lv_goto (tgt := 13) hx hb dX7_isMissing_9 (by decide) ?_
  have hP9 := hP.sub (ws' := [(h0, .inr (6, [.int (-1), v1, v2]))]) [0] rfl
  have hD9 := hD.sub (ws' := [(h0, .inr (6, [.int (-1), v1, v2]))]) [0] (by decide) rfl
  have hK9 := hK.sub (tys' := []) [] rfl
  exact W.zret (v := 1) hx hb hr (by decide) (fun t ht hW => ⟨⟨1, (), rfl, (by first | rfl | (simp only [if_pos, if_neg, *]; done)), by rw [ht]; exact hP9, va_K.moved hW.alike hK9, hD9⟩, hS.F ht⟩) hS.2.2 dX7_isMissing_13

set_option maxRecDepth 100000 in
set_option maxHeartbeats 4000000 in
/-- Rings.findsFirst with no account -/
theorem c_X5_findsFirst (l : Launch) (dC : Nat → ClassId) (dI : Nat → Nat → Nat) (h0 : Nat) (v0 : Value) (v1 : Value) (v2 : Value) (v3 : Value) (sz : Nat) : Met l yX5_findsFirst wsX5_findsFirst ({ frames := 0, cells := 0, slots := 0, locals := 0 }) (va_Pc [.ref h0, .int 0] (fun U => U.heap.size = sz ∧ va_P (dC, dI) vwCl [(h0, .inr (4, [v0, v1, v2, v3]))] U.heap ∧ va_K (dC, dI) vwCl [] U ∧ va_D (fun _ => True) [(h0, .inr (4, [v0, v1, v2, v3]))])) (va_Qi (fun (r : Int32) (_ : Unit) => r = 0) (fun (_ : Unit) (t : State) => va_P (dC, dI) vwCl [(h0, .inr (4, [v0, v1, v2, v3]))] t.heap ∧ va_K (dC, dI) vwCl [] t ∧ va_D (va_A [(h0, .inr (4, [v0, v1, v2, v3]))] sz) [(h0, .inr (4, [v0, v1, v2, v3]))]) (va_A [(h0, .inr (4, [v0, v1, v2, v3]))] sz)) 0 0 (va_A [(h0, .inr (4, [v0, v1, v2, v3]))] sz) := by
  refine Met.ofW (cc := cX5_findsFirst) (maxL := 4) (ret := (some .boolean)) (by decide) rfl ?_
  intro p e s m args below meth c s₁ B hml hv
  obtain ⟨rfl, hsz, hP, hK, hD0⟩ := hv
  have hx := B.exec
  have hb := B.bytes
  have hr := B.returns
  have hts := atoms_spec (ws := wsX5_findsFirst) B.pre
  have hown : s.vm.findClass RX5 = some m.cls := findClass_of_methodNamed B.named
  have hlocks := B.notSynchronized
  subst hsz
  have hD := hD0.self (sz := s.heap.size)
  generalize hAe : va_A [(h0, .inr (4, [v0, v1, v2, v3]))] s.heap.size = A at hD ⊢
  have hA : ∀ q : Nat, s.heap.size ≤ q → A q := fun q h => by rw [← hAe]; exact Or.inr h
  have hS : va_S A s.heap s.heap [] := va_S.rf
  have hP : va_P (dC, dI) vwCl [(h0, .inr (4, [v0, v1, v2, v3]))] s.heap := hP
  have hl := lv_entry ([.ref h0, .int 0]) (n := 4) (Nat.le_of_ble_eq_true rfl)
  rw [lg_entry_eq]
  generalize (lg_sl ([.ref h0, .int 0]) ++ List.replicate (4 - (lg_sl ([.ref h0, .int 0])).length) Slot.unset).toArray = ls at hl ⊢
  have hl : lv_has ls 4 [(0, .ref h0), (1, .int 0)] := hl
  have k_0 : (0 : Int32).toInt = 0 := by decide
  refine lv_iconst (v := 0) hx hb dX5_findsFirst_0 (by decide) ?_
  refine lv_istore_n (lv' := [(2, .int 0), (0, .ref h0), (1, .int 0)]) hx hb dX5_findsFirst_1 rfl hl (by decide) rfl (fun ls hl => ?_)
  refine lv_iload_n hx hb dX5_findsFirst_2 rfl (lv_at hl 0 rfl) ?_
  refine lv_iload_n hx hb dX5_findsFirst_3 rfl (lv_at hl 2 rfl) ?_
  refine lv_icmp_ge (tgt := 46) hx hb dX5_findsFirst_4 (by decide) (fun c1 => ?_) (fun c1 => absurd (by decide) c1)
  refine lv_iconst (v := 0) hx hb dX5_findsFirst_46 (by decide) ?_
  have hP9 := hP.sub (ws' := [(h0, .inr (4, [v0, v1, v2, v3]))]) [0] rfl
  have hD9 := hD.sub (ws' := [(h0, .inr (4, [v0, v1, v2, v3]))]) [0] (by decide) rfl
  have hK9 := hK.sub (tys' := []) [] rfl
  exact W.zret (v := 0) hx hb hr (by decide) (fun t ht hW => ⟨⟨0, (), rfl, (by first | rfl | (simp only [if_pos, if_neg, *]; done)), by rw [ht]; exact hP9, va_K.moved hW.alike hK9, hD9⟩, hS.F ht⟩) hS.2.2 dX5_findsFirst_47

set_option maxRecDepth 100000 in
set_option maxHeartbeats 4000000 in
/-- Rings.cutAll with no account -/
theorem c_X5_cutAll (l : Launch) (dC : Nat → ClassId) (dI : Nat → Nat → Nat) (h0 : Nat) (v0 : Value) (v1 : Value) (v2 : Value) (v3 : Value) (sz : Nat) : Met l yX5_cutAll wsX5_cutAll ({ frames := 1, cells := 0, slots := 0, locals := 23 }) (va_Pc [.ref h0, .int 0] (fun U => U.heap.size = sz ∧ va_P (dC, dI) vwCl [(h0, .inr (4, [v0, v1, v2, v3]))] U.heap ∧ va_K (dC, dI) vwCl [] U ∧ va_D (fun _ => True) [(h0, .inr (4, [v0, v1, v2, v3]))])) (va_Qi (fun (r : Int32) (_ : Unit) => r = 0) (fun (_ : Unit) (t : State) => va_P (dC, dI) vwCl [(h0, .inr (4, [v0, v1, v2, v3]))] t.heap ∧ va_K (dC, dI) vwCl [] t ∧ va_D (va_A [(h0, .inr (4, [v0, v1, v2, v3]))] sz) [(h0, .inr (4, [v0, v1, v2, v3]))]) (va_A [(h0, .inr (4, [v0, v1, v2, v3]))] sz)) 0 0 (va_A [(h0, .inr (4, [v0, v1, v2, v3]))] sz) := by
  refine Met.ofW (cc := cX5_cutAll) (maxL := 3) (ret := (some .int)) (by decide) rfl ?_
  intro p e s m args below meth c s₁ B hml hv
  obtain ⟨rfl, hsz, hP, hK, hD0⟩ := hv
  have hx := B.exec
  have hb := B.bytes
  have hr := B.returns
  have hts := atoms_spec (ws := wsX5_cutAll) B.pre
  have hown : s.vm.findClass RX5 = some m.cls := findClass_of_methodNamed B.named
  have hlocks := B.notSynchronized
  subst hsz
  have hD := hD0.self (sz := s.heap.size)
  generalize hAe : va_A [(h0, .inr (4, [v0, v1, v2, v3]))] s.heap.size = A at hD ⊢
  have hA : ∀ q : Nat, s.heap.size ≤ q → A q := fun q h => by rw [← hAe]; exact Or.inr h
  have hS : va_S A s.heap s.heap [] := va_S.rf
  have hP : va_P (dC, dI) vwCl [(h0, .inr (4, [v0, v1, v2, v3]))] s.heap := hP
  have hl := lv_entry ([.ref h0, .int 0]) (n := 3) (Nat.le_of_ble_eq_true rfl)
  rw [lg_entry_eq]
  generalize (lg_sl ([.ref h0, .int 0]) ++ List.replicate (3 - (lg_sl ([.ref h0, .int 0])).length) Slot.unset).toArray = ls at hl ⊢
  have hl : lv_has ls 3 [(0, .ref h0), (1, .int 0)] := hl
  have k_0 : (0 : Int32).toInt = 0 := by decide
  refine lv_iconst (v := 0) hx hb dX5_cutAll_0 (by decide) ?_
  refine lv_istore_n (lv' := [(2, .int 0), (0, .ref h0), (1, .int 0)]) hx hb dX5_cutAll_1 rfl hl (by decide) rfl (fun ls hl => ?_)
  refine lv_iload_n hx hb dX5_cutAll_2 rfl (lv_at hl 0 rfl) ?_
  refine lv_bipush (v := 64) hx hb dX5_cutAll_3 (by decide) ?_
  refine lv_icmp_ge (tgt := 28) hx hb dX5_cutAll_5 (by decide) (fun c1 => absurd c1 (by decide)) (fun c1 => ?_)
  refine lv_aload_n hx hb dX5_cutAll_8 rfl (lv_at hl 1 rfl) ?_
  refine lv_iload_n hx hb dX5_cutAll_9 rfl (lv_at hl 2 rfl) ?_
  have hPc := hP.sub (ws' := [(h0, .inr (4, [v0, v1, v2, v3]))]) [0] rfl
  have hDc := hD.sub (ws' := [(h0, .inr (4, [v0, v1, v2, v3]))]) [0] (by decide) rfl
  have hKc := hK.sub (tys' := []) [] rfl
  have hFc := va_free (wc := [(h0, .inr (4, [v0, v1, v2, v3]))]) hD hS hA [0] rfl
  refine va_calli (va_runV (As := [.int 0]) (rest := []) ⟨hx, hb, hml, hown, hts⟩ (c_X5_findsFirst l dC dI h0 (v0) (v1) (v2) (v3) s.heap.size) (cwV 1 hts gX5_cutAll_X5_findsFirst rfl rfl rfl (by decide +kernel) ⟨Nat.le_of_ble_eq_true rfl, Nat.le_of_ble_eq_true rfl⟩) ⟨fun a U g mk q => by obtain ⟨q0, q1, qP, qK, qD⟩ := q; exact ⟨q0, q1, qP, va_K.moved (u := U) (U := U.calling g mk a) (Vm.Alike.refl U.vm) qK, qD⟩, va_recv hKc hPc (ci := 4) (q0 := 0) rfl rfl, fun U hU hW => ⟨rfl, by rw [hU], by rw [hU]; exact hPc, va_K.moved hW.alike hKc, hDc.weaken (fun _ _ _ _ => trivial)⟩⟩ rfl rfl hl.1 rfl (lv_room (Nat.le_of_ble_eq_true rfl)) dX5_cutAll_10 ⟨Nat.le_of_ble_eq_true rfl, Nat.le_of_ble_eq_true rfl⟩) hS (fun q _ h => hFc q h) hFc (fun r2 u t H1 locs ht hvm hw hB hz1 hk1 hS => ?_)
  obtain ⟨hP1, hK1, hD1⟩ := hB
  rw [ht] at hP1
  have hK1 := va_K.moved hvm.symm hK1
  try dsimp only at hw
  obtain ⟨hP, hD⟩ := va_join (wr := []) (w1 := [(h0, .inr (4, [v0, v1, v2, v3]))]) hP hD [0] [] rfl rfl (by decide) (by decide) hk1 hFc hP1 hD1
  have hK := (hK.sub (tys' := []) [] rfl).app hK1
  generalize H1 = H at hP hS ⊢
  have hP : va_P (dC, dI) vwCl [(h0, .inr (4, [v0, v1, v2, v3]))] H := hP
  have hD : va_D A [(h0, .inr (4, [v0, v1, v2, v3]))] := hD
  have hK : va_K (dC, dI) vwCl [] s := hK
  subst hw
  refine lv_if_ne (tgt := 18) hx hb dX5_cutAll_13 (by decide) (fun c3 => absurd (by decide) c3) (fun c3 => ?_)
  refine lv_iload_n hx hb dX5_cutAll_16 rfl (lv_at hl 0 rfl) ?_
  have hP9 := hP.sub (ws' := [(h0, .inr (4, [v0, v1, v2, v3]))]) [0] rfl
  have hD9 := hD.sub (ws' := [(h0, .inr (4, [v0, v1, v2, v3]))]) [0] (by decide) rfl
  have hK9 := hK.sub (tys' := []) [] rfl
  exact W.iret (v := 0) hx hb hr (fun t ht hW => ⟨⟨0, (), rfl, (by first | rfl | (simp only [if_pos, if_neg, *]; done)), by rw [ht]; exact hP9, va_K.moved hW.alike hK9, hD9⟩, hS.F ht⟩) hS.2.2 dX5_cutAll_17

theorem in_X3_takeOver_X8 : ∀ w ∈ wsX80, w ∈ wsX3_takeOver := fun _ h => List.mem_cons_of_mem _ (List.mem_append_left _ (List.mem_append_right _ h))
theorem in_X3_takeOver_X3 : ∀ w ∈ wsX30, w ∈ wsX3_takeOver := fun _ h => List.mem_cons_of_mem _ (List.mem_append_right _ h)
set_option maxRecDepth 100000 in
set_option maxHeartbeats 4000000 in
/-- Program.takeOver: the size of the tape -/
theorem c_X3_takeOver (l : Launch) (dC : Nat → ClassId) (dI : Nat → Nat → Nat) (h0 : Nat) (h1 : Nat) (qb : Nat) (v1 : Value) (v2 : Value) (kb : ClassId) (fb : Nat → Int32) (qt : Nat) (sz0 : Int32) (kt : ClassId) (ft : Nat → Int32) (sz : Nat) : Met l yX3_takeOver wsX3_takeOver ({ frames := 1, cells := 0, slots := 0, locals := 60 }) (va_Pc [.ref h0, .ref h1] (fun U => U.heap.size = sz ∧ va_P (dC, dI) vwCl [(h0, .inr (2, [.ref qb, v1, v2])), (qb, .inl (kb, 80, .inl fb)), (h1, .inr (7, [.ref qt, .int sz0])), (qt, .inl (kt, 80, .inl ft))] U.heap ∧ va_K (dC, dI) vwCl [(kb, .int), (kt, .int)] U ∧ va_D (fun _ => True) [(h0, .inr (2, [.ref qb, v1, v2])), (qb, .inl (kb, 80, .inl fb)), (h1, .inr (7, [.ref qt, .int sz0])), (qt, .inl (kt, 80, .inl ft))])) (va_Qv (fun (_ : Unit) => True) (fun (_ : Unit) (t : State) => va_P (dC, dI) vwCl [(h0, .inr (2, [.ref qb, v1, .int sz0])), (h1, .inr (7, [.ref qt, .int sz0])), (qt, .inl (kt, 80, .inl ft))] t.heap ∧ va_K (dC, dI) vwCl [(kt, .int)] t ∧ va_D (va_A [(h0, .inr (2, [.ref qb, v1, v2])), (qb, .inl (kb, 80, .inl fb)), (h1, .inr (7, [.ref qt, .int sz0])), (qt, .inl (kt, 80, .inl ft))] sz) [(h0, .inr (2, [.ref qb, v1, .int sz0])), (h1, .inr (7, [.ref qt, .int sz0])), (qt, .inl (kt, 80, .inl ft))]) (va_A [(h0, .inr (2, [.ref qb, v1, v2])), (qb, .inl (kb, 80, .inl fb)), (h1, .inr (7, [.ref qt, .int sz0])), (qt, .inl (kt, 80, .inl ft))] sz)) 0 0 (va_A [(h0, .inr (2, [.ref qb, v1, v2])), (qb, .inl (kb, 80, .inl fb)), (h1, .inr (7, [.ref qt, .int sz0])), (qt, .inl (kt, 80, .inl ft))] sz) := by
  refine Met.ofW (cc := cX3_takeOver) (maxL := 2) (ret := none) (by decide) rfl ?_
  intro p e s m args below meth c s₁ B hml hv
  obtain ⟨rfl, hsz, hP, hK, hD0⟩ := hv
  have hx := B.exec
  have hb := B.bytes
  have hr := B.returns
  have hts := atoms_spec (ws := wsX3_takeOver) B.pre
  have hown : s.vm.findClass RX3 = some m.cls := findClass_of_methodNamed B.named
  have hlocks := B.notSynchronized
  subst hsz
  have hD := hD0.self (sz := s.heap.size)
  generalize hAe : va_A [(h0, .inr (2, [.ref qb, v1, v2])), (qb, .inl (kb, 80, .inl fb)), (h1, .inr (7, [.ref qt, .int sz0])), (qt, .inl (kt, 80, .inl ft))] s.heap.size = A at hD ⊢
  have hA : ∀ q : Nat, s.heap.size ≤ q → A q := fun q h => by rw [← hAe]; exact Or.inr h
  have hS : va_S A s.heap s.heap [] := va_S.rf
  have hP : va_P (dC, dI) vwCl [(h0, .inr (2, [.ref qb, v1, v2])), (qb, .inl (kb, 80, .inl fb)), (h1, .inr (7, [.ref qt, .int sz0])), (qt, .inl (kt, 80, .inl ft))] s.heap := hP
  have hl := lv_entry ([.ref h0, .ref h1]) (n := 2) (Nat.le_of_ble_eq_true rfl)
  rw [lg_entry_eq]
  generalize (lg_sl ([.ref h0, .ref h1]) ++ List.replicate (2 - (lg_sl ([.ref h0, .ref h1])).length) Slot.unset).toArray = ls at hl ⊢
  have hl : lv_has ls 2 [(0, .ref h0), (1, .ref h1)] := hl
  refine lv_aload_n hx hb dX3_takeOver_0 rfl (lv_at hl 1 rfl) ?_
  refine va_get (D := (dC, dI)) (ci := 7) (v := .ref qt) (C := RX8) (T := TX8) (N := 2) hx hb hts in_X3_takeOver_X8 hown hK hP 2 rfl rfl 0 (by decide) (hts (.fieldLink RX3 18 "ClearingGates$Tape" "bytes" "[I") (List.mem_of_getElem? (i := 1) (by decide +kernel))) (fun _ h9 => h9) rfl dX3_takeOver_1 ?_
  refine lv_iconst (v := 0) hx hb dX3_takeOver_4 (by decide) ?_
  refine lv_aload_n hx hb dX3_takeOver_5 rfl (lv_at hl 0 rfl) ?_
  refine va_get (D := (dC, dI)) (ci := 2) (v := .ref qb) (C := RX3) (T := TX3) (N := 3) hx hb hts in_X3_takeOver_X3 hown hK hP 0 rfl rfl 0 (by decide) (hts (.fieldLink RX3 9 "ClearingGates$Program" "bytes" "[I") (List.mem_of_getElem? (i := 2) (by decide +kernel))) (fun _ h9 => h9) rfl dX3_takeOver_6 ?_
  refine lv_iconst (v := 0) hx hb dX3_takeOver_9 (by decide) ?_
  refine lv_bipush (v := 80) hx hb dX3_takeOver_10 (by decide) ?_
  refine va_copyi (D := (dC, dI)) hx hb (hml.trans hl.1.symm) hown (hts (.methodLink RX3 21 arraycopyName) (List.mem_of_getElem? (i := 3) (by decide +kernel))) (hts (.native arraycopyName) (List.mem_of_getElem? (i := 4) (by decide +kernel))) (hts (.static arraycopyName) (List.mem_of_getElem? (i := 5) (by decide +kernel))) (hts (.initialized "java/lang/System") (List.mem_of_getElem? (i := 6) (by decide +kernel))) hK hP hD hS 3 1 1 0 rfl rfl rfl rfl rfl (by decide) (by decide) (by decide) (by decide) (by decide) (fun _ _ => rfl) (Nat.le_of_ble_eq_true rfl) (by decide) dX3_takeOver_12 (fun H locs hP hD hS => ?_)
  generalize e_g1 : (va_cpy ft fb (0 : Int32).toNatClampNeg (0 : Int32).toNatClampNeg (80 : Int32).toNatClampNeg) = g1 at hP hD
  have hP : va_P (dC, dI) vwCl [(h0, .inr (2, [.ref qb, v1, v2])), (qb, .inl (kb, 80, .inl g1)), (h1, .inr (7, [.ref qt, .int sz0])), (qt, .inl (kt, 80, .inl ft))] H := hP
  have hD : va_D A [(h0, .inr (2, [.ref qb, v1, v2])), (qb, .inl (kb, 80, .inl g1)), (h1, .inr (7, [.ref qt, .int sz0])), (qt, .inl (kt, 80, .inl ft))] := hD
  refine lv_aload_n hx hb dX3_takeOver_15 rfl (lv_at hl 0 rfl) ?_
  refine lv_aload_n hx hb dX3_takeOver_16 rfl (lv_at hl 1 rfl) ?_
  refine va_get (D := (dC, dI)) (ci := 7) (v := .int sz0) (C := RX8) (T := TX8) (N := 2) hx hb hts in_X3_takeOver_X8 hown hK hP 2 rfl rfl 1 (by decide) (hts (.fieldLink RX3 27 "ClearingGates$Tape" "size" "I") (List.mem_of_getElem? (i := 7) (by decide +kernel))) (fun _ h9 => h9) rfl dX3_takeOver_17 ?_
  refine va_put (D := (dC, dI)) (ci := 2) (v := .int sz0) (ty := .int) (C := RX3) (T := TX3) (N := 3) hx hb hts in_X3_takeOver_X3 tyX3 tyX3_ok nmX3 hown hK hP hD hS 0 rfl rfl 2 (by decide) (hts (.fieldLink RX3 31 "ClearingGates$Program" "size" "I") (List.mem_of_getElem? (i := 8) (by decide +kernel))) (fun _ h9 => h9) rfl (by decide +kernel) rfl rfl (Nat.le_of_ble_eq_true rfl) dX3_takeOver_20 (fun H locs hP hD hS => ?_)
  have hP : va_P (dC, dI) vwCl [(h0, .inr (2, [.ref qb, v1, .int sz0])), (qb, .inl (kb, 80, .inl g1)), (h1, .inr (7, [.ref qt, .int sz0])), (qt, .inl (kt, 80, .inl ft))] H := hP
  have hD : va_D A [(h0, .inr (2, [.ref qb, v1, .int sz0])), (qb, .inl (kb, 80, .inl g1)), (h1, .inr (7, [.ref qt, .int sz0])), (qt, .inl (kt, 80, .inl ft))] := hD
  have hP9 := hP.sub (ws' := [(h0, .inr (2, [.ref qb, v1, .int sz0])), (h1, .inr (7, [.ref qt, .int sz0])), (qt, .inl (kt, 80, .inl ft))]) [0, 2, 3] rfl
  have hD9 := hD.sub (ws' := [(h0, .inr (2, [.ref qb, v1, .int sz0])), (h1, .inr (7, [.ref qt, .int sz0])), (qt, .inl (kt, 80, .inl ft))]) [0, 2, 3] (by decide) rfl
  have hK9 := hK.sub (tys' := [(kt, .int)]) [1] rfl
  exact W.vret hx hb hr (fun t ht hW => ⟨⟨(), rfl, (by first | rfl | trivial), by rw [ht]; exact hP9, va_K.moved hW.alike hK9, hD9⟩, hS.F ht⟩) hS.2.2 dX3_takeOver_23

theorem in_X4_faultOf_X4 : ∀ w ∈ wsX40, w ∈ wsX4_faultOf := fun _ h => List.mem_cons_of_mem _ (List.mem_append_left _ (List.mem_append_right _ h))
theorem in_X4_faultOf_X3 : ∀ w ∈ wsX30, w ∈ wsX4_faultOf := fun _ h => List.mem_cons_of_mem _ (List.mem_append_right _ h)
set_option maxRecDepth 100000 in
set_option maxHeartbeats 4000000 in
/-- Reader.faultOf of an empty program -/
theorem c_X4_faultOf (l : Launch) (dC : Nat → ClassId) (dI : Nat → Nat → Nat) (h0 : Nat) (h1 : Nat) (v0 : Value) (v1 : Value) (v2 : Value) (v3 : Value) (v4 : Value) (w0 : Value) (w1 : Value) (sz : Nat) : Met l yX4_faultOf wsX4_faultOf ({ frames := 0, cells := 0, slots := 0, locals := 0 }) (va_Pc [.ref h0, .ref h1] (fun U => U.heap.size = sz ∧ va_P (dC, dI) vwCl [(h0, .inr (3, [v0, v1, v2, v3, v4])), (h1, .inr (2, [w0, w1, .int 0]))] U.heap ∧ va_K (dC, dI) vwCl [] U ∧ va_D (fun _ => True) [(h0, .inr (3, [v0, v1, v2, v3, v4])), (h1, .inr (2, [w0, w1, .int 0]))])) (va_Qi (fun (r : Int32) (_ : Unit) => r = 0) (fun (_ : Unit) (t : State) => va_P (dC, dI) vwCl [] t.heap ∧ va_K (dC, dI) vwCl [] t ∧ va_D (va_A [(h0, .inr (3, [v0, v1, v2, v3, v4])), (h1, .inr (2, [w0, w1, .int 0]))] sz) []) (va_A [(h0, .inr (3, [v0, v1, v2, v3, v4])), (h1, .inr (2, [w0, w1, .int 0]))] sz)) 0 0 (va_A [(h0, .inr (3, [v0, v1, v2, v3, v4])), (h1, .inr (2, [w0, w1, .int 0]))] sz) := by
  refine Met.ofW (cc := cX4_faultOf) (maxL := 4) (ret := (some .int)) (by decide) rfl ?_
  intro p e s m args below meth c s₁ B hml hv
  obtain ⟨rfl, hsz, hP, hK, hD0⟩ := hv
  have hx := B.exec
  have hb := B.bytes
  have hr := B.returns
  have hts := atoms_spec (ws := wsX4_faultOf) B.pre
  have hown : s.vm.findClass RX4 = some m.cls := findClass_of_methodNamed B.named
  have hlocks := B.notSynchronized
  subst hsz
  have hD := hD0.self (sz := s.heap.size)
  generalize hAe : va_A [(h0, .inr (3, [v0, v1, v2, v3, v4])), (h1, .inr (2, [w0, w1, .int 0]))] s.heap.size = A at hD ⊢
  have hA : ∀ q : Nat, s.heap.size ≤ q → A q := fun q h => by rw [← hAe]; exact Or.inr h
  have hS : va_S A s.heap s.heap [] := va_S.rf
  have hP : va_P (dC, dI) vwCl [(h0, .inr (3, [v0, v1, v2, v3, v4])), (h1, .inr (2, [w0, w1, .int 0]))] s.heap := hP
  have hl := lv_entry ([.ref h0, .ref h1]) (n := 4) (Nat.le_of_ble_eq_true rfl)
  rw [lg_entry_eq]
  generalize (lg_sl ([.ref h0, .ref h1]) ++ List.replicate (4 - (lg_sl ([.ref h0, .ref h1])).length) Slot.unset).toArray = ls at hl ⊢
  have hl : lv_has ls 4 [(0, .ref h0), (1, .ref h1)] := hl
  have k_0 : (0 : Int32).toInt = 0 := by decide
  refine lv_aload_n hx hb dX4_faultOf_0 rfl (lv_at hl 0 rfl) ?_
  refine lv_aload_n hx hb dX4_faultOf_1 rfl (lv_at hl 1 rfl) ?_
  refine va_put (D := (dC, dI)) (ci := 3) (v := .ref h1) (ty := .object "ClearingGates$Program") (C := RX4) (T := TX4) (N := 5) hx hb hts in_X4_faultOf_X4 tyX4 tyX4_ok nmX4 hown hK hP hD hS 0 rfl rfl 4 (by decide) (hts (.fieldLink RX4 15 "ClearingGates$Reader" "program" "LClearingGates$Program;") (List.mem_of_getElem? (i := 1) (by decide +kernel))) (fun _ h9 => h9) rfl (by decide +kernel) rfl rfl (Nat.le_of_ble_eq_true rfl) dX4_faultOf_2 (fun H locs hP hD hS => ?_)
  have hP : va_P (dC, dI) vwCl [(h0, .inr (3, [v0, v1, v2, v3, .ref h1])), (h1, .inr (2, [w0, w1, .int 0]))] H := hP
  have hD : va_D A [(h0, .inr (3, [v0, v1, v2, v3, .ref h1])), (h1, .inr (2, [w0, w1, .int 0]))] := hD
  refine lv_aload_n hx hb dX4_faultOf_5 rfl (lv_at hl 0 rfl) ?_
  refine lv_iconst (v := 0) hx hb dX4_faultOf_6 (by decide) ?_
  refine va_put (D := (dC, dI)) (ci := 3) (v := .int 0) (ty := .int) (C := RX4) (T := TX4) (N := 5) hx hb hts in_X4_faultOf_X4 tyX4 tyX4_ok nmX4 hown hK hP hD hS 0 rfl rfl 1 (by decide) (hts (.fieldLink RX4 19 "ClearingGates$Reader" "open" "I") (List.mem_of_getElem? (i := 2) (by decide +kernel))) (fun _ h9 => h9) rfl (by decide +kernel) rfl rfl (Nat.le_of_ble_eq_true rfl) dX4_faultOf_7 (fun H locs hP hD hS => ?_)
  have hP : va_P (dC, dI) vwCl [(h0, .inr (3, [v0, .int 0, v2, v3, .ref h1])), (h1, .inr (2, [w0, w1, .int 0]))] H := hP
  have hD : va_D A [(h0, .inr (3, [v0, .int 0, v2, v3, .ref h1])), (h1, .inr (2, [w0, w1, .int 0]))] := hD
  refine lv_aload_n hx hb dX4_faultOf_10 rfl (lv_at hl 0 rfl) ?_
  refine lv_iconst (v := 0) hx hb dX4_faultOf_11 (by decide) ?_
  refine va_put (D := (dC, dI)) (ci := 3) (v := .int 0) (ty := .int) (C := RX4) (T := TX4) (N := 5) hx hb hts in_X4_faultOf_X4 tyX4 tyX4_ok nmX4 hown hK hP hD hS 0 rfl rfl 2 (by decide) (hts (.fieldLink RX4 23 "ClearingGates$Reader" "loops" "I") (List.mem_of_getElem? (i := 3) (by decide +kernel))) (fun _ h9 => h9) rfl (by decide +kernel) rfl rfl (Nat.le_of_ble_eq_true rfl) dX4_faultOf_12 (fun H locs hP hD hS => ?_)
  have hP : va_P (dC, dI) vwCl [(h0, .inr (3, [v0, .int 0, .int 0, v3, .ref h1])), (h1, .inr (2, [w0, w1, .int 0]))] H := hP
  have hD : va_D A [(h0, .inr (3, [v0, .int 0, .int 0, v3, .ref h1])), (h1, .inr (2, [w0, w1, .int 0]))] := hD
  refine lv_aload_n hx hb dX4_faultOf_15 rfl (lv_at hl 0 rfl) ?_
  refine lv_iconst (v := -1) hx hb dX4_faultOf_16 (by decide) ?_
  refine va_put (D := (dC, dI)) (ci := 3) (v := .int (-1)) (ty := .int) (C := RX4) (T := TX4) (N := 5) hx hb hts in_X4_faultOf_X4 tyX4 tyX4_ok nmX4 hown hK hP hD hS 0 rfl rfl 3 (by decide) (hts (.fieldLink RX4 26 "ClearingGates$Reader" "fault" "I") (List.mem_of_getElem? (i := 4) (by decide +kernel))) (fun _ h9 => h9) rfl (by decide +kernel) rfl rfl (Nat.le_of_ble_eq_true rfl) dX4_faultOf_17 (fun H locs hP hD hS => ?_)
  have hP : va_P (dC, dI) vwCl [(h0, .inr (3, [v0, .int 0, .int 0, .int (-1), .ref h1])), (h1, .inr (2, [w0, w1, .int 0]))] H := hP
  have hD : va_D A [(h0, .inr (3, [v0, .int 0, .int 0, .int (-1), .ref h1])), (h1, .inr (2, [w0, w1, .int 0]))] := hD
  refine lv_iconst (v := 0) hx hb dX4_faultOf_20 (by decide) ?_
  refine lv_istore_n (lv' := [(2, .int 0), (0, .ref h0), (1, .ref h1)]) hx hb dX4_faultOf_21 rfl hl (by decide) rfl (fun ls hl => ?_)
  refine lv_iconst (v := 0) hx hb dX4_faultOf_22 (by decide) ?_
  refine lv_istore_n (lv' := [(3, .int 0), (2, .int 0), (0, .ref h0), (1, .ref h1)]) hx hb dX4_faultOf_23 rfl hl (by decide) rfl (fun ls hl => ?_)
  refine lv_iload_n hx hb dX4_faultOf_24 rfl (lv_at hl 0 rfl) ?_
  refine lv_aload_n hx hb dX4_faultOf_25 rfl (lv_at hl 3 rfl) ?_
  refine va_get (D := (dC, dI)) (ci := 2) (v := .int 0) (C := RX3) (T := TX3) (N := 3) hx hb hts in_X4_faultOf_X3 hown hK hP 1 rfl rfl 2 (by decide) (hts (.fieldLink RX4 29 "ClearingGates$Program" "size" "I") (List.mem_of_getElem? (i := 5) (by decide +kernel))) (fun _ h9 => h9) rfl dX4_faultOf_26 ?_
  refine lv_icmp_ge (tgt := 60) hx hb dX4_faultOf_29 (by decide) (fun c1 => ?_) (fun c1 => absurd (by decide) c1)
  refine lv_aload_n hx hb dX4_faultOf_60 rfl (lv_at hl 2 rfl) ?_
  refine va_get (D := (dC, dI)) (ci := 3) (v := .int (-1)) (C := RX4) (T := TX4) (N := 5) hx hb hts in_X4_faultOf_X4 hown hK hP 0 rfl rfl 3 (by decide) (hts (.fieldLink RX4 26 "ClearingGates$Reader" "fault" "I") (List.mem_of_getElem? (i := 4) (by decide +kernel))) (fun _ h9 => h9) rfl dX4_faultOf_61 ?_
  refine lv_iconst (v := -1) hx hb dX4_faultOf_64 (by decide) ?_
  refine lv_icmp_ne (tgt := 90) hx hb dX4_faultOf_65 (by decide) (fun c2 => absurd (by decide) c2) (fun c2 => ?_)
  refine lv_aload_n hx hb dX4_faultOf_68 rfl (lv_at hl 2 rfl) ?_
  refine va_get (D := (dC, dI)) (ci := 3) (v := .int 0) (C := RX4) (T := TX4) (N := 5) hx hb hts in_X4_faultOf_X4 hown hK hP 0 rfl rfl 1 (by decide) (hts (.fieldLink RX4 19 "ClearingGates$Reader" "open" "I") (List.mem_of_getElem? (i := 2) (by decide +kernel))) (fun _ h9 => h9) rfl dX4_faultOf_69 ?_
  refine lv_if_gt (tgt := 82) hx hb dX4_faultOf_72 (by decide) (fun c3 => absurd c3 (by decide)) (fun c3 => ?_)
  refine lv_aload_n hx hb dX4_faultOf_75 rfl (lv_at hl 3 rfl) ?_
  refine va_get (D := (dC, dI)) (ci := 2) (v := .int 0) (C := RX3) (T := TX3) (N := 3) hx hb hts in_X4_faultOf_X3 hown hK hP 1 rfl rfl 2 (by decide) (hts (.fieldLink RX4 29 "ClearingGates$Program" "size" "I") (List.mem_of_getElem? (i := 5) (by decide +kernel))) (fun _ h9 => h9) rfl dX4_faultOf_76 ?_
  refine lv_if_ne (tgt := 90) hx hb dX4_faultOf_79 (by decide) (fun c4 => absurd (by decide) c4) (fun c4 => ?_)
  refine lv_aload_n hx hb dX4_faultOf_82 rfl (lv_at hl 2 rfl) ?_
  refine lv_aload_n hx hb dX4_faultOf_83 rfl (lv_at hl 3 rfl) ?_
  refine va_get (D := (dC, dI)) (ci := 2) (v := .int 0) (C := RX3) (T := TX3) (N := 3) hx hb hts in_X4_faultOf_X3 hown hK hP 1 rfl rfl 2 (by decide) (hts (.fieldLink RX4 29 "ClearingGates$Program" "size" "I") (List.mem_of_getElem? (i := 5) (by decide +kernel))) (fun _ h9 => h9) rfl dX4_faultOf_84 ?_
  refine va_put (D := (dC, dI)) (ci := 3) (v := .int 0) (ty := .int) (C := RX4) (T := TX4) (N := 5) hx hb hts in_X4_faultOf_X4 tyX4 tyX4_ok nmX4 hown hK hP hD hS 0 rfl rfl 3 (by decide) (hts (.fieldLink RX4 26 "ClearingGates$Reader" "fault" "I") (List.mem_of_getElem? (i := 4) (by decide +kernel))) (fun _ h9 => h9) rfl (by decide +kernel) rfl rfl (Nat.le_of_ble_eq_true rfl) dX4_faultOf_87 (fun H locs hP hD hS => ?_)
  have hP : va_P (dC, dI) vwCl [(h0, .inr (3, [v0, .int 0, .int 0, .int 0, .ref h1])), (h1, .inr (2, [w0, w1, .int 0]))] H := hP
  have hD : va_D A [(h0, .inr (3, [v0, .int 0, .int 0, .int 0, .ref h1])), (h1, .inr (2, [w0, w1, .int 0]))] := hD
  refine lv_aload_n hx hb dX4_faultOf_90 rfl (lv_at hl 2 rfl) ?_
  refine va_get (D := (dC, dI)) (ci := 3) (v := .int 0) (C := RX4) (T := TX4) (N := 5) hx hb hts in_X4_faultOf_X4 hown hK hP 0 rfl rfl 3 (by decide) (hts (.fieldLink RX4 26 "ClearingGates$Reader" "fault" "I") (List.mem_of_getElem? (i := 4) (by decide +kernel))) (fun _ h9 => h9) rfl dX4_faultOf_91 ?_
  have hP9 := hP.sub (ws' := []) [] rfl
  have hD9 := hD.sub (ws' := []) [] (by decide) rfl
  have hK9 := hK.sub (tys' := []) [] rfl
  exact W.iret (v := 0) hx hb hr (fun t ht hW => ⟨⟨0, (), rfl, (by first | rfl | (simp only [if_pos, if_neg, *]; done)), by rw [ht]; exact hP9, va_K.moved hW.alike hK9, hD9⟩, hS.F ht⟩) hS.2.2 dX4_faultOf_94
