set_option maxRecDepth 100000 in
set_option maxHeartbeats 8000000 in
theorem whole_start {p : Program} {e : Env} {s : State} {m : MethodId} {below : List Frame} {meth : Method} {c : Code} (l : Launch) (hflags : l.flags = flags0) {b L : Nat} {xs : Nat → Int32} (hL : L ≤ 3584) (C0 : lw_At p s m meth c b L xs) : W p l e room_1 s m #[Value.ref b] below meth c s.heap [] 0 0 (lw_Z below #[Value.ref b] s) (entryFrame m ([Value.ref b] : List Value).toArray 4) := by
  obtain ⟨hx, hb, hr, hml, hown, hts, hX, hbl, hlocks, hgv⟩ := id C0
  have hA : ∀ q : Nat, s.heap.size ≤ q → (fun q : Nat => s.heap.size ≤ q) q := fun _ h => h
  have hbA : ¬ (fun q : Nat => s.heap.size ≤ q) b := Nat.not_le.mpr hbl
  obtain ⟨c0, iS0, hKn0⟩ := u_known (C := RX0) (T := TX0) (N := 13) (n := 13) hts inX0 (hts (.instantiable RX0 13) (wsL_law_in _ mw_90))
  obtain ⟨c1, iS1, hKn1⟩ := u_known (C := RX1) (T := TX1) (N := 1) (n := 1) hts inX1 (hts (.instantiable RX1 1) (wsL_law_in _ mw_132))
  obtain ⟨c2, iS2, hKn2⟩ := u_known (C := RX3) (T := TX3) (N := 3) (n := 3) hts inX3 (hts (.instantiable RX3 3) (wsL_law_in _ mw_148))
  obtain ⟨c3, iS3, hKn3⟩ := u_known (C := RX4) (T := TX4) (N := 5) (n := 5) hts inX4 (hts (.instantiable RX4 5) (wsL_law_in _ mw_169))
  obtain ⟨c4, iS4, hKn4⟩ := u_known (C := RX5) (T := TX5) (N := 4) (n := 4) hts inX5 (hts (.instantiable RX5 4) (wsL_law_in _ mw_138))
  obtain ⟨c5, iS5, hKn5⟩ := u_known (C := RX6) (T := TX6) (N := 8) (n := 8) hts inX6 (hts (.instantiable RX6 8) (wsL_law_in _ mw_179))
  obtain ⟨c6, iS6, hKn6⟩ := u_known (C := RX7) (T := TX7) (N := 3) (n := 3) hts inX7 (hts (.instantiable RX7 3) (wsL_law_in _ mw_198))
  obtain ⟨c7, iS7, hKn7⟩ := u_known (C := RX8) (T := TX8) (N := 2) (n := 2) hts inX8 (hts (.instantiable RX8 2) (wsL_law_in _ mw_159))
  obtain ⟨c8, iS8, hKn8⟩ := u_known (C := RX9) (T := TX9) (N := 13) (n := 13) hts inX9 (hts (.instantiable RX9 13) (wsL_law_in _ mw_82))
  obtain ⟨c9, iS9, hKn9⟩ := u_known (C := RX10) (T := TX10) (N := 32) (n := 32) hts inX10 (hts (.instantiable RX10 32) (wsL_law_in _ mw_604))
  obtain ⟨dC, dI, hKc⟩ : ∃ (dC : Nat → ClassId) (dI : Nat → Nat → Nat), ∀ (k : Nat) (q : vw_C), vwCl[k]? = some q → u_Kn s q.1 q.2.1 q.2.2 (dC k) (dI k) := by
    refine ⟨fun k => if k = 0 then c0 else if k = 1 then c1 else if k = 2 then c2 else if k = 3 then c3 else if k = 4 then c4 else if k = 5 then c5 else if k = 6 then c6 else if k = 7 then c7 else if k = 8 then c8 else c9, fun k => if k = 0 then iS0 else if k = 1 then iS1 else if k = 2 then iS2 else if k = 3 then iS3 else if k = 4 then iS4 else if k = 5 then iS5 else if k = 6 then iS6 else if k = 7 then iS7 else if k = 8 then iS8 else iS9, ?_⟩
    intro k q hq
    match k, hq with
    | 0, hq => cases hq; exact hKn0
    | 1, hq => cases hq; exact hKn1
    | 2, hq => cases hq; exact hKn2
    | 3, hq => cases hq; exact hKn3
    | 4, hq => cases hq; exact hKn4
    | 5, hq => cases hq; exact hKn5
    | 6, hq => cases hq; exact hKn6
    | 7, hq => cases hq; exact hKn7
    | 8, hq => cases hq; exact hKn8
    | 9, hq => cases hq; exact hKn9
    | k + 10, hq => simp [vwCl] at hq
  have hS : va_S (fun q : Nat => s.heap.size ≤ q) s.heap s.heap [] := va_S.rf
  have hK : va_K (dC, dI) vwCl [] s := ⟨hKc, fun k q h => by simp at h⟩
  have hP : va_P (dC, dI) vwCl [] s.heap := fun k q h => by simp at h
  have hD : va_D (fun q : Nat => s.heap.size ≤ q) [] := ⟨fun i j p q h => by simp at h, fun k q h => by simp at h⟩
  have hl := lv_entry ([.ref b]) (n := 4) (Nat.le_of_ble_eq_true rfl)
  rw [lg_entry_eq]
  generalize (lg_sl ([.ref b]) ++ List.replicate (4 - (lg_sl ([.ref b])).length) Slot.unset).toArray = ls at hl ⊢
  have hl : lv_has ls 4 [(0, .ref b)] := hl
  refine va_new (D := (dC, dI)) (ci := 8) (fs := [.null, .null, .null, .null, .null, .null, .int 0, .int 0, .null, .null, .null, .null, .null]) (C := RX9) (T := TX9) (N := 13) hx hb hts inX9 tyX9 tyX9_ok hown (hts (.classLink RL 7 RX9) (wsL_law_in _ mw_81)) (hts (.instantiable RX9 13) (wsL_law_in _ mw_82)) (hts (.initialized RX9) (wsL_law_in _ mw_68)) hK hP hD hS hA rfl (fun j hj => by rcases (show j = 0 ∨ j = 1 ∨ j = 2 ∨ j = 3 ∨ j = 4 ∨ j = 5 ∨ j = 6 ∨ j = 7 ∨ j = 8 ∨ j = 9 ∨ j = 10 ∨ j = 11 ∨ j = 12 by omega) with rfl | rfl | rfl | rfl | rfl | rfl | rfl | rfl | rfl | rfl | rfl | rfl | rfl <;> rfl) (Nat.le_of_ble_eq_true rfl) (Nat.le_of_ble_eq_true rfl) dL_law_0 (fun q1 H hP hD hS => ?_)
  obtain ⟨hP, hD⟩ := X_s (ws' := [eO q1 8 [.null, .null, .null, .null, .null, .null, .int 0, .int 0, .null, .null, .null, .null, .null]]) hP hD rfl
  refine lv_dup hx hb dL_law_3 rfl ?_
  obtain ⟨hPc, hDc, hFc, hCm, hNw⟩ := C_s (wc := [eO q1 8 [.null, .null, .null, .null, .null, .null, .int 0, .int 0, .null, .null, .null, .null, .null]]) hP hD hS hA [(0, 1)] 1 rfl (by decide +kernel) rfl
  have hKc := K_s (tys' := []) hK [] rfl
  refine va_callv (va_runI (As := []) (rest := [.ref q1]) ⟨hx, hb, hml, hown, hts⟩ (c_X9_initc l dC dI q1 H.size) (cwI 0 hts (fun w h => ⟨wsL_law_in w (gL_law_X9_init w h).1, (gL_law_X9_init w h).2⟩) rfl rfl rfl (hts (.initialized RX9) (wsL_law_in _ mw_68)) (hts (.methodLink RL 9 yX9_init) (wsL_law_in _ mw_83)) (hts (.instanceMethod yX9_init) (wsL_law_in _ mw_84)) rfl (by decide +kernel) ⟨Nat.le_of_ble_eq_true rfl, Nat.le_of_ble_eq_true rfl⟩) ⟨fun a U g mk q => by obtain ⟨q0, q1, qP, qK, qD, z0, z1, z2, z3, z4, z5, z6, z7, z8⟩ := q; exact ⟨q0, q1, qP, va_K.moved (u := U) (U := U.calling g mk a) (Vm.Alike.refl U.vm) qK, qD, va_Nw.same rfl rfl z0, va_Nw.same rfl rfl z1, va_Nw.same rfl rfl z2, va_Nw.same rfl rfl z3, va_Nw.same rfl rfl z4, va_Nw.same rfl rfl z5, va_AO.moved (Vm.Alike.refl U.vm) z6, va_AO.moved (Vm.Alike.refl U.vm) z7, va_AOA.moved (Vm.Alike.refl U.vm) z8⟩, fun U hU hW => ⟨rfl, by rw [hU], by rw [hU]; exact hPc, va_K.moved hW.alike hKc, hDc.weaken (fun _ _ _ _ => trivial), va_Nw.warmM hW (va_Nw.of rfl (hts (.methodLinkNest RX9 11 yX0_init "ClearingGates") (List.mem_append_right _ (List.mem_of_getElem? (i := 24) (by decide +kernel))))), va_Nw.warmM hW (va_Nw.of rfl (hts (.methodLinkNest RX9 23 yX1_init "ClearingGates") (List.mem_append_right _ (List.mem_of_getElem? (i := 94) (by decide +kernel))))), va_Nw.warmM hW (va_Nw.of rfl (hts (.methodLinkNest RX9 46 yX3_init "ClearingGates") (List.mem_append_right _ (List.mem_of_getElem? (i := 124) (by decide +kernel))))), va_Nw.warmM hW (va_Nw.of rfl (hts (.methodLinkNest RX9 53 yX8_init "ClearingGates") (List.mem_append_right _ (List.mem_of_getElem? (i := 143) (by decide +kernel))))), va_Nw.warmM hW (va_Nw.of rfl (hts (.methodLinkNest RX9 60 yX4_init "ClearingGates") (List.mem_append_right _ (List.mem_of_getElem? (i := 159) (by decide +kernel))))), va_Nw.warmM hW (va_Nw.of rfl (hts (.methodLinkNest RX9 83 yX7_init "ClearingGates") (List.mem_append_right _ (List.mem_of_getElem? (i := 219) (by decide +kernel))))), va_AO.moved hW.alike (va_AO.of (hts (.arrayOver (.object RX3)) (List.mem_append_right _ (List.mem_of_getElem? (i := 122) (by decide +kernel))))), va_AO.moved hW.alike (va_AO.of (hts (.arrayOver (.object RX7)) (List.mem_append_right _ (List.mem_of_getElem? (i := 217) (by decide +kernel))))), va_AOA.moved hW.alike (va_AOA.of (hts (.arrayOver (.array .int)) (List.mem_append_right _ (List.mem_of_getElem? (i := 186) (by decide +kernel)))))⟩⟩ rfl rfl hl.1 rfl (lv_room (Nat.le_of_ble_eq_true rfl)) dL_law_4 ⟨Nat.le_of_ble_eq_true rfl, Nat.le_of_ble_eq_true rfl⟩) hS (fun q _ h => hFc q h) hFc (fun u t H1 locs ht hvm hw hB hz1 hk1 hS => ?_)
  refine Exists.elim hB ?_; clear hB; intro q3 hB
  refine Exists.elim hB ?_; clear hB; intro q4 hB
  refine Exists.elim hB ?_; clear hB; intro q5 hB
  refine Exists.elim hB ?_; clear hB; intro q6 hB
  refine Exists.elim hB ?_; clear hB; intro q7 hB
  refine Exists.elim hB ?_; clear hB; intro q8 hB
  refine Exists.elim hB ?_; clear hB; intro q9 hB
  refine Exists.elim hB ?_; clear hB; intro q10 hB
  refine Exists.elim hB ?_; clear hB; intro q11 hB
  refine Exists.elim hB ?_; clear hB; intro q12 hB
  refine Exists.elim hB ?_; clear hB; intro q13 hB
  refine Exists.elim hB ?_; clear hB; intro q14 hB
  refine Exists.elim hB ?_; clear hB; intro q15 hB
  refine Exists.elim hB ?_; clear hB; intro q16 hB
  refine Exists.elim hB ?_; clear hB; intro q17 hB
  refine Exists.elim hB ?_; clear hB; intro q18 hB
  refine Exists.elim hB ?_; clear hB; intro q19 hB
  refine Exists.elim hB ?_; clear hB; intro q20 hB
  refine Exists.elim hB ?_; clear hB; intro q21 hB
  refine Exists.elim hB ?_; clear hB; intro q22 hB
  refine Exists.elim hB ?_; clear hB; intro q23 hB
  refine Exists.elim hB ?_; clear hB; intro q24 hB
  refine Exists.elim hB ?_; clear hB; intro q25 hB
  refine Exists.elim hB ?_; clear hB; intro q26 hB
  refine Exists.elim hB ?_; clear hB; intro q27 hB
  refine Exists.elim hB ?_; clear hB; intro q28 hB
  refine Exists.elim hB ?_; clear hB; intro q29 hB
  refine Exists.elim hB ?_; clear hB; intro q30 hB
  refine Exists.elim hB ?_; clear hB; intro q31 hB
  refine Exists.elim hB ?_; clear hB; intro q32 hB
  refine Exists.elim hB ?_; clear hB; intro q33 hB
  refine Exists.elim hB ?_; clear hB; intro q34 hB
  refine Exists.elim hB ?_; clear hB; intro q35 hB
  refine Exists.elim hB ?_; clear hB; intro q36 hB
  refine Exists.elim hB ?_; clear hB; intro q37 hB
  refine Exists.elim hB ?_; clear hB; intro q38 hB
  refine Exists.elim hB ?_; clear hB; intro q39 hB
  refine Exists.elim hB ?_; clear hB; intro q40 hB
  refine Exists.elim hB ?_; clear hB; intro q41 hB
  refine Exists.elim hB ?_; clear hB; intro q42 hB
  refine Exists.elim hB ?_; clear hB; intro q43 hB
  refine Exists.elim hB ?_; clear hB; intro q44 hB
  refine Exists.elim hB ?_; clear hB; intro q45 hB
  refine Exists.elim hB ?_; clear hB; intro q46 hB
  refine Exists.elim hB ?_; clear hB; intro q47 hB
  refine Exists.elim hB ?_; clear hB; intro q48 hB
  refine Exists.elim hB ?_; clear hB; intro q49 hB
  refine Exists.elim hB ?_; clear hB; intro q50 hB
  refine Exists.elim hB ?_; clear hB; intro q51 hB
  refine Exists.elim hB ?_; clear hB; intro q52 hB
  refine Exists.elim hB ?_; clear hB; intro q53 hB
  refine Exists.elim hB ?_; clear hB; intro q54 hB
  refine Exists.elim hB ?_; clear hB; intro q55 hB
  refine Exists.elim hB ?_; clear hB; intro q56 hB
  refine Exists.elim hB ?_; clear hB; intro q57 hB
  refine Exists.elim hB ?_; clear hB; intro q58 hB
  refine Exists.elim hB ?_; clear hB; intro q59 hB
  refine Exists.elim hB ?_; clear hB; intro q60 hB
  refine Exists.elim hB ?_; clear hB; intro q61 hB
  refine Exists.elim hB ?_; clear hB; intro q62 hB
  refine Exists.elim hB ?_; clear hB; intro q63 hB
  refine Exists.elim hB ?_; clear hB; intro q64 hB
  refine Exists.elim hB ?_; clear hB; intro q65 hB
  refine Exists.elim hB ?_; clear hB; intro q66 hB
  refine Exists.elim hB ?_; clear hB; intro q67 hB
  refine Exists.elim hB ?_; clear hB; intro q68 hB
  refine Exists.elim hB ?_; clear hB; intro q69 hB
  refine Exists.elim hB ?_; clear hB; intro q70 hB
  refine Exists.elim hB ?_; clear hB; intro q71 hB
  refine Exists.elim hB ?_; clear hB; intro q72 hB
  refine Exists.elim hB ?_; clear hB; intro q73 hB
  refine Exists.elim hB ?_; clear hB; intro q74 hB
  refine Exists.elim hB ?_; clear hB; intro q75 hB
  refine Exists.elim hB ?_; clear hB; intro q76 hB
  refine Exists.elim hB ?_; clear hB; intro q77 hB
  refine Exists.elim hB ?_; clear hB; intro q78 hB
  refine Exists.elim hB ?_; clear hB; intro q79 hB
  refine Exists.elim hB ?_; clear hB; intro q80 hB
  refine Exists.elim hB ?_; clear hB; intro q81 hB
  refine Exists.elim hB ?_; clear hB; intro q82 hB
  refine Exists.elim hB ?_; clear hB; intro q83 hB
  refine Exists.elim hB ?_; clear hB; intro q84 hB
  refine Exists.elim hB ?_; clear hB; intro q85 hB
  refine Exists.elim hB ?_; clear hB; intro q86 hB
  refine Exists.elim hB ?_; clear hB; intro q87 hB
  refine Exists.elim hB ?_; clear hB; intro q88 hB
  refine Exists.elim hB ?_; clear hB; intro q89 hB
  refine Exists.elim hB ?_; clear hB; intro q90 hB
  refine Exists.elim hB ?_; clear hB; intro q91 hB
  refine Exists.elim hB ?_; clear hB; intro q92 hB
  refine Exists.elim hB ?_; clear hB; intro q93 hB
  refine Exists.elim hB ?_; clear hB; intro q94 hB
  refine Exists.elim hB ?_; clear hB; intro q95 hB
  refine Exists.elim hB ?_; clear hB; intro q96 hB
  refine Exists.elim hB ?_; clear hB; intro q97 hB
  refine Exists.elim hB ?_; clear hB; intro q98 hB
  refine Exists.elim hB ?_; clear hB; intro q99 hB
  refine Exists.elim hB ?_; clear hB; intro q100 hB
  refine Exists.elim hB ?_; clear hB; intro q101 hB
  refine Exists.elim hB ?_; clear hB; intro q102 hB
  refine Exists.elim hB ?_; clear hB; intro q103 hB
  refine Exists.elim hB ?_; clear hB; intro q104 hB
  refine Exists.elim hB ?_; clear hB; intro q105 hB
  refine Exists.elim hB ?_; clear hB; intro q106 hB
  refine Exists.elim hB ?_; clear hB; intro q107 hB
  refine Exists.elim hB ?_; clear hB; intro q108 hB
  refine Exists.elim hB ?_; clear hB; intro q109 hB
  refine Exists.elim hB ?_; clear hB; intro q110 hB
  refine Exists.elim hB ?_; clear hB; intro q111 hB
  refine Exists.elim hB ?_; clear hB; intro q112 hB
  refine Exists.elim hB ?_; clear hB; intro q113 hB
  refine Exists.elim hB ?_; clear hB; intro q114 hB
  refine Exists.elim hB ?_; clear hB; intro q115 hB
  refine Exists.elim hB ?_; clear hB; intro q116 hB
  refine Exists.elim hB ?_; clear hB; intro q117 hB
  refine Exists.elim hB ?_; clear hB; intro q118 hB
  refine Exists.elim hB ?_; clear hB; intro q119 hB
  refine Exists.elim hB ?_; clear hB; intro q120 hB
  refine Exists.elim hB ?_; clear hB; intro q121 hB
  refine Exists.elim hB ?_; clear hB; intro q122 hB
  refine Exists.elim hB ?_; clear hB; intro q123 hB
  refine Exists.elim hB ?_; clear hB; intro q124 hB
  refine Exists.elim hB ?_; clear hB; intro q125 hB
  refine Exists.elim hB ?_; clear hB; intro q126 hB
  refine Exists.elim hB ?_; clear hB; intro q127 hB
  refine Exists.elim hB ?_; clear hB; intro q128 hB
  refine Exists.elim hB ?_; clear hB; intro q129 hB
  refine Exists.elim hB ?_; clear hB; intro q130 hB
  refine Exists.elim hB ?_; clear hB; intro q131 hB
  refine Exists.elim hB ?_; clear hB; intro q132 hB
  refine Exists.elim hB ?_; clear hB; intro q133 hB
  refine Exists.elim hB ?_; clear hB; intro q134 hB
  refine Exists.elim hB ?_; clear hB; intro q135 hB
  refine Exists.elim hB ?_; clear hB; intro q136 hB
  refine Exists.elim hB ?_; clear hB; intro q137 hB
  refine Exists.elim hB ?_; clear hB; intro q138 hB
  refine Exists.elim hB ?_; clear hB; intro q139 hB
  refine Exists.elim hB ?_; clear hB; intro q140 hB
  refine Exists.elim hB ?_; clear hB; intro q141 hB
  refine Exists.elim hB ?_; clear hB; intro q142 hB
  refine Exists.elim hB ?_; clear hB; intro q143 hB
  refine Exists.elim hB ?_; clear hB; intro q144 hB
  refine Exists.elim hB ?_; clear hB; intro q145 hB
  refine Exists.elim hB ?_; clear hB; intro q146 hB
  refine Exists.elim hB ?_; clear hB; intro q147 hB
  refine Exists.elim hB ?_; clear hB; intro q148 hB
  refine Exists.elim hB ?_; clear hB; intro q149 hB
  refine Exists.elim hB ?_; clear hB; intro q150 hB
  refine Exists.elim hB ?_; clear hB; intro q151 hB
  refine Exists.elim hB ?_; clear hB; intro q152 hB
  refine Exists.elim hB ?_; clear hB; intro q153 hB
  refine Exists.elim hB ?_; clear hB; intro q154 hB
  refine Exists.elim hB ?_; clear hB; intro q155 hB
  refine Exists.elim hB ?_; clear hB; intro q156 hB
  refine Exists.elim hB ?_; clear hB; intro q157 hB
  refine Exists.elim hB ?_; clear hB; intro q158 hB
  have vpa0_r2 := hB.1
  replace hB := hB.2
  have vpa1_r2 := hB.1
  replace hB := hB.2
  have vpa2_r2 := hB.1
  replace hB := hB.2
  have vpa3_r2 := hB.1
  replace hB := hB.2
  have vsa0_r2 := hB.1
  replace hB := hB.2
  have vsa1_r2 := hB.1
  replace hB := hB.2
  have vsa2_r2 := hB.1
  replace hB := hB.2
  have vsa3_r2 := hB.1
  replace hB := hB.2
  have vx1_0_r2 := hB.1
  replace hB := hB.2
  have vx1_1_r2 := hB.1
  replace hB := hB.2
  have vx1_2_r2 := hB.1
  replace hB := hB.2
  have vx1_3_r2 := hB.1
  replace hB := hB.2
  have vx1_4_r2 := hB.1
  replace hB := hB.2
  have vx1_5_r2 := hB.1
  replace hB := hB.2
  have vx1_6_r2 := hB.1
  replace hB := hB.2
  have vx1_7_r2 := hB.1
  replace hB := hB.2
  have vx1_8_r2 := hB.1
  replace hB := hB.2
  have vx2_0_r2 := hB.1
  replace hB := hB.2
  have vx2_1_r2 := hB.1
  replace hB := hB.2
  have vx2_2_r2 := hB.1
  replace hB := hB.2
  have vx2_3_r2 := hB.1
  replace hB := hB.2
  have vx2_4_r2 := hB.1
  replace hB := hB.2
  have vx2_5_r2 := hB.1
  replace hB := hB.2
  have vx2_6_r2 := hB.1
  replace hB := hB.2
  have vx2_7_r2 := hB.1
  replace hB := hB.2
  have vx2_8_r2 := hB.1
  replace hB := hB.2
  obtain ⟨hP1, hK1, hD1⟩ := hB
  rw [ht] at hP1
  have hK1 := va_K.moved hvm.symm hK1
  try dsimp only at hw
  obtain ⟨hP, hD⟩ := J_s (wL := (eO q1 8 [.ref q3, .ref q4, .ref q5, .ref q6, .ref q7, .ref q8, .int 0, .int (-1), .ref q9, .ref q10, .ref q11, .ref q12, .ref q13] :: eO q3 0 [.ref q14, .ref q15, .ref q16, .ref q17, .ref q18, .ref q19, .ref q20, .int 0, .long 0, .int 0, .int 0, .int 0, .int 0] :: eI q14 q21 8 (fun _ => 0) :: eI q15 q22 8 (fun _ => 0) :: eI q16 q23 8 (fun _ => 0) :: eI q17 q24 8 (fun _ => 0) :: eI q18 q25 8 (fun _ => 0) :: eI q19 q26 8 (fun _ => 0) :: eI q20 q27 8 (fun _ => 0) :: eO q4 0 [.ref q28, .ref q29, .ref q30, .ref q31, .ref q32, .ref q33, .ref q34, .int 0, .long 0, .int 0, .int 0, .int 0, .int 0] :: eI q28 q35 8 (fun _ => 0) :: eI q29 q36 8 (fun _ => 0) :: eI q30 q37 8 (fun _ => 0) :: eI q31 q38 8 (fun _ => 0) :: eI q32 q39 8 (fun _ => 0) :: eI q33 q40 8 (fun _ => 0) :: eI q34 q41 8 (fun _ => 0) :: eO q5 1 [.ref q42] :: eI q42 q43 64 (fun _ => 0) :: eO q6 1 [.ref q44] :: eI q44 q45 64 (fun _ => 0) :: eO q7 4 [.ref q5, .ref q46, .int 0, .ref q47] :: eI q46 q48 8 (fun _ => 0) :: eI q47 q49 8 (fun _ => 0) :: eR q8 q50 4 q51 :: eO q52 2 [.ref q53, .ref q54, .int 0] :: eI q53 q55 80 (fun _ => 0) :: eI q54 q56 80 (fun _ => 0) :: eO q57 2 [.ref q58, .ref q59, .int 0] :: eI q58 q60 80 (fun _ => 0) :: eI q59 q61 80 (fun _ => 0) :: eO q62 2 [.ref q63, .ref q64, .int 0] :: eI q63 q65 80 (fun _ => 0) :: eI q64 q66 80 (fun _ => 0) :: eO q67 2 [.ref q68, .ref q69, .int 0] :: eI q68 q70 80 (fun _ => 0) :: eI q69 q71 80 (fun _ => 0) :: eO q9 7 [.ref q72, .int 0] :: eI q72 q73 80 (fun _ => 0) :: eO q10 3 [.ref q74, .int 0, .int 0, .int 0, .null] :: eI q74 q75 8 (fun _ => 0) :: eO q11 5 [.ref q3, .ref q76, .int 0, .ref q77, .ref q78, .ref q79, .int 0, .null] :: eI q76 q80 60 (fun _ => 0) :: eI q77 q81 8 (fun _ => 0) :: eR q78 q82 9 q83 :: eI q84 q85 8 (fun _ => 0) :: eI q86 q87 8 (fun _ => 0) :: eI q88 q89 8 (fun _ => 0) :: eI q90 q91 8 (fun _ => 0) :: eI q92 q93 8 (fun _ => 0) :: eI q94 q95 8 (fun _ => 0) :: eI q96 q97 8 (fun _ => 0) :: eI q98 q99 8 (fun _ => 0) :: eI q100 q101 8 (fun _ => 0) :: eL q79 q102 9 (fun _ => 0) :: eO q12 5 [.ref q103, .ref q104, .int 0, .ref q105, .ref q106, .ref q107, .int 0, .null] :: eI q104 q108 60 (fun _ => 0) :: eI q105 q109 8 (fun _ => 0) :: eR q106 q110 9 q111 :: eI q112 q113 8 (fun _ => 0) :: eI q114 q115 8 (fun _ => 0) :: eI q116 q117 8 (fun _ => 0) :: eI q118 q119 8 (fun _ => 0) :: eI q120 q121 8 (fun _ => 0) :: eI q122 q123 8 (fun _ => 0) :: eI q124 q125 8 (fun _ => 0) :: eI q126 q127 8 (fun _ => 0) :: eI q128 q129 8 (fun _ => 0) :: eL q107 q130 9 (fun _ => 0) :: eO q103 0 [.ref q131, .ref q132, .ref q133, .ref q134, .ref q135, .ref q136, .ref q137, .int 0, .long 0, .int 0, .int 0, .int 0, .int 0] :: eI q131 q138 8 (fun _ => 0) :: eI q132 q139 8 (fun _ => 0) :: eI q133 q140 8 (fun _ => 0) :: eI q134 q141 8 (fun _ => 0) :: eI q135 q142 8 (fun _ => 0) :: eI q136 q143 8 (fun _ => 0) :: eI q137 q144 8 (fun _ => 0) :: eR q13 q145 4 q146 :: eO q147 6 [.int (-1), .int 0, .ref q148] :: eI q148 q149 60 (fun _ => 0) :: eO q150 6 [.int (-1), .int 0, .ref q151] :: eI q151 q152 60 (fun _ => 0) :: eO q153 6 [.int (-1), .int 0, .ref q154] :: eI q154 q155 60 (fun _ => 0) :: eO q156 6 [.int (-1), .int 0, .ref q157] :: eI q157 q158 60 (fun _ => 0) :: [])) hP hD [(0, 1)] [] hCm hNw (by decide +kernel) hk1 hFc hP1 hD1 rfl
  have hK := KJ_s (tys' := ((q21, .int) :: (q22, .int) :: (q23, .int) :: (q24, .boolean) :: (q25, .int) :: (q26, .int) :: (q27, .int) :: (q35, .int) :: (q36, .int) :: (q37, .int) :: (q38, .boolean) :: (q39, .int) :: (q40, .int) :: (q41, .int) :: (q43, .int) :: (q45, .int) :: (q48, .int) :: (q49, .boolean) :: (q50, .object "ClearingGates$Program") :: (q55, .int) :: (q56, .int) :: (q60, .int) :: (q61, .int) :: (q65, .int) :: (q66, .int) :: (q70, .int) :: (q71, .int) :: (q73, .int) :: (q75, .int) :: (q80, .int) :: (q81, .int) :: (q82, .array .int) :: (q85, .int) :: (q87, .int) :: (q89, .int) :: (q91, .int) :: (q93, .int) :: (q95, .int) :: (q97, .int) :: (q99, .int) :: (q101, .int) :: (q102, .long) :: (q108, .int) :: (q109, .int) :: (q110, .array .int) :: (q113, .int) :: (q115, .int) :: (q117, .int) :: (q119, .int) :: (q121, .int) :: (q123, .int) :: (q125, .int) :: (q127, .int) :: (q129, .int) :: (q130, .long) :: (q138, .int) :: (q139, .int) :: (q140, .int) :: (q141, .boolean) :: (q142, .int) :: (q143, .int) :: (q144, .int) :: (q145, .object "ClearingGates$Sheet") :: (q149, .int) :: (q152, .int) :: (q155, .int) :: (q158, .int) :: [])) hK hK1 [] rfl
  generalize H1 = H at hP hS ⊢
  refine lv_astore_n (lv' := [(1, .ref q1), (0, .ref b)]) hx hb dL_law_7 rfl hl (by decide) rfl (fun ls hl => ?_)
  refine va_new (D := (dC, dI)) (ci := 9) (fs := [.null, .long 0, .null, .long 0, .null, .long 0, .int 0, .null, .int 0, .null, .null, .int 0, .null, .null, .int 0, .int 0, .int 0, .int 0, .int 0, .null, .null, .int 0, .null, .int 0, .null, .null, .int 0, .null, .null, .null, .null, .null]) (C := RX10) (T := TX10) (N := 32) hx hb hts inX10 tyX10 tyX10_ok hown (hts (.classLink RL 10 RX10) (wsL_law_in _ mw_603)) (hts (.instantiable RX10 32) (wsL_law_in _ mw_604)) (hts (.initialized RX10) (wsL_law_in _ mw_77)) hK hP hD hS hA rfl (fun j hj => by rcases (show j = 0 ∨ j = 1 ∨ j = 2 ∨ j = 3 ∨ j = 4 ∨ j = 5 ∨ j = 6 ∨ j = 7 ∨ j = 8 ∨ j = 9 ∨ j = 10 ∨ j = 11 ∨ j = 12 ∨ j = 13 ∨ j = 14 ∨ j = 15 ∨ j = 16 ∨ j = 17 ∨ j = 18 ∨ j = 19 ∨ j = 20 ∨ j = 21 ∨ j = 22 ∨ j = 23 ∨ j = 24 ∨ j = 25 ∨ j = 26 ∨ j = 27 ∨ j = 28 ∨ j = 29 ∨ j = 30 ∨ j = 31 by omega) with rfl | rfl | rfl | rfl | rfl | rfl | rfl | rfl | rfl | rfl | rfl | rfl | rfl | rfl | rfl | rfl | rfl | rfl | rfl | rfl | rfl | rfl | rfl | rfl | rfl | rfl | rfl | rfl | rfl | rfl | rfl | rfl <;> rfl) (Nat.le_of_ble_eq_true rfl) (Nat.le_of_ble_eq_true rfl) dL_law_8 (fun q159 H hP hD hS => ?_)
  obtain ⟨hP, hD⟩ := X_s (ws' := (eO q1 8 [.ref q3, .ref q4, .ref q5, .ref q6, .ref q7, .ref q8, .int 0, .int (-1), .ref q9, .ref q10, .ref q11, .ref q12, .ref q13] :: eO q3 0 [.ref q14, .ref q15, .ref q16, .ref q17, .ref q18, .ref q19, .ref q20, .int 0, .long 0, .int 0, .int 0, .int 0, .int 0] :: eI q14 q21 8 (fun _ => 0) :: eI q15 q22 8 (fun _ => 0) :: eI q16 q23 8 (fun _ => 0) :: eI q17 q24 8 (fun _ => 0) :: eI q18 q25 8 (fun _ => 0) :: eI q19 q26 8 (fun _ => 0) :: eI q20 q27 8 (fun _ => 0) :: eO q4 0 [.ref q28, .ref q29, .ref q30, .ref q31, .ref q32, .ref q33, .ref q34, .int 0, .long 0, .int 0, .int 0, .int 0, .int 0] :: eI q28 q35 8 (fun _ => 0) :: eI q29 q36 8 (fun _ => 0) :: eI q30 q37 8 (fun _ => 0) :: eI q31 q38 8 (fun _ => 0) :: eI q32 q39 8 (fun _ => 0) :: eI q33 q40 8 (fun _ => 0) :: eI q34 q41 8 (fun _ => 0) :: eO q5 1 [.ref q42] :: eI q42 q43 64 (fun _ => 0) :: eO q6 1 [.ref q44] :: eI q44 q45 64 (fun _ => 0) :: eO q7 4 [.ref q5, .ref q46, .int 0, .ref q47] :: eI q46 q48 8 (fun _ => 0) :: eI q47 q49 8 (fun _ => 0) :: eR q8 q50 4 q51 :: eO q52 2 [.ref q53, .ref q54, .int 0] :: eI q53 q55 80 (fun _ => 0) :: eI q54 q56 80 (fun _ => 0) :: eO q57 2 [.ref q58, .ref q59, .int 0] :: eI q58 q60 80 (fun _ => 0) :: eI q59 q61 80 (fun _ => 0) :: eO q62 2 [.ref q63, .ref q64, .int 0] :: eI q63 q65 80 (fun _ => 0) :: eI q64 q66 80 (fun _ => 0) :: eO q67 2 [.ref q68, .ref q69, .int 0] :: eI q68 q70 80 (fun _ => 0) :: eI q69 q71 80 (fun _ => 0) :: eO q9 7 [.ref q72, .int 0] :: eI q72 q73 80 (fun _ => 0) :: eO q10 3 [.ref q74, .int 0, .int 0, .int 0, .null] :: eI q74 q75 8 (fun _ => 0) :: eO q11 5 [.ref q3, .ref q76, .int 0, .ref q77, .ref q78, .ref q79, .int 0, .null] :: eI q76 q80 60 (fun _ => 0) :: eI q77 q81 8 (fun _ => 0) :: eR q78 q82 9 q83 :: eI q84 q85 8 (fun _ => 0) :: eI q86 q87 8 (fun _ => 0) :: eI q88 q89 8 (fun _ => 0) :: eI q90 q91 8 (fun _ => 0) :: eI q92 q93 8 (fun _ => 0) :: eI q94 q95 8 (fun _ => 0) :: eI q96 q97 8 (fun _ => 0) :: eI q98 q99 8 (fun _ => 0) :: eI q100 q101 8 (fun _ => 0) :: eL q79 q102 9 (fun _ => 0) :: eO q12 5 [.ref q103, .ref q104, .int 0, .ref q105, .ref q106, .ref q107, .int 0, .null] :: eI q104 q108 60 (fun _ => 0) :: eI q105 q109 8 (fun _ => 0) :: eR q106 q110 9 q111 :: eI q112 q113 8 (fun _ => 0) :: eI q114 q115 8 (fun _ => 0) :: eI q116 q117 8 (fun _ => 0) :: eI q118 q119 8 (fun _ => 0) :: eI q120 q121 8 (fun _ => 0) :: eI q122 q123 8 (fun _ => 0) :: eI q124 q125 8 (fun _ => 0) :: eI q126 q127 8 (fun _ => 0) :: eI q128 q129 8 (fun _ => 0) :: eL q107 q130 9 (fun _ => 0) :: eO q103 0 [.ref q131, .ref q132, .ref q133, .ref q134, .ref q135, .ref q136, .ref q137, .int 0, .long 0, .int 0, .int 0, .int 0, .int 0] :: eI q131 q138 8 (fun _ => 0) :: eI q132 q139 8 (fun _ => 0) :: eI q133 q140 8 (fun _ => 0) :: eI q134 q141 8 (fun _ => 0) :: eI q135 q142 8 (fun _ => 0) :: eI q136 q143 8 (fun _ => 0) :: eI q137 q144 8 (fun _ => 0) :: eR q13 q145 4 q146 :: eO q147 6 [.int (-1), .int 0, .ref q148] :: eI q148 q149 60 (fun _ => 0) :: eO q150 6 [.int (-1), .int 0, .ref q151] :: eI q151 q152 60 (fun _ => 0) :: eO q153 6 [.int (-1), .int 0, .ref q154] :: eI q154 q155 60 (fun _ => 0) :: eO q156 6 [.int (-1), .int 0, .ref q157] :: eI q157 q158 60 (fun _ => 0) :: eO q159 9 [.null, .long 0, .null, .long 0, .null, .long 0, .int 0, .null, .int 0, .null, .null, .int 0, .null, .null, .int 0, .int 0, .int 0, .int 0, .int 0, .null, .null, .int 0, .null, .int 0, .null, .null, .int 0, .null, .null, .null, .null, .null] :: [])) hP hD rfl
  refine lv_dup hx hb dL_law_11 rfl ?_
  obtain ⟨hPc, hDc, hFc, hCm, hNw⟩ := C_s (wc := [eO q159 9 [.null, .long 0, .null, .long 0, .null, .long 0, .int 0, .null, .int 0, .null, .null, .int 0, .null, .null, .int 0, .int 0, .int 0, .int 0, .int 0, .null, .null, .int 0, .null, .int 0, .null, .null, .int 0, .null, .null, .null, .null, .null]]) hP hD hS hA [(86, 1)] 87 rfl (by decide +kernel) rfl
  have hKc := K_s (tys' := []) hK [] rfl
  refine va_callv (va_runI (As := []) (rest := [.ref q159]) ⟨hx, hb, hml, hown, hts⟩ (c_X10_init l dC dI q159 H.size) (cwI 0 hts (fun w h => ⟨wsL_law_in w (gL_law_X10_init w h).1, (gL_law_X10_init w h).2⟩) rfl rfl rfl (hts (.initialized RX10) (wsL_law_in _ mw_77)) (hts (.methodLink RL 12 yX10_init) (wsL_law_in _ mw_605)) (hts (.instanceMethod yX10_init) (wsL_law_in _ mw_606)) rfl (by decide +kernel) ⟨Nat.le_of_ble_eq_true rfl, Nat.le_of_ble_eq_true rfl⟩) ⟨fun a U g mk q => by obtain ⟨q0, q1, qP, qK, qD⟩ := q; exact ⟨q0, q1, qP, va_K.moved (u := U) (U := U.calling g mk a) (Vm.Alike.refl U.vm) qK, qD⟩, fun U hU hW => ⟨rfl, by rw [hU], by rw [hU]; exact hPc, va_K.moved hW.alike hKc, hDc.weaken (fun _ _ _ _ => trivial)⟩⟩ rfl rfl hl.1 rfl (lv_room (Nat.le_of_ble_eq_true rfl)) dL_law_12 ⟨Nat.le_of_ble_eq_true rfl, Nat.le_of_ble_eq_true rfl⟩) hS (fun q _ h => hFc q h) hFc (fun u t H1 locs ht hvm hw hB hz1 hk1 hS => ?_)
  refine Exists.elim hB ?_; clear hB; intro q161 hB
  refine Exists.elim hB ?_; clear hB; intro q162 hB
  refine Exists.elim hB ?_; clear hB; intro q163 hB
  refine Exists.elim hB ?_; clear hB; intro q164 hB
  refine Exists.elim hB ?_; clear hB; intro q165 hB
  refine Exists.elim hB ?_; clear hB; intro q166 hB
  refine Exists.elim hB ?_; clear hB; intro q167 hB
  refine Exists.elim hB ?_; clear hB; intro q168 hB
  refine Exists.elim hB ?_; clear hB; intro q169 hB
  refine Exists.elim hB ?_; clear hB; intro q170 hB
  refine Exists.elim hB ?_; clear hB; intro q171 hB
  refine Exists.elim hB ?_; clear hB; intro q172 hB
  refine Exists.elim hB ?_; clear hB; intro q173 hB
  refine Exists.elim hB ?_; clear hB; intro q174 hB
  refine Exists.elim hB ?_; clear hB; intro q175 hB
  refine Exists.elim hB ?_; clear hB; intro q176 hB
  refine Exists.elim hB ?_; clear hB; intro q177 hB
  refine Exists.elim hB ?_; clear hB; intro q178 hB
  refine Exists.elim hB ?_; clear hB; intro q179 hB
  refine Exists.elim hB ?_; clear hB; intro q180 hB
  refine Exists.elim hB ?_; clear hB; intro q181 hB
  refine Exists.elim hB ?_; clear hB; intro q182 hB
  refine Exists.elim hB ?_; clear hB; intro q183 hB
  refine Exists.elim hB ?_; clear hB; intro q184 hB
  refine Exists.elim hB ?_; clear hB; intro q185 hB
  refine Exists.elim hB ?_; clear hB; intro q186 hB
  refine Exists.elim hB ?_; clear hB; intro q187 hB
  refine Exists.elim hB ?_; clear hB; intro q188 hB
  refine Exists.elim hB ?_; clear hB; intro q189 hB
  refine Exists.elim hB ?_; clear hB; intro q190 hB
  refine Exists.elim hB ?_; clear hB; intro q191 hB
  refine Exists.elim hB ?_; clear hB; intro q192 hB
  refine Exists.elim hB ?_; clear hB; intro q193 hB
  refine Exists.elim hB ?_; clear hB; intro q194 hB
  refine Exists.elim hB ?_; clear hB; intro q195 hB
  refine Exists.elim hB ?_; clear hB; intro q196 hB
  refine Exists.elim hB ?_; clear hB; intro q197 hB
  have xso_r160 := hB.1
  replace hB := hB.2
  obtain ⟨hP1, hK1, hD1⟩ := hB
  rw [ht] at hP1
  have hK1 := va_K.moved hvm.symm hK1
  try dsimp only at hw
  obtain ⟨hP, hD⟩ := J_s (wL := (eO q1 8 [.ref q3, .ref q4, .ref q5, .ref q6, .ref q7, .ref q8, .int 0, .int (-1), .ref q9, .ref q10, .ref q11, .ref q12, .ref q13] :: eO q3 0 [.ref q14, .ref q15, .ref q16, .ref q17, .ref q18, .ref q19, .ref q20, .int 0, .long 0, .int 0, .int 0, .int 0, .int 0] :: eI q14 q21 8 (fun _ => 0) :: eI q15 q22 8 (fun _ => 0) :: eI q16 q23 8 (fun _ => 0) :: eI q17 q24 8 (fun _ => 0) :: eI q18 q25 8 (fun _ => 0) :: eI q19 q26 8 (fun _ => 0) :: eI q20 q27 8 (fun _ => 0) :: eO q4 0 [.ref q28, .ref q29, .ref q30, .ref q31, .ref q32, .ref q33, .ref q34, .int 0, .long 0, .int 0, .int 0, .int 0, .int 0] :: eI q28 q35 8 (fun _ => 0) :: eI q29 q36 8 (fun _ => 0) :: eI q30 q37 8 (fun _ => 0) :: eI q31 q38 8 (fun _ => 0) :: eI q32 q39 8 (fun _ => 0) :: eI q33 q40 8 (fun _ => 0) :: eI q34 q41 8 (fun _ => 0) :: eO q5 1 [.ref q42] :: eI q42 q43 64 (fun _ => 0) :: eO q6 1 [.ref q44] :: eI q44 q45 64 (fun _ => 0) :: eO q7 4 [.ref q5, .ref q46, .int 0, .ref q47] :: eI q46 q48 8 (fun _ => 0) :: eI q47 q49 8 (fun _ => 0) :: eR q8 q50 4 q51 :: eO q52 2 [.ref q53, .ref q54, .int 0] :: eI q53 q55 80 (fun _ => 0) :: eI q54 q56 80 (fun _ => 0) :: eO q57 2 [.ref q58, .ref q59, .int 0] :: eI q58 q60 80 (fun _ => 0) :: eI q59 q61 80 (fun _ => 0) :: eO q62 2 [.ref q63, .ref q64, .int 0] :: eI q63 q65 80 (fun _ => 0) :: eI q64 q66 80 (fun _ => 0) :: eO q67 2 [.ref q68, .ref q69, .int 0] :: eI q68 q70 80 (fun _ => 0) :: eI q69 q71 80 (fun _ => 0) :: eO q9 7 [.ref q72, .int 0] :: eI q72 q73 80 (fun _ => 0) :: eO q10 3 [.ref q74, .int 0, .int 0, .int 0, .null] :: eI q74 q75 8 (fun _ => 0) :: eO q11 5 [.ref q3, .ref q76, .int 0, .ref q77, .ref q78, .ref q79, .int 0, .null] :: eI q76 q80 60 (fun _ => 0) :: eI q77 q81 8 (fun _ => 0) :: eR q78 q82 9 q83 :: eI q84 q85 8 (fun _ => 0) :: eI q86 q87 8 (fun _ => 0) :: eI q88 q89 8 (fun _ => 0) :: eI q90 q91 8 (fun _ => 0) :: eI q92 q93 8 (fun _ => 0) :: eI q94 q95 8 (fun _ => 0) :: eI q96 q97 8 (fun _ => 0) :: eI q98 q99 8 (fun _ => 0) :: eI q100 q101 8 (fun _ => 0) :: eL q79 q102 9 (fun _ => 0) :: eO q12 5 [.ref q103, .ref q104, .int 0, .ref q105, .ref q106, .ref q107, .int 0, .null] :: eI q104 q108 60 (fun _ => 0) :: eI q105 q109 8 (fun _ => 0) :: eR q106 q110 9 q111 :: eI q112 q113 8 (fun _ => 0) :: eI q114 q115 8 (fun _ => 0) :: eI q116 q117 8 (fun _ => 0) :: eI q118 q119 8 (fun _ => 0) :: eI q120 q121 8 (fun _ => 0) :: eI q122 q123 8 (fun _ => 0) :: eI q124 q125 8 (fun _ => 0) :: eI q126 q127 8 (fun _ => 0) :: eI q128 q129 8 (fun _ => 0) :: eL q107 q130 9 (fun _ => 0) :: eO q103 0 [.ref q131, .ref q132, .ref q133, .ref q134, .ref q135, .ref q136, .ref q137, .int 0, .long 0, .int 0, .int 0, .int 0, .int 0] :: eI q131 q138 8 (fun _ => 0) :: eI q132 q139 8 (fun _ => 0) :: eI q133 q140 8 (fun _ => 0) :: eI q134 q141 8 (fun _ => 0) :: eI q135 q142 8 (fun _ => 0) :: eI q136 q143 8 (fun _ => 0) :: eI q137 q144 8 (fun _ => 0) :: eR q13 q145 4 q146 :: eO q147 6 [.int (-1), .int 0, .ref q148] :: eI q148 q149 60 (fun _ => 0) :: eO q150 6 [.int (-1), .int 0, .ref q151] :: eI q151 q152 60 (fun _ => 0) :: eO q153 6 [.int (-1), .int 0, .ref q154] :: eI q154 q155 60 (fun _ => 0) :: eO q156 6 [.int (-1), .int 0, .ref q157] :: eI q157 q158 60 (fun _ => 0) :: eO q159 9 [.ref q161, .long 0, .ref q162, .long 0, .ref q163, .long 0, .int 0, .ref q164, .int 0, .ref q165, .ref q166, .int 0, .ref q167, .ref q168, .int 0, .int 0, .int 0, .int 0, .int 0, .ref q169, .ref q170, .int 0, .ref q171, .int 0, .ref q172, .ref q173, .int 0, .ref q174, .ref q175, .ref q176, .ref q177, .ref q178] :: eI q161 q179 125 (fun _ => 0) :: eI q162 q180 125 (fun _ => 0) :: eI q163 q181 125 (fun _ => 0) :: eI q164 q182 80 (fun _ => 0) :: eI q165 q183 320 (fun _ => 0) :: eI q166 q184 4 (fun _ => 0) :: eI q167 q185 320 (fun _ => 0) :: eI q168 q186 4 (fun _ => 0) :: eI q169 q187 8 (fun _ => 0) :: eI q170 q188 60 (fun _ => 0) :: eI q171 q189 60 (fun _ => 0) :: eI q172 q190 80 (fun _ => 0) :: eL q173 q191 10 (fun _ => 0) :: eI q174 q192 8 (fun _ => 0) :: eI q175 q193 4 q194 :: eI q176 q195 4 (fun _ => 0) :: eI q177 q196 240 (fun _ => 0) :: eI q178 q197 60 (fun _ => 0) :: [])) hP hD [(86, 1)] [(0, 86)] hCm hNw (by decide +kernel) hk1 hFc hP1 hD1 rfl
  have hK := KJ_s (tys' := ((q21, .int) :: (q22, .int) :: (q23, .int) :: (q24, .boolean) :: (q25, .int) :: (q26, .int) :: (q27, .int) :: (q35, .int) :: (q36, .int) :: (q37, .int) :: (q38, .boolean) :: (q39, .int) :: (q40, .int) :: (q41, .int) :: (q43, .int) :: (q45, .int) :: (q48, .int) :: (q49, .boolean) :: (q50, .object "ClearingGates$Program") :: (q55, .int) :: (q56, .int) :: (q60, .int) :: (q61, .int) :: (q65, .int) :: (q66, .int) :: (q70, .int) :: (q71, .int) :: (q73, .int) :: (q75, .int) :: (q80, .int) :: (q81, .int) :: (q82, .array .int) :: (q85, .int) :: (q87, .int) :: (q89, .int) :: (q91, .int) :: (q93, .int) :: (q95, .int) :: (q97, .int) :: (q99, .int) :: (q101, .int) :: (q102, .long) :: (q108, .int) :: (q109, .int) :: (q110, .array .int) :: (q113, .int) :: (q115, .int) :: (q117, .int) :: (q119, .int) :: (q121, .int) :: (q123, .int) :: (q125, .int) :: (q127, .int) :: (q129, .int) :: (q130, .long) :: (q138, .int) :: (q139, .int) :: (q140, .int) :: (q141, .boolean) :: (q142, .int) :: (q143, .int) :: (q144, .int) :: (q145, .object "ClearingGates$Sheet") :: (q149, .int) :: (q152, .int) :: (q155, .int) :: (q158, .int) :: (q179, .int) :: (q180, .int) :: (q181, .int) :: (q182, .int) :: (q183, .int) :: (q184, .int) :: (q185, .int) :: (q186, .int) :: (q187, .int) :: (q188, .int) :: (q189, .int) :: (q190, .int) :: (q191, .long) :: (q192, .int) :: (q193, .int) :: (q195, .int) :: (q196, .int) :: (q197, .int) :: [])) hK hK1 [(0, 67)] rfl
  generalize H1 = H at hP hS ⊢
  refine lv_astore_n (lv' := [(2, .ref q159), (1, .ref q1), (0, .ref b)]) hx hb dL_law_15 rfl hl (by decide) rfl (fun ls hl => ?_)
  refine lv_iconst (v := 0) hx hb dL_law_16 (by decide) ?_
  refine lv_istore_n (lv' := [(3, .int 0), (2, .ref q159), (1, .ref q1), (0, .ref b)]) hx hb dL_law_17 rfl hl (by decide) rfl (fun ls hl => ?_)
  exact law_loop (ox := q1) (jb := q3) (ji := q4) (jd := q5) (je := q6) (jg := q7) (qpa := q8) (jt := q9) (jr := q10) (j1 := q11) (j2 := q12) (qsa := q13) (aq0 := q14) (aq1 := q15) (aq2 := q16) (aq3 := q17) (aq4 := q18) (aq5 := q19) (aq6 := q20) (ak0 := q21) (ak1 := q22) (ak2 := q23) (ak3 := q24) (ak4 := q25) (ak5 := q26) (ak6 := q27) (iq0 := q28) (iq1 := q29) (iq2 := q30) (iq3 := q31) (iq4 := q32) (iq5 := q33) (iq6 := q34) (ik0 := q35) (ik1 := q36) (ik2 := q37) (ik3 := q38) (ik4 := q39) (ik5 := q40) (ik6 := q41) (dq := q42) (kd := q43) (eq := q44) (ke := q45) (qw := q46) (qt := q47) (kw := q48) (kt := q49) (kpa := q50) (fpa := q51) (pp0 := q52) (pb0 := q53) (pn0 := q54) (kpb0 := q55) (kpn0 := q56) (pp1 := q57) (pb1 := q58) (pn1 := q59) (kpb1 := q60) (kpn1 := q61) (pp2 := q62) (pb2 := q63) (pn2 := q64) (kpb2 := q65) (kpn2 := q66) (pp3 := q67) (pb3 := q68) (pn3 := q69) (kpb3 := q70) (kpn3 := q71) (tb := q72) (ktb := q73) (qo := q74) (ko := q75) (qm1 := q76) (qh1 := q77) (qk1 := q78) (qf1 := q79) (km1 := q80) (kh1 := q81) (kk1 := q82) (fo1 := q83) (ro0_1 := q84) (kr0_1 := q85) (ro1_1 := q86) (kr1_1 := q87) (ro2_1 := q88) (kr2_1 := q89) (ro3_1 := q90) (kr3_1 := q91) (ro4_1 := q92) (kr4_1 := q93) (ro5_1 := q94) (kr5_1 := q95) (ro6_1 := q96) (kr6_1 := q97) (ro7_1 := q98) (kr7_1 := q99) (ro8_1 := q100) (kr8_1 := q101) (kf1 := q102) (jk := q103) (qm2 := q104) (qh2 := q105) (qk2 := q106) (qf2 := q107) (km2 := q108) (kh2 := q109) (kk2 := q110) (fo2 := q111) (ro0_2 := q112) (kr0_2 := q113) (ro1_2 := q114) (kr1_2 := q115) (ro2_2 := q116) (kr2_2 := q117) (ro3_2 := q118) (kr3_2 := q119) (ro4_2 := q120) (kr4_2 := q121) (ro5_2 := q122) (kr5_2 := q123) (ro6_2 := q124) (kr6_2 := q125) (ro7_2 := q126) (kr7_2 := q127) (ro8_2 := q128) (kr8_2 := q129) (kf2 := q130) (tq0 := q131) (tq1 := q132) (tq2 := q133) (tq3 := q134) (tq4 := q135) (tq5 := q136) (tq6 := q137) (tk0 := q138) (tk1 := q139) (tk2 := q140) (tk3 := q141) (tk4 := q142) (tk5 := q143) (tk6 := q144) (ksa := q145) (fsa := q146) (s0 := q147) (si0 := q148) (ksi0 := q149) (s1 := q150) (si1 := q151) (ksi1 := q152) (s2 := q153) (si2 := q154) (ksi2 := q155) (s3 := q156) (si3 := q157) (ksi3 := q158) (om := q159) (q_s := q161) (q_thought := q162) (q_image := q163) (q_tape := q164) (q_texts := q165) (q_sizes := q166) (q_imageTexts := q167) (q_imageSizes := q168) (q_held := q169) (q_marks := q170) (q_trace := q171) (q_keptBalances := q172) (q_keptFees := q173) (q_way := q174) (q_sorts := q175) (q_rowMany := q176) (q_items := q177) (q_moved := q178) (k_s := q179) (k_thought := q180) (k_image := q181) (k_tape := q182) (k_texts := q183) (k_sizes := q184) (k_imageTexts := q185) (k_imageSizes := q186) (k_held := q187) (k_marks := q188) (k_trace := q189) (k_keptBalances := q190) (k_keptFees := q191) (k_way := q192) (k_sorts := q193) (k_rowMany := q195) (k_items := q196) (k_moved := q197) hL C0 vpa0_r2 vpa1_r2 vpa2_r2 vpa3_r2 vsa0_r2 vsa1_r2 vsa2_r2 vsa3_r2 vx1_0_r2 vx1_1_r2 vx1_2_r2 vx1_3_r2 vx1_4_r2 vx1_5_r2 vx1_6_r2 vx1_7_r2 vx1_8_r2 vx2_0_r2 vx2_1_r2 vx2_2_r2 vx2_3_r2 vx2_4_r2 vx2_5_r2 vx2_6_r2 vx2_7_r2 vx2_8_r2 4001 0 (by decide) (by decide) (by decide) 0 (-1) 0 0 0 0 0 0 (fun _ => 0) (fun _ => 0) (fun _ => 0) (fun _ => 0) (fun _ => 0) (fun _ => 0) (fun _ => 0) 0 0 0 0 0 0 (fun _ => 0) (fun _ => 0) (fun _ => 0) (fun _ => 0) (fun _ => 0) (fun _ => 0) (fun _ => 0) (fun _ => 0) (fun _ => 0) 0 (fun _ => 0) (fun _ => 0) 0 (fun _ => 0) (fun _ => 0) 0 (fun _ => 0) (fun _ => 0) 0 (fun _ => 0) (fun _ => 0) 0 (fun _ => 0) (fun _ => 0) 0 (fun _ => 0) 0 0 0 (.null) (fun _ => 0) 0 0 (.null) (fun _ => 0) (fun _ => 0) (fun _ => 0) (fun _ => 0) (fun _ => 0) (fun _ => 0) (fun _ => 0) (fun _ => 0) (fun _ => 0) (fun _ => 0) (fun _ => 0) (fun _ => 0) 0 0 (.null) (fun _ => 0) (fun _ => 0) (fun _ => 0) (fun _ => 0) (fun _ => 0) (fun _ => 0) (fun _ => 0) (fun _ => 0) (fun _ => 0) (fun _ => 0) (fun _ => 0) (fun _ => 0) 0 0 0 0 0 0 (fun _ => 0) (fun _ => 0) (fun _ => 0) (fun _ => 0) (fun _ => 0) (fun _ => 0) (fun _ => 0) (-1) 0 (fun _ => 0) (-1) 0 (fun _ => 0) (-1) 0 (fun _ => 0) (-1) 0 (fun _ => 0) 0 0 0 0 0 0 0 0 0 0 0 0 0 0 (fun _ => 0) (fun _ => 0) (fun _ => 0) (fun _ => 0) (fun _ => 0) (fun _ => 0) (fun _ => 0) (fun _ => 0) (fun _ => 0) (fun _ => 0) (fun _ => 0) (fun _ => 0) (fun _ => 0) (fun _ => 0) q194 (fun _ => 0) (fun _ => 0) (fun _ => 0) ⟨(by decide), (by decide), (by decide), (by decide), (by decide), (by decide), z80, (by decide), (by decide), z80, (by decide), (by decide), z80, (by decide), (by decide), z80, (by decide), (by decide), (by decide), (by decide), (by decide), (by decide), (by decide), (by decide), (by decide), (by decide), (by decide), (by decide), (by decide), (by decide), (by decide), ms_z, ms_z, (wf_0 _ _), (wf_0 _ _), (by decide), (by decide), (by decide), (by decide), (by decide), (by decide), z60, (by decide), (by decide), (by decide), (by decide), (by decide), bs_z, (fun h => absurd (by decide) h)⟩ _ _ (K_s hK [(0, 85)] rfl) (P_s hP [(0, 105)] rfl) (D_s hD [(0, 105)] 105 rfl (by decide +kernel) rfl) hS _ (lv_sub hl [0, 1, 2, 3] rfl)