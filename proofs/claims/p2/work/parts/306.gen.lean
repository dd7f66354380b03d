set_option maxRecDepth 100000 in
set_option maxHeartbeats 4000000 in
/-- Rings.leadsBack at depth 8 -/
theorem c_X5_leadsBack_d8 (l : Launch) (dC : Nat → ClassId) (dI : Nat → Nat → Nat) (h0 : Nat) (p0 : Int32) (p1 : Int32) (p3 : Int32) (qd : Nat) (qw : Nat) (wl : Int32) (qt : Nat) (kw : ClassId) (fw : Nat → Int32) (kt : ClassId) (ft : Nat → Int32) (qr : Nat) (kr : ClassId) (fr : Nat → Int32) (sz : Nat) (h1 : 0 ≤ p0.toInt) (h2 : p0.toInt < 8) (h3 : 0 ≤ p1.toInt) (h4 : p1.toInt < 8) (h5 : 0 ≤ p3.toInt) (h6 : p3.toInt ≤ 8) (hw0 : ∀ k : Nat, k < 8 → inr8 (fw k)) : Met l yX5_leadsBack wsX5_leadsBack ({ frames := 0, cells := 0, slots := 0, locals := 0 }) (va_Pc [.ref h0, .int p0, .int p1, .int 8, .int p3] (fun U => U.heap.size = sz ∧ va_P (dC, dI) vwCl [eO h0 4 [.ref qd, .ref qw, .int wl, .ref qt], eI qw kw 8 fw, eI qt kt 8 ft, eO qd 1 [.ref qr], eI qr kr 64 fr] U.heap ∧ va_K (dC, dI) vwCl [(kw, .int), (kt, .boolean), (kr, .int)] U ∧ va_D (fun _ => True) [eO h0 4 [.ref qd, .ref qw, .int wl, .ref qt], eI qw kw 8 fw, eI qt kt 8 ft, eO qd 1 [.ref qr], eI qr kr 64 fr])) (va_Qi (fun (r : Int32) (u : (Nat → Int32) × Int32 × (Nat → Int32)) => match u with | (fw2, wl2, ft2) => (r = 1 ∧ 0 < wl2.toInt ∧ wl2.toInt ≤ 8 ∧ ∀ k : Nat, (k : Int) < wl2.toInt → inr8 (fw2 k)) ∨ (r = 0 ∧ ∀ k : Nat, k < 8 → inr8 (fw2 k))) (fun (u : (Nat → Int32) × Int32 × (Nat → Int32)) (t : State) => match u with | (fw2, wl2, ft2) => va_P (dC, dI) vwCl [eO h0 4 [.ref qd, .ref qw, .int wl2, .ref qt], eI qw kw 8 fw2, eI qt kt 8 ft2, eO qd 1 [.ref qr], eI qr kr 64 fr] t.heap ∧ va_K (dC, dI) vwCl [(kw, .int), (kt, .boolean), (kr, .int)] t ∧ va_D (va_A [eO h0 4 [.ref qd, .ref qw, .int wl, .ref qt], eI qw kw 8 fw, eI qt kt 8 ft, eO qd 1 [.ref qr], eI qr kr 64 fr] sz) [eO h0 4 [.ref qd, .ref qw, .int wl2, .ref qt], eI qw kw 8 fw2, eI qt kt 8 ft2, eO qd 1 [.ref qr], eI qr kr 64 fr]) (va_A [eO h0 4 [.ref qd, .ref qw, .int wl, .ref qt], eI qw kw 8 fw, eI qt kt 8 ft, eO qd 1 [.ref qr], eI qr kr 64 fr] sz)) 0 0 (va_A [eO h0 4 [.ref qd, .ref qw, .int wl, .ref qt], eI qw kw 8 fw, eI qt kt 8 ft, eO qd 1 [.ref qr], eI qr kr 64 fr] sz) := by
  refine Met.ofW (cc := cX5_leadsBack) (maxL := 6) (ret := (some .boolean)) (by decide) rfl ?_
  intro p e s m args below meth c s₁ B hml hv
  obtain ⟨rfl, hsz, hP, hK, hD0⟩ := hv
  have hx := B.exec
  have hb := B.bytes
  have hr := B.returns
  have hts := atoms_spec (ws := wsX5_leadsBack) B.pre
  have hown : s.vm.findClass RX5 = some m.cls := findClass_of_methodNamed B.named
  have hlocks := B.notSynchronized
  subst hsz
  have hD := hD0.self (sz := s.heap.size)
  generalize hAe : va_A [eO h0 4 [.ref qd, .ref qw, .int wl, .ref qt], eI qw kw 8 fw, eI qt kt 8 ft, eO qd 1 [.ref qr], eI qr kr 64 fr] s.heap.size = A at hD ⊢
  have hA : ∀ q : Nat, s.heap.size ≤ q → A q := fun q h => by rw [← hAe]; exact Or.inr h
  have hS : va_S A s.heap s.heap [] := va_S.rf
  have hP : va_P (dC, dI) vwCl [eO h0 4 [.ref qd, .ref qw, .int wl, .ref qt], eI qw kw 8 fw, eI qt kt 8 ft, eO qd 1 [.ref qr], eI qr kr 64 fr] s.heap := hP
  have hl := lv_entry ([.ref h0, .int p0, .int p1, .int 8, .int p3]) (n := 6) (Nat.le_of_ble_eq_true rfl)
  rw [lg_entry_eq]
  generalize (lg_sl ([.ref h0, .int p0, .int p1, .int 8, .int p3]) ++ List.replicate (6 - (lg_sl ([.ref h0, .int p0, .int p1, .int 8, .int p3])).length) Slot.unset).toArray = ls at hl ⊢
  have hl : lv_has ls 6 [(0, .ref h0), (1, .int p0), (2, .int p1), (3, .int 8), (4, .int p3)] := hl
  suffices key9 : ∀ Q9 : State → Prop, Q9 = (MQ below (va_Qi (fun (r : Int32) (u : (Nat → Int32) × Int32 × (Nat → Int32)) => match u with | (fw2, wl2, ft2) => (r = 1 ∧ 0 < wl2.toInt ∧ wl2.toInt ≤ 8 ∧ ∀ k : Nat, (k : Int) < wl2.toInt → inr8 (fw2 k)) ∨ (r = 0 ∧ ∀ k : Nat, k < 8 → inr8 (fw2 k))) (fun (u : (Nat → Int32) × Int32 × (Nat → Int32)) (t : State) => match u with | (fw2, wl2, ft2) => va_P (dC, dI) vwCl [eO h0 4 [.ref qd, .ref qw, .int wl2, .ref qt], eI qw kw 8 fw2, eI qt kt 8 ft2, eO qd 1 [.ref qr], eI qr kr 64 fr] t.heap ∧ va_K (dC, dI) vwCl [(kw, .int), (kt, .boolean), (kr, .int)] t ∧ va_D A [eO h0 4 [.ref qd, .ref qw, .int wl2, .ref qt], eI qw kw 8 fw2, eI qt kt 8 ft2, eO qd 1 [.ref qr], eI qr kr 64 fr]) A) (([.ref h0, .int p0, .int p1, .int 8, .int p3] : List Value).toArray) s 0 0 A) → W p l e ({ frames := 0, cells := 0, slots := 0, locals := 0 }) s m (([.ref h0, .int p0, .int p1, .int 8, .int p3] : List Value).toArray) below meth c s.heap [] 0 0 Q9 (F0 m 0 ls []) from key9 _ rfl
  intro Q9 hQ9
  have k_0 : (0 : Int32).toInt = 0 := by decide
  refine lv_iload_n hx hb dX5_leadsBack_0 rfl (lv_at hl 3 rfl) ?_
  refine lv_bipush (v := 8) hx hb dX5_leadsBack_1 (by decide) ?_
  refine lv_icmp_lt (tgt := 8) hx hb dX5_leadsBack_3 (by decide) (fun c1 => absurd c1 (by decide)) (fun c1 => ?_)
  refine lv_iconst (v := 0) hx hb dX5_leadsBack_6 (by decide) ?_
  rw [hQ9]
  exact W.zret (v := 0) hx hb hr (by decide) (fun t ht hW => ⟨⟨0, (fw, wl, ft), rfl, Or.inr ⟨rfl, hw0⟩, by rw [ht]; exact hP, va_K.moved hW.alike hK, hD⟩, hS.F ht⟩) hS.2.2 dX5_leadsBack_7

set_option maxRecDepth 100000 in
set_option maxHeartbeats 4000000 in
/-- Rings.leadsBack at depth 7 -/
theorem c_X5_leadsBack_d7 (l : Launch) (dC : Nat → ClassId) (dI : Nat → Nat → Nat) (h0 : Nat) (p0 : Int32) (p1 : Int32) (p3 : Int32) (qd : Nat) (qw : Nat) (wl : Int32) (qt : Nat) (kw : ClassId) (fw : Nat → Int32) (kt : ClassId) (ft : Nat → Int32) (qr : Nat) (kr : ClassId) (fr : Nat → Int32) (sz : Nat) (h1 : 0 ≤ p0.toInt) (h2 : p0.toInt < 8) (h3 : 0 ≤ p1.toInt) (h4 : p1.toInt < 8) (h5 : 0 ≤ p3.toInt) (h6 : p3.toInt ≤ 8) (hw0 : ∀ k : Nat, k < 7 → inr8 (fw k)) : Met l yX5_leadsBack wsX5_leadsBack ({ frames := 1, cells := 0, slots := 0, locals := 25 }) (va_Pc [.ref h0, .int p0, .int p1, .int 7, .int p3] (fun U => U.heap.size = sz ∧ va_P (dC, dI) vwCl [eO h0 4 [.ref qd, .ref qw, .int wl, .ref qt], eI qw kw 8 fw, eI qt kt 8 ft, eO qd 1 [.ref qr], eI qr kr 64 fr] U.heap ∧ va_K (dC, dI) vwCl [(kw, .int), (kt, .boolean), (kr, .int)] U ∧ va_D (fun _ => True) [eO h0 4 [.ref qd, .ref qw, .int wl, .ref qt], eI qw kw 8 fw, eI qt kt 8 ft, eO qd 1 [.ref qr], eI qr kr 64 fr])) (va_Qi (fun (r : Int32) (u : (Nat → Int32) × Int32 × (Nat → Int32)) => match u with | (fw2, wl2, ft2) => (r = 1 ∧ 0 < wl2.toInt ∧ wl2.toInt ≤ 8 ∧ ∀ k : Nat, (k : Int) < wl2.toInt → inr8 (fw2 k)) ∨ (r = 0 ∧ ∀ k : Nat, k < 7 → inr8 (fw2 k))) (fun (u : (Nat → Int32) × Int32 × (Nat → Int32)) (t : State) => match u with | (fw2, wl2, ft2) => va_P (dC, dI) vwCl [eO h0 4 [.ref qd, .ref qw, .int wl2, .ref qt], eI qw kw 8 fw2, eI qt kt 8 ft2, eO qd 1 [.ref qr], eI qr kr 64 fr] t.heap ∧ va_K (dC, dI) vwCl [(kw, .int), (kt, .boolean), (kr, .int)] t ∧ va_D (va_A [eO h0 4 [.ref qd, .ref qw, .int wl, .ref qt], eI qw kw 8 fw, eI qt kt 8 ft, eO qd 1 [.ref qr], eI qr kr 64 fr] sz) [eO h0 4 [.ref qd, .ref qw, .int wl2, .ref qt], eI qw kw 8 fw2, eI qt kt 8 ft2, eO qd 1 [.ref qr], eI qr kr 64 fr]) (va_A [eO h0 4 [.ref qd, .ref qw, .int wl, .ref qt], eI qw kw 8 fw, eI qt kt 8 ft, eO qd 1 [.ref qr], eI qr kr 64 fr] sz)) 0 0 (va_A [eO h0 4 [.ref qd, .ref qw, .int wl, .ref qt], eI qw kw 8 fw, eI qt kt 8 ft, eO qd 1 [.ref qr], eI qr kr 64 fr] sz) := by
  refine Met.ofW (cc := cX5_leadsBack) (maxL := 6) (ret := (some .boolean)) (by decide) rfl ?_
  intro p e s m args below meth c s₁ B hml hv
  obtain ⟨rfl, hsz, hP, hK, hD0⟩ := hv
  have hx := B.exec
  have hb := B.bytes
  have hr := B.returns
  have hts := atoms_spec (ws := wsX5_leadsBack) B.pre
  have hown : s.vm.findClass RX5 = some m.cls := findClass_of_methodNamed B.named
  have hlocks := B.notSynchronized
  subst hsz
  have hD := hD0.self (sz := s.heap.size)
  generalize hAe : va_A [eO h0 4 [.ref qd, .ref qw, .int wl, .ref qt], eI qw kw 8 fw, eI qt kt 8 ft, eO qd 1 [.ref qr], eI qr kr 64 fr] s.heap.size = A at hD ⊢
  have hA : ∀ q : Nat, s.heap.size ≤ q → A q := fun q h => by rw [← hAe]; exact Or.inr h
  have hS : va_S A s.heap s.heap [] := va_S.rf
  have hP : va_P (dC, dI) vwCl [eO h0 4 [.ref qd, .ref qw, .int wl, .ref qt], eI qw kw 8 fw, eI qt kt 8 ft, eO qd 1 [.ref qr], eI qr kr 64 fr] s.heap := hP
  have hl := lv_entry ([.ref h0, .int p0, .int p1, .int 7, .int p3]) (n := 6) (Nat.le_of_ble_eq_true rfl)
  rw [lg_entry_eq]
  generalize (lg_sl ([.ref h0, .int p0, .int p1, .int 7, .int p3]) ++ List.replicate (6 - (lg_sl ([.ref h0, .int p0, .int p1, .int 7, .int p3])).length) Slot.unset).toArray = ls at hl ⊢
  have hl : lv_has ls 6 [(0, .ref h0), (1, .int p0), (2, .int p1), (3, .int 7), (4, .int p3)] := hl
  suffices key9 : ∀ Q9 : State → Prop, Q9 = (MQ below (va_Qi (fun (r : Int32) (u : (Nat → Int32) × Int32 × (Nat → Int32)) => match u with | (fw2, wl2, ft2) => (r = 1 ∧ 0 < wl2.toInt ∧ wl2.toInt ≤ 8 ∧ ∀ k : Nat, (k : Int) < wl2.toInt → inr8 (fw2 k)) ∨ (r = 0 ∧ ∀ k : Nat, k < 7 → inr8 (fw2 k))) (fun (u : (Nat → Int32) × Int32 × (Nat → Int32)) (t : State) => match u with | (fw2, wl2, ft2) => va_P (dC, dI) vwCl [eO h0 4 [.ref qd, .ref qw, .int wl2, .ref qt], eI qw kw 8 fw2, eI qt kt 8 ft2, eO qd 1 [.ref qr], eI qr kr 64 fr] t.heap ∧ va_K (dC, dI) vwCl [(kw, .int), (kt, .boolean), (kr, .int)] t ∧ va_D A [eO h0 4 [.ref qd, .ref qw, .int wl2, .ref qt], eI qw kw 8 fw2, eI qt kt 8 ft2, eO qd 1 [.ref qr], eI qr kr 64 fr]) A) (([.ref h0, .int p0, .int p1, .int 7, .int p3] : List Value).toArray) s 0 0 A) → W p l e ({ frames := 1, cells := 0, slots := 0, locals := 25 }) s m (([.ref h0, .int p0, .int p1, .int 7, .int p3] : List Value).toArray) below meth c s.heap [] 0 0 Q9 (F0 m 0 ls []) from key9 _ rfl
  intro Q9 hQ9
  have k_0 : (0 : Int32).toInt = 0 := by decide
  have k_1 : (1 : Int32).toInt = 1 := by decide
  have k_7 : (7 : Int32).toInt = 7 := by decide
  have k_8 : (8 : Int32).toInt = 8 := by decide
  refine lv_iload_n hx hb dX5_leadsBack_0 rfl (lv_at hl 3 rfl) ?_
  refine lv_bipush (v := 8) hx hb dX5_leadsBack_1 (by decide) ?_
  refine lv_icmp_lt (tgt := 8) hx hb dX5_leadsBack_3 (by decide) (fun c1 => ?_) (fun c1 => absurd (by decide) c1)
  refine lv_aload_n hx hb dX5_leadsBack_8 rfl (lv_at hl 0 rfl) ?_
  refine va_get (D := (dC, dI)) (ci := 4) (v := .ref qw) (C := RX5) (T := TX5) (N := 4) hx hb hts (fun w h => List.mem_cons_of_mem _ (inlX5 w h)) hown hK hP 0 rfl rfl 1 (by decide) (hts (.fieldLink RX5 9 "ClearingGates$Rings" "way" "[I") (List.mem_cons_of_mem _ mw_144)) (fun _ h9 => h9) rfl dX5_leadsBack_9 ?_
  refine lv_iload_n hx hb dX5_leadsBack_12 rfl (lv_at hl 3 rfl) ?_
  refine lv_iload_n hx hb dX5_leadsBack_13 rfl (lv_at hl 1 rfl) ?_
  refine va_iast (D := (dC, dI)) hx hb hK hP hD hS 1 0 rfl rfl (vp_in_iff.mpr ⟨by decide, by decide⟩) dX5_leadsBack_14 (fun H locs hP hD hS => ?_)
  generalize e_g2 : (upd fw ((7 : Int32)).toNatClampNeg p0) = g2 at hP hD
  obtain ⟨hP, hD⟩ := X_s (ws' := [eO h0 4 [.ref qd, .ref qw, .int wl, .ref qt], eI qw kw 8 g2, eI qt kt 8 ft, eO qd 1 [.ref qr], eI qr kr 64 fr]) hP hD rfl
  have hwd : ∀ k : Nat, k < 8 → inr8 (g2 k) := by rw [← e_g2]; exact up_in rfl ⟨by omega, by omega⟩ hw0
  refine lv_aload_n hx hb dX5_leadsBack_15 rfl (lv_at hl 0 rfl) ?_
  refine va_get (D := (dC, dI)) (ci := 4) (v := .ref qt) (C := RX5) (T := TX5) (N := 4) hx hb hts (fun w h => List.mem_cons_of_mem _ (inlX5 w h)) hown hK hP 0 rfl rfl 3 (by decide) (hts (.fieldLink RX5 15 "ClearingGates$Rings" "tried" "[Z") (List.mem_cons_of_mem _ mw_146)) (fun _ h9 => h9) rfl dX5_leadsBack_16 ?_
  refine lv_iload_n hx hb dX5_leadsBack_19 rfl (lv_at hl 1 rfl) ?_
  refine lv_iconst (v := 1) hx hb dX5_leadsBack_20 (by decide) ?_
  refine va_zast (D := (dC, dI)) hx hb hK hP hD hS 2 1 rfl rfl (vp_in_iff.mpr ⟨by omega, by omega⟩) dX5_leadsBack_21 (fun H locs hP hD hS => ?_)
  generalize e_g3 : (upd ft (p0).toNatClampNeg (vp_nar .boolean 1)) = g3 at hP hD
  obtain ⟨hP, hD⟩ := X_s (ws' := [eO h0 4 [.ref qd, .ref qw, .int wl, .ref qt], eI qw kw 8 g2, eI qt kt 8 g3, eO qd 1 [.ref qr], eI qr kr 64 fr]) hP hD rfl
  refine lv_iload_n hx hb dX5_leadsBack_22 rfl (lv_at hl 3 rfl) ?_
  refine lv_if_le (tgt := 47) hx hb dX5_leadsBack_23 (by decide) (fun c4 => absurd c4 (by decide)) (fun c4 => ?_)
  refine lv_aload_n hx hb dX5_leadsBack_26 rfl (lv_at hl 0 rfl) ?_
  refine va_get (D := (dC, dI)) (ci := 4) (v := .ref qd) (C := RX5) (T := TX5) (N := 4) hx hb hts (fun w h => List.mem_cons_of_mem _ (inlX5 w h)) hown hK hP 0 rfl rfl 0 (by decide) (hts (.fieldLink RX5 19 "ClearingGates$Rings" "debts" "LClearingGates$Debts;") (List.mem_cons_of_mem _ mw_143)) (fun _ h9 => h9) rfl dX5_leadsBack_27 ?_
  refine lv_iload_n hx hb dX5_leadsBack_30 rfl (lv_at hl 1 rfl) ?_
  refine lv_iload_n hx hb dX5_leadsBack_31 rfl (lv_at hl 2 rfl) ?_
  obtain ⟨hPc, hDc, hFc, hCm, hNw⟩ := C_s (wc := [eO qd 1 [.ref qr], eI qr kr 64 fr]) hP hD hS hA [(3, 2)] 5 rfl (by decide +kernel) rfl
  have hKc := K_s (tys' := [(kr, .int)]) hK [(2, 1)] rfl
  refine va_calli (va_runV (As := [.int p0, .int p1]) (rest := []) ⟨hx, hb, hml, hown, hts⟩ (c_X1_between l dC dI qd p0 p1 qr kr fr H.size h1 h2 h3 h4) (cwV 2 hts gX5_leadsBack_X1_between rfl rfl rfl (by decide +kernel) ⟨Nat.le_of_ble_eq_true rfl, Nat.le_of_ble_eq_true rfl⟩) ⟨fun a U g mk q => by obtain ⟨q0, q1, qP, qK, qD⟩ := q; exact ⟨q0, q1, qP, va_K.moved (u := U) (U := U.calling g mk a) (Vm.Alike.refl U.vm) qK, qD⟩, va_recv (s := s) (q := (RX1, TX1, 1)) hKc hPc (ci := 1) (q0 := 0) rfl rfl, fun U hU hW => ⟨rfl, by rw [hU], by rw [hU]; exact hPc, va_K.moved hW.alike hKc, hDc.weaken (fun _ _ _ _ => trivial)⟩⟩ rfl rfl hl.1 rfl (lv_room (Nat.le_of_ble_eq_true rfl)) dX5_leadsBack_32 ⟨Nat.le_of_ble_eq_true rfl, Nat.le_of_ble_eq_true rfl⟩) hS (fun q _ h => hFc q h) hFc (fun r5 u t H1 locs ht hvm hw hB hz1 hk1 hS => ?_)
  obtain ⟨hP1, hK1, hD1⟩ := hB
  rw [ht] at hP1
  have hK1 := va_K.moved hvm.symm hK1
  try dsimp only at hw
  obtain ⟨hP, hD⟩ := J_s (wL := [eO h0 4 [.ref qd, .ref qw, .int wl, .ref qt], eI qw kw 8 g2, eI qt kt 8 g3, eO qd 1 [.ref qr], eI qr kr 64 fr]) hP hD [(3, 2)] [(0, 3)] hCm hNw (by decide +kernel) hk1 hFc hP1 hD1 rfl
  have hK := KJ_s (tys' := [(kw, .int), (kt, .boolean), (kr, .int)]) hK hK1 [(0, 2)] rfl
  generalize H1 = H at hP hS ⊢
  refine lv_if_le (tgt := 47) hx hb dX5_leadsBack_35 (by decide) (fun c6 => ?_) (fun c6 => ?_)
  · skip
    have f_c6 := i_le c6
    refine lv_iconst (v := 0) hx hb dX5_leadsBack_47 (by decide) ?_
    refine lv_istore (lv' := [(5, .int 0), (0, .ref h0), (1, .int p0), (2, .int p1), (3, .int 7), (4, .int p3)]) hx hb dX5_leadsBack_48 hl (by decide) rfl (fun ls hl => ?_)
    have loop_50 : ∀ (n i_50 : Nat) (x_50 : Int32), i_50 ≤ 8 → 8 < i_50 + n → x_50 = nI i_50 → ∀ (gw : Nat → Int32), ∀ (gt : Nat → Int32), ∀ (gl : Int32), (∀ k : Nat, k < 8 → inr8 (gw k)) → ∀ (H : Heap) (locs : List Loc), va_K (dC, dI) vwCl [(kw, .int), (kt, .boolean), (kr, .int)] s → va_P (dC, dI) vwCl [eO h0 4 [.ref qd, .ref qw, .int gl, .ref qt], eI qw kw 8 gw, eI qt kt 8 gt, eO qd 1 [.ref qr], eI qr kr 64 fr] H → va_D A [eO h0 4 [.ref qd, .ref qw, .int gl, .ref qt], eI qw kw 8 gw, eI qt kt 8 gt, eO qd 1 [.ref qr], eI qr kr 64 fr] → va_S A s.heap H locs → ∀ (ls : Array Slot), lv_has ls 6 [(5, .int x_50), (0, .ref h0), (1, .int p0), (2, .int p1), (3, .int 7), (4, .int p3)] → W p l e ({ frames := 1, cells := 0, slots := 0, locals := 25 }) s m (([.ref h0, .int p0, .int p1, .int 7, .int p3] : List Value).toArray) below meth c H locs 0 0 Q9 (F0 m 50 ls []) := by
      intro n
      induction n with
      | zero => intro i_50 x_50 h1 h2; exact absurd h2 (by omega)
      | succ n ih_50 =>
        intro i_50 x_50 hi_50 hn_50 e_x_50 gw gt gl hwi H locs hK hP hD hS ls hl
        have t_x_50 : x_50.toInt = (i_50 : Int) := by rw [e_x_50]; exact nI_toInt (by omega)
        refine lv_iload hx hb dX5_leadsBack_50 (lv_at hl 0 rfl) ?_
        refine lv_iload hx hb dX5_leadsBack_52 (lv_at hl 5 rfl) ?_
        refine lv_icmp_ge (tgt := 103) hx hb dX5_leadsBack_54 (by decide) (fun c7 => ?_) (fun c7 => ?_)
        · skip
          have f_c7 := i_le c7
          refine lv_iconst (v := 0) hx hb dX5_leadsBack_103 (by decide) ?_
          rw [hQ9]
          exact W.zret (v := 0) hx hb hr (by decide) (fun t ht hW => ⟨⟨0, (gw, gl, gt), rfl, Or.inr ⟨rfl, fun k hk => hwi k (by omega)⟩, by rw [ht]; exact hP, va_K.moved hW.alike hK, hD⟩, hS.F ht⟩) hS.2.2 dX5_leadsBack_104
        · skip
          have f_c7 := i_nle c7
          refine lv_aload_n hx hb dX5_leadsBack_57 rfl (lv_at hl 1 rfl) ?_
          refine va_get (D := (dC, dI)) (ci := 4) (v := .ref qt) (C := RX5) (T := TX5) (N := 4) hx hb hts (fun w h => List.mem_cons_of_mem _ (inlX5 w h)) hown hK hP 0 rfl rfl 3 (by decide) (hts (.fieldLink RX5 15 "ClearingGates$Rings" "tried" "[Z") (List.mem_cons_of_mem _ mw_146)) (fun _ h9 => h9) rfl dX5_leadsBack_58 ?_
          refine lv_iload hx hb dX5_leadsBack_61 (lv_at hl 0 rfl) ?_
          refine va_zald (D := (dC, dI)) hx hb hK hP 2 1 rfl rfl (vp_in_iff.mpr ⟨by omega, by omega⟩) dX5_leadsBack_63 ?_
          refine lv_topi (fun z8 e_z8 => ?_)
          refine lv_if_ne (tgt := 97) hx hb dX5_leadsBack_64 (by decide) (fun c9 => ?_) (fun c9 => ?_)
          · skip
            have f_c9 := i_ne c9
            obtain ⟨x10, e_x10⟩ : ∃ yy : Int32, yy = x_50 + 1 := ⟨_, rfl⟩
            refine lv_iinc (v := x10) (lv' := [(5, .int x10), (0, .ref h0), (1, .int p0), (2, .int p1), (3, .int 7), (4, .int p3)]) hx hb dX5_leadsBack_97 hl (k := 0) rfl (by rw [e_x10]; rfl) (by decide) rfl (fun ls hl => ?_)
            have t_x10 := i_add e_x10 (by omega) (by omega)
            refine lv_goto (tgt := 50) hx hb dX5_leadsBack_100 (by decide) ?_
            exact ih_50 (i_50 + 1) x10 (by omega) (by omega) (by rw [e_x10, e_x_50]; exact nI_1 i_50) gw gt gl (fun k hk => hwi k (by omega)) _ _ (K_s hK [(0, 3)] rfl) (P_s hP [(0, 5)] rfl) (D_s hD [(0, 5)] 5 rfl (by decide +kernel) rfl) hS ls (lv_sub hl [0, 1, 2, 3, 4, 5] rfl)
          · skip
            have f_c9 := i_eq c9
            refine lv_aload_n hx hb dX5_leadsBack_67 rfl (lv_at hl 1 rfl) ?_
            refine va_get (D := (dC, dI)) (ci := 4) (v := .ref qd) (C := RX5) (T := TX5) (N := 4) hx hb hts (fun w h => List.mem_cons_of_mem _ (inlX5 w h)) hown hK hP 0 rfl rfl 0 (by decide) (hts (.fieldLink RX5 19 "ClearingGates$Rings" "debts" "LClearingGates$Debts;") (List.mem_cons_of_mem _ mw_143)) (fun _ h9 => h9) rfl dX5_leadsBack_68 ?_
            refine lv_iload_n hx hb dX5_leadsBack_71 rfl (lv_at hl 2 rfl) ?_
            refine lv_iload hx hb dX5_leadsBack_72 (lv_at hl 0 rfl) ?_
            obtain ⟨hPc, hDc, hFc, hCm, hNw⟩ := C_s (wc := [eO qd 1 [.ref qr], eI qr kr 64 fr]) hP hD hS hA [(3, 2)] 5 rfl (by decide +kernel) rfl
            have hKc := K_s (tys' := [(kr, .int)]) hK [(2, 1)] rfl
            refine va_calli (va_runV (As := [.int p0, .int x_50]) (rest := []) ⟨hx, hb, hml, hown, hts⟩ (c_X1_between l dC dI qd p0 x_50 qr kr fr H.size h1 h2 (by first | assumption | omega) (by first | assumption | omega)) (cwV 2 hts gX5_leadsBack_X1_between rfl rfl rfl (by decide +kernel) ⟨Nat.le_of_ble_eq_true rfl, Nat.le_of_ble_eq_true rfl⟩) ⟨fun a U g mk q => by obtain ⟨q0, q1, qP, qK, qD⟩ := q; exact ⟨q0, q1, qP, va_K.moved (u := U) (U := U.calling g mk a) (Vm.Alike.refl U.vm) qK, qD⟩, va_recv (s := s) (q := (RX1, TX1, 1)) hKc hPc (ci := 1) (q0 := 0) rfl rfl, fun U hU hW => ⟨rfl, by rw [hU], by rw [hU]; exact hPc, va_K.moved hW.alike hKc, hDc.weaken (fun _ _ _ _ => trivial)⟩⟩ rfl rfl hl.1 rfl (lv_room (Nat.le_of_ble_eq_true rfl)) dX5_leadsBack_74 ⟨Nat.le_of_ble_eq_true rfl, Nat.le_of_ble_eq_true rfl⟩) hS (fun q _ h => hFc q h) hFc (fun r11 u t H1 locs ht hvm hw hB hz1 hk1 hS => ?_)
            obtain ⟨hP1, hK1, hD1⟩ := hB
            rw [ht] at hP1
            have hK1 := va_K.moved hvm.symm hK1
            try dsimp only at hw
            obtain ⟨hP, hD⟩ := J_s (wL := [eO h0 4 [.ref qd, .ref qw, .int gl, .ref qt], eI qw kw 8 gw, eI qt kt 8 gt, eO qd 1 [.ref qr], eI qr kr 64 fr]) hP hD [(3, 2)] [(0, 3)] hCm hNw (by decide +kernel) hk1 hFc hP1 hD1 rfl
            have hK := KJ_s (tys' := [(kw, .int), (kt, .boolean), (kr, .int)]) hK hK1 [(0, 2)] rfl
            generalize H1 = H at hP hS ⊢
            refine lv_if_le (tgt := 97) hx hb dX5_leadsBack_77 (by decide) (fun c12 => ?_) (fun c12 => ?_)
            · skip
              have f_c12 := i_le c12
              obtain ⟨x13, e_x13⟩ : ∃ yy : Int32, yy = x_50 + 1 := ⟨_, rfl⟩
              refine lv_iinc (v := x13) (lv' := [(5, .int x13), (0, .ref h0), (1, .int p0), (2, .int p1), (3, .int 7), (4, .int p3)]) hx hb dX5_leadsBack_97 hl (k := 0) rfl (by rw [e_x13]; rfl) (by decide) rfl (fun ls hl => ?_)
              have t_x13 := i_add e_x13 (by omega) (by omega)
              refine lv_goto (tgt := 50) hx hb dX5_leadsBack_100 (by decide) ?_
              exact ih_50 (i_50 + 1) x13 (by omega) (by omega) (by rw [e_x13, e_x_50]; exact nI_1 i_50) gw gt gl (fun k hk => hwi k (by omega)) _ _ (K_s hK [(0, 3)] rfl) (P_s hP [(0, 5)] rfl) (D_s hD [(0, 5)] 5 rfl (by decide +kernel) rfl) hS ls (lv_sub hl [0, 1, 2, 3, 4, 5] rfl)
            · skip
              have f_c12 := i_nle c12
              refine lv_aload_n hx hb dX5_leadsBack_80 rfl (lv_at hl 1 rfl) ?_
              refine lv_iload hx hb dX5_leadsBack_81 (lv_at hl 0 rfl) ?_
              refine lv_iload_n hx hb dX5_leadsBack_83 rfl (lv_at hl 3 rfl) ?_
              refine lv_iload_n hx hb dX5_leadsBack_84 rfl (lv_at hl 4 rfl) ?_
              refine lv_iconst (v := 1) hx hb dX5_leadsBack_85 (by decide) ?_
              refine lv_iadd hx hb dX5_leadsBack_86 ?_
              refine lv_topi (fun z14 e_z14 => ?_)
              have e_z14 : z14 = 8 := e_z14.trans (by first | rfl | decide)
              subst e_z14
              refine lv_iload hx hb dX5_leadsBack_87 (lv_at hl 5 rfl) ?_
              obtain ⟨hPc, hDc, hFc, hCm, hNw⟩ := C_s (wc := [eO h0 4 [.ref qd, .ref qw, .int gl, .ref qt], eI qw kw 8 gw, eI qt kt 8 gt, eO qd 1 [.ref qr], eI qr kr 64 fr]) hP hD hS hA [(0, 5)] 5 rfl (by decide +kernel) rfl
              have hKc := K_s (tys' := [(kw, .int), (kt, .boolean), (kr, .int)]) hK [(0, 3)] rfl
              refine va_calli (va_runV (As := [.int x_50, .int p1, .int 8, .int p3]) (rest := []) ⟨hx, hb, hml, hown, hts⟩ (c_X5_leadsBack_d8 l dC dI h0 x_50 p1 p3 qd qw gl qt kw gw kt gt qr kr fr H.size (by first | assumption | omega) (by first | assumption | omega) h3 h4 h5 h6 hwi) (cwV 4 hts gX5_leadsBack_X5_leadsBack rfl rfl rfl (by decide +kernel) ⟨Nat.le_of_ble_eq_true rfl, Nat.le_of_ble_eq_true rfl⟩) ⟨fun a U g mk q => by obtain ⟨q0, q1, qP, qK, qD⟩ := q; exact ⟨q0, q1, qP, va_K.moved (u := U) (U := U.calling g mk a) (Vm.Alike.refl U.vm) qK, qD⟩, va_recv (s := s) (q := (RX5, TX5, 4)) hKc hPc (ci := 4) (q0 := 0) rfl rfl, fun U hU hW => ⟨rfl, by rw [hU], by rw [hU]; exact hPc, va_K.moved hW.alike hKc, hDc.weaken (fun _ _ _ _ => trivial)⟩⟩ rfl rfl hl.1 rfl (lv_room (Nat.le_of_ble_eq_true rfl)) dX5_leadsBack_89 ⟨Nat.le_of_ble_eq_true rfl, Nat.le_of_ble_eq_true rfl⟩) hS (fun q _ h => hFc q h) hFc (fun r15 u t H1 locs ht hvm hw hB hz1 hk1 hS => ?_)
              obtain ⟨u16, u17, u18⟩ := u
              obtain ⟨hP1, hK1, hD1⟩ := hB
              rw [ht] at hP1
              have hK1 := va_K.moved hvm.symm hK1
              try dsimp only at hw
              obtain ⟨hP, hD⟩ := J_s (wL := [eO h0 4 [.ref qd, .ref qw, .int u17, .ref qt], eI qw kw 8 u16, eI qt kt 8 u18, eO qd 1 [.ref qr], eI qr kr 64 fr]) hP hD [(0, 5)] [] hCm hNw (by decide +kernel) hk1 hFc hP1 hD1 rfl
              have hK := KJ_s (tys' := [(kw, .int), (kt, .boolean), (kr, .int)]) hK hK1 [] rfl
              generalize H1 = H at hP hS ⊢
              rcases hw with ⟨e_r15, f_r15⟩ | ⟨e_r15, f_r15⟩
              · subst e_r15
                refine lv_if_eq (tgt := 97) hx hb dX5_leadsBack_92 (by decide) (fun c19 => absurd c19 (by decide)) (fun c19 => ?_)
                refine lv_iconst (v := 1) hx hb dX5_leadsBack_95 (by decide) ?_
                rw [hQ9]
                exact W.zret (v := 1) hx hb hr (by decide) (fun t ht hW => ⟨⟨1, (u16, u17, u18), rfl, Or.inl ⟨rfl, f_r15⟩, by rw [ht]; exact hP, va_K.moved hW.alike hK, hD⟩, hS.F ht⟩) hS.2.2 dX5_leadsBack_96
              · subst e_r15
                refine lv_if_eq (tgt := 97) hx hb dX5_leadsBack_92 (by decide) (fun c20 => ?_) (fun c20 => absurd (by decide) c20)
                obtain ⟨x21, e_x21⟩ : ∃ yy : Int32, yy = x_50 + 1 := ⟨_, rfl⟩
                refine lv_iinc (v := x21) (lv' := [(5, .int x21), (0, .ref h0), (1, .int p0), (2, .int p1), (3, .int 7), (4, .int p3)]) hx hb dX5_leadsBack_97 hl (k := 0) rfl (by rw [e_x21]; rfl) (by decide) rfl (fun ls hl => ?_)
                have t_x21 := i_add e_x21 (by omega) (by omega)
                refine lv_goto (tgt := 50) hx hb dX5_leadsBack_100 (by decide) ?_
                exact ih_50 (i_50 + 1) x21 (by omega) (by omega) (by rw [e_x21, e_x_50]; exact nI_1 i_50) u16 u18 u17 (fun k hk => f_r15 k (by omega)) _ _ (K_s hK [(0, 3)] rfl) (P_s hP [(0, 5)] rfl) (D_s hD [(0, 5)] 5 rfl (by decide +kernel) rfl) hS ls (lv_sub hl [0, 1, 2, 3, 4, 5] rfl)
    exact loop_50 (8 + 1) 0 0 (by omega) (by omega) rfl g2 g3 wl hwd _ _ hK hP hD hS ls hl
  · skip
    have f_c6 := i_nle c6
    refine lv_aload_n hx hb dX5_leadsBack_38 rfl (lv_at hl 0 rfl) ?_
    refine lv_iload_n hx hb dX5_leadsBack_39 rfl (lv_at hl 3 rfl) ?_
    refine lv_iconst (v := 1) hx hb dX5_leadsBack_40 (by decide) ?_
    refine lv_iadd hx hb dX5_leadsBack_41 ?_
    refine lv_topi (fun z22 e_z22 => ?_)
    have e_z22 : z22 = 8 := e_z22.trans (by first | rfl | decide)
    subst e_z22
    refine va_put (D := (dC, dI)) (ci := 4) (v := .int 8) (ty := .int) (C := RX5) (T := TX5) (N := 4) hx hb hts (fun w h => List.mem_cons_of_mem _ (inlX5 w h)) tyX5 tyX5_ok nmX5 hown hK hP hD hS 0 rfl rfl 2 (by decide) (hts (.fieldLink RX5 40 "ClearingGates$Rings" "wayLength" "I") (List.mem_cons_of_mem _ mw_145)) (fun _ h9 => h9) rfl (by decide +kernel) rfl rfl (Nat.le_of_ble_eq_true rfl) dX5_leadsBack_42 (fun H locs hP hD hS => ?_)
    obtain ⟨hP, hD⟩ := X_s (ws' := [eO h0 4 [.ref qd, .ref qw, .int 8, .ref qt], eI qw kw 8 g2, eI qt kt 8 g3, eO qd 1 [.ref qr], eI qr kr 64 fr]) hP hD rfl
    refine lv_iconst (v := 1) hx hb dX5_leadsBack_45 (by decide) ?_
    rw [hQ9]
    exact W.zret (v := 1) hx hb hr (by decide) (fun t ht hW => ⟨⟨1, (g2, 8, g3), rfl, Or.inl ⟨rfl, by omega, by omega, fun k hk => hwd k (by omega)⟩, by rw [ht]; exact hP, va_K.moved hW.alike hK, hD⟩, hS.F ht⟩) hS.2.2 dX5_leadsBack_46

set_option maxRecDepth 100000 in
set_option maxHeartbeats 4000000 in
/-- Rings.leadsBack at depth 6 -/
theorem c_X5_leadsBack_d6 (l : Launch) (dC : Nat → ClassId) (dI : Nat → Nat → Nat) (h0 : Nat) (p0 : Int32) (p1 : Int32) (p3 : Int32) (qd : Nat) (qw : Nat) (wl : Int32) (qt : Nat) (kw : ClassId) (fw : Nat → Int32) (kt : ClassId) (ft : Nat → Int32) (qr : Nat) (kr : ClassId) (fr : Nat → Int32) (sz : Nat) (h1 : 0 ≤ p0.toInt) (h2 : p0.toInt < 8) (h3 : 0 ≤ p1.toInt) (h4 : p1.toInt < 8) (h5 : 0 ≤ p3.toInt) (h6 : p3.toInt ≤ 8) (hw0 : ∀ k : Nat, k < 6 → inr8 (fw k)) : Met l yX5_leadsBack wsX5_leadsBack ({ frames := 2, cells := 0, slots := 0, locals := 50 }) (va_Pc [.ref h0, .int p0, .int p1, .int 6, .int p3] (fun U => U.heap.size = sz ∧ va_P (dC, dI) vwCl [eO h0 4 [.ref qd, .ref qw, .int wl, .ref qt], eI qw kw 8 fw, eI qt kt 8 ft, eO qd 1 [.ref qr], eI qr kr 64 fr] U.heap ∧ va_K (dC, dI) vwCl [(kw, .int), (kt, .boolean), (kr, .int)] U ∧ va_D (fun _ => True) [eO h0 4 [.ref qd, .ref qw, .int wl, .ref qt], eI qw kw 8 fw, eI qt kt 8 ft, eO qd 1 [.ref qr], eI qr kr 64 fr])) (va_Qi (fun (r : Int32) (u : (Nat → Int32) × Int32 × (Nat → Int32)) => match u with | (fw2, wl2, ft2) => (r = 1 ∧ 0 < wl2.toInt ∧ wl2.toInt ≤ 8 ∧ ∀ k : Nat, (k : Int) < wl2.toInt → inr8 (fw2 k)) ∨ (r = 0 ∧ ∀ k : Nat, k < 6 → inr8 (fw2 k))) (fun (u : (Nat → Int32) × Int32 × (Nat → Int32)) (t : State) => match u with | (fw2, wl2, ft2) => va_P (dC, dI) vwCl [eO h0 4 [.ref qd, .ref qw, .int wl2, .ref qt], eI qw kw 8 fw2, eI qt kt 8 ft2, eO qd 1 [.ref qr], eI qr kr 64 fr] t.heap ∧ va_K (dC, dI) vwCl [(kw, .int), (kt, .boolean), (kr, .int)] t ∧ va_D (va_A [eO h0 4 [.ref qd, .ref qw, .int wl, .ref qt], eI qw kw 8 fw, eI qt kt 8 ft, eO qd 1 [.ref qr], eI qr kr 64 fr] sz) [eO h0 4 [.ref qd, .ref qw, .int wl2, .ref qt], eI qw kw 8 fw2, eI qt kt 8 ft2, eO qd 1 [.ref qr], eI qr kr 64 fr]) (va_A [eO h0 4 [.ref qd, .ref qw, .int wl, .ref qt], eI qw kw 8 fw, eI qt kt 8 ft, eO qd 1 [.ref qr], eI qr kr 64 fr] sz)) 0 0 (va_A [eO h0 4 [.ref qd, .ref qw, .int wl, .ref qt], eI qw kw 8 fw, eI qt kt 8 ft, eO qd 1 [.ref qr], eI qr kr 64 fr] sz) := by
  refine Met.ofW (cc := cX5_leadsBack) (maxL := 6) (ret := (some .boolean)) (by decide) rfl ?_
  intro p e s m args below meth c s₁ B hml hv
  obtain ⟨rfl, hsz, hP, hK, hD0⟩ := hv
  have hx := B.exec
  have hb := B.bytes
  have hr := B.returns
  have hts := atoms_spec (ws := wsX5_leadsBack) B.pre
  have hown : s.vm.findClass RX5 = some m.cls := findClass_of_methodNamed B.named
  have hlocks := B.notSynchronized
  subst hsz
  have hD := hD0.self (sz := s.heap.size)
  generalize hAe : va_A [eO h0 4 [.ref qd, .ref qw, .int wl, .ref qt], eI qw kw 8 fw, eI qt kt 8 ft, eO qd 1 [.ref qr], eI qr kr 64 fr] s.heap.size = A at hD ⊢
  have hA : ∀ q : Nat, s.heap.size ≤ q → A q := fun q h => by rw [← hAe]; exact Or.inr h
  have hS : va_S A s.heap s.heap [] := va_S.rf
  have hP : va_P (dC, dI) vwCl [eO h0 4 [.ref qd, .ref qw, .int wl, .ref qt], eI qw kw 8 fw, eI qt kt 8 ft, eO qd 1 [.ref qr], eI qr kr 64 fr] s.heap := hP
  have hl := lv_entry ([.ref h0, .int p0, .int p1, .int 6, .int p3]) (n := 6) (Nat.le_of_ble_eq_true rfl)
  rw [lg_entry_eq]
  generalize (lg_sl ([.ref h0, .int p0, .int p1, .int 6, .int p3]) ++ List.replicate (6 - (lg_sl ([.ref h0, .int p0, .int p1, .int 6, .int p3])).length) Slot.unset).toArray = ls at hl ⊢
  have hl : lv_has ls 6 [(0, .ref h0), (1, .int p0), (2, .int p1), (3, .int 6), (4, .int p3)] := hl
  suffices key9 : ∀ Q9 : State → Prop, Q9 = (MQ below (va_Qi (fun (r : Int32) (u : (Nat → Int32) × Int32 × (Nat → Int32)) => match u with | (fw2, wl2, ft2) => (r = 1 ∧ 0 < wl2.toInt ∧ wl2.toInt ≤ 8 ∧ ∀ k : Nat, (k : Int) < wl2.toInt → inr8 (fw2 k)) ∨ (r = 0 ∧ ∀ k : Nat, k < 6 → inr8 (fw2 k))) (fun (u : (Nat → Int32) × Int32 × (Nat → Int32)) (t : State) => match u with | (fw2, wl2, ft2) => va_P (dC, dI) vwCl [eO h0 4 [.ref qd, .ref qw, .int wl2, .ref qt], eI qw kw 8 fw2, eI qt kt 8 ft2, eO qd 1 [.ref qr], eI qr kr 64 fr] t.heap ∧ va_K (dC, dI) vwCl [(kw, .int), (kt, .boolean), (kr, .int)] t ∧ va_D A [eO h0 4 [.ref qd, .ref qw, .int wl2, .ref qt], eI qw kw 8 fw2, eI qt kt 8 ft2, eO qd 1 [.ref qr], eI qr kr 64 fr]) A) (([.ref h0, .int p0, .int p1, .int 6, .int p3] : List Value).toArray) s 0 0 A) → W p l e ({ frames := 2, cells := 0, slots := 0, locals := 50 }) s m (([.ref h0, .int p0, .int p1, .int 6, .int p3] : List Value).toArray) below meth c s.heap [] 0 0 Q9 (F0 m 0 ls []) from key9 _ rfl
  intro Q9 hQ9
  have k_0 : (0 : Int32).toInt = 0 := by decide
  have k_1 : (1 : Int32).toInt = 1 := by decide
  have k_6 : (6 : Int32).toInt = 6 := by decide
  have k_7 : (7 : Int32).toInt = 7 := by decide
  refine lv_iload_n hx hb dX5_leadsBack_0 rfl (lv_at hl 3 rfl) ?_
  refine lv_bipush (v := 8) hx hb dX5_leadsBack_1 (by decide) ?_
  refine lv_icmp_lt (tgt := 8) hx hb dX5_leadsBack_3 (by decide) (fun c1 => ?_) (fun c1 => absurd (by decide) c1)
  refine lv_aload_n hx hb dX5_leadsBack_8 rfl (lv_at hl 0 rfl) ?_
  refine va_get (D := (dC, dI)) (ci := 4) (v := .ref qw) (C := RX5) (T := TX5) (N := 4) hx hb hts (fun w h => List.mem_cons_of_mem _ (inlX5 w h)) hown hK hP 0 rfl rfl 1 (by decide) (hts (.fieldLink RX5 9 "ClearingGates$Rings" "way" "[I") (List.mem_cons_of_mem _ mw_144)) (fun _ h9 => h9) rfl dX5_leadsBack_9 ?_
  refine lv_iload_n hx hb dX5_leadsBack_12 rfl (lv_at hl 3 rfl) ?_
  refine lv_iload_n hx hb dX5_leadsBack_13 rfl (lv_at hl 1 rfl) ?_
  refine va_iast (D := (dC, dI)) hx hb hK hP hD hS 1 0 rfl rfl (vp_in_iff.mpr ⟨by decide, by decide⟩) dX5_leadsBack_14 (fun H locs hP hD hS => ?_)
  generalize e_g2 : (upd fw ((6 : Int32)).toNatClampNeg p0) = g2 at hP hD
  obtain ⟨hP, hD⟩ := X_s (ws' := [eO h0 4 [.ref qd, .ref qw, .int wl, .ref qt], eI qw kw 8 g2, eI qt kt 8 ft, eO qd 1 [.ref qr], eI qr kr 64 fr]) hP hD rfl
  have hwd : ∀ k : Nat, k < 7 → inr8 (g2 k) := by rw [← e_g2]; exact up_in rfl ⟨by omega, by omega⟩ hw0
  refine lv_aload_n hx hb dX5_leadsBack_15 rfl (lv_at hl 0 rfl) ?_
  refine va_get (D := (dC, dI)) (ci := 4) (v := .ref qt) (C := RX5) (T := TX5) (N := 4) hx hb hts (fun w h => List.mem_cons_of_mem _ (inlX5 w h)) hown hK hP 0 rfl rfl 3 (by decide) (hts (.fieldLink RX5 15 "ClearingGates$Rings" "tried" "[Z") (List.mem_cons_of_mem _ mw_146)) (fun _ h9 => h9) rfl dX5_leadsBack_16 ?_
  refine lv_iload_n hx hb dX5_leadsBack_19 rfl (lv_at hl 1 rfl) ?_
  refine lv_iconst (v := 1) hx hb dX5_leadsBack_20 (by decide) ?_
  refine va_zast (D := (dC, dI)) hx hb hK hP hD hS 2 1 rfl rfl (vp_in_iff.mpr ⟨by omega, by omega⟩) dX5_leadsBack_21 (fun H locs hP hD hS => ?_)
  generalize e_g3 : (upd ft (p0).toNatClampNeg (vp_nar .boolean 1)) = g3 at hP hD
  obtain ⟨hP, hD⟩ := X_s (ws' := [eO h0 4 [.ref qd, .ref qw, .int wl, .ref qt], eI qw kw 8 g2, eI qt kt 8 g3, eO qd 1 [.ref qr], eI qr kr 64 fr]) hP hD rfl
  refine lv_iload_n hx hb dX5_leadsBack_22 rfl (lv_at hl 3 rfl) ?_
  refine lv_if_le (tgt := 47) hx hb dX5_leadsBack_23 (by decide) (fun c4 => absurd c4 (by decide)) (fun c4 => ?_)
  refine lv_aload_n hx hb dX5_leadsBack_26 rfl (lv_at hl 0 rfl) ?_
  refine va_get (D := (dC, dI)) (ci := 4) (v := .ref qd) (C := RX5) (T := TX5) (N := 4) hx hb hts (fun w h => List.mem_cons_of_mem _ (inlX5 w h)) hown hK hP 0 rfl rfl 0 (by decide) (hts (.fieldLink RX5 19 "ClearingGates$Rings" "debts" "LClearingGates$Debts;") (List.mem_cons_of_mem _ mw_143)) (fun _ h9 => h9) rfl dX5_leadsBack_27 ?_
  refine lv_iload_n hx hb dX5_leadsBack_30 rfl (lv_at hl 1 rfl) ?_
  refine lv_iload_n hx hb dX5_leadsBack_31 rfl (lv_at hl 2 rfl) ?_
  obtain ⟨hPc, hDc, hFc, hCm, hNw⟩ := C_s (wc := [eO qd 1 [.ref qr], eI qr kr 64 fr]) hP hD hS hA [(3, 2)] 5 rfl (by decide +kernel) rfl
  have hKc := K_s (tys' := [(kr, .int)]) hK [(2, 1)] rfl
  refine va_calli (va_runV (As := [.int p0, .int p1]) (rest := []) ⟨hx, hb, hml, hown, hts⟩ (c_X1_between l dC dI qd p0 p1 qr kr fr H.size h1 h2 h3 h4) (cwV 2 hts gX5_leadsBack_X1_between rfl rfl rfl (by decide +kernel) ⟨Nat.le_of_ble_eq_true rfl, Nat.le_of_ble_eq_true rfl⟩) ⟨fun a U g mk q => by obtain ⟨q0, q1, qP, qK, qD⟩ := q; exact ⟨q0, q1, qP, va_K.moved (u := U) (U := U.calling g mk a) (Vm.Alike.refl U.vm) qK, qD⟩, va_recv (s := s) (q := (RX1, TX1, 1)) hKc hPc (ci := 1) (q0 := 0) rfl rfl, fun U hU hW => ⟨rfl, by rw [hU], by rw [hU]; exact hPc, va_K.moved hW.alike hKc, hDc.weaken (fun _ _ _ _ => trivial)⟩⟩ rfl rfl hl.1 rfl (lv_room (Nat.le_of_ble_eq_true rfl)) dX5_leadsBack_32 ⟨Nat.le_of_ble_eq_true rfl, Nat.le_of_ble_eq_true rfl⟩) hS (fun q _ h => hFc q h) hFc (fun r5 u t H1 locs ht hvm hw hB hz1 hk1 hS => ?_)
  obtain ⟨hP1, hK1, hD1⟩ := hB
  rw [ht] at hP1
  have hK1 := va_K.moved hvm.symm hK1
  try dsimp only at hw
  obtain ⟨hP, hD⟩ := J_s (wL := [eO h0 4 [.ref qd, .ref qw, .int wl, .ref qt], eI qw kw 8 g2, eI qt kt 8 g3, eO qd 1 [.ref qr], eI qr kr 64 fr]) hP hD [(3, 2)] [(0, 3)] hCm hNw (by decide +kernel) hk1 hFc hP1 hD1 rfl
  have hK := KJ_s (tys' := [(kw, .int), (kt, .boolean), (kr, .int)]) hK hK1 [(0, 2)] rfl
  generalize H1 = H at hP hS ⊢
  refine lv_if_le (tgt := 47) hx hb dX5_leadsBack_35 (by decide) (fun c6 => ?_) (fun c6 => ?_)
  · skip
    have f_c6 := i_le c6
    refine lv_iconst (v := 0) hx hb dX5_leadsBack_47 (by decide) ?_
    refine lv_istore (lv' := [(5, .int 0), (0, .ref h0), (1, .int p0), (2, .int p1), (3, .int 6), (4, .int p3)]) hx hb dX5_leadsBack_48 hl (by decide) rfl (fun ls hl => ?_)
    have loop_50 : ∀ (n i_50 : Nat) (x_50 : Int32), i_50 ≤ 8 → 8 < i_50 + n → x_50 = nI i_50 → ∀ (gw : Nat → Int32), ∀ (gt : Nat → Int32), ∀ (gl : Int32), (∀ k : Nat, k < 7 → inr8 (gw k)) → ∀ (H : Heap) (locs : List Loc), va_K (dC, dI) vwCl [(kw, .int), (kt, .boolean), (kr, .int)] s → va_P (dC, dI) vwCl [eO h0 4 [.ref qd, .ref qw, .int gl, .ref qt], eI qw kw 8 gw, eI qt kt 8 gt, eO qd 1 [.ref qr], eI qr kr 64 fr] H → va_D A [eO h0 4 [.ref qd, .ref qw, .int gl, .ref qt], eI qw kw 8 gw, eI qt kt 8 gt, eO qd 1 [.ref qr], eI qr kr 64 fr] → va_S A s.heap H locs → ∀ (ls : Array Slot), lv_has ls 6 [(5, .int x_50), (0, .ref h0), (1, .int p0), (2, .int p1), (3, .int 6), (4, .int p3)] → W p l e ({ frames := 2, cells := 0, slots := 0, locals := 50 }) s m (([.ref h0, .int p0, .int p1, .int 6, .int p3] : List Value).toArray) below meth c H locs 0 0 Q9 (F0 m 50 ls []) := by
      intro n
      induction n with
      | zero => intro i_50 x_50 h1 h2; exact absurd h2 (by omega)
      | succ n ih_50 =>
        intro i_50 x_50 hi_50 hn_50 e_x_50 gw gt gl hwi H locs hK hP hD hS ls hl
        have t_x_50 : x_50.toInt = (i_50 : Int) := by rw [e_x_50]; exact nI_toInt (by omega)
        refine lv_iload hx hb dX5_leadsBack_50 (lv_at hl 0 rfl) ?_
        refine lv_iload hx hb dX5_leadsBack_52 (lv_at hl 5 rfl) ?_
        refine lv_icmp_ge (tgt := 103) hx hb dX5_leadsBack_54 (by decide) (fun c7 => ?_) (fun c7 => ?_)
        · skip
          have f_c7 := i_le c7
          refine lv_iconst (v := 0) hx hb dX5_leadsBack_103 (by decide) ?_
          rw [hQ9]
          exact W.zret (v := 0) hx hb hr (by decide) (fun t ht hW => ⟨⟨0, (gw, gl, gt), rfl, Or.inr ⟨rfl, fun k hk => hwi k (by omega)⟩, by rw [ht]; exact hP, va_K.moved hW.alike hK, hD⟩, hS.F ht⟩) hS.2.2 dX5_leadsBack_104
        · skip
          have f_c7 := i_nle c7
          refine lv_aload_n hx hb dX5_leadsBack_57 rfl (lv_at hl 1 rfl) ?_
          refine va_get (D := (dC, dI)) (ci := 4) (v := .ref qt) (C := RX5) (T := TX5) (N := 4) hx hb hts (fun w h => List.mem_cons_of_mem _ (inlX5 w h)) hown hK hP 0 rfl rfl 3 (by decide) (hts (.fieldLink RX5 15 "ClearingGates$Rings" "tried" "[Z") (List.mem_cons_of_mem _ mw_146)) (fun _ h9 => h9) rfl dX5_leadsBack_58 ?_
          refine lv_iload hx hb dX5_leadsBack_61 (lv_at hl 0 rfl) ?_
          refine va_zald (D := (dC, dI)) hx hb hK hP 2 1 rfl rfl (vp_in_iff.mpr ⟨by omega, by omega⟩) dX5_leadsBack_63 ?_
          refine lv_topi (fun z8 e_z8 => ?_)
          refine lv_if_ne (tgt := 97) hx hb dX5_leadsBack_64 (by decide) (fun c9 => ?_) (fun c9 => ?_)
          · skip
            have f_c9 := i_ne c9
            obtain ⟨x10, e_x10⟩ : ∃ yy : Int32, yy = x_50 + 1 := ⟨_, rfl⟩
            refine lv_iinc (v := x10) (lv' := [(5, .int x10), (0, .ref h0), (1, .int p0), (2, .int p1), (3, .int 6), (4, .int p3)]) hx hb dX5_leadsBack_97 hl (k := 0) rfl (by rw [e_x10]; rfl) (by decide) rfl (fun ls hl => ?_)
            have t_x10 := i_add e_x10 (by omega) (by omega)
            refine lv_goto (tgt := 50) hx hb dX5_leadsBack_100 (by decide) ?_
            exact ih_50 (i_50 + 1) x10 (by omega) (by omega) (by rw [e_x10, e_x_50]; exact nI_1 i_50) gw gt gl (fun k hk => hwi k (by omega)) _ _ (K_s hK [(0, 3)] rfl) (P_s hP [(0, 5)] rfl) (D_s hD [(0, 5)] 5 rfl (by decide +kernel) rfl) hS ls (lv_sub hl [0, 1, 2, 3, 4, 5] rfl)
          · skip
            have f_c9 := i_eq c9
            refine lv_aload_n hx hb dX5_leadsBack_67 rfl (lv_at hl 1 rfl) ?_
            refine va_get (D := (dC, dI)) (ci := 4) (v := .ref qd) (C := RX5) (T := TX5) (N := 4) hx hb hts (fun w h => List.mem_cons_of_mem _ (inlX5 w h)) hown hK hP 0 rfl rfl 0 (by decide) (hts (.fieldLink RX5 19 "ClearingGates$Rings" "debts" "LClearingGates$Debts;") (List.mem_cons_of_mem _ mw_143)) (fun _ h9 => h9) rfl dX5_leadsBack_68 ?_
            refine lv_iload_n hx hb dX5_leadsBack_71 rfl (lv_at hl 2 rfl) ?_
            refine lv_iload hx hb dX5_leadsBack_72 (lv_at hl 0 rfl) ?_
            obtain ⟨hPc, hDc, hFc, hCm, hNw⟩ := C_s (wc := [eO qd 1 [.ref qr], eI qr kr 64 fr]) hP hD hS hA [(3, 2)] 5 rfl (by decide +kernel) rfl
            have hKc := K_s (tys' := [(kr, .int)]) hK [(2, 1)] rfl
            refine va_calli (va_runV (As := [.int p0, .int x_50]) (rest := []) ⟨hx, hb, hml, hown, hts⟩ (c_X1_between l dC dI qd p0 x_50 qr kr fr H.size h1 h2 (by first | assumption | omega) (by first | assumption | omega)) (cwV 2 hts gX5_leadsBack_X1_between rfl rfl rfl (by decide +kernel) ⟨Nat.le_of_ble_eq_true rfl, Nat.le_of_ble_eq_true rfl⟩) ⟨fun a U g mk q => by obtain ⟨q0, q1, qP, qK, qD⟩ := q; exact ⟨q0, q1, qP, va_K.moved (u := U) (U := U.calling g mk a) (Vm.Alike.refl U.vm) qK, qD⟩, va_recv (s := s) (q := (RX1, TX1, 1)) hKc hPc (ci := 1) (q0 := 0) rfl rfl, fun U hU hW => ⟨rfl, by rw [hU], by rw [hU]; exact hPc, va_K.moved hW.alike hKc, hDc.weaken (fun _ _ _ _ => trivial)⟩⟩ rfl rfl hl.1 rfl (lv_room (Nat.le_of_ble_eq_true rfl)) dX5_leadsBack_74 ⟨Nat.le_of_ble_eq_true rfl, Nat.le_of_ble_eq_true rfl⟩) hS (fun q _ h => hFc q h) hFc (fun r11 u t H1 locs ht hvm hw hB hz1 hk1 hS => ?_)
            obtain ⟨hP1, hK1, hD1⟩ := hB
            rw [ht] at hP1
            have hK1 := va_K.moved hvm.symm hK1
            try dsimp only at hw
            obtain ⟨hP, hD⟩ := J_s (wL := [eO h0 4 [.ref qd, .ref qw, .int gl, .ref qt], eI qw kw 8 gw, eI qt kt 8 gt, eO qd 1 [.ref qr], eI qr kr 64 fr]) hP hD [(3, 2)] [(0, 3)] hCm hNw (by decide +kernel) hk1 hFc hP1 hD1 rfl
            have hK := KJ_s (tys' := [(kw, .int), (kt, .boolean), (kr, .int)]) hK hK1 [(0, 2)] rfl
            generalize H1 = H at hP hS ⊢
            refine lv_if_le (tgt := 97) hx hb dX5_leadsBack_77 (by decide) (fun c12 => ?_) (fun c12 => ?_)
            · skip
              have f_c12 := i_le c12
              obtain ⟨x13, e_x13⟩ : ∃ yy : Int32, yy = x_50 + 1 := ⟨_, rfl⟩
              refine lv_iinc (v := x13) (lv' := [(5, .int x13), (0, .ref h0), (1, .int p0), (2, .int p1), (3, .int 6), (4, .int p3)]) hx hb dX5_leadsBack_97 hl (k := 0) rfl (by rw [e_x13]; rfl) (by decide) rfl (fun ls hl => ?_)
              have t_x13 := i_add e_x13 (by omega) (by omega)
              refine lv_goto (tgt := 50) hx hb dX5_leadsBack_100 (by decide) ?_
              exact ih_50 (i_50 + 1) x13 (by omega) (by omega) (by rw [e_x13, e_x_50]; exact nI_1 i_50) gw gt gl (fun k hk => hwi k (by omega)) _ _ (K_s hK [(0, 3)] rfl) (P_s hP [(0, 5)] rfl) (D_s hD [(0, 5)] 5 rfl (by decide +kernel) rfl) hS ls (lv_sub hl [0, 1, 2, 3, 4, 5] rfl)
            · skip
              have f_c12 := i_nle c12
              refine lv_aload_n hx hb dX5_leadsBack_80 rfl (lv_at hl 1 rfl) ?_
              refine lv_iload hx hb dX5_leadsBack_81 (lv_at hl 0 rfl) ?_
              refine lv_iload_n hx hb dX5_leadsBack_83 rfl (lv_at hl 3 rfl) ?_
              refine lv_iload_n hx hb dX5_leadsBack_84 rfl (lv_at hl 4 rfl) ?_
              refine lv_iconst (v := 1) hx hb dX5_leadsBack_85 (by decide) ?_
              refine lv_iadd hx hb dX5_leadsBack_86 ?_
              refine lv_topi (fun z14 e_z14 => ?_)
              have e_z14 : z14 = 7 := e_z14.trans (by first | rfl | decide)
              subst e_z14
              refine lv_iload hx hb dX5_leadsBack_87 (lv_at hl 5 rfl) ?_
              obtain ⟨hPc, hDc, hFc, hCm, hNw⟩ := C_s (wc := [eO h0 4 [.ref qd, .ref qw, .int gl, .ref qt], eI qw kw 8 gw, eI qt kt 8 gt, eO qd 1 [.ref qr], eI qr kr 64 fr]) hP hD hS hA [(0, 5)] 5 rfl (by decide +kernel) rfl
              have hKc := K_s (tys' := [(kw, .int), (kt, .boolean), (kr, .int)]) hK [(0, 3)] rfl
              refine va_calli (va_runV (As := [.int x_50, .int p1, .int 7, .int p3]) (rest := []) ⟨hx, hb, hml, hown, hts⟩ (c_X5_leadsBack_d7 l dC dI h0 x_50 p1 p3 qd qw gl qt kw gw kt gt qr kr fr H.size (by first | assumption | omega) (by first | assumption | omega) h3 h4 h5 h6 hwi) (cwV 4 hts gX5_leadsBack_X5_leadsBack rfl rfl rfl (by decide +kernel) ⟨Nat.le_of_ble_eq_true rfl, Nat.le_of_ble_eq_true rfl⟩) ⟨fun a U g mk q => by obtain ⟨q0, q1, qP, qK, qD⟩ := q; exact ⟨q0, q1, qP, va_K.moved (u := U) (U := U.calling g mk a) (Vm.Alike.refl U.vm) qK, qD⟩, va_recv (s := s) (q := (RX5, TX5, 4)) hKc hPc (ci := 4) (q0 := 0) rfl rfl, fun U hU hW => ⟨rfl, by rw [hU], by rw [hU]; exact hPc, va_K.moved hW.alike hKc, hDc.weaken (fun _ _ _ _ => trivial)⟩⟩ rfl rfl hl.1 rfl (lv_room (Nat.le_of_ble_eq_true rfl)) dX5_leadsBack_89 ⟨Nat.le_of_ble_eq_true rfl, Nat.le_of_ble_eq_true rfl⟩) hS (fun q _ h => hFc q h) hFc (fun r15 u t H1 locs ht hvm hw hB hz1 hk1 hS => ?_)
              obtain ⟨u16, u17, u18⟩ := u
              obtain ⟨hP1, hK1, hD1⟩ := hB
              rw [ht] at hP1
              have hK1 := va_K.moved hvm.symm hK1
              try dsimp only at hw
              obtain ⟨hP, hD⟩ := J_s (wL := [eO h0 4 [.ref qd, .ref qw, .int u17, .ref qt], eI qw kw 8 u16, eI qt kt 8 u18, eO qd 1 [.ref qr], eI qr kr 64 fr]) hP hD [(0, 5)] [] hCm hNw (by decide +kernel) hk1 hFc hP1 hD1 rfl
              have hK := KJ_s (tys' := [(kw, .int), (kt, .boolean), (kr, .int)]) hK hK1 [] rfl
              generalize H1 = H at hP hS ⊢
              rcases hw with ⟨e_r15, f_r15⟩ | ⟨e_r15, f_r15⟩
              · subst e_r15
                refine lv_if_eq (tgt := 97) hx hb dX5_leadsBack_92 (by decide) (fun c19 => absurd c19 (by decide)) (fun c19 => ?_)
                refine lv_iconst (v := 1) hx hb dX5_leadsBack_95 (by decide) ?_
                rw [hQ9]
                exact W.zret (v := 1) hx hb hr (by decide) (fun t ht hW => ⟨⟨1, (u16, u17, u18), rfl, Or.inl ⟨rfl, f_r15⟩, by rw [ht]; exact hP, va_K.moved hW.alike hK, hD⟩, hS.F ht⟩) hS.2.2 dX5_leadsBack_96
              · subst e_r15
                refine lv_if_eq (tgt := 97) hx hb dX5_leadsBack_92 (by decide) (fun c20 => ?_) (fun c20 => absurd (by decide) c20)
                obtain ⟨x21, e_x21⟩ : ∃ yy : Int32, yy = x_50 + 1 := ⟨_, rfl⟩
                refine lv_iinc (v := x21) (lv' := [(5, .int x21), (0, .ref h0), (1, .int p0), (2, .int p1), (3, .int 6), (4, .int p3)]) hx hb dX5_leadsBack_97 hl (k := 0) rfl (by rw [e_x21]; rfl) (by decide) rfl (fun ls hl => ?_)
                have t_x21 := i_add e_x21 (by omega) (by omega)
                refine lv_goto (tgt := 50) hx hb dX5_leadsBack_100 (by decide) ?_
                exact ih_50 (i_50 + 1) x21 (by omega) (by omega) (by rw [e_x21, e_x_50]; exact nI_1 i_50) u16 u18 u17 (fun k hk => f_r15 k (by omega)) _ _ (K_s hK [(0, 3)] rfl) (P_s hP [(0, 5)] rfl) (D_s hD [(0, 5)] 5 rfl (by decide +kernel) rfl) hS ls (lv_sub hl [0, 1, 2, 3, 4, 5] rfl)
    exact loop_50 (8 + 1) 0 0 (by omega) (by omega) rfl g2 g3 wl hwd _ _ hK hP hD hS ls hl
  · skip
    have f_c6 := i_nle c6
    refine lv_aload_n hx hb dX5_leadsBack_38 rfl (lv_at hl 0 rfl) ?_
    refine lv_iload_n hx hb dX5_leadsBack_39 rfl (lv_at hl 3 rfl) ?_
    refine lv_iconst (v := 1) hx hb dX5_leadsBack_40 (by decide) ?_
    refine lv_iadd hx hb dX5_leadsBack_41 ?_
    refine lv_topi (fun z22 e_z22 => ?_)
    have e_z22 : z22 = 7 := e_z22.trans (by first | rfl | decide)
    subst e_z22
    refine va_put (D := (dC, dI)) (ci := 4) (v := .int 7) (ty := .int) (C := RX5) (T := TX5) (N := 4) hx hb hts (fun w h => List.mem_cons_of_mem _ (inlX5 w h)) tyX5 tyX5_ok nmX5 hown hK hP hD hS 0 rfl rfl 2 (by decide) (hts (.fieldLink RX5 40 "ClearingGates$Rings" "wayLength" "I") (List.mem_cons_of_mem _ mw_145)) (fun _ h9 => h9) rfl (by decide +kernel) rfl rfl (Nat.le_of_ble_eq_true rfl) dX5_leadsBack_42 (fun H locs hP hD hS => ?_)
    obtain ⟨hP, hD⟩ := X_s (ws' := [eO h0 4 [.ref qd, .ref qw, .int 7, .ref qt], eI qw kw 8 g2, eI qt kt 8 g3, eO qd 1 [.ref qr], eI qr kr 64 fr]) hP hD rfl
    refine lv_iconst (v := 1) hx hb dX5_leadsBack_45 (by decide) ?_
    rw [hQ9]
    exact W.zret (v := 1) hx hb hr (by decide) (fun t ht hW => ⟨⟨1, (g2, 7, g3), rfl, Or.inl ⟨rfl, by omega, by omega, fun k hk => hwd k (by omega)⟩, by rw [ht]; exact hP, va_K.moved hW.alike hK, hD⟩, hS.F ht⟩) hS.2.2 dX5_leadsBack_46

set_option maxRecDepth 100000 in
set_option maxHeartbeats 4000000 in
/-- Rings.leadsBack at depth 5 -/
theorem c_X5_leadsBack_d5 (l : Launch) (dC : Nat → ClassId) (dI : Nat → Nat → Nat) (h0 : Nat) (p0 : Int32) (p1 : Int32) (p3 : Int32) (qd : Nat) (qw : Nat) (wl : Int32) (qt : Nat) (kw : ClassId) (fw : Nat → Int32) (kt : ClassId) (ft : Nat → Int32) (qr : Nat) (kr : ClassId) (fr : Nat → Int32) (sz : Nat) (h1 : 0 ≤ p0.toInt) (h2 : p0.toInt < 8) (h3 : 0 ≤ p1.toInt) (h4 : p1.toInt < 8) (h5 : 0 ≤ p3.toInt) (h6 : p3.toInt ≤ 8) (hw0 : ∀ k : Nat, k < 5 → inr8 (fw k)) : Met l yX5_leadsBack wsX5_leadsBack ({ frames := 3, cells := 0, slots := 0, locals := 75 }) (va_Pc [.ref h0, .int p0, .int p1, .int 5, .int p3] (fun U => U.heap.size = sz ∧ va_P (dC, dI) vwCl [eO h0 4 [.ref qd, .ref qw, .int wl, .ref qt], eI qw kw 8 fw, eI qt kt 8 ft, eO qd 1 [.ref qr], eI qr kr 64 fr] U.heap ∧ va_K (dC, dI) vwCl [(kw, .int), (kt, .boolean), (kr, .int)] U ∧ va_D (fun _ => True) [eO h0 4 [.ref qd, .ref qw, .int wl, .ref qt], eI qw kw 8 fw, eI qt kt 8 ft, eO qd 1 [.ref qr], eI qr kr 64 fr])) (va_Qi (fun (r : Int32) (u : (Nat → Int32) × Int32 × (Nat → Int32)) => match u with | (fw2, wl2, ft2) => (r = 1 ∧ 0 < wl2.toInt ∧ wl2.toInt ≤ 8 ∧ ∀ k : Nat, (k : Int) < wl2.toInt → inr8 (fw2 k)) ∨ (r = 0 ∧ ∀ k : Nat, k < 5 → inr8 (fw2 k))) (fun (u : (Nat → Int32) × Int32 × (Nat → Int32)) (t : State) => match u with | (fw2, wl2, ft2) => va_P (dC, dI) vwCl [eO h0 4 [.ref qd, .ref qw, .int wl2, .ref qt], eI qw kw 8 fw2, eI qt kt 8 ft2, eO qd 1 [.ref qr], eI qr kr 64 fr] t.heap ∧ va_K (dC, dI) vwCl [(kw, .int), (kt, .boolean), (kr, .int)] t ∧ va_D (va_A [eO h0 4 [.ref qd, .ref qw, .int wl, .ref qt], eI qw kw 8 fw, eI qt kt 8 ft, eO qd 1 [.ref qr], eI qr kr 64 fr] sz) [eO h0 4 [.ref qd, .ref qw, .int wl2, .ref qt], eI qw kw 8 fw2, eI qt kt 8 ft2, eO qd 1 [.ref qr], eI qr kr 64 fr]) (va_A [eO h0 4 [.ref qd, .ref qw, .int wl, .ref qt], eI qw kw 8 fw, eI qt kt 8 ft, eO qd 1 [.ref qr], eI qr kr 64 fr] sz)) 0 0 (va_A [eO h0 4 [.ref qd, .ref qw, .int wl, .ref qt], eI qw kw 8 fw, eI qt kt 8 ft, eO qd 1 [.ref qr], eI qr kr 64 fr] sz) := by
  refine Met.ofW (cc := cX5_leadsBack) (maxL := 6) (ret := (some .boolean)) (by decide) rfl ?_
  intro p e s m args below meth c s₁ B hml hv
  obtain ⟨rfl, hsz, hP, hK, hD0⟩ := hv
  have hx := B.exec
  have hb := B.bytes
  have hr := B.returns
  have hts := atoms_spec (ws := wsX5_leadsBack) B.pre
  have hown : s.vm.findClass RX5 = some m.cls := findClass_of_methodNamed B.named
  have hlocks := B.notSynchronized
  subst hsz
  have hD := hD0.self (sz := s.heap.size)
  generalize hAe : va_A [eO h0 4 [.ref qd, .ref qw, .int wl, .ref qt], eI qw kw 8 fw, eI qt kt 8 ft, eO qd 1 [.ref qr], eI qr kr 64 fr] s.heap.size = A at hD ⊢
  have hA : ∀ q : Nat, s.heap.size ≤ q → A q := fun q h => by rw [← hAe]; exact Or.inr h
  have hS : va_S A s.heap s.heap [] := va_S.rf
  have hP : va_P (dC, dI) vwCl [eO h0 4 [.ref qd, .ref qw, .int wl, .ref qt], eI qw kw 8 fw, eI qt kt 8 ft, eO qd 1 [.ref qr], eI qr kr 64 fr] s.heap := hP
  have hl := lv_entry ([.ref h0, .int p0, .int p1, .int 5, .int p3]) (n := 6) (Nat.le_of_ble_eq_true rfl)
  rw [lg_entry_eq]
  generalize (lg_sl ([.ref h0, .int p0, .int p1, .int 5, .int p3]) ++ List.replicate (6 - (lg_sl ([.ref h0, .int p0, .int p1, .int 5, .int p3])).length) Slot.unset).toArray = ls at hl ⊢
  have hl : lv_has ls 6 [(0, .ref h0), (1, .int p0), (2, .int p1), (3, .int 5), (4, .int p3)] := hl
  suffices key9 : ∀ Q9 : State → Prop, Q9 = (MQ below (va_Qi (fun (r : Int32) (u : (Nat → Int32) × Int32 × (Nat → Int32)) => match u with | (fw2, wl2, ft2) => (r = 1 ∧ 0 < wl2.toInt ∧ wl2.toInt ≤ 8 ∧ ∀ k : Nat, (k : Int) < wl2.toInt → inr8 (fw2 k)) ∨ (r = 0 ∧ ∀ k : Nat, k < 5 → inr8 (fw2 k))) (fun (u : (Nat → Int32) × Int32 × (Nat → Int32)) (t : State) => match u with | (fw2, wl2, ft2) => va_P (dC, dI) vwCl [eO h0 4 [.ref qd, .ref qw, .int wl2, .ref qt], eI qw kw 8 fw2, eI qt kt 8 ft2, eO qd 1 [.ref qr], eI qr kr 64 fr] t.heap ∧ va_K (dC, dI) vwCl [(kw, .int), (kt, .boolean), (kr, .int)] t ∧ va_D A [eO h0 4 [.ref qd, .ref qw, .int wl2, .ref qt], eI qw kw 8 fw2, eI qt kt 8 ft2, eO qd 1 [.ref qr], eI qr kr 64 fr]) A) (([.ref h0, .int p0, .int p1, .int 5, .int p3] : List Value).toArray) s 0 0 A) → W p l e ({ frames := 3, cells := 0, slots := 0, locals := 75 }) s m (([.ref h0, .int p0, .int p1, .int 5, .int p3] : List Value).toArray) below meth c s.heap [] 0 0 Q9 (F0 m 0 ls []) from key9 _ rfl
  intro Q9 hQ9
  have k_0 : (0 : Int32).toInt = 0 := by decide
  have k_1 : (1 : Int32).toInt = 1 := by decide
  have k_5 : (5 : Int32).toInt = 5 := by decide
  have k_6 : (6 : Int32).toInt = 6 := by decide
  refine lv_iload_n hx hb dX5_leadsBack_0 rfl (lv_at hl 3 rfl) ?_
  refine lv_bipush (v := 8) hx hb dX5_leadsBack_1 (by decide) ?_
  refine lv_icmp_lt (tgt := 8) hx hb dX5_leadsBack_3 (by decide) (fun c1 => ?_) (fun c1 => absurd (by decide) c1)
  refine lv_aload_n hx hb dX5_leadsBack_8 rfl (lv_at hl 0 rfl) ?_
  refine va_get (D := (dC, dI)) (ci := 4) (v := .ref qw) (C := RX5) (T := TX5) (N := 4) hx hb hts (fun w h => List.mem_cons_of_mem _ (inlX5 w h)) hown hK hP 0 rfl rfl 1 (by decide) (hts (.fieldLink RX5 9 "ClearingGates$Rings" "way" "[I") (List.mem_cons_of_mem _ mw_144)) (fun _ h9 => h9) rfl dX5_leadsBack_9 ?_
  refine lv_iload_n hx hb dX5_leadsBack_12 rfl (lv_at hl 3 rfl) ?_
  refine lv_iload_n hx hb dX5_leadsBack_13 rfl (lv_at hl 1 rfl) ?_
  refine va_iast (D := (dC, dI)) hx hb hK hP hD hS 1 0 rfl rfl (vp_in_iff.mpr ⟨by decide, by decide⟩) dX5_leadsBack_14 (fun H locs hP hD hS => ?_)
  generalize e_g2 : (upd fw ((5 : Int32)).toNatClampNeg p0) = g2 at hP hD
  obtain ⟨hP, hD⟩ := X_s (ws' := [eO h0 4 [.ref qd, .ref qw, .int wl, .ref qt], eI qw kw 8 g2, eI qt kt 8 ft, eO qd 1 [.ref qr], eI qr kr 64 fr]) hP hD rfl
  have hwd : ∀ k : Nat, k < 6 → inr8 (g2 k) := by rw [← e_g2]; exact up_in rfl ⟨by omega, by omega⟩ hw0
  refine lv_aload_n hx hb dX5_leadsBack_15 rfl (lv_at hl 0 rfl) ?_
  refine va_get (D := (dC, dI)) (ci := 4) (v := .ref qt) (C := RX5) (T := TX5) (N := 4) hx hb hts (fun w h => List.mem_cons_of_mem _ (inlX5 w h)) hown hK hP 0 rfl rfl 3 (by decide) (hts (.fieldLink RX5 15 "ClearingGates$Rings" "tried" "[Z") (List.mem_cons_of_mem _ mw_146)) (fun _ h9 => h9) rfl dX5_leadsBack_16 ?_
  refine lv_iload_n hx hb dX5_leadsBack_19 rfl (lv_at hl 1 rfl) ?_
  refine lv_iconst (v := 1) hx hb dX5_leadsBack_20 (by decide) ?_
  refine va_zast (D := (dC, dI)) hx hb hK hP hD hS 2 1 rfl rfl (vp_in_iff.mpr ⟨by omega, by omega⟩) dX5_leadsBack_21 (fun H locs hP hD hS => ?_)
  generalize e_g3 : (upd ft (p0).toNatClampNeg (vp_nar .boolean 1)) = g3 at hP hD
  obtain ⟨hP, hD⟩ := X_s (ws' := [eO h0 4 [.ref qd, .ref qw, .int wl, .ref qt], eI qw kw 8 g2, eI qt kt 8 g3, eO qd 1 [.ref qr], eI qr kr 64 fr]) hP hD rfl
  refine lv_iload_n hx hb dX5_leadsBack_22 rfl (lv_at hl 3 rfl) ?_
  refine lv_if_le (tgt := 47) hx hb dX5_leadsBack_23 (by decide) (fun c4 => absurd c4 (by decide)) (fun c4 => ?_)
  refine lv_aload_n hx hb dX5_leadsBack_26 rfl (lv_at hl 0 rfl) ?_
  refine va_get (D := (dC, dI)) (ci := 4) (v := .ref qd) (C := RX5) (T := TX5) (N := 4) hx hb hts (fun w h => List.mem_cons_of_mem _ (inlX5 w h)) hown hK hP 0 rfl rfl 0 (by decide) (hts (.fieldLink RX5 19 "ClearingGates$Rings" "debts" "LClearingGates$Debts;") (List.mem_cons_of_mem _ mw_143)) (fun _ h9 => h9) rfl dX5_leadsBack_27 ?_
  refine lv_iload_n hx hb dX5_leadsBack_30 rfl (lv_at hl 1 rfl) ?_
  refine lv_iload_n hx hb dX5_leadsBack_31 rfl (lv_at hl 2 rfl) ?_
  obtain ⟨hPc, hDc, hFc, hCm, hNw⟩ := C_s (wc := [eO qd 1 [.ref qr], eI qr kr 64 fr]) hP hD hS hA [(3, 2)] 5 rfl (by decide +kernel) rfl
  have hKc := K_s (tys' := [(kr, .int)]) hK [(2, 1)] rfl
  refine va_calli (va_runV (As := [.int p0, .int p1]) (rest := []) ⟨hx, hb, hml, hown, hts⟩ (c_X1_between l dC dI qd p0 p1 qr kr fr H.size h1 h2 h3 h4) (cwV 2 hts gX5_leadsBack_X1_between rfl rfl rfl (by decide +kernel) ⟨Nat.le_of_ble_eq_true rfl, Nat.le_of_ble_eq_true rfl⟩) ⟨fun a U g mk q => by obtain ⟨q0, q1, qP, qK, qD⟩ := q; exact ⟨q0, q1, qP, va_K.moved (u := U) (U := U.calling g mk a) (Vm.Alike.refl U.vm) qK, qD⟩, va_recv (s := s) (q := (RX1, TX1, 1)) hKc hPc (ci := 1) (q0 := 0) rfl rfl, fun U hU hW => ⟨rfl, by rw [hU], by rw [hU]; exact hPc, va_K.moved hW.alike hKc, hDc.weaken (fun _ _ _ _ => trivial)⟩⟩ rfl rfl hl.1 rfl (lv_room (Nat.le_of_ble_eq_true rfl)) dX5_leadsBack_32 ⟨Nat.le_of_ble_eq_true rfl, Nat.le_of_ble_eq_true rfl⟩) hS (fun q _ h => hFc q h) hFc (fun r5 u t H1 locs ht hvm hw hB hz1 hk1 hS => ?_)
  obtain ⟨hP1, hK1, hD1⟩ := hB
  rw [ht] at hP1
  have hK1 := va_K.moved hvm.symm hK1
  try dsimp only at hw
  obtain ⟨hP, hD⟩ := J_s (wL := [eO h0 4 [.ref qd, .ref qw, .int wl, .ref qt], eI qw kw 8 g2, eI qt kt 8 g3, eO qd 1 [.ref qr], eI qr kr 64 fr]) hP hD [(3, 2)] [(0, 3)] hCm hNw (by decide +kernel) hk1 hFc hP1 hD1 rfl
  have hK := KJ_s (tys' := [(kw, .int), (kt, .boolean), (kr, .int)]) hK hK1 [(0, 2)] rfl
  generalize H1 = H at hP hS ⊢
  refine lv_if_le (tgt := 47) hx hb dX5_leadsBack_35 (by decide) (fun c6 => ?_) (fun c6 => ?_)
  · skip
    have f_c6 := i_le c6
    refine lv_iconst (v := 0) hx hb dX5_leadsBack_47 (by decide) ?_
    refine lv_istore (lv' := [(5, .int 0), (0, .ref h0), (1, .int p0), (2, .int p1), (3, .int 5), (4, .int p3)]) hx hb dX5_leadsBack_48 hl (by decide) rfl (fun ls hl => ?_)
    have loop_50 : ∀ (n i_50 : Nat) (x_50 : Int32), i_50 ≤ 8 → 8 < i_50 + n → x_50 = nI i_50 → ∀ (gw : Nat → Int32), ∀ (gt : Nat → Int32), ∀ (gl : Int32), (∀ k : Nat, k < 6 → inr8 (gw k)) → ∀ (H : Heap) (locs : List Loc), va_K (dC, dI) vwCl [(kw, .int), (kt, .boolean), (kr, .int)] s → va_P (dC, dI) vwCl [eO h0 4 [.ref qd, .ref qw, .int gl, .ref qt], eI qw kw 8 gw, eI qt kt 8 gt, eO qd 1 [.ref qr], eI qr kr 64 fr] H → va_D A [eO h0 4 [.ref qd, .ref qw, .int gl, .ref qt], eI qw kw 8 gw, eI qt kt 8 gt, eO qd 1 [.ref qr], eI qr kr 64 fr] → va_S A s.heap H locs → ∀ (ls : Array Slot), lv_has ls 6 [(5, .int x_50), (0, .ref h0), (1, .int p0), (2, .int p1), (3, .int 5), (4, .int p3)] → W p l e ({ frames := 3, cells := 0, slots := 0, locals := 75 }) s m (([.ref h0, .int p0, .int p1, .int 5, .int p3] : List Value).toArray) below meth c H locs 0 0 Q9 (F0 m 50 ls []) := by
      intro n
      induction n with
      | zero => intro i_50 x_50 h1 h2; exact absurd h2 (by omega)
      | succ n ih_50 =>
        intro i_50 x_50 hi_50 hn_50 e_x_50 gw gt gl hwi H locs hK hP hD hS ls hl
        have t_x_50 : x_50.toInt = (i_50 : Int) := by rw [e_x_50]; exact nI_toInt (by omega)
        refine lv_iload hx hb dX5_leadsBack_50 (lv_at hl 0 rfl) ?_
        refine lv_iload hx hb dX5_leadsBack_52 (lv_at hl 5 rfl) ?_
        refine lv_icmp_ge (tgt := 103) hx hb dX5_leadsBack_54 (by decide) (fun c7 => ?_) (fun c7 => ?_)
        · skip
          have f_c7 := i_le c7
          refine lv_iconst (v := 0) hx hb dX5_leadsBack_103 (by decide) ?_
          rw [hQ9]
          exact W.zret (v := 0) hx hb hr (by decide) (fun t ht hW => ⟨⟨0, (gw, gl, gt), rfl, Or.inr ⟨rfl, fun k hk => hwi k (by omega)⟩, by rw [ht]; exact hP, va_K.moved hW.alike hK, hD⟩, hS.F ht⟩) hS.2.2 dX5_leadsBack_104
        · skip
          have f_c7 := i_nle c7
          refine lv_aload_n hx hb dX5_leadsBack_57 rfl (lv_at hl 1 rfl) ?_
          refine va_get (D := (dC, dI)) (ci := 4) (v := .ref qt) (C := RX5) (T := TX5) (N := 4) hx hb hts (fun w h => List.mem_cons_of_mem _ (inlX5 w h)) hown hK hP 0 rfl rfl 3 (by decide) (hts (.fieldLink RX5 15 "ClearingGates$Rings" "tried" "[Z") (List.mem_cons_of_mem _ mw_146)) (fun _ h9 => h9) rfl dX5_leadsBack_58 ?_
          refine lv_iload hx hb dX5_leadsBack_61 (lv_at hl 0 rfl) ?_
          refine va_zald (D := (dC, dI)) hx hb hK hP 2 1 rfl rfl (vp_in_iff.mpr ⟨by omega, by omega⟩) dX5_leadsBack_63 ?_
          refine lv_topi (fun z8 e_z8 => ?_)
          refine lv_if_ne (tgt := 97) hx hb dX5_leadsBack_64 (by decide) (fun c9 => ?_) (fun c9 => ?_)
          · skip
            have f_c9 := i_ne c9
            obtain ⟨x10, e_x10⟩ : ∃ yy : Int32, yy = x_50 + 1 := ⟨_, rfl⟩
            refine lv_iinc (v := x10) (lv' := [(5, .int x10), (0, .ref h0), (1, .int p0), (2, .int p1), (3, .int 5), (4, .int p3)]) hx hb dX5_leadsBack_97 hl (k := 0) rfl (by rw [e_x10]; rfl) (by decide) rfl (fun ls hl => ?_)
            have t_x10 := i_add e_x10 (by omega) (by omega)
            refine lv_goto (tgt := 50) hx hb dX5_leadsBack_100 (by decide) ?_
            exact ih_50 (i_50 + 1) x10 (by omega) (by omega) (by rw [e_x10, e_x_50]; exact nI_1 i_50) gw gt gl (fun k hk => hwi k (by omega)) _ _ (K_s hK [(0, 3)] rfl) (P_s hP [(0, 5)] rfl) (D_s hD [(0, 5)] 5 rfl (by decide +kernel) rfl) hS ls (lv_sub hl [0, 1, 2, 3, 4, 5] rfl)
          · skip
            have f_c9 := i_eq c9
            refine lv_aload_n hx hb dX5_leadsBack_67 rfl (lv_at hl 1 rfl) ?_
            refine va_get (D := (dC, dI)) (ci := 4) (v := .ref qd) (C := RX5) (T := TX5) (N := 4) hx hb hts (fun w h => List.mem_cons_of_mem _ (inlX5 w h)) hown hK hP 0 rfl rfl 0 (by decide) (hts (.fieldLink RX5 19 "ClearingGates$Rings" "debts" "LClearingGates$Debts;") (List.mem_cons_of_mem _ mw_143)) (fun _ h9 => h9) rfl dX5_leadsBack_68 ?_
            refine lv_iload_n hx hb dX5_leadsBack_71 rfl (lv_at hl 2 rfl) ?_
            refine lv_iload hx hb dX5_leadsBack_72 (lv_at hl 0 rfl) ?_
            obtain ⟨hPc, hDc, hFc, hCm, hNw⟩ := C_s (wc := [eO qd 1 [.ref qr], eI qr kr 64 fr]) hP hD hS hA [(3, 2)] 5 rfl (by decide +kernel) rfl
            have hKc := K_s (tys' := [(kr, .int)]) hK [(2, 1)] rfl
            refine va_calli (va_runV (As := [.int p0, .int x_50]) (rest := []) ⟨hx, hb, hml, hown, hts⟩ (c_X1_between l dC dI qd p0 x_50 qr kr fr H.size h1 h2 (by first | assumption | omega) (by first | assumption | omega)) (cwV 2 hts gX5_leadsBack_X1_between rfl rfl rfl (by decide +kernel) ⟨Nat.le_of_ble_eq_true rfl, Nat.le_of_ble_eq_true rfl⟩) ⟨fun a U g mk q => by obtain ⟨q0, q1, qP, qK, qD⟩ := q; exact ⟨q0, q1, qP, va_K.moved (u := U) (U := U.calling g mk a) (Vm.Alike.refl U.vm) qK, qD⟩, va_recv (s := s) (q := (RX1, TX1, 1)) hKc hPc (ci := 1) (q0 := 0) rfl rfl, fun U hU hW => ⟨rfl, by rw [hU], by rw [hU]; exact hPc, va_K.moved hW.alike hKc, hDc.weaken (fun _ _ _ _ => trivial)⟩⟩ rfl rfl hl.1 rfl (lv_room (Nat.le_of_ble_eq_true rfl)) dX5_leadsBack_74 ⟨Nat.le_of_ble_eq_true rfl, Nat.le_of_ble_eq_true rfl⟩) hS (fun q _ h => hFc q h) hFc (fun r11 u t H1 locs ht hvm hw hB hz1 hk1 hS => ?_)
            obtain ⟨hP1, hK1, hD1⟩ := hB
            rw [ht] at hP1
            have hK1 := va_K.moved hvm.symm hK1
            try dsimp only at hw
            obtain ⟨hP, hD⟩ := J_s (wL := [eO h0 4 [.ref qd, .ref qw, .int gl, .ref qt], eI qw kw 8 gw, eI qt kt 8 gt, eO qd 1 [.ref qr], eI qr kr 64 fr]) hP hD [(3, 2)] [(0, 3)] hCm hNw (by decide +kernel) hk1 hFc hP1 hD1 rfl
            have hK := KJ_s (tys' := [(kw, .int), (kt, .boolean), (kr, .int)]) hK hK1 [(0, 2)] rfl
            generalize H1 = H at hP hS ⊢
            refine lv_if_le (tgt := 97) hx hb dX5_leadsBack_77 (by decide) (fun c12 => ?_) (fun c12 => ?_)
            · skip
              have f_c12 := i_le c12
              obtain ⟨x13, e_x13⟩ : ∃ yy : Int32, yy = x_50 + 1 := ⟨_, rfl⟩
              refine lv_iinc (v := x13) (lv' := [(5, .int x13), (0, .ref h0), (1, .int p0), (2, .int p1), (3, .int 5), (4, .int p3)]) hx hb dX5_leadsBack_97 hl (k := 0) rfl (by rw [e_x13]; rfl) (by decide) rfl (fun ls hl => ?_)
              have t_x13 := i_add e_x13 (by omega) (by omega)
              refine lv_goto (tgt := 50) hx hb dX5_leadsBack_100 (by decide) ?_
              exact ih_50 (i_50 + 1) x13 (by omega) (by omega) (by rw [e_x13, e_x_50]; exact nI_1 i_50) gw gt gl (fun k hk => hwi k (by omega)) _ _ (K_s hK [(0, 3)] rfl) (P_s hP [(0, 5)] rfl) (D_s hD [(0, 5)] 5 rfl (by decide +kernel) rfl) hS ls (lv_sub hl [0, 1, 2, 3, 4, 5] rfl)
            · skip
              have f_c12 := i_nle c12
              refine lv_aload_n hx hb dX5_leadsBack_80 rfl (lv_at hl 1 rfl) ?_
              refine lv_iload hx hb dX5_leadsBack_81 (lv_at hl 0 rfl) ?_
              refine lv_iload_n hx hb dX5_leadsBack_83 rfl (lv_at hl 3 rfl) ?_
              refine lv_iload_n hx hb dX5_leadsBack_84 rfl (lv_at hl 4 rfl) ?_
              refine lv_iconst (v := 1) hx hb dX5_leadsBack_85 (by decide) ?_
              refine lv_iadd hx hb dX5_leadsBack_86 ?_
              refine lv_topi (fun z14 e_z14 => ?_)
              have e_z14 : z14 = 6 := e_z14.trans (by first | rfl | decide)
              subst e_z14
              refine lv_iload hx hb dX5_leadsBack_87 (lv_at hl 5 rfl) ?_
              obtain ⟨hPc, hDc, hFc, hCm, hNw⟩ := C_s (wc := [eO h0 4 [.ref qd, .ref qw, .int gl, .ref qt], eI qw kw 8 gw, eI qt kt 8 gt, eO qd 1 [.ref qr], eI qr kr 64 fr]) hP hD hS hA [(0, 5)] 5 rfl (by decide +kernel) rfl
              have hKc := K_s (tys' := [(kw, .int), (kt, .boolean), (kr, .int)]) hK [(0, 3)] rfl
              refine va_calli (va_runV (As := [.int x_50, .int p1, .int 6, .int p3]) (rest := []) ⟨hx, hb, hml, hown, hts⟩ (c_X5_leadsBack_d6 l dC dI h0 x_50 p1 p3 qd qw gl qt kw gw kt gt qr kr fr H.size (by first | assumption | omega) (by first | assumption | omega) h3 h4 h5 h6 hwi) (cwV 4 hts gX5_leadsBack_X5_leadsBack rfl rfl rfl (by decide +kernel) ⟨Nat.le_of_ble_eq_true rfl, Nat.le_of_ble_eq_true rfl⟩) ⟨fun a U g mk q => by obtain ⟨q0, q1, qP, qK, qD⟩ := q; exact ⟨q0, q1, qP, va_K.moved (u := U) (U := U.calling g mk a) (Vm.Alike.refl U.vm) qK, qD⟩, va_recv (s := s) (q := (RX5, TX5, 4)) hKc hPc (ci := 4) (q0 := 0) rfl rfl, fun U hU hW => ⟨rfl, by rw [hU], by rw [hU]; exact hPc, va_K.moved hW.alike hKc, hDc.weaken (fun _ _ _ _ => trivial)⟩⟩ rfl rfl hl.1 rfl (lv_room (Nat.le_of_ble_eq_true rfl)) dX5_leadsBack_89 ⟨Nat.le_of_ble_eq_true rfl, Nat.le_of_ble_eq_true rfl⟩) hS (fun q _ h => hFc q h) hFc (fun r15 u t H1 locs ht hvm hw hB hz1 hk1 hS => ?_)
              obtain ⟨u16, u17, u18⟩ := u
              obtain ⟨hP1, hK1, hD1⟩ := hB
              rw [ht] at hP1
              have hK1 := va_K.moved hvm.symm hK1
              try dsimp only at hw
              obtain ⟨hP, hD⟩ := J_s (wL := [eO h0 4 [.ref qd, .ref qw, .int u17, .ref qt], eI qw kw 8 u16, eI qt kt 8 u18, eO qd 1 [.ref qr], eI qr kr 64 fr]) hP hD [(0, 5)] [] hCm hNw (by decide +kernel) hk1 hFc hP1 hD1 rfl
              have hK := KJ_s (tys' := [(kw, .int), (kt, .boolean), (kr, .int)]) hK hK1 [] rfl
              generalize H1 = H at hP hS ⊢
              rcases hw with ⟨e_r15, f_r15⟩ | ⟨e_r15, f_r15⟩
              · subst e_r15
                refine lv_if_eq (tgt := 97) hx hb dX5_leadsBack_92 (by decide) (fun c19 => absurd c19 (by decide)) (fun c19 => ?_)
                refine lv_iconst (v := 1) hx hb dX5_leadsBack_95 (by decide) ?_
                rw [hQ9]
                exact W.zret (v := 1) hx hb hr (by decide) (fun t ht hW => ⟨⟨1, (u16, u17, u18), rfl, Or.inl ⟨rfl, f_r15⟩, by rw [ht]; exact hP, va_K.moved hW.alike hK, hD⟩, hS.F ht⟩) hS.2.2 dX5_leadsBack_96
              · subst e_r15
                refine lv_if_eq (tgt := 97) hx hb dX5_leadsBack_92 (by decide) (fun c20 => ?_) (fun c20 => absurd (by decide) c20)
                obtain ⟨x21, e_x21⟩ : ∃ yy : Int32, yy = x_50 + 1 := ⟨_, rfl⟩
                refine lv_iinc (v := x21) (lv' := [(5, .int x21), (0, .ref h0), (1, .int p0), (2, .int p1), (3, .int 5), (4, .int p3)]) hx hb dX5_leadsBack_97 hl (k := 0) rfl (by rw [e_x21]; rfl) (by decide) rfl (fun ls hl => ?_)
                have t_x21 := i_add e_x21 (by omega) (by omega)
                refine lv_goto (tgt := 50) hx hb dX5_leadsBack_100 (by decide) ?_
                exact ih_50 (i_50 + 1) x21 (by omega) (by omega) (by rw [e_x21, e_x_50]; exact nI_1 i_50) u16 u18 u17 (fun k hk => f_r15 k (by omega)) _ _ (K_s hK [(0, 3)] rfl) (P_s hP [(0, 5)] rfl) (D_s hD [(0, 5)] 5 rfl (by decide +kernel) rfl) hS ls (lv_sub hl [0, 1, 2, 3, 4, 5] rfl)
    exact loop_50 (8 + 1) 0 0 (by omega) (by omega) rfl g2 g3 wl hwd _ _ hK hP hD hS ls hl
  · skip
    have f_c6 := i_nle c6
    refine lv_aload_n hx hb dX5_leadsBack_38 rfl (lv_at hl 0 rfl) ?_
    refine lv_iload_n hx hb dX5_leadsBack_39 rfl (lv_at hl 3 rfl) ?_
    refine lv_iconst (v := 1) hx hb dX5_leadsBack_40 (by decide) ?_
    refine lv_iadd hx hb dX5_leadsBack_41 ?_
    refine lv_topi (fun z22 e_z22 => ?_)
    have e_z22 : z22 = 6 := e_z22.trans (by first | rfl | decide)
    subst e_z22
    refine va_put (D := (dC, dI)) (ci := 4) (v := .int 6) (ty := .int) (C := RX5) (T := TX5) (N := 4) hx hb hts (fun w h => List.mem_cons_of_mem _ (inlX5 w h)) tyX5 tyX5_ok nmX5 hown hK hP hD hS 0 rfl rfl 2 (by decide) (hts (.fieldLink RX5 40 "ClearingGates$Rings" "wayLength" "I") (List.mem_cons_of_mem _ mw_145)) (fun _ h9 => h9) rfl (by decide +kernel) rfl rfl (Nat.le_of_ble_eq_true rfl) dX5_leadsBack_42 (fun H locs hP hD hS => ?_)
    obtain ⟨hP, hD⟩ := X_s (ws' := [eO h0 4 [.ref qd, .ref qw, .int 6, .ref qt], eI qw kw 8 g2, eI qt kt 8 g3, eO qd 1 [.ref qr], eI qr kr 64 fr]) hP hD rfl
    refine lv_iconst (v := 1) hx hb dX5_leadsBack_45 (by decide) ?_
    rw [hQ9]
    exact W.zret (v := 1) hx hb hr (by decide) (fun t ht hW => ⟨⟨1, (g2, 6, g3), rfl, Or.inl ⟨rfl, by omega, by omega, fun k hk => hwd k (by omega)⟩, by rw [ht]; exact hP, va_K.moved hW.alike hK, hD⟩, hS.F ht⟩) hS.2.2 dX5_leadsBack_46

set_option maxRecDepth 100000 in
set_option maxHeartbeats 4000000 in
/-- Rings.leadsBack at depth 4 -/
theorem c_X5_leadsBack_d4 (l : Launch) (dC : Nat → ClassId) (dI : Nat → Nat → Nat) (h0 : Nat) (p0 : Int32) (p1 : Int32) (p3 : Int32) (qd : Nat) (qw : Nat) (wl : Int32) (qt : Nat) (kw : ClassId) (fw : Nat → Int32) (kt : ClassId) (ft : Nat → Int32) (qr : Nat) (kr : ClassId) (fr : Nat → Int32) (sz : Nat) (h1 : 0 ≤ p0.toInt) (h2 : p0.toInt < 8) (h3 : 0 ≤ p1.toInt) (h4 : p1.toInt < 8) (h5 : 0 ≤ p3.toInt) (h6 : p3.toInt ≤ 8) (hw0 : ∀ k : Nat, k < 4 → inr8 (fw k)) : Met l yX5_leadsBack wsX5_leadsBack ({ frames := 4, cells := 0, slots := 0, locals := 100 }) (va_Pc [.ref h0, .int p0, .int p1, .int 4, .int p3] (fun U => U.heap.size = sz ∧ va_P (dC, dI) vwCl [eO h0 4 [.ref qd, .ref qw, .int wl, .ref qt], eI qw kw 8 fw, eI qt kt 8 ft, eO qd 1 [.ref qr], eI qr kr 64 fr] U.heap ∧ va_K (dC, dI) vwCl [(kw, .int), (kt, .boolean), (kr, .int)] U ∧ va_D (fun _ => True) [eO h0 4 [.ref qd, .ref qw, .int wl, .ref qt], eI qw kw 8 fw, eI qt kt 8 ft, eO qd 1 [.ref qr], eI qr kr 64 fr])) (va_Qi (fun (r : Int32) (u : (Nat → Int32) × Int32 × (Nat → Int32)) => match u with | (fw2, wl2, ft2) => (r = 1 ∧ 0 < wl2.toInt ∧ wl2.toInt ≤ 8 ∧ ∀ k : Nat, (k : Int) < wl2.toInt → inr8 (fw2 k)) ∨ (r = 0 ∧ ∀ k : Nat, k < 4 → inr8 (fw2 k))) (fun (u : (Nat → Int32) × Int32 × (Nat → Int32)) (t : State) => match u with | (fw2, wl2, ft2) => va_P (dC, dI) vwCl [eO h0 4 [.ref qd, .ref qw, .int wl2, .ref qt], eI qw kw 8 fw2, eI qt kt 8 ft2, eO qd 1 [.ref qr], eI qr kr 64 fr] t.heap ∧ va_K (dC, dI) vwCl [(kw, .int), (kt, .boolean), (kr, .int)] t ∧ va_D (va_A [eO h0 4 [.ref qd, .ref qw, .int wl, .ref qt], eI qw kw 8 fw, eI qt kt 8 ft, eO qd 1 [.ref qr], eI qr kr 64 fr] sz) [eO h0 4 [.ref qd, .ref qw, .int wl2, .ref qt], eI qw kw 8 fw2, eI qt kt 8 ft2, eO qd 1 [.ref qr], eI qr kr 64 fr]) (va_A [eO h0 4 [.ref qd, .ref qw, .int wl, .ref qt], eI qw kw 8 fw, eI qt kt 8 ft, eO qd 1 [.ref qr], eI qr kr 64 fr] sz)) 0 0 (va_A [eO h0 4 [.ref qd, .ref qw, .int wl, .ref qt], eI qw kw 8 fw, eI qt kt 8 ft, eO qd 1 [.ref qr], eI qr kr 64 fr] sz) := by
  refine Met.ofW (cc := cX5_leadsBack) (maxL := 6) (ret := (some .boolean)) (by decide) rfl ?_
  intro p e s m args below meth c s₁ B hml hv
  obtain ⟨rfl, hsz, hP, hK, hD0⟩ := hv
  have hx := B.exec
  have hb := B.bytes
  have hr := B.returns
  have hts := atoms_spec (ws := wsX5_leadsBack) B.pre
  have hown : s.vm.findClass RX5 = some m.cls := findClass_of_methodNamed B.named
  have hlocks := B.notSynchronized
  subst hsz
  have hD := hD0.self (sz := s.heap.size)
  generalize hAe : va_A [eO h0 4 [.ref qd, .ref qw, .int wl, .ref qt], eI qw kw 8 fw, eI qt kt 8 ft, eO qd 1 [.ref qr], eI qr kr 64 fr] s.heap.size = A at hD ⊢
  have hA : ∀ q : Nat, s.heap.size ≤ q → A q := fun q h => by rw [← hAe]; exact Or.inr h
  have hS : va_S A s.heap s.heap [] := va_S.rf
  have hP : va_P (dC, dI) vwCl [eO h0 4 [.ref qd, .ref qw, .int wl, .ref qt], eI qw kw 8 fw, eI qt kt 8 ft, eO qd 1 [.ref qr], eI qr kr 64 fr] s.heap := hP
  have hl := lv_entry ([.ref h0, .int p0, .int p1, .int 4, .int p3]) (n := 6) (Nat.le_of_ble_eq_true rfl)
  rw [lg_entry_eq]
  generalize (lg_sl ([.ref h0, .int p0, .int p1, .int 4, .int p3]) ++ List.replicate (6 - (lg_sl ([.ref h0, .int p0, .int p1, .int 4, .int p3])).length) Slot.unset).toArray = ls at hl ⊢
  have hl : lv_has ls 6 [(0, .ref h0), (1, .int p0), (2, .int p1), (3, .int 4), (4, .int p3)] := hl
  suffices key9 : ∀ Q9 : State → Prop, Q9 = (MQ below (va_Qi (fun (r : Int32) (u : (Nat → Int32) × Int32 × (Nat → Int32)) => match u with | (fw2, wl2, ft2) => (r = 1 ∧ 0 < wl2.toInt ∧ wl2.toInt ≤ 8 ∧ ∀ k : Nat, (k : Int) < wl2.toInt → inr8 (fw2 k)) ∨ (r = 0 ∧ ∀ k : Nat, k < 4 → inr8 (fw2 k))) (fun (u : (Nat → Int32) × Int32 × (Nat → Int32)) (t : State) => match u with | (fw2, wl2, ft2) => va_P (dC, dI) vwCl [eO h0 4 [.ref qd, .ref qw, .int wl2, .ref qt], eI qw kw 8 fw2, eI qt kt 8 ft2, eO qd 1 [.ref qr], eI qr kr 64 fr] t.heap ∧ va_K (dC, dI) vwCl [(kw, .int), (kt, .boolean), (kr, .int)] t ∧ va_D A [eO h0 4 [.ref qd, .ref qw, .int wl2, .ref qt], eI qw kw 8 fw2, eI qt kt 8 ft2, eO qd 1 [.ref qr], eI qr kr 64 fr]) A) (([.ref h0, .int p0, .int p1, .int 4, .int p3] : List Value).toArray) s 0 0 A) → W p l e ({ frames := 4, cells := 0, slots := 0, locals := 100 }) s m (([.ref h0, .int p0, .int p1, .int 4, .int p3] : List Value).toArray) below meth c s.heap [] 0 0 Q9 (F0 m 0 ls []) from key9 _ rfl
  intro Q9 hQ9
  have k_0 : (0 : Int32).toInt = 0 := by decide
  have k_1 : (1 : Int32).toInt = 1 := by decide
  have k_4 : (4 : Int32).toInt = 4 := by decide
  have k_5 : (5 : Int32).toInt = 5 := by decide
  refine lv_iload_n hx hb dX5_leadsBack_0 rfl (lv_at hl 3 rfl) ?_
  refine lv_bipush (v := 8) hx hb dX5_leadsBack_1 (by decide) ?_
  refine lv_icmp_lt (tgt := 8) hx hb dX5_leadsBack_3 (by decide) (fun c1 => ?_) (fun c1 => absurd (by decide) c1)
  refine lv_aload_n hx hb dX5_leadsBack_8 rfl (lv_at hl 0 rfl) ?_
  refine va_get (D := (dC, dI)) (ci := 4) (v := .ref qw) (C := RX5) (T := TX5) (N := 4) hx hb hts (fun w h => List.mem_cons_of_mem _ (inlX5 w h)) hown hK hP 0 rfl rfl 1 (by decide) (hts (.fieldLink RX5 9 "ClearingGates$Rings" "way" "[I") (List.mem_cons_of_mem _ mw_144)) (fun _ h9 => h9) rfl dX5_leadsBack_9 ?_
  refine lv_iload_n hx hb dX5_leadsBack_12 rfl (lv_at hl 3 rfl) ?_
  refine lv_iload_n hx hb dX5_leadsBack_13 rfl (lv_at hl 1 rfl) ?_
  refine va_iast (D := (dC, dI)) hx hb hK hP hD hS 1 0 rfl rfl (vp_in_iff.mpr ⟨by decide, by decide⟩) dX5_leadsBack_14 (fun H locs hP hD hS => ?_)
  generalize e_g2 : (upd fw ((4 : Int32)).toNatClampNeg p0) = g2 at hP hD
  obtain ⟨hP, hD⟩ := X_s (ws' := [eO h0 4 [.ref qd, .ref qw, .int wl, .ref qt], eI qw kw 8 g2, eI qt kt 8 ft, eO qd 1 [.ref qr], eI qr kr 64 fr]) hP hD rfl
  have hwd : ∀ k : Nat, k < 5 → inr8 (g2 k) := by rw [← e_g2]; exact up_in rfl ⟨by omega, by omega⟩ hw0
  refine lv_aload_n hx hb dX5_leadsBack_15 rfl (lv_at hl 0 rfl) ?_
  refine va_get (D := (dC, dI)) (ci := 4) (v := .ref qt) (C := RX5) (T := TX5) (N := 4) hx hb hts (fun w h => List.mem_cons_of_mem _ (inlX5 w h)) hown hK hP 0 rfl rfl 3 (by decide) (hts (.fieldLink RX5 15 "ClearingGates$Rings" "tried" "[Z") (List.mem_cons_of_mem _ mw_146)) (fun _ h9 => h9) rfl dX5_leadsBack_16 ?_
  refine lv_iload_n hx hb dX5_leadsBack_19 rfl (lv_at hl 1 rfl) ?_
  refine lv_iconst (v := 1) hx hb dX5_leadsBack_20 (by decide) ?_
  refine va_zast (D := (dC, dI)) hx hb hK hP hD hS 2 1 rfl rfl (vp_in_iff.mpr ⟨by omega, by omega⟩) dX5_leadsBack_21 (fun H locs hP hD hS => ?_)
  generalize e_g3 : (upd ft (p0).toNatClampNeg (vp_nar .boolean 1)) = g3 at hP hD
  obtain ⟨hP, hD⟩ := X_s (ws' := [eO h0 4 [.ref qd, .ref qw, .int wl, .ref qt], eI qw kw 8 g2, eI qt kt 8 g3, eO qd 1 [.ref qr], eI qr kr 64 fr]) hP hD rfl
  refine lv_iload_n hx hb dX5_leadsBack_22 rfl (lv_at hl 3 rfl) ?_
  refine lv_if_le (tgt := 47) hx hb dX5_leadsBack_23 (by decide) (fun c4 => absurd c4 (by decide)) (fun c4 => ?_)
  refine lv_aload_n hx hb dX5_leadsBack_26 rfl (lv_at hl 0 rfl) ?_
  refine va_get (D := (dC, dI)) (ci := 4) (v := .ref qd) (C := RX5) (T := TX5) (N := 4) hx hb hts (fun w h => List.mem_cons_of_mem _ (inlX5 w h)) hown hK hP 0 rfl rfl 0 (by decide) (hts (.fieldLink RX5 19 "ClearingGates$Rings" "debts" "LClearingGates$Debts;") (List.mem_cons_of_mem _ mw_143)) (fun _ h9 => h9) rfl dX5_leadsBack_27 ?_
  refine lv_iload_n hx hb dX5_leadsBack_30 rfl (lv_at hl 1 rfl) ?_
  refine lv_iload_n hx hb dX5_leadsBack_31 rfl (lv_at hl 2 rfl) ?_
  obtain ⟨hPc, hDc, hFc, hCm, hNw⟩ := C_s (wc := [eO qd 1 [.ref qr], eI qr kr 64 fr]) hP hD hS hA [(3, 2)] 5 rfl (by decide +kernel) rfl
  have hKc := K_s (tys' := [(kr, .int)]) hK [(2, 1)] rfl
  refine va_calli (va_runV (As := [.int p0, .int p1]) (rest := []) ⟨hx, hb, hml, hown, hts⟩ (c_X1_between l dC dI qd p0 p1 qr kr fr H.size h1 h2 h3 h4) (cwV 2 hts gX5_leadsBack_X1_between rfl rfl rfl (by decide +kernel) ⟨Nat.le_of_ble_eq_true rfl, Nat.le_of_ble_eq_true rfl⟩) ⟨fun a U g mk q => by obtain ⟨q0, q1, qP, qK, qD⟩ := q; exact ⟨q0, q1, qP, va_K.moved (u := U) (U := U.calling g mk a) (Vm.Alike.refl U.vm) qK, qD⟩, va_recv (s := s) (q := (RX1, TX1, 1)) hKc hPc (ci := 1) (q0 := 0) rfl rfl, fun U hU hW => ⟨rfl, by rw [hU], by rw [hU]; exact hPc, va_K.moved hW.alike hKc, hDc.weaken (fun _ _ _ _ => trivial)⟩⟩ rfl rfl hl.1 rfl (lv_room (Nat.le_of_ble_eq_true rfl)) dX5_leadsBack_32 ⟨Nat.le_of_ble_eq_true rfl, Nat.le_of_ble_eq_true rfl⟩) hS (fun q _ h => hFc q h) hFc (fun r5 u t H1 locs ht hvm hw hB hz1 hk1 hS => ?_)
  obtain ⟨hP1, hK1, hD1⟩ := hB
  rw [ht] at hP1
  have hK1 := va_K.moved hvm.symm hK1
  try dsimp only at hw
  obtain ⟨hP, hD⟩ := J_s (wL := [eO h0 4 [.ref qd, .ref qw, .int wl, .ref qt], eI qw kw 8 g2, eI qt kt 8 g3, eO qd 1 [.ref qr], eI qr kr 64 fr]) hP hD [(3, 2)] [(0, 3)] hCm hNw (by decide +kernel) hk1 hFc hP1 hD1 rfl
  have hK := KJ_s (tys' := [(kw, .int), (kt, .boolean), (kr, .int)]) hK hK1 [(0, 2)] rfl
  generalize H1 = H at hP hS ⊢
  refine lv_if_le (tgt := 47) hx hb dX5_leadsBack_35 (by decide) (fun c6 => ?_) (fun c6 => ?_)
  · skip
    have f_c6 := i_le c6
    refine lv_iconst (v := 0) hx hb dX5_leadsBack_47 (by decide) ?_
    refine lv_istore (lv' := [(5, .int 0), (0, .ref h0), (1, .int p0), (2, .int p1), (3, .int 4), (4, .int p3)]) hx hb dX5_leadsBack_48 hl (by decide) rfl (fun ls hl => ?_)
    have loop_50 : ∀ (n i_50 : Nat) (x_50 : Int32), i_50 ≤ 8 → 8 < i_50 + n → x_50 = nI i_50 → ∀ (gw : Nat → Int32), ∀ (gt : Nat → Int32), ∀ (gl : Int32), (∀ k : Nat, k < 5 → inr8 (gw k)) → ∀ (H : Heap) (locs : List Loc), va_K (dC, dI) vwCl [(kw, .int), (kt, .boolean), (kr, .int)] s → va_P (dC, dI) vwCl [eO h0 4 [.ref qd, .ref qw, .int gl, .ref qt], eI qw kw 8 gw, eI qt kt 8 gt, eO qd 1 [.ref qr], eI qr kr 64 fr] H → va_D A [eO h0 4 [.ref qd, .ref qw, .int gl, .ref qt], eI qw kw 8 gw, eI qt kt 8 gt, eO qd 1 [.ref qr], eI qr kr 64 fr] → va_S A s.heap H locs → ∀ (ls : Array Slot), lv_has ls 6 [(5, .int x_50), (0, .ref h0), (1, .int p0), (2, .int p1), (3, .int 4), (4, .int p3)] → W p l e ({ frames := 4, cells := 0, slots := 0, locals := 100 }) s m (([.ref h0, .int p0, .int p1, .int 4, .int p3] : List Value).toArray) below meth c H locs 0 0 Q9 (F0 m 50 ls []) := by
      intro n
      induction n with
      | zero => intro i_50 x_50 h1 h2; exact absurd h2 (by omega)
      | succ n ih_50 =>
        intro i_50 x_50 hi_50 hn_50 e_x_50 gw gt gl hwi H locs hK hP hD hS ls hl
        have t_x_50 : x_50.toInt = (i_50 : Int) := by rw [e_x_50]; exact nI_toInt (by omega)
        refine lv_iload hx hb dX5_leadsBack_50 (lv_at hl 0 rfl) ?_
        refine lv_iload hx hb dX5_leadsBack_52 (lv_at hl 5 rfl) ?_
        refine lv_icmp_ge (tgt := 103) hx hb dX5_leadsBack_54 (by decide) (fun c7 => ?_) (fun c7 => ?_)
        · skip
          have f_c7 := i_le c7
          refine lv_iconst (v := 0) hx hb dX5_leadsBack_103 (by decide) ?_
          rw [hQ9]
          exact W.zret (v := 0) hx hb hr (by decide) (fun t ht hW => ⟨⟨0, (gw, gl, gt), rfl, Or.inr ⟨rfl, fun k hk => hwi k (by omega)⟩, by rw [ht]; exact hP, va_K.moved hW.alike hK, hD⟩, hS.F ht⟩) hS.2.2 dX5_leadsBack_104
        · skip
          have f_c7 := i_nle c7
          refine lv_aload_n hx hb dX5_leadsBack_57 rfl (lv_at hl 1 rfl) ?_
          refine va_get (D := (dC, dI)) (ci := 4) (v := .ref qt) (C := RX5) (T := TX5) (N := 4) hx hb hts (fun w h => List.mem_cons_of_mem _ (inlX5 w h)) hown hK hP 0 rfl rfl 3 (by decide) (hts (.fieldLink RX5 15 "ClearingGates$Rings" "tried" "[Z") (List.mem_cons_of_mem _ mw_146)) (fun _ h9 => h9) rfl dX5_leadsBack_58 ?_
          refine lv_iload hx hb dX5_leadsBack_61 (lv_at hl 0 rfl) ?_
          refine va_zald (D := (dC, dI)) hx hb hK hP 2 1 rfl rfl (vp_in_iff.mpr ⟨by omega, by omega⟩) dX5_leadsBack_63 ?_
          refine lv_topi (fun z8 e_z8 => ?_)
          refine lv_if_ne (tgt := 97) hx hb dX5_leadsBack_64 (by decide) (fun c9 => ?_) (fun c9 => ?_)
          · skip
            have f_c9 := i_ne c9
            obtain ⟨x10, e_x10⟩ : ∃ yy : Int32, yy = x_50 + 1 := ⟨_, rfl⟩
            refine lv_iinc (v := x10) (lv' := [(5, .int x10), (0, .ref h0), (1, .int p0), (2, .int p1), (3, .int 4), (4, .int p3)]) hx hb dX5_leadsBack_97 hl (k := 0) rfl (by rw [e_x10]; rfl) (by decide) rfl (fun ls hl => ?_)
            have t_x10 := i_add e_x10 (by omega) (by omega)
            refine lv_goto (tgt := 50) hx hb dX5_leadsBack_100 (by decide) ?_
            exact ih_50 (i_50 + 1) x10 (by omega) (by omega) (by rw [e_x10, e_x_50]; exact nI_1 i_50) gw gt gl (fun k hk => hwi k (by omega)) _ _ (K_s hK [(0, 3)] rfl) (P_s hP [(0, 5)] rfl) (D_s hD [(0, 5)] 5 rfl (by decide +kernel) rfl) hS ls (lv_sub hl [0, 1, 2, 3, 4, 5] rfl)
          · skip
            have f_c9 := i_eq c9
            refine lv_aload_n hx hb dX5_leadsBack_67 rfl (lv_at hl 1 rfl) ?_
            refine va_get (D := (dC, dI)) (ci := 4) (v := .ref qd) (C := RX5) (T := TX5) (N := 4) hx hb hts (fun w h => List.mem_cons_of_mem _ (inlX5 w h)) hown hK hP 0 rfl rfl 0 (by decide) (hts (.fieldLink RX5 19 "ClearingGates$Rings" "debts" "LClearingGates$Debts;") (List.mem_cons_of_mem _ mw_143)) (fun _ h9 => h9) rfl dX5_leadsBack_68 ?_
            refine lv_iload_n hx hb dX5_leadsBack_71 rfl (lv_at hl 2 rfl) ?_
            refine lv_iload hx hb dX5_leadsBack_72 (lv_at hl 0 rfl) ?_
            obtain ⟨hPc, hDc, hFc, hCm, hNw⟩ := C_s (wc := [eO qd 1 [.ref qr], eI qr kr 64 fr]) hP hD hS hA [(3, 2)] 5 rfl (by decide +kernel) rfl
            have hKc := K_s (tys' := [(kr, .int)]) hK [(2, 1)] rfl
            refine va_calli (va_runV (As := [.int p0, .int x_50]) (rest := []) ⟨hx, hb, hml, hown, hts⟩ (c_X1_between l dC dI qd p0 x_50 qr kr fr H.size h1 h2 (by first | assumption | omega) (by first | assumption | omega)) (cwV 2 hts gX5_leadsBack_X1_between rfl rfl rfl (by decide +kernel) ⟨Nat.le_of_ble_eq_true rfl, Nat.le_of_ble_eq_true rfl⟩) ⟨fun a U g mk q => by obtain ⟨q0, q1, qP, qK, qD⟩ := q; exact ⟨q0, q1, qP, va_K.moved (u := U) (U := U.calling g mk a) (Vm.Alike.refl U.vm) qK, qD⟩, va_recv (s := s) (q := (RX1, TX1, 1)) hKc hPc (ci := 1) (q0 := 0) rfl rfl, fun U hU hW => ⟨rfl, by rw [hU], by rw [hU]; exact hPc, va_K.moved hW.alike hKc, hDc.weaken (fun _ _ _ _ => trivial)⟩⟩ rfl rfl hl.1 rfl (lv_room (Nat.le_of_ble_eq_true rfl)) dX5_leadsBack_74 ⟨Nat.le_of_ble_eq_true rfl, Nat.le_of_ble_eq_true rfl⟩) hS (fun q _ h => hFc q h) hFc (fun r11 u t H1 locs ht hvm hw hB hz1 hk1 hS => ?_)
            obtain ⟨hP1, hK1, hD1⟩ := hB
            rw [ht] at hP1
            have hK1 := va_K.moved hvm.symm hK1
            try dsimp only at hw
            obtain ⟨hP, hD⟩ := J_s (wL := [eO h0 4 [.ref qd, .ref qw, .int gl, .ref qt], eI qw kw 8 gw, eI qt kt 8 gt, eO qd 1 [.ref qr], eI qr kr 64 fr]) hP hD [(3, 2)] [(0, 3)] hCm hNw (by decide +kernel) hk1 hFc hP1 hD1 rfl
            have hK := KJ_s (tys' := [(kw, .int), (kt, .boolean), (kr, .int)]) hK hK1 [(0, 2)] rfl
            generalize H1 = H at hP hS ⊢
            refine lv_if_le (tgt := 97) hx hb dX5_leadsBack_77 (by decide) (fun c12 => ?_) (fun c12 => ?_)
            · skip
              have f_c12 := i_le c12
              obtain ⟨x13, e_x13⟩ : ∃ yy : Int32, yy = x_50 + 1 := ⟨_, rfl⟩
              refine lv_iinc (v := x13) (lv' := [(5, .int x13), (0, .ref h0), (1, .int p0), (2, .int p1), (3, .int 4), (4, .int p3)]) hx hb dX5_leadsBack_97 hl (k := 0) rfl (by rw [e_x13]; rfl) (by decide) rfl (fun ls hl => ?_)
              have t_x13 := i_add e_x13 (by omega) (by omega)
              refine lv_goto (tgt := 50) hx hb dX5_leadsBack_100 (by decide) ?_
              exact ih_50 (i_50 + 1) x13 (by omega) (by omega) (by rw [e_x13, e_x_50]; exact nI_1 i_50) gw gt gl (fun k hk => hwi k (by omega)) _ _ (K_s hK [(0, 3)] rfl) (P_s hP [(0, 5)] rfl) (D_s hD [(0, 5)] 5 rfl (by decide +kernel) rfl) hS ls (lv_sub hl [0, 1, 2, 3, 4, 5] rfl)
            · skip
              have f_c12 := i_nle c12
              refine lv_aload_n hx hb dX5_leadsBack_80 rfl (lv_at hl 1 rfl) ?_
              refine lv_iload hx hb dX5_leadsBack_81 (lv_at hl 0 rfl) ?_
              refine lv_iload_n hx hb dX5_leadsBack_83 rfl (lv_at hl 3 rfl) ?_
              refine lv_iload_n hx hb dX5_leadsBack_84 rfl (lv_at hl 4 rfl) ?_
              refine lv_iconst (v := 1) hx hb dX5_leadsBack_85 (by decide) ?_
              refine lv_iadd hx hb dX5_leadsBack_86 ?_
              refine lv_topi (fun z14 e_z14 => ?_)
              have e_z14 : z14 = 5 := e_z14.trans (by first | rfl | decide)
              subst e_z14
              refine lv_iload hx hb dX5_leadsBack_87 (lv_at hl 5 rfl) ?_
              obtain ⟨hPc, hDc, hFc, hCm, hNw⟩ := C_s (wc := [eO h0 4 [.ref qd, .ref qw, .int gl, .ref qt], eI qw kw 8 gw, eI qt kt 8 gt, eO qd 1 [.ref qr], eI qr kr 64 fr]) hP hD hS hA [(0, 5)] 5 rfl (by decide +kernel) rfl
              have hKc := K_s (tys' := [(kw, .int), (kt, .boolean), (kr, .int)]) hK [(0, 3)] rfl
              refine va_calli (va_runV (As := [.int x_50, .int p1, .int 5, .int p3]) (rest := []) ⟨hx, hb, hml, hown, hts⟩ (c_X5_leadsBack_d5 l dC dI h0 x_50 p1 p3 qd qw gl qt kw gw kt gt qr kr fr H.size (by first | assumption | omega) (by first | assumption | omega) h3 h4 h5 h6 hwi) (cwV 4 hts gX5_leadsBack_X5_leadsBack rfl rfl rfl (by decide +kernel) ⟨Nat.le_of_ble_eq_true rfl, Nat.le_of_ble_eq_true rfl⟩) ⟨fun a U g mk q => by obtain ⟨q0, q1, qP, qK, qD⟩ := q; exact ⟨q0, q1, qP, va_K.moved (u := U) (U := U.calling g mk a) (Vm.Alike.refl U.vm) qK, qD⟩, va_recv (s := s) (q := (RX5, TX5, 4)) hKc hPc (ci := 4) (q0 := 0) rfl rfl, fun U hU hW => ⟨rfl, by rw [hU], by rw [hU]; exact hPc, va_K.moved hW.alike hKc, hDc.weaken (fun _ _ _ _ => trivial)⟩⟩ rfl rfl hl.1 rfl (lv_room (Nat.le_of_ble_eq_true rfl)) dX5_leadsBack_89 ⟨Nat.le_of_ble_eq_true rfl, Nat.le_of_ble_eq_true rfl⟩) hS (fun q _ h => hFc q h) hFc (fun r15 u t H1 locs ht hvm hw hB hz1 hk1 hS => ?_)
              obtain ⟨u16, u17, u18⟩ := u
              obtain ⟨hP1, hK1, hD1⟩ := hB
              rw [ht] at hP1
              have hK1 := va_K.moved hvm.symm hK1
              try dsimp only at hw
              obtain ⟨hP, hD⟩ := J_s (wL := [eO h0 4 [.ref qd, .ref qw, .int u17, .ref qt], eI qw kw 8 u16, eI qt kt 8 u18, eO qd 1 [.ref qr], eI qr kr 64 fr]) hP hD [(0, 5)] [] hCm hNw (by decide +kernel) hk1 hFc hP1 hD1 rfl
              have hK := KJ_s (tys' := [(kw, .int), (kt, .boolean), (kr, .int)]) hK hK1 [] rfl
              generalize H1 = H at hP hS ⊢
              rcases hw with ⟨e_r15, f_r15⟩ | ⟨e_r15, f_r15⟩
              · subst e_r15
                refine lv_if_eq (tgt := 97) hx hb dX5_leadsBack_92 (by decide) (fun c19 => absurd c19 (by decide)) (fun c19 => ?_)
                refine lv_iconst (v := 1) hx hb dX5_leadsBack_95 (by decide) ?_
                rw [hQ9]
                exact W.zret (v := 1) hx hb hr (by decide) (fun t ht hW => ⟨⟨1, (u16, u17, u18), rfl, Or.inl ⟨rfl, f_r15⟩, by rw [ht]; exact hP, va_K.moved hW.alike hK, hD⟩, hS.F ht⟩) hS.2.2 dX5_leadsBack_96
              · subst e_r15
                refine lv_if_eq (tgt := 97) hx hb dX5_leadsBack_92 (by decide) (fun c20 => ?_) (fun c20 => absurd (by decide) c20)
                obtain ⟨x21, e_x21⟩ : ∃ yy : Int32, yy = x_50 + 1 := ⟨_, rfl⟩
                refine lv_iinc (v := x21) (lv' := [(5, .int x21), (0, .ref h0), (1, .int p0), (2, .int p1), (3, .int 4), (4, .int p3)]) hx hb dX5_leadsBack_97 hl (k := 0) rfl (by rw [e_x21]; rfl) (by decide) rfl (fun ls hl => ?_)
                have t_x21 := i_add e_x21 (by omega) (by omega)
                refine lv_goto (tgt := 50) hx hb dX5_leadsBack_100 (by decide) ?_
                exact ih_50 (i_50 + 1) x21 (by omega) (by omega) (by rw [e_x21, e_x_50]; exact nI_1 i_50) u16 u18 u17 (fun k hk => f_r15 k (by omega)) _ _ (K_s hK [(0, 3)] rfl) (P_s hP [(0, 5)] rfl) (D_s hD [(0, 5)] 5 rfl (by decide +kernel) rfl) hS ls (lv_sub hl [0, 1, 2, 3, 4, 5] rfl)
    exact loop_50 (8 + 1) 0 0 (by omega) (by omega) rfl g2 g3 wl hwd _ _ hK hP hD hS ls hl
  · skip
    have f_c6 := i_nle c6
    refine lv_aload_n hx hb dX5_leadsBack_38 rfl (lv_at hl 0 rfl) ?_
    refine lv_iload_n hx hb dX5_leadsBack_39 rfl (lv_at hl 3 rfl) ?_
    refine lv_iconst (v := 1) hx hb dX5_leadsBack_40 (by decide) ?_
    refine lv_iadd hx hb dX5_leadsBack_41 ?_
    refine lv_topi (fun z22 e_z22 => ?_)
    have e_z22 : z22 = 5 := e_z22.trans (by first | rfl | decide)
    subst e_z22
    refine va_put (D := (dC, dI)) (ci := 4) (v := .int 5) (ty := .int) (C := RX5) (T := TX5) (N := 4) hx hb hts (fun w h => List.mem_cons_of_mem _ (inlX5 w h)) tyX5 tyX5_ok nmX5 hown hK hP hD hS 0 rfl rfl 2 (by decide) (hts (.fieldLink RX5 40 "ClearingGates$Rings" "wayLength" "I") (List.mem_cons_of_mem _ mw_145)) (fun _ h9 => h9) rfl (by decide +kernel) rfl rfl (Nat.le_of_ble_eq_true rfl) dX5_leadsBack_42 (fun H locs hP hD hS => ?_)
    obtain ⟨hP, hD⟩ := X_s (ws' := [eO h0 4 [.ref qd, .ref qw, .int 5, .ref qt], eI qw kw 8 g2, eI qt kt 8 g3, eO qd 1 [.ref qr], eI qr kr 64 fr]) hP hD rfl
    refine lv_iconst (v := 1) hx hb dX5_leadsBack_45 (by decide) ?_
    rw [hQ9]
    exact W.zret (v := 1) hx hb hr (by decide) (fun t ht hW => ⟨⟨1, (g2, 5, g3), rfl, Or.inl ⟨rfl, by omega, by omega, fun k hk => hwd k (by omega)⟩, by rw [ht]; exact hP, va_K.moved hW.alike hK, hD⟩, hS.F ht⟩) hS.2.2 dX5_leadsBack_46

set_option maxRecDepth 100000 in
set_option maxHeartbeats 4000000 in
/-- Rings.leadsBack at depth 3 -/
theorem c_X5_leadsBack_d3 (l : Launch) (dC : Nat → ClassId) (dI : Nat → Nat → Nat) (h0 : Nat) (p0 : Int32) (p1 : Int32) (p3 : Int32) (qd : Nat) (qw : Nat) (wl : Int32) (qt : Nat) (kw : ClassId) (fw : Nat → Int32) (kt : ClassId) (ft : Nat → Int32) (qr : Nat) (kr : ClassId) (fr : Nat → Int32) (sz : Nat) (h1 : 0 ≤ p0.toInt) (h2 : p0.toInt < 8) (h3 : 0 ≤ p1.toInt) (h4 : p1.toInt < 8) (h5 : 0 ≤ p3.toInt) (h6 : p3.toInt ≤ 8) (hw0 : ∀ k : Nat, k < 3 → inr8 (fw k)) : Met l yX5_leadsBack wsX5_leadsBack ({ frames := 5, cells := 0, slots := 0, locals := 125 }) (va_Pc [.ref h0, .int p0, .int p1, .int 3, .int p3] (fun U => U.heap.size = sz ∧ va_P (dC, dI) vwCl [eO h0 4 [.ref qd, .ref qw, .int wl, .ref qt], eI qw kw 8 fw, eI qt kt 8 ft, eO qd 1 [.ref qr], eI qr kr 64 fr] U.heap ∧ va_K (dC, dI) vwCl [(kw, .int), (kt, .boolean), (kr, .int)] U ∧ va_D (fun _ => True) [eO h0 4 [.ref qd, .ref qw, .int wl, .ref qt], eI qw kw 8 fw, eI qt kt 8 ft, eO qd 1 [.ref qr], eI qr kr 64 fr])) (va_Qi (fun (r : Int32) (u : (Nat → Int32) × Int32 × (Nat → Int32)) => match u with | (fw2, wl2, ft2) => (r = 1 ∧ 0 < wl2.toInt ∧ wl2.toInt ≤ 8 ∧ ∀ k : Nat, (k : Int) < wl2.toInt → inr8 (fw2 k)) ∨ (r = 0 ∧ ∀ k : Nat, k < 3 → inr8 (fw2 k))) (fun (u : (Nat → Int32) × Int32 × (Nat → Int32)) (t : State) => match u with | (fw2, wl2, ft2) => va_P (dC, dI) vwCl [eO h0 4 [.ref qd, .ref qw, .int wl2, .ref qt], eI qw kw 8 fw2, eI qt kt 8 ft2, eO qd 1 [.ref qr], eI qr kr 64 fr] t.heap ∧ va_K (dC, dI) vwCl [(kw, .int), (kt, .boolean), (kr, .int)] t ∧ va_D (va_A [eO h0 4 [.ref qd, .ref qw, .int wl, .ref qt], eI qw kw 8 fw, eI qt kt 8 ft, eO qd 1 [.ref qr], eI qr kr 64 fr] sz) [eO h0 4 [.ref qd, .ref qw, .int wl2, .ref qt], eI qw kw 8 fw2, eI qt kt 8 ft2, eO qd 1 [.ref qr], eI qr kr 64 fr]) (va_A [eO h0 4 [.ref qd, .ref qw, .int wl, .ref qt], eI qw kw 8 fw, eI qt kt 8 ft, eO qd 1 [.ref qr], eI qr kr 64 fr] sz)) 0 0 (va_A [eO h0 4 [.ref qd, .ref qw, .int wl, .ref qt], eI qw kw 8 fw, eI qt kt 8 ft, eO qd 1 [.ref qr], eI qr kr 64 fr] sz) := by
  refine Met.ofW (cc := cX5_leadsBack) (maxL := 6) (ret := (some .boolean)) (by decide) rfl ?_
  intro p e s m args below meth c s₁ B hml hv
  obtain ⟨rfl, hsz, hP, hK, hD0⟩ := hv
  have hx := B.exec
  have hb := B.bytes
  have hr := B.returns
  have hts := atoms_spec (ws := wsX5_leadsBack) B.pre
  have hown : s.vm.findClass RX5 = some m.cls := findClass_of_methodNamed B.named
  have hlocks := B.notSynchronized
  subst hsz
  have hD := hD0.self (sz := s.heap.size)
  generalize hAe : va_A [eO h0 4 [.ref qd, .ref qw, .int wl, .ref qt], eI qw kw 8 fw, eI qt kt 8 ft, eO qd 1 [.ref qr], eI qr kr 64 fr] s.heap.size = A at hD ⊢
  have hA : ∀ q : Nat, s.heap.size ≤ q → A q := fun q h => by rw [← hAe]; exact Or.inr h
  have hS : va_S A s.heap s.heap [] := va_S.rf
  have hP : va_P (dC, dI) vwCl [eO h0 4 [.ref qd, .ref qw, .int wl, .ref qt], eI qw kw 8 fw, eI qt kt 8 ft, eO qd 1 [.ref qr], eI qr kr 64 fr] s.heap := hP
  have hl := lv_entry ([.ref h0, .int p0, .int p1, .int 3, .int p3]) (n := 6) (Nat.le_of_ble_eq_true rfl)
  rw [lg_entry_eq]
  generalize (lg_sl ([.ref h0, .int p0, .int p1, .int 3, .int p3]) ++ List.replicate (6 - (lg_sl ([.ref h0, .int p0, .int p1, .int 3, .int p3])).length) Slot.unset).toArray = ls at hl ⊢
  have hl : lv_has ls 6 [(0, .ref h0), (1, .int p0), (2, .int p1), (3, .int 3), (4, .int p3)] := hl
  suffices key9 : ∀ Q9 : State → Prop, Q9 = (MQ below (va_Qi (fun (r : Int32) (u : (Nat → Int32) × Int32 × (Nat → Int32)) => match u with | (fw2, wl2, ft2) => (r = 1 ∧ 0 < wl2.toInt ∧ wl2.toInt ≤ 8 ∧ ∀ k : Nat, (k : Int) < wl2.toInt → inr8 (fw2 k)) ∨ (r = 0 ∧ ∀ k : Nat, k < 3 → inr8 (fw2 k))) (fun (u : (Nat → Int32) × Int32 × (Nat → Int32)) (t : State) => match u with | (fw2, wl2, ft2) => va_P (dC, dI) vwCl [eO h0 4 [.ref qd, .ref qw, .int wl2, .ref qt], eI qw kw 8 fw2, eI qt kt 8 ft2, eO qd 1 [.ref qr], eI qr kr 64 fr] t.heap ∧ va_K (dC, dI) vwCl [(kw, .int), (kt, .boolean), (kr, .int)] t ∧ va_D A [eO h0 4 [.ref qd, .ref qw, .int wl2, .ref qt], eI qw kw 8 fw2, eI qt kt 8 ft2, eO qd 1 [.ref qr], eI qr kr 64 fr]) A) (([.ref h0, .int p0, .int p1, .int 3, .int p3] : List Value).toArray) s 0 0 A) → W p l e ({ frames := 5, cells := 0, slots := 0, locals := 125 }) s m (([.ref h0, .int p0, .int p1, .int 3, .int p3] : List Value).toArray) below meth c s.heap [] 0 0 Q9 (F0 m 0 ls []) from key9 _ rfl
  intro Q9 hQ9
  have k_0 : (0 : Int32).toInt = 0 := by decide
  have k_1 : (1 : Int32).toInt = 1 := by decide
  have k_3 : (3 : Int32).toInt = 3 := by decide
  have k_4 : (4 : Int32).toInt = 4 := by decide
  refine lv_iload_n hx hb dX5_leadsBack_0 rfl (lv_at hl 3 rfl) ?_
  refine lv_bipush (v := 8) hx hb dX5_leadsBack_1 (by decide) ?_
  refine lv_icmp_lt (tgt := 8) hx hb dX5_leadsBack_3 (by decide) (fun c1 => ?_) (fun c1 => absurd (by decide) c1)
  refine lv_aload_n hx hb dX5_leadsBack_8 rfl (lv_at hl 0 rfl) ?_
  refine va_get (D := (dC, dI)) (ci := 4) (v := .ref qw) (C := RX5) (T := TX5) (N := 4) hx hb hts (fun w h => List.mem_cons_of_mem _ (inlX5 w h)) hown hK hP 0 rfl rfl 1 (by decide) (hts (.fieldLink RX5 9 "ClearingGates$Rings" "way" "[I") (List.mem_cons_of_mem _ mw_144)) (fun _ h9 => h9) rfl dX5_leadsBack_9 ?_
  refine lv_iload_n hx hb dX5_leadsBack_12 rfl (lv_at hl 3 rfl) ?_
  refine lv_iload_n hx hb dX5_leadsBack_13 rfl (lv_at hl 1 rfl) ?_
  refine va_iast (D := (dC, dI)) hx hb hK hP hD hS 1 0 rfl rfl (vp_in_iff.mpr ⟨by decide, by decide⟩) dX5_leadsBack_14 (fun H locs hP hD hS => ?_)
  generalize e_g2 : (upd fw ((3 : Int32)).toNatClampNeg p0) = g2 at hP hD
  obtain ⟨hP, hD⟩ := X_s (ws' := [eO h0 4 [.ref qd, .ref qw, .int wl, .ref qt], eI qw kw 8 g2, eI qt kt 8 ft, eO qd 1 [.ref qr], eI qr kr 64 fr]) hP hD rfl
  have hwd : ∀ k : Nat, k < 4 → inr8 (g2 k) := by rw [← e_g2]; exact up_in rfl ⟨by omega, by omega⟩ hw0
  refine lv_aload_n hx hb dX5_leadsBack_15 rfl (lv_at hl 0 rfl) ?_
  refine va_get (D := (dC, dI)) (ci := 4) (v := .ref qt) (C := RX5) (T := TX5) (N := 4) hx hb hts (fun w h => List.mem_cons_of_mem _ (inlX5 w h)) hown hK hP 0 rfl rfl 3 (by decide) (hts (.fieldLink RX5 15 "ClearingGates$Rings" "tried" "[Z") (List.mem_cons_of_mem _ mw_146)) (fun _ h9 => h9) rfl dX5_leadsBack_16 ?_
  refine lv_iload_n hx hb dX5_leadsBack_19 rfl (lv_at hl 1 rfl) ?_
  refine lv_iconst (v := 1) hx hb dX5_leadsBack_20 (by decide) ?_
  refine va_zast (D := (dC, dI)) hx hb hK hP hD hS 2 1 rfl rfl (vp_in_iff.mpr ⟨by omega, by omega⟩) dX5_leadsBack_21 (fun H locs hP hD hS => ?_)
  generalize e_g3 : (upd ft (p0).toNatClampNeg (vp_nar .boolean 1)) = g3 at hP hD
  obtain ⟨hP, hD⟩ := X_s (ws' := [eO h0 4 [.ref qd, .ref qw, .int wl, .ref qt], eI qw kw 8 g2, eI qt kt 8 g3, eO qd 1 [.ref qr], eI qr kr 64 fr]) hP hD rfl
  refine lv_iload_n hx hb dX5_leadsBack_22 rfl (lv_at hl 3 rfl) ?_
  refine lv_if_le (tgt := 47) hx hb dX5_leadsBack_23 (by decide) (fun c4 => absurd c4 (by decide)) (fun c4 => ?_)
  refine lv_aload_n hx hb dX5_leadsBack_26 rfl (lv_at hl 0 rfl) ?_
  refine va_get (D := (dC, dI)) (ci := 4) (v := .ref qd) (C := RX5) (T := TX5) (N := 4) hx hb hts (fun w h => List.mem_cons_of_mem _ (inlX5 w h)) hown hK hP 0 rfl rfl 0 (by decide) (hts (.fieldLink RX5 19 "ClearingGates$Rings" "debts" "LClearingGates$Debts;") (List.mem_cons_of_mem _ mw_143)) (fun _ h9 => h9) rfl dX5_leadsBack_27 ?_
  refine lv_iload_n hx hb dX5_leadsBack_30 rfl (lv_at hl 1 rfl) ?_
  refine lv_iload_n hx hb dX5_leadsBack_31 rfl (lv_at hl 2 rfl) ?_
  obtain ⟨hPc, hDc, hFc, hCm, hNw⟩ := C_s (wc := [eO qd 1 [.ref qr], eI qr kr 64 fr]) hP hD hS hA [(3, 2)] 5 rfl (by decide +kernel) rfl
  have hKc := K_s (tys' := [(kr, .int)]) hK [(2, 1)] rfl
  refine va_calli (va_runV (As := [.int p0, .int p1]) (rest := []) ⟨hx, hb, hml, hown, hts⟩ (c_X1_between l dC dI qd p0 p1 qr kr fr H.size h1 h2 h3 h4) (cwV 2 hts gX5_leadsBack_X1_between rfl rfl rfl (by decide +kernel) ⟨Nat.le_of_ble_eq_true rfl, Nat.le_of_ble_eq_true rfl⟩) ⟨fun a U g mk q => by obtain ⟨q0, q1, qP, qK, qD⟩ := q; exact ⟨q0, q1, qP, va_K.moved (u := U) (U := U.calling g mk a) (Vm.Alike.refl U.vm) qK, qD⟩, va_recv (s := s) (q := (RX1, TX1, 1)) hKc hPc (ci := 1) (q0 := 0) rfl rfl, fun U hU hW => ⟨rfl, by rw [hU], by rw [hU]; exact hPc, va_K.moved hW.alike hKc, hDc.weaken (fun _ _ _ _ => trivial)⟩⟩ rfl rfl hl.1 rfl (lv_room (Nat.le_of_ble_eq_true rfl)) dX5_leadsBack_32 ⟨Nat.le_of_ble_eq_true rfl, Nat.le_of_ble_eq_true rfl⟩) hS (fun q _ h => hFc q h) hFc (fun r5 u t H1 locs ht hvm hw hB hz1 hk1 hS => ?_)
  obtain ⟨hP1, hK1, hD1⟩ := hB
  rw [ht] at hP1
  have hK1 := va_K.moved hvm.symm hK1
  try dsimp only at hw
  obtain ⟨hP, hD⟩ := J_s (wL := [eO h0 4 [.ref qd, .ref qw, .int wl, .ref qt], eI qw kw 8 g2, eI qt kt 8 g3, eO qd 1 [.ref qr], eI qr kr 64 fr]) hP hD [(3, 2)] [(0, 3)] hCm hNw (by decide +kernel) hk1 hFc hP1 hD1 rfl
  have hK := KJ_s (tys' := [(kw, .int), (kt, .boolean), (kr, .int)]) hK hK1 [(0, 2)] rfl
  generalize H1 = H at hP hS ⊢
  refine lv_if_le (tgt := 47) hx hb dX5_leadsBack_35 (by decide) (fun c6 => ?_) (fun c6 => ?_)
  · skip
    have f_c6 := i_le c6
    refine lv_iconst (v := 0) hx hb dX5_leadsBack_47 (by decide) ?_
    refine lv_istore (lv' := [(5, .int 0), (0, .ref h0), (1, .int p0), (2, .int p1), (3, .int 3), (4, .int p3)]) hx hb dX5_leadsBack_48 hl (by decide) rfl (fun ls hl => ?_)
    have loop_50 : ∀ (n i_50 : Nat) (x_50 : Int32), i_50 ≤ 8 → 8 < i_50 + n → x_50 = nI i_50 → ∀ (gw : Nat → Int32), ∀ (gt : Nat → Int32), ∀ (gl : Int32), (∀ k : Nat, k < 4 → inr8 (gw k)) → ∀ (H : Heap) (locs : List Loc), va_K (dC, dI) vwCl [(kw, .int), (kt, .boolean), (kr, .int)] s → va_P (dC, dI) vwCl [eO h0 4 [.ref qd, .ref qw, .int gl, .ref qt], eI qw kw 8 gw, eI qt kt 8 gt, eO qd 1 [.ref qr], eI qr kr 64 fr] H → va_D A [eO h0 4 [.ref qd, .ref qw, .int gl, .ref qt], eI qw kw 8 gw, eI qt kt 8 gt, eO qd 1 [.ref qr], eI qr kr 64 fr] → va_S A s.heap H locs → ∀ (ls : Array Slot), lv_has ls 6 [(5, .int x_50), (0, .ref h0), (1, .int p0), (2, .int p1), (3, .int 3), (4, .int p3)] → W p l e ({ frames := 5, cells := 0, slots := 0, locals := 125 }) s m (([.ref h0, .int p0, .int p1, .int 3, .int p3] : List Value).toArray) below meth c H locs 0 0 Q9 (F0 m 50 ls []) := by
      intro n
      induction n with
      | zero => intro i_50 x_50 h1 h2; exact absurd h2 (by omega)
      | succ n ih_50 =>
        intro i_50 x_50 hi_50 hn_50 e_x_50 gw gt gl hwi H locs hK hP hD hS ls hl
        have t_x_50 : x_50.toInt = (i_50 : Int) := by rw [e_x_50]; exact nI_toInt (by omega)
        refine lv_iload hx hb dX5_leadsBack_50 (lv_at hl 0 rfl) ?_
        refine lv_iload hx hb dX5_leadsBack_52 (lv_at hl 5 rfl) ?_
        refine lv_icmp_ge (tgt := 103) hx hb dX5_leadsBack_54 (by decide) (fun c7 => ?_) (fun c7 => ?_)
        · skip
          have f_c7 := i_le c7
          refine lv_iconst (v := 0) hx hb dX5_leadsBack_103 (by decide) ?_
          rw [hQ9]
          exact W.zret (v := 0) hx hb hr (by decide) (fun t ht hW => ⟨⟨0, (gw, gl, gt), rfl, Or.inr ⟨rfl, fun k hk => hwi k (by omega)⟩, by rw [ht]; exact hP, va_K.moved hW.alike hK, hD⟩, hS.F ht⟩) hS.2.2 dX5_leadsBack_104
        · skip
          have f_c7 := i_nle c7
          refine lv_aload_n hx hb dX5_leadsBack_57 rfl (lv_at hl 1 rfl) ?_
          refine va_get (D := (dC, dI)) (ci := 4) (v := .ref qt) (C := RX5) (T := TX5) (N := 4) hx hb hts (fun w h => List.mem_cons_of_mem _ (inlX5 w h)) hown hK hP 0 rfl rfl 3 (by decide) (hts (.fieldLink RX5 15 "ClearingGates$Rings" "tried" "[Z") (List.mem_cons_of_mem _ mw_146)) (fun _ h9 => h9) rfl dX5_leadsBack_58 ?_
          refine lv_iload hx hb dX5_leadsBack_61 (lv_at hl 0 rfl) ?_
          refine va_zald (D := (dC, dI)) hx hb hK hP 2 1 rfl rfl (vp_in_iff.mpr ⟨by omega, by omega⟩) dX5_leadsBack_63 ?_
          refine lv_topi (fun z8 e_z8 => ?_)
          refine lv_if_ne (tgt := 97) hx hb dX5_leadsBack_64 (by decide) (fun c9 => ?_) (fun c9 => ?_)
          · skip
            have f_c9 := i_ne c9
            obtain ⟨x10, e_x10⟩ : ∃ yy : Int32, yy = x_50 + 1 := ⟨_, rfl⟩
            refine lv_iinc (v := x10) (lv' := [(5, .int x10), (0, .ref h0), (1, .int p0), (2, .int p1), (3, .int 3), (4, .int p3)]) hx hb dX5_leadsBack_97 hl (k := 0) rfl (by rw [e_x10]; rfl) (by decide) rfl (fun ls hl => ?_)
            have t_x10 := i_add e_x10 (by omega) (by omega)
            refine lv_goto (tgt := 50) hx hb dX5_leadsBack_100 (by decide) ?_
            exact ih_50 (i_50 + 1) x10 (by omega) (by omega) (by rw [e_x10, e_x_50]; exact nI_1 i_50) gw gt gl (fun k hk => hwi k (by omega)) _ _ (K_s hK [(0, 3)] rfl) (P_s hP [(0, 5)] rfl) (D_s hD [(0, 5)] 5 rfl (by decide +kernel) rfl) hS ls (lv_sub hl [0, 1, 2, 3, 4, 5] rfl)
          · skip
            have f_c9 := i_eq c9
            refine lv_aload_n hx hb dX5_leadsBack_67 rfl (lv_at hl 1 rfl) ?_
            refine va_get (D := (dC, dI)) (ci := 4) (v := .ref qd) (C := RX5) (T := TX5) (N := 4) hx hb hts (fun w h => List.mem_cons_of_mem _ (inlX5 w h)) hown hK hP 0 rfl rfl 0 (by decide) (hts (.fieldLink RX5 19 "ClearingGates$Rings" "debts" "LClearingGates$Debts;") (List.mem_cons_of_mem _ mw_143)) (fun _ h9 => h9) rfl dX5_leadsBack_68 ?_
            refine lv_iload_n hx hb dX5_leadsBack_71 rfl (lv_at hl 2 rfl) ?_
            refine lv_iload hx hb dX5_leadsBack_72 (lv_at hl 0 rfl) ?_
            obtain ⟨hPc, hDc, hFc, hCm, hNw⟩ := C_s (wc := [eO qd 1 [.ref qr], eI qr kr 64 fr]) hP hD hS hA [(3, 2)] 5 rfl (by decide +kernel) rfl
            have hKc := K_s (tys' := [(kr, .int)]) hK [(2, 1)] rfl
            refine va_calli (va_runV (As := [.int p0, .int x_50]) (rest := []) ⟨hx, hb, hml, hown, hts⟩ (c_X1_between l dC dI qd p0 x_50 qr kr fr H.size h1 h2 (by first | assumption | omega) (by first | assumption | omega)) (cwV 2 hts gX5_leadsBack_X1_between rfl rfl rfl (by decide +kernel) ⟨Nat.le_of_ble_eq_true rfl, Nat.le_of_ble_eq_true rfl⟩) ⟨fun a U g mk q => by obtain ⟨q0, q1, qP, qK, qD⟩ := q; exact ⟨q0, q1, qP, va_K.moved (u := U) (U := U.calling g mk a) (Vm.Alike.refl U.vm) qK, qD⟩, va_recv (s := s) (q := (RX1, TX1, 1)) hKc hPc (ci := 1) (q0 := 0) rfl rfl, fun U hU hW => ⟨rfl, by rw [hU], by rw [hU]; exact hPc, va_K.moved hW.alike hKc, hDc.weaken (fun _ _ _ _ => trivial)⟩⟩ rfl rfl hl.1 rfl (lv_room (Nat.le_of_ble_eq_true rfl)) dX5_leadsBack_74 ⟨Nat.le_of_ble_eq_true rfl, Nat.le_of_ble_eq_true rfl⟩) hS (fun q _ h => hFc q h) hFc (fun r11 u t H1 locs ht hvm hw hB hz1 hk1 hS => ?_)
            obtain ⟨hP1, hK1, hD1⟩ := hB
            rw [ht] at hP1
            have hK1 := va_K.moved hvm.symm hK1
            try dsimp only at hw
            obtain ⟨hP, hD⟩ := J_s (wL := [eO h0 4 [.ref qd, .ref qw, .int gl, .ref qt], eI qw kw 8 gw, eI qt kt 8 gt, eO qd 1 [.ref qr], eI qr kr 64 fr]) hP hD [(3, 2)] [(0, 3)] hCm hNw (by decide +kernel) hk1 hFc hP1 hD1 rfl
            have hK := KJ_s (tys' := [(kw, .int), (kt, .boolean), (kr, .int)]) hK hK1 [(0, 2)] rfl
            generalize H1 = H at hP hS ⊢
            refine lv_if_le (tgt := 97) hx hb dX5_leadsBack_77 (by decide) (fun c12 => ?_) (fun c12 => ?_)
            · skip
              have f_c12 := i_le c12
              obtain ⟨x13, e_x13⟩ : ∃ yy : Int32, yy = x_50 + 1 := ⟨_, rfl⟩
              refine lv_iinc (v := x13) (lv' := [(5, .int x13), (0, .ref h0), (1, .int p0), (2, .int p1), (3, .int 3), (4, .int p3)]) hx hb dX5_leadsBack_97 hl (k := 0) rfl (by rw [e_x13]; rfl) (by decide) rfl (fun ls hl => ?_)
              have t_x13 := i_add e_x13 (by omega) (by omega)
              refine lv_goto (tgt := 50) hx hb dX5_leadsBack_100 (by decide) ?_
              exact ih_50 (i_50 + 1) x13 (by omega) (by omega) (by rw [e_x13, e_x_50]; exact nI_1 i_50) gw gt gl (fun k hk => hwi k (by omega)) _ _ (K_s hK [(0, 3)] rfl) (P_s hP [(0, 5)] rfl) (D_s hD [(0, 5)] 5 rfl (by decide +kernel) rfl) hS ls (lv_sub hl [0, 1, 2, 3, 4, 5] rfl)
            · skip
              have f_c12 := i_nle c12
              refine lv_aload_n hx hb dX5_leadsBack_80 rfl (lv_at hl 1 rfl) ?_
              refine lv_iload hx hb dX5_leadsBack_81 (lv_at hl 0 rfl) ?_
              refine lv_iload_n hx hb dX5_leadsBack_83 rfl (lv_at hl 3 rfl) ?_
              refine lv_iload_n hx hb dX5_leadsBack_84 rfl (lv_at hl 4 rfl) ?_
              refine lv_iconst (v := 1) hx hb dX5_leadsBack_85 (by decide) ?_
              refine lv_iadd hx hb dX5_leadsBack_86 ?_
              refine lv_topi (fun z14 e_z14 => ?_)
              have e_z14 : z14 = 4 := e_z14.trans (by first | rfl | decide)
              subst e_z14
              refine lv_iload hx hb dX5_leadsBack_87 (lv_at hl 5 rfl) ?_
              obtain ⟨hPc, hDc, hFc, hCm, hNw⟩ := C_s (wc := [eO h0 4 [.ref qd, .ref qw, .int gl, .ref qt], eI qw kw 8 gw, eI qt kt 8 gt, eO qd 1 [.ref qr], eI qr kr 64 fr]) hP hD hS hA [(0, 5)] 5 rfl (by decide +kernel) rfl
              have hKc := K_s (tys' := [(kw, .int), (kt, .boolean), (kr, .int)]) hK [(0, 3)] rfl
              refine va_calli (va_runV (As := [.int x_50, .int p1, .int 4, .int p3]) (rest := []) ⟨hx, hb, hml, hown, hts⟩ (c_X5_leadsBack_d4 l dC dI h0 x_50 p1 p3 qd qw gl qt kw gw kt gt qr kr fr H.size (by first | assumption | omega) (by first | assumption | omega) h3 h4 h5 h6 hwi) (cwV 4 hts gX5_leadsBack_X5_leadsBack rfl rfl rfl (by decide +kernel) ⟨Nat.le_of_ble_eq_true rfl, Nat.le_of_ble_eq_true rfl⟩) ⟨fun a U g mk q => by obtain ⟨q0, q1, qP, qK, qD⟩ := q; exact ⟨q0, q1, qP, va_K.moved (u := U) (U := U.calling g mk a) (Vm.Alike.refl U.vm) qK, qD⟩, va_recv (s := s) (q := (RX5, TX5, 4)) hKc hPc (ci := 4) (q0 := 0) rfl rfl, fun U hU hW => ⟨rfl, by rw [hU], by rw [hU]; exact hPc, va_K.moved hW.alike hKc, hDc.weaken (fun _ _ _ _ => trivial)⟩⟩ rfl rfl hl.1 rfl (lv_room (Nat.le_of_ble_eq_true rfl)) dX5_leadsBack_89 ⟨Nat.le_of_ble_eq_true rfl, Nat.le_of_ble_eq_true rfl⟩) hS (fun q _ h => hFc q h) hFc (fun r15 u t H1 locs ht hvm hw hB hz1 hk1 hS => ?_)
              obtain ⟨u16, u17, u18⟩ := u
              obtain ⟨hP1, hK1, hD1⟩ := hB
              rw [ht] at hP1
              have hK1 := va_K.moved hvm.symm hK1
              try dsimp only at hw
              obtain ⟨hP, hD⟩ := J_s (wL := [eO h0 4 [.ref qd, .ref qw, .int u17, .ref qt], eI qw kw 8 u16, eI qt kt 8 u18, eO qd 1 [.ref qr], eI qr kr 64 fr]) hP hD [(0, 5)] [] hCm hNw (by decide +kernel) hk1 hFc hP1 hD1 rfl
              have hK := KJ_s (tys' := [(kw, .int), (kt, .boolean), (kr, .int)]) hK hK1 [] rfl
              generalize H1 = H at hP hS ⊢
              rcases hw with ⟨e_r15, f_r15⟩ | ⟨e_r15, f_r15⟩
              · subst e_r15
                refine lv_if_eq (tgt := 97) hx hb dX5_leadsBack_92 (by decide) (fun c19 => absurd c19 (by decide)) (fun c19 => ?_)
                refine lv_iconst (v := 1) hx hb dX5_leadsBack_95 (by decide) ?_
                rw [hQ9]
                exact W.zret (v := 1) hx hb hr (by decide) (fun t ht hW => ⟨⟨1, (u16, u17, u18), rfl, Or.inl ⟨rfl, f_r15⟩, by rw [ht]; exact hP, va_K.moved hW.alike hK, hD⟩, hS.F ht⟩) hS.2.2 dX5_leadsBack_96
              · subst e_r15
                refine lv_if_eq (tgt := 97) hx hb dX5_leadsBack_92 (by decide) (fun c20 => ?_) (fun c20 => absurd (by decide) c20)
                obtain ⟨x21, e_x21⟩ : ∃ yy : Int32, yy = x_50 + 1 := ⟨_, rfl⟩
                refine lv_iinc (v := x21) (lv' := [(5, .int x21), (0, .ref h0), (1, .int p0), (2, .int p1), (3, .int 3), (4, .int p3)]) hx hb dX5_leadsBack_97 hl (k := 0) rfl (by rw [e_x21]; rfl) (by decide) rfl (fun ls hl => ?_)
                have t_x21 := i_add e_x21 (by omega) (by omega)
                refine lv_goto (tgt := 50) hx hb dX5_leadsBack_100 (by decide) ?_
                exact ih_50 (i_50 + 1) x21 (by omega) (by omega) (by rw [e_x21, e_x_50]; exact nI_1 i_50) u16 u18 u17 (fun k hk => f_r15 k (by omega)) _ _ (K_s hK [(0, 3)] rfl) (P_s hP [(0, 5)] rfl) (D_s hD [(0, 5)] 5 rfl (by decide +kernel) rfl) hS ls (lv_sub hl [0, 1, 2, 3, 4, 5] rfl)
    exact loop_50 (8 + 1) 0 0 (by omega) (by omega) rfl g2 g3 wl hwd _ _ hK hP hD hS ls hl
  · skip
    have f_c6 := i_nle c6
    refine lv_aload_n hx hb dX5_leadsBack_38 rfl (lv_at hl 0 rfl) ?_
    refine lv_iload_n hx hb dX5_leadsBack_39 rfl (lv_at hl 3 rfl) ?_
    refine lv_iconst (v := 1) hx hb dX5_leadsBack_40 (by decide) ?_
    refine lv_iadd hx hb dX5_leadsBack_41 ?_
    refine lv_topi (fun z22 e_z22 => ?_)
    have e_z22 : z22 = 4 := e_z22.trans (by first | rfl | decide)
    subst e_z22
    refine va_put (D := (dC, dI)) (ci := 4) (v := .int 4) (ty := .int) (C := RX5) (T := TX5) (N := 4) hx hb hts (fun w h => List.mem_cons_of_mem _ (inlX5 w h)) tyX5 tyX5_ok nmX5 hown hK hP hD hS 0 rfl rfl 2 (by decide) (hts (.fieldLink RX5 40 "ClearingGates$Rings" "wayLength" "I") (List.mem_cons_of_mem _ mw_145)) (fun _ h9 => h9) rfl (by decide +kernel) rfl rfl (Nat.le_of_ble_eq_true rfl) dX5_leadsBack_42 (fun H locs hP hD hS => ?_)
    obtain ⟨hP, hD⟩ := X_s (ws' := [eO h0 4 [.ref qd, .ref qw, .int 4, .ref qt], eI qw kw 8 g2, eI qt kt 8 g3, eO qd 1 [.ref qr], eI qr kr 64 fr]) hP hD rfl
    refine lv_iconst (v := 1) hx hb dX5_leadsBack_45 (by decide) ?_
    rw [hQ9]
    exact W.zret (v := 1) hx hb hr (by decide) (fun t ht hW => ⟨⟨1, (g2, 4, g3), rfl, Or.inl ⟨rfl, by omega, by omega, fun k hk => hwd k (by omega)⟩, by rw [ht]; exact hP, va_K.moved hW.alike hK, hD⟩, hS.F ht⟩) hS.2.2 dX5_leadsBack_46

set_option maxRecDepth 100000 in
set_option maxHeartbeats 4000000 in
/-- Rings.leadsBack at depth 2 -/
theorem c_X5_leadsBack_d2 (l : Launch) (dC : Nat → ClassId) (dI : Nat → Nat → Nat) (h0 : Nat) (p0 : Int32) (p1 : Int32) (p3 : Int32) (qd : Nat) (qw : Nat) (wl : Int32) (qt : Nat) (kw : ClassId) (fw : Nat → Int32) (kt : ClassId) (ft : Nat → Int32) (qr : Nat) (kr : ClassId) (fr : Nat → Int32) (sz : Nat) (h1 : 0 ≤ p0.toInt) (h2 : p0.toInt < 8) (h3 : 0 ≤ p1.toInt) (h4 : p1.toInt < 8) (h5 : 0 ≤ p3.toInt) (h6 : p3.toInt ≤ 8) (hw0 : ∀ k : Nat, k < 2 → inr8 (fw k)) : Met l yX5_leadsBack wsX5_leadsBack ({ frames := 6, cells := 0, slots := 0, locals := 150 }) (va_Pc [.ref h0, .int p0, .int p1, .int 2, .int p3] (fun U => U.heap.size = sz ∧ va_P (dC, dI) vwCl [eO h0 4 [.ref qd, .ref qw, .int wl, .ref qt], eI qw kw 8 fw, eI qt kt 8 ft, eO qd 1 [.ref qr], eI qr kr 64 fr] U.heap ∧ va_K (dC, dI) vwCl [(kw, .int), (kt, .boolean), (kr, .int)] U ∧ va_D (fun _ => True) [eO h0 4 [.ref qd, .ref qw, .int wl, .ref qt], eI qw kw 8 fw, eI qt kt 8 ft, eO qd 1 [.ref qr], eI qr kr 64 fr])) (va_Qi (fun (r : Int32) (u : (Nat → Int32) × Int32 × (Nat → Int32)) => match u with | (fw2, wl2, ft2) => (r = 1 ∧ 0 < wl2.toInt ∧ wl2.toInt ≤ 8 ∧ ∀ k : Nat, (k : Int) < wl2.toInt → inr8 (fw2 k)) ∨ (r = 0 ∧ ∀ k : Nat, k < 2 → inr8 (fw2 k))) (fun (u : (Nat → Int32) × Int32 × (Nat → Int32)) (t : State) => match u with | (fw2, wl2, ft2) => va_P (dC, dI) vwCl [eO h0 4 [.ref qd, .ref qw, .int wl2, .ref qt], eI qw kw 8 fw2, eI qt kt 8 ft2, eO qd 1 [.ref qr], eI qr kr 64 fr] t.heap ∧ va_K (dC, dI) vwCl [(kw, .int), (kt, .boolean), (kr, .int)] t ∧ va_D (va_A [eO h0 4 [.ref qd, .ref qw, .int wl, .ref qt], eI qw kw 8 fw, eI qt kt 8 ft, eO qd 1 [.ref qr], eI qr kr 64 fr] sz) [eO h0 4 [.ref qd, .ref qw, .int wl2, .ref qt], eI qw kw 8 fw2, eI qt kt 8 ft2, eO qd 1 [.ref qr], eI qr kr 64 fr]) (va_A [eO h0 4 [.ref qd, .ref qw, .int wl, .ref qt], eI qw kw 8 fw, eI qt kt 8 ft, eO qd 1 [.ref qr], eI qr kr 64 fr] sz)) 0 0 (va_A [eO h0 4 [.ref qd, .ref qw, .int wl, .ref qt], eI qw kw 8 fw, eI qt kt 8 ft, eO qd 1 [.ref qr], eI qr kr 64 fr] sz) := by
  refine Met.ofW (cc := cX5_leadsBack) (maxL := 6) (ret := (some .boolean)) (by decide) rfl ?_
  intro p e s m args below meth c s₁ B hml hv
  obtain ⟨rfl, hsz, hP, hK, hD0⟩ := hv
  have hx := B.exec
  have hb := B.bytes
  have hr := B.returns
  have hts := atoms_spec (ws := wsX5_leadsBack) B.pre
  have hown : s.vm.findClass RX5 = some m.cls := findClass_of_methodNamed B.named
  have hlocks := B.notSynchronized
  subst hsz
  have hD := hD0.self (sz := s.heap.size)
  generalize hAe : va_A [eO h0 4 [.ref qd, .ref qw, .int wl, .ref qt], eI qw kw 8 fw, eI qt kt 8 ft, eO qd 1 [.ref qr], eI qr kr 64 fr] s.heap.size = A at hD ⊢
  have hA : ∀ q : Nat, s.heap.size ≤ q → A q := fun q h => by rw [← hAe]; exact Or.inr h
  have hS : va_S A s.heap s.heap [] := va_S.rf
  have hP : va_P (dC, dI) vwCl [eO h0 4 [.ref qd, .ref qw, .int wl, .ref qt], eI qw kw 8 fw, eI qt kt 8 ft, eO qd 1 [.ref qr], eI qr kr 64 fr] s.heap := hP
  have hl := lv_entry ([.ref h0, .int p0, .int p1, .int 2, .int p3]) (n := 6) (Nat.le_of_ble_eq_true rfl)
  rw [lg_entry_eq]
  generalize (lg_sl ([.ref h0, .int p0, .int p1, .int 2, .int p3]) ++ List.replicate (6 - (lg_sl ([.ref h0, .int p0, .int p1, .int 2, .int p3])).length) Slot.unset).toArray = ls at hl ⊢
  have hl : lv_has ls 6 [(0, .ref h0), (1, .int p0), (2, .int p1), (3, .int 2), (4, .int p3)] := hl
  suffices key9 : ∀ Q9 : State → Prop, Q9 = (MQ below (va_Qi (fun (r : Int32) (u : (Nat → Int32) × Int32 × (Nat → Int32)) => match u with | (fw2, wl2, ft2) => (r = 1 ∧ 0 < wl2.toInt ∧ wl2.toInt ≤ 8 ∧ ∀ k : Nat, (k : Int) < wl2.toInt → inr8 (fw2 k)) ∨ (r = 0 ∧ ∀ k : Nat, k < 2 → inr8 (fw2 k))) (fun (u : (Nat → Int32) × Int32 × (Nat → Int32)) (t : State) => match u with | (fw2, wl2, ft2) => va_P (dC, dI) vwCl [eO h0 4 [.ref qd, .ref qw, .int wl2, .ref qt], eI qw kw 8 fw2, eI qt kt 8 ft2, eO qd 1 [.ref qr], eI qr kr 64 fr] t.heap ∧ va_K (dC, dI) vwCl [(kw, .int), (kt, .boolean), (kr, .int)] t ∧ va_D A [eO h0 4 [.ref qd, .ref qw, .int wl2, .ref qt], eI qw kw 8 fw2, eI qt kt 8 ft2, eO qd 1 [.ref qr], eI qr kr 64 fr]) A) (([.ref h0, .int p0, .int p1, .int 2, .int p3] : List Value).toArray) s 0 0 A) → W p l e ({ frames := 6, cells := 0, slots := 0, locals := 150 }) s m (([.ref h0, .int p0, .int p1, .int 2, .int p3] : List Value).toArray) below meth c s.heap [] 0 0 Q9 (F0 m 0 ls []) from key9 _ rfl
  intro Q9 hQ9
  have k_0 : (0 : Int32).toInt = 0 := by decide
  have k_1 : (1 : Int32).toInt = 1 := by decide
  have k_2 : (2 : Int32).toInt = 2 := by decide
  have k_3 : (3 : Int32).toInt = 3 := by decide
  refine lv_iload_n hx hb dX5_leadsBack_0 rfl (lv_at hl 3 rfl) ?_
  refine lv_bipush (v := 8) hx hb dX5_leadsBack_1 (by decide) ?_
  refine lv_icmp_lt (tgt := 8) hx hb dX5_leadsBack_3 (by decide) (fun c1 => ?_) (fun c1 => absurd (by decide) c1)
  refine lv_aload_n hx hb dX5_leadsBack_8 rfl (lv_at hl 0 rfl) ?_
  refine va_get (D := (dC, dI)) (ci := 4) (v := .ref qw) (C := RX5) (T := TX5) (N := 4) hx hb hts (fun w h => List.mem_cons_of_mem _ (inlX5 w h)) hown hK hP 0 rfl rfl 1 (by decide) (hts (.fieldLink RX5 9 "ClearingGates$Rings" "way" "[I") (List.mem_cons_of_mem _ mw_144)) (fun _ h9 => h9) rfl dX5_leadsBack_9 ?_
  refine lv_iload_n hx hb dX5_leadsBack_12 rfl (lv_at hl 3 rfl) ?_
  refine lv_iload_n hx hb dX5_leadsBack_13 rfl (lv_at hl 1 rfl) ?_
  refine va_iast (D := (dC, dI)) hx hb hK hP hD hS 1 0 rfl rfl (vp_in_iff.mpr ⟨by decide, by decide⟩) dX5_leadsBack_14 (fun H locs hP hD hS => ?_)
  generalize e_g2 : (upd fw ((2 : Int32)).toNatClampNeg p0) = g2 at hP hD
  obtain ⟨hP, hD⟩ := X_s (ws' := [eO h0 4 [.ref qd, .ref qw, .int wl, .ref qt], eI qw kw 8 g2, eI qt kt 8 ft, eO qd 1 [.ref qr], eI qr kr 64 fr]) hP hD rfl
  have hwd : ∀ k : Nat, k < 3 → inr8 (g2 k) := by rw [← e_g2]; exact up_in rfl ⟨by omega, by omega⟩ hw0
  refine lv_aload_n hx hb dX5_leadsBack_15 rfl (lv_at hl 0 rfl) ?_
  refine va_get (D := (dC, dI)) (ci := 4) (v := .ref qt) (C := RX5) (T := TX5) (N := 4) hx hb hts (fun w h => List.mem_cons_of_mem _ (inlX5 w h)) hown hK hP 0 rfl rfl 3 (by decide) (hts (.fieldLink RX5 15 "ClearingGates$Rings" "tried" "[Z") (List.mem_cons_of_mem _ mw_146)) (fun _ h9 => h9) rfl dX5_leadsBack_16 ?_
  refine lv_iload_n hx hb dX5_leadsBack_19 rfl (lv_at hl 1 rfl) ?_
  refine lv_iconst (v := 1) hx hb dX5_leadsBack_20 (by decide) ?_
  refine va_zast (D := (dC, dI)) hx hb hK hP hD hS 2 1 rfl rfl (vp_in_iff.mpr ⟨by omega, by omega⟩) dX5_leadsBack_21 (fun H locs hP hD hS => ?_)
  generalize e_g3 : (upd ft (p0).toNatClampNeg (vp_nar .boolean 1)) = g3 at hP hD
  obtain ⟨hP, hD⟩ := X_s (ws' := [eO h0 4 [.ref qd, .ref qw, .int wl, .ref qt], eI qw kw 8 g2, eI qt kt 8 g3, eO qd 1 [.ref qr], eI qr kr 64 fr]) hP hD rfl
  refine lv_iload_n hx hb dX5_leadsBack_22 rfl (lv_at hl 3 rfl) ?_
  refine lv_if_le (tgt := 47) hx hb dX5_leadsBack_23 (by decide) (fun c4 => absurd c4 (by decide)) (fun c4 => ?_)
  refine lv_aload_n hx hb dX5_leadsBack_26 rfl (lv_at hl 0 rfl) ?_
  refine va_get (D := (dC, dI)) (ci := 4) (v := .ref qd) (C := RX5) (T := TX5) (N := 4) hx hb hts (fun w h => List.mem_cons_of_mem _ (inlX5 w h)) hown hK hP 0 rfl rfl 0 (by decide) (hts (.fieldLink RX5 19 "ClearingGates$Rings" "debts" "LClearingGates$Debts;") (List.mem_cons_of_mem _ mw_143)) (fun _ h9 => h9) rfl dX5_leadsBack_27 ?_
  refine lv_iload_n hx hb dX5_leadsBack_30 rfl (lv_at hl 1 rfl) ?_
  refine lv_iload_n hx hb dX5_leadsBack_31 rfl (lv_at hl 2 rfl) ?_
  obtain ⟨hPc, hDc, hFc, hCm, hNw⟩ := C_s (wc := [eO qd 1 [.ref qr], eI qr kr 64 fr]) hP hD hS hA [(3, 2)] 5 rfl (by decide +kernel) rfl
  have hKc := K_s (tys' := [(kr, .int)]) hK [(2, 1)] rfl
  refine va_calli (va_runV (As := [.int p0, .int p1]) (rest := []) ⟨hx, hb, hml, hown, hts⟩ (c_X1_between l dC dI qd p0 p1 qr kr fr H.size h1 h2 h3 h4) (cwV 2 hts gX5_leadsBack_X1_between rfl rfl rfl (by decide +kernel) ⟨Nat.le_of_ble_eq_true rfl, Nat.le_of_ble_eq_true rfl⟩) ⟨fun a U g mk q => by obtain ⟨q0, q1, qP, qK, qD⟩ := q; exact ⟨q0, q1, qP, va_K.moved (u := U) (U := U.calling g mk a) (Vm.Alike.refl U.vm) qK, qD⟩, va_recv (s := s) (q := (RX1, TX1, 1)) hKc hPc (ci := 1) (q0 := 0) rfl rfl, fun U hU hW => ⟨rfl, by rw [hU], by rw [hU]; exact hPc, va_K.moved hW.alike hKc, hDc.weaken (fun _ _ _ _ => trivial)⟩⟩ rfl rfl hl.1 rfl (lv_room (Nat.le_of_ble_eq_true rfl)) dX5_leadsBack_32 ⟨Nat.le_of_ble_eq_true rfl, Nat.le_of_ble_eq_true rfl⟩) hS (fun q _ h => hFc q h) hFc (fun r5 u t H1 locs ht hvm hw hB hz1 hk1 hS => ?_)
  obtain ⟨hP1, hK1, hD1⟩ := hB
  rw [ht] at hP1
  have hK1 := va_K.moved hvm.symm hK1
  try dsimp only at hw
  obtain ⟨hP, hD⟩ := J_s (wL := [eO h0 4 [.ref qd, .ref qw, .int wl, .ref qt], eI qw kw 8 g2, eI qt kt 8 g3, eO qd 1 [.ref qr], eI qr kr 64 fr]) hP hD [(3, 2)] [(0, 3)] hCm hNw (by decide +kernel) hk1 hFc hP1 hD1 rfl
  have hK := KJ_s (tys' := [(kw, .int), (kt, .boolean), (kr, .int)]) hK hK1 [(0, 2)] rfl
  generalize H1 = H at hP hS ⊢
  refine lv_if_le (tgt := 47) hx hb dX5_leadsBack_35 (by decide) (fun c6 => ?_) (fun c6 => ?_)
  · skip
    have f_c6 := i_le c6
    refine lv_iconst (v := 0) hx hb dX5_leadsBack_47 (by decide) ?_
    refine lv_istore (lv' := [(5, .int 0), (0, .ref h0), (1, .int p0), (2, .int p1), (3, .int 2), (4, .int p3)]) hx hb dX5_leadsBack_48 hl (by decide) rfl (fun ls hl => ?_)
    have loop_50 : ∀ (n i_50 : Nat) (x_50 : Int32), i_50 ≤ 8 → 8 < i_50 + n → x_50 = nI i_50 → ∀ (gw : Nat → Int32), ∀ (gt : Nat → Int32), ∀ (gl : Int32), (∀ k : Nat, k < 3 → inr8 (gw k)) → ∀ (H : Heap) (locs : List Loc), va_K (dC, dI) vwCl [(kw, .int), (kt, .boolean), (kr, .int)] s → va_P (dC, dI) vwCl [eO h0 4 [.ref qd, .ref qw, .int gl, .ref qt], eI qw kw 8 gw, eI qt kt 8 gt, eO qd 1 [.ref qr], eI qr kr 64 fr] H → va_D A [eO h0 4 [.ref qd, .ref qw, .int gl, .ref qt], eI qw kw 8 gw, eI qt kt 8 gt, eO qd 1 [.ref qr], eI qr kr 64 fr] → va_S A s.heap H locs → ∀ (ls : Array Slot), lv_has ls 6 [(5, .int x_50), (0, .ref h0), (1, .int p0), (2, .int p1), (3, .int 2), (4, .int p3)] → W p l e ({ frames := 6, cells := 0, slots := 0, locals := 150 }) s m (([.ref h0, .int p0, .int p1, .int 2, .int p3] : List Value).toArray) below meth c H locs 0 0 Q9 (F0 m 50 ls []) := by
      intro n
      induction n with
      | zero => intro i_50 x_50 h1 h2; exact absurd h2 (by omega)
      | succ n ih_50 =>
        intro i_50 x_50 hi_50 hn_50 e_x_50 gw gt gl hwi H locs hK hP hD hS ls hl
        have t_x_50 : x_50.toInt = (i_50 : Int) := by rw [e_x_50]; exact nI_toInt (by omega)
        refine lv_iload hx hb dX5_leadsBack_50 (lv_at hl 0 rfl) ?_
        refine lv_iload hx hb dX5_leadsBack_52 (lv_at hl 5 rfl) ?_
        refine lv_icmp_ge (tgt := 103) hx hb dX5_leadsBack_54 (by decide) (fun c7 => ?_) (fun c7 => ?_)
        · skip
          have f_c7 := i_le c7
          refine lv_iconst (v := 0) hx hb dX5_leadsBack_103 (by decide) ?_
          rw [hQ9]
          exact W.zret (v := 0) hx hb hr (by decide) (fun t ht hW => ⟨⟨0, (gw, gl, gt), rfl, Or.inr ⟨rfl, fun k hk => hwi k (by omega)⟩, by rw [ht]; exact hP, va_K.moved hW.alike hK, hD⟩, hS.F ht⟩) hS.2.2 dX5_leadsBack_104
        · skip
          have f_c7 := i_nle c7
          refine lv_aload_n hx hb dX5_leadsBack_57 rfl (lv_at hl 1 rfl) ?_
          refine va_get (D := (dC, dI)) (ci := 4) (v := .ref qt) (C := RX5) (T := TX5) (N := 4) hx hb hts (fun w h => List.mem_cons_of_mem _ (inlX5 w h)) hown hK hP 0 rfl rfl 3 (by decide) (hts (.fieldLink RX5 15 "ClearingGates$Rings" "tried" "[Z") (List.mem_cons_of_mem _ mw_146)) (fun _ h9 => h9) rfl dX5_leadsBack_58 ?_
          refine lv_iload hx hb dX5_leadsBack_61 (lv_at hl 0 rfl) ?_
          refine va_zald (D := (dC, dI)) hx hb hK hP 2 1 rfl rfl (vp_in_iff.mpr ⟨by omega, by omega⟩) dX5_leadsBack_63 ?_
          refine lv_topi (fun z8 e_z8 => ?_)
          refine lv_if_ne (tgt := 97) hx hb dX5_leadsBack_64 (by decide) (fun c9 => ?_) (fun c9 => ?_)
          · skip
            have f_c9 := i_ne c9
            obtain ⟨x10, e_x10⟩ : ∃ yy : Int32, yy = x_50 + 1 := ⟨_, rfl⟩
            refine lv_iinc (v := x10) (lv' := [(5, .int x10), (0, .ref h0), (1, .int p0), (2, .int p1), (3, .int 2), (4, .int p3)]) hx hb dX5_leadsBack_97 hl (k := 0) rfl (by rw [e_x10]; rfl) (by decide) rfl (fun ls hl => ?_)
            have t_x10 := i_add e_x10 (by omega) (by omega)
            refine lv_goto (tgt := 50) hx hb dX5_leadsBack_100 (by decide) ?_
            exact ih_50 (i_50 + 1) x10 (by omega) (by omega) (by rw [e_x10, e_x_50]; exact nI_1 i_50) gw gt gl (fun k hk => hwi k (by omega)) _ _ (K_s hK [(0, 3)] rfl) (P_s hP [(0, 5)] rfl) (D_s hD [(0, 5)] 5 rfl (by decide +kernel) rfl) hS ls (lv_sub hl [0, 1, 2, 3, 4, 5] rfl)
          · skip
            have f_c9 := i_eq c9
            refine lv_aload_n hx hb dX5_leadsBack_67 rfl (lv_at hl 1 rfl) ?_
            refine va_get (D := (dC, dI)) (ci := 4) (v := .ref qd) (C := RX5) (T := TX5) (N := 4) hx hb hts (fun w h => List.mem_cons_of_mem _ (inlX5 w h)) hown hK hP 0 rfl rfl 0 (by decide) (hts (.fieldLink RX5 19 "ClearingGates$Rings" "debts" "LClearingGates$Debts;") (List.mem_cons_of_mem _ mw_143)) (fun _ h9 => h9) rfl dX5_leadsBack_68 ?_
            refine lv_iload_n hx hb dX5_leadsBack_71 rfl (lv_at hl 2 rfl) ?_
            refine lv_iload hx hb dX5_leadsBack_72 (lv_at hl 0 rfl) ?_
            obtain ⟨hPc, hDc, hFc, hCm, hNw⟩ := C_s (wc := [eO qd 1 [.ref qr], eI qr kr 64 fr]) hP hD hS hA [(3, 2)] 5 rfl (by decide +kernel) rfl
            have hKc := K_s (tys' := [(kr, .int)]) hK [(2, 1)] rfl
            refine va_calli (va_runV (As := [.int p0, .int x_50]) (rest := []) ⟨hx, hb, hml, hown, hts⟩ (c_X1_between l dC dI qd p0 x_50 qr kr fr H.size h1 h2 (by first | assumption | omega) (by first | assumption | omega)) (cwV 2 hts gX5_leadsBack_X1_between rfl rfl rfl (by decide +kernel) ⟨Nat.le_of_ble_eq_true rfl, Nat.le_of_ble_eq_true rfl⟩) ⟨fun a U g mk q => by obtain ⟨q0, q1, qP, qK, qD⟩ := q; exact ⟨q0, q1, qP, va_K.moved (u := U) (U := U.calling g mk a) (Vm.Alike.refl U.vm) qK, qD⟩, va_recv (s := s) (q := (RX1, TX1, 1)) hKc hPc (ci := 1) (q0 := 0) rfl rfl, fun U hU hW => ⟨rfl, by rw [hU], by rw [hU]; exact hPc, va_K.moved hW.alike hKc, hDc.weaken (fun _ _ _ _ => trivial)⟩⟩ rfl rfl hl.1 rfl (lv_room (Nat.le_of_ble_eq_true rfl)) dX5_leadsBack_74 ⟨Nat.le_of_ble_eq_true rfl, Nat.le_of_ble_eq_true rfl⟩) hS (fun q _ h => hFc q h) hFc (fun r11 u t H1 locs ht hvm hw hB hz1 hk1 hS => ?_)
            obtain ⟨hP1, hK1, hD1⟩ := hB
            rw [ht] at hP1
            have hK1 := va_K.moved hvm.symm hK1
            try dsimp only at hw
            obtain ⟨hP, hD⟩ := J_s (wL := [eO h0 4 [.ref qd, .ref qw, .int gl, .ref qt], eI qw kw 8 gw, eI qt kt 8 gt, eO qd 1 [.ref qr], eI qr kr 64 fr]) hP hD [(3, 2)] [(0, 3)] hCm hNw (by decide +kernel) hk1 hFc hP1 hD1 rfl
            have hK := KJ_s (tys' := [(kw, .int), (kt, .boolean), (kr, .int)]) hK hK1 [(0, 2)] rfl
            generalize H1 = H at hP hS ⊢
            refine lv_if_le (tgt := 97) hx hb dX5_leadsBack_77 (by decide) (fun c12 => ?_) (fun c12 => ?_)
            · skip
              have f_c12 := i_le c12
              obtain ⟨x13, e_x13⟩ : ∃ yy : Int32, yy = x_50 + 1 := ⟨_, rfl⟩
              refine lv_iinc (v := x13) (lv' := [(5, .int x13), (0, .ref h0), (1, .int p0), (2, .int p1), (3, .int 2), (4, .int p3)]) hx hb dX5_leadsBack_97 hl (k := 0) rfl (by rw [e_x13]; rfl) (by decide) rfl (fun ls hl => ?_)
              have t_x13 := i_add e_x13 (by omega) (by omega)
              refine lv_goto (tgt := 50) hx hb dX5_leadsBack_100 (by decide) ?_
              exact ih_50 (i_50 + 1) x13 (by omega) (by omega) (by rw [e_x13, e_x_50]; exact nI_1 i_50) gw gt gl (fun k hk => hwi k (by omega)) _ _ (K_s hK [(0, 3)] rfl) (P_s hP [(0, 5)] rfl) (D_s hD [(0, 5)] 5 rfl (by decide +kernel) rfl) hS ls (lv_sub hl [0, 1, 2, 3, 4, 5] rfl)
            · skip
              have f_c12 := i_nle c12
              refine lv_aload_n hx hb dX5_leadsBack_80 rfl (lv_at hl 1 rfl) ?_
              refine lv_iload hx hb dX5_leadsBack_81 (lv_at hl 0 rfl) ?_
              refine lv_iload_n hx hb dX5_leadsBack_83 rfl (lv_at hl 3 rfl) ?_
              refine lv_iload_n hx hb dX5_leadsBack_84 rfl (lv_at hl 4 rfl) ?_
              refine lv_iconst (v := 1) hx hb dX5_leadsBack_85 (by decide) ?_
              refine lv_iadd hx hb dX5_leadsBack_86 ?_
              refine lv_topi (fun z14 e_z14 => ?_)
              have e_z14 : z14 = 3 := e_z14.trans (by first | rfl | decide)
              subst e_z14
              refine lv_iload hx hb dX5_leadsBack_87 (lv_at hl 5 rfl) ?_
              obtain ⟨hPc, hDc, hFc, hCm, hNw⟩ := C_s (wc := [eO h0 4 [.ref qd, .ref qw, .int gl, .ref qt], eI qw kw 8 gw, eI qt kt 8 gt, eO qd 1 [.ref qr], eI qr kr 64 fr]) hP hD hS hA [(0, 5)] 5 rfl (by decide +kernel) rfl
              have hKc := K_s (tys' := [(kw, .int), (kt, .boolean), (kr, .int)]) hK [(0, 3)] rfl
              refine va_calli (va_runV (As := [.int x_50, .int p1, .int 3, .int p3]) (rest := []) ⟨hx, hb, hml, hown, hts⟩ (c_X5_leadsBack_d3 l dC dI h0 x_50 p1 p3 qd qw gl qt kw gw kt gt qr kr fr H.size (by first | assumption | omega) (by first | assumption | omega) h3 h4 h5 h6 hwi) (cwV 4 hts gX5_leadsBack_X5_leadsBack rfl rfl rfl (by decide +kernel) ⟨Nat.le_of_ble_eq_true rfl, Nat.le_of_ble_eq_true rfl⟩) ⟨fun a U g mk q => by obtain ⟨q0, q1, qP, qK, qD⟩ := q; exact ⟨q0, q1, qP, va_K.moved (u := U) (U := U.calling g mk a) (Vm.Alike.refl U.vm) qK, qD⟩, va_recv (s := s) (q := (RX5, TX5, 4)) hKc hPc (ci := 4) (q0 := 0) rfl rfl, fun U hU hW => ⟨rfl, by rw [hU], by rw [hU]; exact hPc, va_K.moved hW.alike hKc, hDc.weaken (fun _ _ _ _ => trivial)⟩⟩ rfl rfl hl.1 rfl (lv_room (Nat.le_of_ble_eq_true rfl)) dX5_leadsBack_89 ⟨Nat.le_of_ble_eq_true rfl, Nat.le_of_ble_eq_true rfl⟩) hS (fun q _ h => hFc q h) hFc (fun r15 u t H1 locs ht hvm hw hB hz1 hk1 hS => ?_)
              obtain ⟨u16, u17, u18⟩ := u
              obtain ⟨hP1, hK1, hD1⟩ := hB
              rw [ht] at hP1
              have hK1 := va_K.moved hvm.symm hK1
              try dsimp only at hw
              obtain ⟨hP, hD⟩ := J_s (wL := [eO h0 4 [.ref qd, .ref qw, .int u17, .ref qt], eI qw kw 8 u16, eI qt kt 8 u18, eO qd 1 [.ref qr], eI qr kr 64 fr]) hP hD [(0, 5)] [] hCm hNw (by decide +kernel) hk1 hFc hP1 hD1 rfl
              have hK := KJ_s (tys' := [(kw, .int), (kt, .boolean), (kr, .int)]) hK hK1 [] rfl
              generalize H1 = H at hP hS ⊢
              rcases hw with ⟨e_r15, f_r15⟩ | ⟨e_r15, f_r15⟩
              · subst e_r15
                refine lv_if_eq (tgt := 97) hx hb dX5_leadsBack_92 (by decide) (fun c19 => absurd c19 (by decide)) (fun c19 => ?_)
                refine lv_iconst (v := 1) hx hb dX5_leadsBack_95 (by decide) ?_
                rw [hQ9]
                exact W.zret (v := 1) hx hb hr (by decide) (fun t ht hW => ⟨⟨1, (u16, u17, u18), rfl, Or.inl ⟨rfl, f_r15⟩, by rw [ht]; exact hP, va_K.moved hW.alike hK, hD⟩, hS.F ht⟩) hS.2.2 dX5_leadsBack_96
              · subst e_r15
                refine lv_if_eq (tgt := 97) hx hb dX5_leadsBack_92 (by decide) (fun c20 => ?_) (fun c20 => absurd (by decide) c20)
                obtain ⟨x21, e_x21⟩ : ∃ yy : Int32, yy = x_50 + 1 := ⟨_, rfl⟩
                refine lv_iinc (v := x21) (lv' := [(5, .int x21), (0, .ref h0), (1, .int p0), (2, .int p1), (3, .int 2), (4, .int p3)]) hx hb dX5_leadsBack_97 hl (k := 0) rfl (by rw [e_x21]; rfl) (by decide) rfl (fun ls hl => ?_)
                have t_x21 := i_add e_x21 (by omega) (by omega)
                refine lv_goto (tgt := 50) hx hb dX5_leadsBack_100 (by decide) ?_
                exact ih_50 (i_50 + 1) x21 (by omega) (by omega) (by rw [e_x21, e_x_50]; exact nI_1 i_50) u16 u18 u17 (fun k hk => f_r15 k (by omega)) _ _ (K_s hK [(0, 3)] rfl) (P_s hP [(0, 5)] rfl) (D_s hD [(0, 5)] 5 rfl (by decide +kernel) rfl) hS ls (lv_sub hl [0, 1, 2, 3, 4, 5] rfl)
    exact loop_50 (8 + 1) 0 0 (by omega) (by omega) rfl g2 g3 wl hwd _ _ hK hP hD hS ls hl
  · skip
    have f_c6 := i_nle c6
    refine lv_aload_n hx hb dX5_leadsBack_38 rfl (lv_at hl 0 rfl) ?_
    refine lv_iload_n hx hb dX5_leadsBack_39 rfl (lv_at hl 3 rfl) ?_
    refine lv_iconst (v := 1) hx hb dX5_leadsBack_40 (by decide) ?_
    refine lv_iadd hx hb dX5_leadsBack_41 ?_
    refine lv_topi (fun z22 e_z22 => ?_)
    have e_z22 : z22 = 3 := e_z22.trans (by first | rfl | decide)
    subst e_z22
    refine va_put (D := (dC, dI)) (ci := 4) (v := .int 3) (ty := .int) (C := RX5) (T := TX5) (N := 4) hx hb hts (fun w h => List.mem_cons_of_mem _ (inlX5 w h)) tyX5 tyX5_ok nmX5 hown hK hP hD hS 0 rfl rfl 2 (by decide) (hts (.fieldLink RX5 40 "ClearingGates$Rings" "wayLength" "I") (List.mem_cons_of_mem _ mw_145)) (fun _ h9 => h9) rfl (by decide +kernel) rfl rfl (Nat.le_of_ble_eq_true rfl) dX5_leadsBack_42 (fun H locs hP hD hS => ?_)
    obtain ⟨hP, hD⟩ := X_s (ws' := [eO h0 4 [.ref qd, .ref qw, .int 3, .ref qt], eI qw kw 8 g2, eI qt kt 8 g3, eO qd 1 [.ref qr], eI qr kr 64 fr]) hP hD rfl
    refine lv_iconst (v := 1) hx hb dX5_leadsBack_45 (by decide) ?_
    rw [hQ9]
    exact W.zret (v := 1) hx hb hr (by decide) (fun t ht hW => ⟨⟨1, (g2, 3, g3), rfl, Or.inl ⟨rfl, by omega, by omega, fun k hk => hwd k (by omega)⟩, by rw [ht]; exact hP, va_K.moved hW.alike hK, hD⟩, hS.F ht⟩) hS.2.2 dX5_leadsBack_46

set_option maxRecDepth 100000 in
set_option maxHeartbeats 4000000 in
/-- Rings.leadsBack at depth 1 -/
theorem c_X5_leadsBack_d1 (l : Launch) (dC : Nat → ClassId) (dI : Nat → Nat → Nat) (h0 : Nat) (p0 : Int32) (p1 : Int32) (p3 : Int32) (qd : Nat) (qw : Nat) (wl : Int32) (qt : Nat) (kw : ClassId) (fw : Nat → Int32) (kt : ClassId) (ft : Nat → Int32) (qr : Nat) (kr : ClassId) (fr : Nat → Int32) (sz : Nat) (h1 : 0 ≤ p0.toInt) (h2 : p0.toInt < 8) (h3 : 0 ≤ p1.toInt) (h4 : p1.toInt < 8) (h5 : 0 ≤ p3.toInt) (h6 : p3.toInt ≤ 8) (hw0 : ∀ k : Nat, k < 1 → inr8 (fw k)) : Met l yX5_leadsBack wsX5_leadsBack ({ frames := 7, cells := 0, slots := 0, locals := 175 }) (va_Pc [.ref h0, .int p0, .int p1, .int 1, .int p3] (fun U => U.heap.size = sz ∧ va_P (dC, dI) vwCl [eO h0 4 [.ref qd, .ref qw, .int wl, .ref qt], eI qw kw 8 fw, eI qt kt 8 ft, eO qd 1 [.ref qr], eI qr kr 64 fr] U.heap ∧ va_K (dC, dI) vwCl [(kw, .int), (kt, .boolean), (kr, .int)] U ∧ va_D (fun _ => True) [eO h0 4 [.ref qd, .ref qw, .int wl, .ref qt], eI qw kw 8 fw, eI qt kt 8 ft, eO qd 1 [.ref qr], eI qr kr 64 fr])) (va_Qi (fun (r : Int32) (u : (Nat → Int32) × Int32 × (Nat → Int32)) => match u with | (fw2, wl2, ft2) => (r = 1 ∧ 0 < wl2.toInt ∧ wl2.toInt ≤ 8 ∧ ∀ k : Nat, (k : Int) < wl2.toInt → inr8 (fw2 k)) ∨ (r = 0 ∧ ∀ k : Nat, k < 1 → inr8 (fw2 k))) (fun (u : (Nat → Int32) × Int32 × (Nat → Int32)) (t : State) => match u with | (fw2, wl2, ft2) => va_P (dC, dI) vwCl [eO h0 4 [.ref qd, .ref qw, .int wl2, .ref qt], eI qw kw 8 fw2, eI qt kt 8 ft2, eO qd 1 [.ref qr], eI qr kr 64 fr] t.heap ∧ va_K (dC, dI) vwCl [(kw, .int), (kt, .boolean), (kr, .int)] t ∧ va_D (va_A [eO h0 4 [.ref qd, .ref qw, .int wl, .ref qt], eI qw kw 8 fw, eI qt kt 8 ft, eO qd 1 [.ref qr], eI qr kr 64 fr] sz) [eO h0 4 [.ref qd, .ref qw, .int wl2, .ref qt], eI qw kw 8 fw2, eI qt kt 8 ft2, eO qd 1 [.ref qr], eI qr kr 64 fr]) (va_A [eO h0 4 [.ref qd, .ref qw, .int wl, .ref qt], eI qw kw 8 fw, eI qt kt 8 ft, eO qd 1 [.ref qr], eI qr kr 64 fr] sz)) 0 0 (va_A [eO h0 4 [.ref qd, .ref qw, .int wl, .ref qt], eI qw kw 8 fw, eI qt kt 8 ft, eO qd 1 [.ref qr], eI qr kr 64 fr] sz) := by
  refine Met.ofW (cc := cX5_leadsBack) (maxL := 6) (ret := (some .boolean)) (by decide) rfl ?_
  intro p e s m args below meth c s₁ B hml hv
  obtain ⟨rfl, hsz, hP, hK, hD0⟩ := hv
  have hx := B.exec
  have hb := B.bytes
  have hr := B.returns
  have hts := atoms_spec (ws := wsX5_leadsBack) B.pre
  have hown : s.vm.findClass RX5 = some m.cls := findClass_of_methodNamed B.named
  have hlocks := B.notSynchronized
  subst hsz
  have hD := hD0.self (sz := s.heap.size)
  generalize hAe : va_A [eO h0 4 [.ref qd, .ref qw, .int wl, .ref qt], eI qw kw 8 fw, eI qt kt 8 ft, eO qd 1 [.ref qr], eI qr kr 64 fr] s.heap.size = A at hD ⊢
  have hA : ∀ q : Nat, s.heap.size ≤ q → A q := fun q h => by rw [← hAe]; exact Or.inr h
  have hS : va_S A s.heap s.heap [] := va_S.rf
  have hP : va_P (dC, dI) vwCl [eO h0 4 [.ref qd, .ref qw, .int wl, .ref qt], eI qw kw 8 fw, eI qt kt 8 ft, eO qd 1 [.ref qr], eI qr kr 64 fr] s.heap := hP
  have hl := lv_entry ([.ref h0, .int p0, .int p1, .int 1, .int p3]) (n := 6) (Nat.le_of_ble_eq_true rfl)
  rw [lg_entry_eq]
  generalize (lg_sl ([.ref h0, .int p0, .int p1, .int 1, .int p3]) ++ List.replicate (6 - (lg_sl ([.ref h0, .int p0, .int p1, .int 1, .int p3])).length) Slot.unset).toArray = ls at hl ⊢
  have hl : lv_has ls 6 [(0, .ref h0), (1, .int p0), (2, .int p1), (3, .int 1), (4, .int p3)] := hl
  suffices key9 : ∀ Q9 : State → Prop, Q9 = (MQ below (va_Qi (fun (r : Int32) (u : (Nat → Int32) × Int32 × (Nat → Int32)) => match u with | (fw2, wl2, ft2) => (r = 1 ∧ 0 < wl2.toInt ∧ wl2.toInt ≤ 8 ∧ ∀ k : Nat, (k : Int) < wl2.toInt → inr8 (fw2 k)) ∨ (r = 0 ∧ ∀ k : Nat, k < 1 → inr8 (fw2 k))) (fun (u : (Nat → Int32) × Int32 × (Nat → Int32)) (t : State) => match u with | (fw2, wl2, ft2) => va_P (dC, dI) vwCl [eO h0 4 [.ref qd, .ref qw, .int wl2, .ref qt], eI qw kw 8 fw2, eI qt kt 8 ft2, eO qd 1 [.ref qr], eI qr kr 64 fr] t.heap ∧ va_K (dC, dI) vwCl [(kw, .int), (kt, .boolean), (kr, .int)] t ∧ va_D A [eO h0 4 [.ref qd, .ref qw, .int wl2, .ref qt], eI qw kw 8 fw2, eI qt kt 8 ft2, eO qd 1 [.ref qr], eI qr kr 64 fr]) A) (([.ref h0, .int p0, .int p1, .int 1, .int p3] : List Value).toArray) s 0 0 A) → W p l e ({ frames := 7, cells := 0, slots := 0, locals := 175 }) s m (([.ref h0, .int p0, .int p1, .int 1, .int p3] : List Value).toArray) below meth c s.heap [] 0 0 Q9 (F0 m 0 ls []) from key9 _ rfl
  intro Q9 hQ9
  have k_0 : (0 : Int32).toInt = 0 := by decide
  have k_1 : (1 : Int32).toInt = 1 := by decide
  have k_2 : (2 : Int32).toInt = 2 := by decide
  refine lv_iload_n hx hb dX5_leadsBack_0 rfl (lv_at hl 3 rfl) ?_
  refine lv_bipush (v := 8) hx hb dX5_leadsBack_1 (by decide) ?_
  refine lv_icmp_lt (tgt := 8) hx hb dX5_leadsBack_3 (by decide) (fun c1 => ?_) (fun c1 => absurd (by decide) c1)
  refine lv_aload_n hx hb dX5_leadsBack_8 rfl (lv_at hl 0 rfl) ?_
  refine va_get (D := (dC, dI)) (ci := 4) (v := .ref qw) (C := RX5) (T := TX5) (N := 4) hx hb hts (fun w h => List.mem_cons_of_mem _ (inlX5 w h)) hown hK hP 0 rfl rfl 1 (by decide) (hts (.fieldLink RX5 9 "ClearingGates$Rings" "way" "[I") (List.mem_cons_of_mem _ mw_144)) (fun _ h9 => h9) rfl dX5_leadsBack_9 ?_
  refine lv_iload_n hx hb dX5_leadsBack_12 rfl (lv_at hl 3 rfl) ?_
  refine lv_iload_n hx hb dX5_leadsBack_13 rfl (lv_at hl 1 rfl) ?_
  refine va_iast (D := (dC, dI)) hx hb hK hP hD hS 1 0 rfl rfl (vp_in_iff.mpr ⟨by decide, by decide⟩) dX5_leadsBack_14 (fun H locs hP hD hS => ?_)
  generalize e_g2 : (upd fw ((1 : Int32)).toNatClampNeg p0) = g2 at hP hD
  obtain ⟨hP, hD⟩ := X_s (ws' := [eO h0 4 [.ref qd, .ref qw, .int wl, .ref qt], eI qw kw 8 g2, eI qt kt 8 ft, eO qd 1 [.ref qr], eI qr kr 64 fr]) hP hD rfl
  have hwd : ∀ k : Nat, k < 2 → inr8 (g2 k) := by rw [← e_g2]; exact up_in rfl ⟨by omega, by omega⟩ hw0
  refine lv_aload_n hx hb dX5_leadsBack_15 rfl (lv_at hl 0 rfl) ?_
  refine va_get (D := (dC, dI)) (ci := 4) (v := .ref qt) (C := RX5) (T := TX5) (N := 4) hx hb hts (fun w h => List.mem_cons_of_mem _ (inlX5 w h)) hown hK hP 0 rfl rfl 3 (by decide) (hts (.fieldLink RX5 15 "ClearingGates$Rings" "tried" "[Z") (List.mem_cons_of_mem _ mw_146)) (fun _ h9 => h9) rfl dX5_leadsBack_16 ?_
  refine lv_iload_n hx hb dX5_leadsBack_19 rfl (lv_at hl 1 rfl) ?_
  refine lv_iconst (v := 1) hx hb dX5_leadsBack_20 (by decide) ?_
  refine va_zast (D := (dC, dI)) hx hb hK hP hD hS 2 1 rfl rfl (vp_in_iff.mpr ⟨by omega, by omega⟩) dX5_leadsBack_21 (fun H locs hP hD hS => ?_)
  generalize e_g3 : (upd ft (p0).toNatClampNeg (vp_nar .boolean 1)) = g3 at hP hD
  obtain ⟨hP, hD⟩ := X_s (ws' := [eO h0 4 [.ref qd, .ref qw, .int wl, .ref qt], eI qw kw 8 g2, eI qt kt 8 g3, eO qd 1 [.ref qr], eI qr kr 64 fr]) hP hD rfl
  refine lv_iload_n hx hb dX5_leadsBack_22 rfl (lv_at hl 3 rfl) ?_
  refine lv_if_le (tgt := 47) hx hb dX5_leadsBack_23 (by decide) (fun c4 => absurd c4 (by decide)) (fun c4 => ?_)
  refine lv_aload_n hx hb dX5_leadsBack_26 rfl (lv_at hl 0 rfl) ?_
  refine va_get (D := (dC, dI)) (ci := 4) (v := .ref qd) (C := RX5) (T := TX5) (N := 4) hx hb hts (fun w h => List.mem_cons_of_mem _ (inlX5 w h)) hown hK hP 0 rfl rfl 0 (by decide) (hts (.fieldLink RX5 19 "ClearingGates$Rings" "debts" "LClearingGates$Debts;") (List.mem_cons_of_mem _ mw_143)) (fun _ h9 => h9) rfl dX5_leadsBack_27 ?_
  refine lv_iload_n hx hb dX5_leadsBack_30 rfl (lv_at hl 1 rfl) ?_
  refine lv_iload_n hx hb dX5_leadsBack_31 rfl (lv_at hl 2 rfl) ?_
  obtain ⟨hPc, hDc, hFc, hCm, hNw⟩ := C_s (wc := [eO qd 1 [.ref qr], eI qr kr 64 fr]) hP hD hS hA [(3, 2)] 5 rfl (by decide +kernel) rfl
  have hKc := K_s (tys' := [(kr, .int)]) hK [(2, 1)] rfl
  refine va_calli (va_runV (As := [.int p0, .int p1]) (rest := []) ⟨hx, hb, hml, hown, hts⟩ (c_X1_between l dC dI qd p0 p1 qr kr fr H.size h1 h2 h3 h4) (cwV 2 hts gX5_leadsBack_X1_between rfl rfl rfl (by decide +kernel) ⟨Nat.le_of_ble_eq_true rfl, Nat.le_of_ble_eq_true rfl⟩) ⟨fun a U g mk q => by obtain ⟨q0, q1, qP, qK, qD⟩ := q; exact ⟨q0, q1, qP, va_K.moved (u := U) (U := U.calling g mk a) (Vm.Alike.refl U.vm) qK, qD⟩, va_recv (s := s) (q := (RX1, TX1, 1)) hKc hPc (ci := 1) (q0 := 0) rfl rfl, fun U hU hW => ⟨rfl, by rw [hU], by rw [hU]; exact hPc, va_K.moved hW.alike hKc, hDc.weaken (fun _ _ _ _ => trivial)⟩⟩ rfl rfl hl.1 rfl (lv_room (Nat.le_of_ble_eq_true rfl)) dX5_leadsBack_32 ⟨Nat.le_of_ble_eq_true rfl, Nat.le_of_ble_eq_true rfl⟩) hS (fun q _ h => hFc q h) hFc (fun r5 u t H1 locs ht hvm hw hB hz1 hk1 hS => ?_)
  obtain ⟨hP1, hK1, hD1⟩ := hB
  rw [ht] at hP1
  have hK1 := va_K.moved hvm.symm hK1
  try dsimp only at hw
  obtain ⟨hP, hD⟩ := J_s (wL := [eO h0 4 [.ref qd, .ref qw, .int wl, .ref qt], eI qw kw 8 g2, eI qt kt 8 g3, eO qd 1 [.ref qr], eI qr kr 64 fr]) hP hD [(3, 2)] [(0, 3)] hCm hNw (by decide +kernel) hk1 hFc hP1 hD1 rfl
  have hK := KJ_s (tys' := [(kw, .int), (kt, .boolean), (kr, .int)]) hK hK1 [(0, 2)] rfl
  generalize H1 = H at hP hS ⊢
  refine lv_if_le (tgt := 47) hx hb dX5_leadsBack_35 (by decide) (fun c6 => ?_) (fun c6 => ?_)
  · skip
    have f_c6 := i_le c6
    refine lv_iconst (v := 0) hx hb dX5_leadsBack_47 (by decide) ?_
    refine lv_istore (lv' := [(5, .int 0), (0, .ref h0), (1, .int p0), (2, .int p1), (3, .int 1), (4, .int p3)]) hx hb dX5_leadsBack_48 hl (by decide) rfl (fun ls hl => ?_)
    have loop_50 : ∀ (n i_50 : Nat) (x_50 : Int32), i_50 ≤ 8 → 8 < i_50 + n → x_50 = nI i_50 → ∀ (gw : Nat → Int32), ∀ (gt : Nat → Int32), ∀ (gl : Int32), (∀ k : Nat, k < 2 → inr8 (gw k)) → ∀ (H : Heap) (locs : List Loc), va_K (dC, dI) vwCl [(kw, .int), (kt, .boolean), (kr, .int)] s → va_P (dC, dI) vwCl [eO h0 4 [.ref qd, .ref qw, .int gl, .ref qt], eI qw kw 8 gw, eI qt kt 8 gt, eO qd 1 [.ref qr], eI qr kr 64 fr] H → va_D A [eO h0 4 [.ref qd, .ref qw, .int gl, .ref qt], eI qw kw 8 gw, eI qt kt 8 gt, eO qd 1 [.ref qr], eI qr kr 64 fr] → va_S A s.heap H locs → ∀ (ls : Array Slot), lv_has ls 6 [(5, .int x_50), (0, .ref h0), (1, .int p0), (2, .int p1), (3, .int 1), (4, .int p3)] → W p l e ({ frames := 7, cells := 0, slots := 0, locals := 175 }) s m (([.ref h0, .int p0, .int p1, .int 1, .int p3] : List Value).toArray) below meth c H locs 0 0 Q9 (F0 m 50 ls []) := by
      intro n
      induction n with
      | zero => intro i_50 x_50 h1 h2; exact absurd h2 (by omega)
      | succ n ih_50 =>
        intro i_50 x_50 hi_50 hn_50 e_x_50 gw gt gl hwi H locs hK hP hD hS ls hl
        have t_x_50 : x_50.toInt = (i_50 : Int) := by rw [e_x_50]; exact nI_toInt (by omega)
        refine lv_iload hx hb dX5_leadsBack_50 (lv_at hl 0 rfl) ?_
        refine lv_iload hx hb dX5_leadsBack_52 (lv_at hl 5 rfl) ?_
        refine lv_icmp_ge (tgt := 103) hx hb dX5_leadsBack_54 (by decide) (fun c7 => ?_) (fun c7 => ?_)
        · skip
          have f_c7 := i_le c7
          refine lv_iconst (v := 0) hx hb dX5_leadsBack_103 (by decide) ?_
          rw [hQ9]
          exact W.zret (v := 0) hx hb hr (by decide) (fun t ht hW => ⟨⟨0, (gw, gl, gt), rfl, Or.inr ⟨rfl, fun k hk => hwi k (by omega)⟩, by rw [ht]; exact hP, va_K.moved hW.alike hK, hD⟩, hS.F ht⟩) hS.2.2 dX5_leadsBack_104
        · skip
          have f_c7 := i_nle c7
          refine lv_aload_n hx hb dX5_leadsBack_57 rfl (lv_at hl 1 rfl) ?_
          refine va_get (D := (dC, dI)) (ci := 4) (v := .ref qt) (C := RX5) (T := TX5) (N := 4) hx hb hts (fun w h => List.mem_cons_of_mem _ (inlX5 w h)) hown hK hP 0 rfl rfl 3 (by decide) (hts (.fieldLink RX5 15 "ClearingGates$Rings" "tried" "[Z") (List.mem_cons_of_mem _ mw_146)) (fun _ h9 => h9) rfl dX5_leadsBack_58 ?_
          refine lv_iload hx hb dX5_leadsBack_61 (lv_at hl 0 rfl) ?_
          refine va_zald (D := (dC, dI)) hx hb hK hP 2 1 rfl rfl (vp_in_iff.mpr ⟨by omega, by omega⟩) dX5_leadsBack_63 ?_
          refine lv_topi (fun z8 e_z8 => ?_)
          refine lv_if_ne (tgt := 97) hx hb dX5_leadsBack_64 (by decide) (fun c9 => ?_) (fun c9 => ?_)
          · skip
            have f_c9 := i_ne c9
            obtain ⟨x10, e_x10⟩ : ∃ yy : Int32, yy = x_50 + 1 := ⟨_, rfl⟩
            refine lv_iinc (v := x10) (lv' := [(5, .int x10), (0, .ref h0), (1, .int p0), (2, .int p1), (3, .int 1), (4, .int p3)]) hx hb dX5_leadsBack_97 hl (k := 0) rfl (by rw [e_x10]; rfl) (by decide) rfl (fun ls hl => ?_)
            have t_x10 := i_add e_x10 (by omega) (by omega)
            refine lv_goto (tgt := 50) hx hb dX5_leadsBack_100 (by decide) ?_
            exact ih_50 (i_50 + 1) x10 (by omega) (by omega) (by rw [e_x10, e_x_50]; exact nI_1 i_50) gw gt gl (fun k hk => hwi k (by omega)) _ _ (K_s hK [(0, 3)] rfl) (P_s hP [(0, 5)] rfl) (D_s hD [(0, 5)] 5 rfl (by decide +kernel) rfl) hS ls (lv_sub hl [0, 1, 2, 3, 4, 5] rfl)
          · skip
            have f_c9 := i_eq c9
            refine lv_aload_n hx hb dX5_leadsBack_67 rfl (lv_at hl 1 rfl) ?_
            refine va_get (D := (dC, dI)) (ci := 4) (v := .ref qd) (C := RX5) (T := TX5) (N := 4) hx hb hts (fun w h => List.mem_cons_of_mem _ (inlX5 w h)) hown hK hP 0 rfl rfl 0 (by decide) (hts (.fieldLink RX5 19 "ClearingGates$Rings" "debts" "LClearingGates$Debts;") (List.mem_cons_of_mem _ mw_143)) (fun _ h9 => h9) rfl dX5_leadsBack_68 ?_
            refine lv_iload_n hx hb dX5_leadsBack_71 rfl (lv_at hl 2 rfl) ?_
            refine lv_iload hx hb dX5_leadsBack_72 (lv_at hl 0 rfl) ?_
            obtain ⟨hPc, hDc, hFc, hCm, hNw⟩ := C_s (wc := [eO qd 1 [.ref qr], eI qr kr 64 fr]) hP hD hS hA [(3, 2)] 5 rfl (by decide +kernel) rfl
            have hKc := K_s (tys' := [(kr, .int)]) hK [(2, 1)] rfl
            refine va_calli (va_runV (As := [.int p0, .int x_50]) (rest := []) ⟨hx, hb, hml, hown, hts⟩ (c_X1_between l dC dI qd p0 x_50 qr kr fr H.size h1 h2 (by first | assumption | omega) (by first | assumption | omega)) (cwV 2 hts gX5_leadsBack_X1_between rfl rfl rfl (by decide +kernel) ⟨Nat.le_of_ble_eq_true rfl, Nat.le_of_ble_eq_true rfl⟩) ⟨fun a U g mk q => by obtain ⟨q0, q1, qP, qK, qD⟩ := q; exact ⟨q0, q1, qP, va_K.moved (u := U) (U := U.calling g mk a) (Vm.Alike.refl U.vm) qK, qD⟩, va_recv (s := s) (q := (RX1, TX1, 1)) hKc hPc (ci := 1) (q0 := 0) rfl rfl, fun U hU hW => ⟨rfl, by rw [hU], by rw [hU]; exact hPc, va_K.moved hW.alike hKc, hDc.weaken (fun _ _ _ _ => trivial)⟩⟩ rfl rfl hl.1 rfl (lv_room (Nat.le_of_ble_eq_true rfl)) dX5_leadsBack_74 ⟨Nat.le_of_ble_eq_true rfl, Nat.le_of_ble_eq_true rfl⟩) hS (fun q _ h => hFc q h) hFc (fun r11 u t H1 locs ht hvm hw hB hz1 hk1 hS => ?_)
            obtain ⟨hP1, hK1, hD1⟩ := hB
            rw [ht] at hP1
            have hK1 := va_K.moved hvm.symm hK1
            try dsimp only at hw
            obtain ⟨hP, hD⟩ := J_s (wL := [eO h0 4 [.ref qd, .ref qw, .int gl, .ref qt], eI qw kw 8 gw, eI qt kt 8 gt, eO qd 1 [.ref qr], eI qr kr 64 fr]) hP hD [(3, 2)] [(0, 3)] hCm hNw (by decide +kernel) hk1 hFc hP1 hD1 rfl
            have hK := KJ_s (tys' := [(kw, .int), (kt, .boolean), (kr, .int)]) hK hK1 [(0, 2)] rfl
            generalize H1 = H at hP hS ⊢
            refine lv_if_le (tgt := 97) hx hb dX5_leadsBack_77 (by decide) (fun c12 => ?_) (fun c12 => ?_)
            · skip
              have f_c12 := i_le c12
              obtain ⟨x13, e_x13⟩ : ∃ yy : Int32, yy = x_50 + 1 := ⟨_, rfl⟩
              refine lv_iinc (v := x13) (lv' := [(5, .int x13), (0, .ref h0), (1, .int p0), (2, .int p1), (3, .int 1), (4, .int p3)]) hx hb dX5_leadsBack_97 hl (k := 0) rfl (by rw [e_x13]; rfl) (by decide) rfl (fun ls hl => ?_)
              have t_x13 := i_add e_x13 (by omega) (by omega)
              refine lv_goto (tgt := 50) hx hb dX5_leadsBack_100 (by decide) ?_
              exact ih_50 (i_50 + 1) x13 (by omega) (by omega) (by rw [e_x13, e_x_50]; exact nI_1 i_50) gw gt gl (fun k hk => hwi k (by omega)) _ _ (K_s hK [(0, 3)] rfl) (P_s hP [(0, 5)] rfl) (D_s hD [(0, 5)] 5 rfl (by decide +kernel) rfl) hS ls (lv_sub hl [0, 1, 2, 3, 4, 5] rfl)
            · skip
              have f_c12 := i_nle c12
              refine lv_aload_n hx hb dX5_leadsBack_80 rfl (lv_at hl 1 rfl) ?_
              refine lv_iload hx hb dX5_leadsBack_81 (lv_at hl 0 rfl) ?_
              refine lv_iload_n hx hb dX5_leadsBack_83 rfl (lv_at hl 3 rfl) ?_
              refine lv_iload_n hx hb dX5_leadsBack_84 rfl (lv_at hl 4 rfl) ?_
              refine lv_iconst (v := 1) hx hb dX5_leadsBack_85 (by decide) ?_
              refine lv_iadd hx hb dX5_leadsBack_86 ?_
              refine lv_topi (fun z14 e_z14 => ?_)
              have e_z14 : z14 = 2 := e_z14.trans (by first | rfl | decide)
              subst e_z14
              refine lv_iload hx hb dX5_leadsBack_87 (lv_at hl 5 rfl) ?_
              obtain ⟨hPc, hDc, hFc, hCm, hNw⟩ := C_s (wc := [eO h0 4 [.ref qd, .ref qw, .int gl, .ref qt], eI qw kw 8 gw, eI qt kt 8 gt, eO qd 1 [.ref qr], eI qr kr 64 fr]) hP hD hS hA [(0, 5)] 5 rfl (by decide +kernel) rfl
              have hKc := K_s (tys' := [(kw, .int), (kt, .boolean), (kr, .int)]) hK [(0, 3)] rfl
              refine va_calli (va_runV (As := [.int x_50, .int p1, .int 2, .int p3]) (rest := []) ⟨hx, hb, hml, hown, hts⟩ (c_X5_leadsBack_d2 l dC dI h0 x_50 p1 p3 qd qw gl qt kw gw kt gt qr kr fr H.size (by first | assumption | omega) (by first | assumption | omega) h3 h4 h5 h6 hwi) (cwV 4 hts gX5_leadsBack_X5_leadsBack rfl rfl rfl (by decide +kernel) ⟨Nat.le_of_ble_eq_true rfl, Nat.le_of_ble_eq_true rfl⟩) ⟨fun a U g mk q => by obtain ⟨q0, q1, qP, qK, qD⟩ := q; exact ⟨q0, q1, qP, va_K.moved (u := U) (U := U.calling g mk a) (Vm.Alike.refl U.vm) qK, qD⟩, va_recv (s := s) (q := (RX5, TX5, 4)) hKc hPc (ci := 4) (q0 := 0) rfl rfl, fun U hU hW => ⟨rfl, by rw [hU], by rw [hU]; exact hPc, va_K.moved hW.alike hKc, hDc.weaken (fun _ _ _ _ => trivial)⟩⟩ rfl rfl hl.1 rfl (lv_room (Nat.le_of_ble_eq_true rfl)) dX5_leadsBack_89 ⟨Nat.le_of_ble_eq_true rfl, Nat.le_of_ble_eq_true rfl⟩) hS (fun q _ h => hFc q h) hFc (fun r15 u t H1 locs ht hvm hw hB hz1 hk1 hS => ?_)
              obtain ⟨u16, u17, u18⟩ := u
              obtain ⟨hP1, hK1, hD1⟩ := hB
              rw [ht] at hP1
              have hK1 := va_K.moved hvm.symm hK1
              try dsimp only at hw
              obtain ⟨hP, hD⟩ := J_s (wL := [eO h0 4 [.ref qd, .ref qw, .int u17, .ref qt], eI qw kw 8 u16, eI qt kt 8 u18, eO qd 1 [.ref qr], eI qr kr 64 fr]) hP hD [(0, 5)] [] hCm hNw (by decide +kernel) hk1 hFc hP1 hD1 rfl
              have hK := KJ_s (tys' := [(kw, .int), (kt, .boolean), (kr, .int)]) hK hK1 [] rfl
              generalize H1 = H at hP hS ⊢
              rcases hw with ⟨e_r15, f_r15⟩ | ⟨e_r15, f_r15⟩
              · subst e_r15
                refine lv_if_eq (tgt := 97) hx hb dX5_leadsBack_92 (by decide) (fun c19 => absurd c19 (by decide)) (fun c19 => ?_)
                refine lv_iconst (v := 1) hx hb dX5_leadsBack_95 (by decide) ?_
                rw [hQ9]
                exact W.zret (v := 1) hx hb hr (by decide) (fun t ht hW => ⟨⟨1, (u16, u17, u18), rfl, Or.inl ⟨rfl, f_r15⟩, by rw [ht]; exact hP, va_K.moved hW.alike hK, hD⟩, hS.F ht⟩) hS.2.2 dX5_leadsBack_96
              · subst e_r15
                refine lv_if_eq (tgt := 97) hx hb dX5_leadsBack_92 (by decide) (fun c20 => ?_) (fun c20 => absurd (by decide) c20)
                obtain ⟨x21, e_x21⟩ : ∃ yy : Int32, yy = x_50 + 1 := ⟨_, rfl⟩
                refine lv_iinc (v := x21) (lv' := [(5, .int x21), (0, .ref h0), (1, .int p0), (2, .int p1), (3, .int 1), (4, .int p3)]) hx hb dX5_leadsBack_97 hl (k := 0) rfl (by rw [e_x21]; rfl) (by decide) rfl (fun ls hl => ?_)
                have t_x21 := i_add e_x21 (by omega) (by omega)
                refine lv_goto (tgt := 50) hx hb dX5_leadsBack_100 (by decide) ?_
                exact ih_50 (i_50 + 1) x21 (by omega) (by omega) (by rw [e_x21, e_x_50]; exact nI_1 i_50) u16 u18 u17 (fun k hk => f_r15 k (by omega)) _ _ (K_s hK [(0, 3)] rfl) (P_s hP [(0, 5)] rfl) (D_s hD [(0, 5)] 5 rfl (by decide +kernel) rfl) hS ls (lv_sub hl [0, 1, 2, 3, 4, 5] rfl)
    exact loop_50 (8 + 1) 0 0 (by omega) (by omega) rfl g2 g3 wl hwd _ _ hK hP hD hS ls hl
  · skip
    have f_c6 := i_nle c6
    refine lv_aload_n hx hb dX5_leadsBack_38 rfl (lv_at hl 0 rfl) ?_
    refine lv_iload_n hx hb dX5_leadsBack_39 rfl (lv_at hl 3 rfl) ?_
    refine lv_iconst (v := 1) hx hb dX5_leadsBack_40 (by decide) ?_
    refine lv_iadd hx hb dX5_leadsBack_41 ?_
    refine lv_topi (fun z22 e_z22 => ?_)
    have e_z22 : z22 = 2 := e_z22.trans (by first | rfl | decide)
    subst e_z22
    refine va_put (D := (dC, dI)) (ci := 4) (v := .int 2) (ty := .int) (C := RX5) (T := TX5) (N := 4) hx hb hts (fun w h => List.mem_cons_of_mem _ (inlX5 w h)) tyX5 tyX5_ok nmX5 hown hK hP hD hS 0 rfl rfl 2 (by decide) (hts (.fieldLink RX5 40 "ClearingGates$Rings" "wayLength" "I") (List.mem_cons_of_mem _ mw_145)) (fun _ h9 => h9) rfl (by decide +kernel) rfl rfl (Nat.le_of_ble_eq_true rfl) dX5_leadsBack_42 (fun H locs hP hD hS => ?_)
    obtain ⟨hP, hD⟩ := X_s (ws' := [eO h0 4 [.ref qd, .ref qw, .int 2, .ref qt], eI qw kw 8 g2, eI qt kt 8 g3, eO qd 1 [.ref qr], eI qr kr 64 fr]) hP hD rfl
    refine lv_iconst (v := 1) hx hb dX5_leadsBack_45 (by decide) ?_
    rw [hQ9]
    exact W.zret (v := 1) hx hb hr (by decide) (fun t ht hW => ⟨⟨1, (g2, 2, g3), rfl, Or.inl ⟨rfl, by omega, by omega, fun k hk => hwd k (by omega)⟩, by rw [ht]; exact hP, va_K.moved hW.alike hK, hD⟩, hS.F ht⟩) hS.2.2 dX5_leadsBack_46

set_option maxRecDepth 100000 in
set_option maxHeartbeats 4000000 in
/-- Rings.leadsBack at depth 0 -/
theorem c_X5_leadsBack_d0 (l : Launch) (dC : Nat → ClassId) (dI : Nat → Nat → Nat) (h0 : Nat) (p0 : Int32) (p1 : Int32) (p3 : Int32) (qd : Nat) (qw : Nat) (wl : Int32) (qt : Nat) (kw : ClassId) (fw : Nat → Int32) (kt : ClassId) (ft : Nat → Int32) (qr : Nat) (kr : ClassId) (fr : Nat → Int32) (sz : Nat) (h1 : 0 ≤ p0.toInt) (h2 : p0.toInt < 8) (h3 : 0 ≤ p1.toInt) (h4 : p1.toInt < 8) (h5 : 0 ≤ p3.toInt) (h6 : p3.toInt ≤ 8) (hw0 : ∀ k : Nat, k < 0 → inr8 (fw k)) : Met l yX5_leadsBack wsX5_leadsBack ({ frames := 8, cells := 0, slots := 0, locals := 200 }) (va_Pc [.ref h0, .int p0, .int p1, .int 0, .int p3] (fun U => U.heap.size = sz ∧ va_P (dC, dI) vwCl [eO h0 4 [.ref qd, .ref qw, .int wl, .ref qt], eI qw kw 8 fw, eI qt kt 8 ft, eO qd 1 [.ref qr], eI qr kr 64 fr] U.heap ∧ va_K (dC, dI) vwCl [(kw, .int), (kt, .boolean), (kr, .int)] U ∧ va_D (fun _ => True) [eO h0 4 [.ref qd, .ref qw, .int wl, .ref qt], eI qw kw 8 fw, eI qt kt 8 ft, eO qd 1 [.ref qr], eI qr kr 64 fr])) (va_Qi (fun (r : Int32) (u : (Nat → Int32) × Int32 × (Nat → Int32)) => match u with | (fw2, wl2, ft2) => (r = 1 ∧ 0 < wl2.toInt ∧ wl2.toInt ≤ 8 ∧ ∀ k : Nat, (k : Int) < wl2.toInt → inr8 (fw2 k)) ∨ (r = 0 ∧ ∀ k : Nat, k < 0 → inr8 (fw2 k))) (fun (u : (Nat → Int32) × Int32 × (Nat → Int32)) (t : State) => match u with | (fw2, wl2, ft2) => va_P (dC, dI) vwCl [eO h0 4 [.ref qd, .ref qw, .int wl2, .ref qt], eI qw kw 8 fw2, eI qt kt 8 ft2, eO qd 1 [.ref qr], eI qr kr 64 fr] t.heap ∧ va_K (dC, dI) vwCl [(kw, .int), (kt, .boolean), (kr, .int)] t ∧ va_D (va_A [eO h0 4 [.ref qd, .ref qw, .int wl, .ref qt], eI qw kw 8 fw, eI qt kt 8 ft, eO qd 1 [.ref qr], eI qr kr 64 fr] sz) [eO h0 4 [.ref qd, .ref qw, .int wl2, .ref qt], eI qw kw 8 fw2, eI qt kt 8 ft2, eO qd 1 [.ref qr], eI qr kr 64 fr]) (va_A [eO h0 4 [.ref qd, .ref qw, .int wl, .ref qt], eI qw kw 8 fw, eI qt kt 8 ft, eO qd 1 [.ref qr], eI qr kr 64 fr] sz)) 0 0 (va_A [eO h0 4 [.ref qd, .ref qw, .int wl, .ref qt], eI qw kw 8 fw, eI qt kt 8 ft, eO qd 1 [.ref qr], eI qr kr 64 fr] sz) := by
  refine Met.ofW (cc := cX5_leadsBack) (maxL := 6) (ret := (some .boolean)) (by decide) rfl ?_
  intro p e s m args below meth c s₁ B hml hv
  obtain ⟨rfl, hsz, hP, hK, hD0⟩ := hv
  have hx := B.exec
  have hb := B.bytes
  have hr := B.returns
  have hts := atoms_spec (ws := wsX5_leadsBack) B.pre
  have hown : s.vm.findClass RX5 = some m.cls := findClass_of_methodNamed B.named
  have hlocks := B.notSynchronized
  subst hsz
  have hD := hD0.self (sz := s.heap.size)
  generalize hAe : va_A [eO h0 4 [.ref qd, .ref qw, .int wl, .ref qt], eI qw kw 8 fw, eI qt kt 8 ft, eO qd 1 [.ref qr], eI qr kr 64 fr] s.heap.size = A at hD ⊢
  have hA : ∀ q : Nat, s.heap.size ≤ q → A q := fun q h => by rw [← hAe]; exact Or.inr h
  have hS : va_S A s.heap s.heap [] := va_S.rf
  have hP : va_P (dC, dI) vwCl [eO h0 4 [.ref qd, .ref qw, .int wl, .ref qt], eI qw kw 8 fw, eI qt kt 8 ft, eO qd 1 [.ref qr], eI qr kr 64 fr] s.heap := hP
  have hl := lv_entry ([.ref h0, .int p0, .int p1, .int 0, .int p3]) (n := 6) (Nat.le_of_ble_eq_true rfl)
  rw [lg_entry_eq]
  generalize (lg_sl ([.ref h0, .int p0, .int p1, .int 0, .int p3]) ++ List.replicate (6 - (lg_sl ([.ref h0, .int p0, .int p1, .int 0, .int p3])).length) Slot.unset).toArray = ls at hl ⊢
  have hl : lv_has ls 6 [(0, .ref h0), (1, .int p0), (2, .int p1), (3, .int 0), (4, .int p3)] := hl
  suffices key9 : ∀ Q9 : State → Prop, Q9 = (MQ below (va_Qi (fun (r : Int32) (u : (Nat → Int32) × Int32 × (Nat → Int32)) => match u with | (fw2, wl2, ft2) => (r = 1 ∧ 0 < wl2.toInt ∧ wl2.toInt ≤ 8 ∧ ∀ k : Nat, (k : Int) < wl2.toInt → inr8 (fw2 k)) ∨ (r = 0 ∧ ∀ k : Nat, k < 0 → inr8 (fw2 k))) (fun (u : (Nat → Int32) × Int32 × (Nat → Int32)) (t : State) => match u with | (fw2, wl2, ft2) => va_P (dC, dI) vwCl [eO h0 4 [.ref qd, .ref qw, .int wl2, .ref qt], eI qw kw 8 fw2, eI qt kt 8 ft2, eO qd 1 [.ref qr], eI qr kr 64 fr] t.heap ∧ va_K (dC, dI) vwCl [(kw, .int), (kt, .boolean), (kr, .int)] t ∧ va_D A [eO h0 4 [.ref qd, .ref qw, .int wl2, .ref qt], eI qw kw 8 fw2, eI qt kt 8 ft2, eO qd 1 [.ref qr], eI qr kr 64 fr]) A) (([.ref h0, .int p0, .int p1, .int 0, .int p3] : List Value).toArray) s 0 0 A) → W p l e ({ frames := 8, cells := 0, slots := 0, locals := 200 }) s m (([.ref h0, .int p0, .int p1, .int 0, .int p3] : List Value).toArray) below meth c s.heap [] 0 0 Q9 (F0 m 0 ls []) from key9 _ rfl
  intro Q9 hQ9
  have k_0 : (0 : Int32).toInt = 0 := by decide
  have k_1 : (1 : Int32).toInt = 1 := by decide
  refine lv_iload_n hx hb dX5_leadsBack_0 rfl (lv_at hl 3 rfl) ?_
  refine lv_bipush (v := 8) hx hb dX5_leadsBack_1 (by decide) ?_
  refine lv_icmp_lt (tgt := 8) hx hb dX5_leadsBack_3 (by decide) (fun c1 => ?_) (fun c1 => absurd (by decide) c1)
  refine lv_aload_n hx hb dX5_leadsBack_8 rfl (lv_at hl 0 rfl) ?_
  refine va_get (D := (dC, dI)) (ci := 4) (v := .ref qw) (C := RX5) (T := TX5) (N := 4) hx hb hts (fun w h => List.mem_cons_of_mem _ (inlX5 w h)) hown hK hP 0 rfl rfl 1 (by decide) (hts (.fieldLink RX5 9 "ClearingGates$Rings" "way" "[I") (List.mem_cons_of_mem _ mw_144)) (fun _ h9 => h9) rfl dX5_leadsBack_9 ?_
  refine lv_iload_n hx hb dX5_leadsBack_12 rfl (lv_at hl 3 rfl) ?_
  refine lv_iload_n hx hb dX5_leadsBack_13 rfl (lv_at hl 1 rfl) ?_
  refine va_iast (D := (dC, dI)) hx hb hK hP hD hS 1 0 rfl rfl (vp_in_iff.mpr ⟨by decide, by decide⟩) dX5_leadsBack_14 (fun H locs hP hD hS => ?_)
  generalize e_g2 : (upd fw ((0 : Int32)).toNatClampNeg p0) = g2 at hP hD
  obtain ⟨hP, hD⟩ := X_s (ws' := [eO h0 4 [.ref qd, .ref qw, .int wl, .ref qt], eI qw kw 8 g2, eI qt kt 8 ft, eO qd 1 [.ref qr], eI qr kr 64 fr]) hP hD rfl
  have hwd : ∀ k : Nat, k < 1 → inr8 (g2 k) := by rw [← e_g2]; exact up_in rfl ⟨by omega, by omega⟩ hw0
  refine lv_aload_n hx hb dX5_leadsBack_15 rfl (lv_at hl 0 rfl) ?_
  refine va_get (D := (dC, dI)) (ci := 4) (v := .ref qt) (C := RX5) (T := TX5) (N := 4) hx hb hts (fun w h => List.mem_cons_of_mem _ (inlX5 w h)) hown hK hP 0 rfl rfl 3 (by decide) (hts (.fieldLink RX5 15 "ClearingGates$Rings" "tried" "[Z") (List.mem_cons_of_mem _ mw_146)) (fun _ h9 => h9) rfl dX5_leadsBack_16 ?_
  refine lv_iload_n hx hb dX5_leadsBack_19 rfl (lv_at hl 1 rfl) ?_
  refine lv_iconst (v := 1) hx hb dX5_leadsBack_20 (by decide) ?_
  refine va_zast (D := (dC, dI)) hx hb hK hP hD hS 2 1 rfl rfl (vp_in_iff.mpr ⟨by omega, by omega⟩) dX5_leadsBack_21 (fun H locs hP hD hS => ?_)
  generalize e_g3 : (upd ft (p0).toNatClampNeg (vp_nar .boolean 1)) = g3 at hP hD
  obtain ⟨hP, hD⟩ := X_s (ws' := [eO h0 4 [.ref qd, .ref qw, .int wl, .ref qt], eI qw kw 8 g2, eI qt kt 8 g3, eO qd 1 [.ref qr], eI qr kr 64 fr]) hP hD rfl
  refine lv_iload_n hx hb dX5_leadsBack_22 rfl (lv_at hl 3 rfl) ?_
  refine lv_if_le (tgt := 47) hx hb dX5_leadsBack_23 (by decide) (fun c4 => ?_) (fun c4 => absurd (by decide) c4)
  refine lv_iconst (v := 0) hx hb dX5_leadsBack_47 (by decide) ?_
  refine lv_istore (lv' := [(5, .int 0), (0, .ref h0), (1, .int p0), (2, .int p1), (3, .int 0), (4, .int p3)]) hx hb dX5_leadsBack_48 hl (by decide) rfl (fun ls hl => ?_)
  have loop_50 : ∀ (n i_50 : Nat) (x_50 : Int32), i_50 ≤ 8 → 8 < i_50 + n → x_50 = nI i_50 → ∀ (gw : Nat → Int32), ∀ (gt : Nat → Int32), ∀ (gl : Int32), (∀ k : Nat, k < 1 → inr8 (gw k)) → ∀ (H : Heap) (locs : List Loc), va_K (dC, dI) vwCl [(kw, .int), (kt, .boolean), (kr, .int)] s → va_P (dC, dI) vwCl [eO h0 4 [.ref qd, .ref qw, .int gl, .ref qt], eI qw kw 8 gw, eI qt kt 8 gt, eO qd 1 [.ref qr], eI qr kr 64 fr] H → va_D A [eO h0 4 [.ref qd, .ref qw, .int gl, .ref qt], eI qw kw 8 gw, eI qt kt 8 gt, eO qd 1 [.ref qr], eI qr kr 64 fr] → va_S A s.heap H locs → ∀ (ls : Array Slot), lv_has ls 6 [(5, .int x_50), (0, .ref h0), (1, .int p0), (2, .int p1), (3, .int 0), (4, .int p3)] → W p l e ({ frames := 8, cells := 0, slots := 0, locals := 200 }) s m (([.ref h0, .int p0, .int p1, .int 0, .int p3] : List Value).toArray) below meth c H locs 0 0 Q9 (F0 m 50 ls []) := by
    intro n
    induction n with
    | zero => intro i_50 x_50 h1 h2; exact absurd h2 (by omega)
    | succ n ih_50 =>
      intro i_50 x_50 hi_50 hn_50 e_x_50 gw gt gl hwi H locs hK hP hD hS ls hl
      have t_x_50 : x_50.toInt = (i_50 : Int) := by rw [e_x_50]; exact nI_toInt (by omega)
      refine lv_iload hx hb dX5_leadsBack_50 (lv_at hl 0 rfl) ?_
      refine lv_iload hx hb dX5_leadsBack_52 (lv_at hl 5 rfl) ?_
      refine lv_icmp_ge (tgt := 103) hx hb dX5_leadsBack_54 (by decide) (fun c5 => ?_) (fun c5 => ?_)
      · skip
        have f_c5 := i_le c5
        refine lv_iconst (v := 0) hx hb dX5_leadsBack_103 (by decide) ?_
        rw [hQ9]
        exact W.zret (v := 0) hx hb hr (by decide) (fun t ht hW => ⟨⟨0, (gw, gl, gt), rfl, Or.inr ⟨rfl, fun k hk => hwi k (by omega)⟩, by rw [ht]; exact hP, va_K.moved hW.alike hK, hD⟩, hS.F ht⟩) hS.2.2 dX5_leadsBack_104
      · skip
        have f_c5 := i_nle c5
        refine lv_aload_n hx hb dX5_leadsBack_57 rfl (lv_at hl 1 rfl) ?_
        refine va_get (D := (dC, dI)) (ci := 4) (v := .ref qt) (C := RX5) (T := TX5) (N := 4) hx hb hts (fun w h => List.mem_cons_of_mem _ (inlX5 w h)) hown hK hP 0 rfl rfl 3 (by decide) (hts (.fieldLink RX5 15 "ClearingGates$Rings" "tried" "[Z") (List.mem_cons_of_mem _ mw_146)) (fun _ h9 => h9) rfl dX5_leadsBack_58 ?_
        refine lv_iload hx hb dX5_leadsBack_61 (lv_at hl 0 rfl) ?_
        refine va_zald (D := (dC, dI)) hx hb hK hP 2 1 rfl rfl (vp_in_iff.mpr ⟨by omega, by omega⟩) dX5_leadsBack_63 ?_
        refine lv_topi (fun z6 e_z6 => ?_)
        refine lv_if_ne (tgt := 97) hx hb dX5_leadsBack_64 (by decide) (fun c7 => ?_) (fun c7 => ?_)
        · skip
          have f_c7 := i_ne c7
          obtain ⟨x8, e_x8⟩ : ∃ yy : Int32, yy = x_50 + 1 := ⟨_, rfl⟩
          refine lv_iinc (v := x8) (lv' := [(5, .int x8), (0, .ref h0), (1, .int p0), (2, .int p1), (3, .int 0), (4, .int p3)]) hx hb dX5_leadsBack_97 hl (k := 0) rfl (by rw [e_x8]; rfl) (by decide) rfl (fun ls hl => ?_)
          have t_x8 := i_add e_x8 (by omega) (by omega)
          refine lv_goto (tgt := 50) hx hb dX5_leadsBack_100 (by decide) ?_
          exact ih_50 (i_50 + 1) x8 (by omega) (by omega) (by rw [e_x8, e_x_50]; exact nI_1 i_50) gw gt gl (fun k hk => hwi k (by omega)) _ _ (K_s hK [(0, 3)] rfl) (P_s hP [(0, 5)] rfl) (D_s hD [(0, 5)] 5 rfl (by decide +kernel) rfl) hS ls (lv_sub hl [0, 1, 2, 3, 4, 5] rfl)
        · skip
          have f_c7 := i_eq c7
          refine lv_aload_n hx hb dX5_leadsBack_67 rfl (lv_at hl 1 rfl) ?_
          refine va_get (D := (dC, dI)) (ci := 4) (v := .ref qd) (C := RX5) (T := TX5) (N := 4) hx hb hts (fun w h => List.mem_cons_of_mem _ (inlX5 w h)) hown hK hP 0 rfl rfl 0 (by decide) (hts (.fieldLink RX5 19 "ClearingGates$Rings" "debts" "LClearingGates$Debts;") (List.mem_cons_of_mem _ mw_143)) (fun _ h9 => h9) rfl dX5_leadsBack_68 ?_
          refine lv_iload_n hx hb dX5_leadsBack_71 rfl (lv_at hl 2 rfl) ?_
          refine lv_iload hx hb dX5_leadsBack_72 (lv_at hl 0 rfl) ?_
          obtain ⟨hPc, hDc, hFc, hCm, hNw⟩ := C_s (wc := [eO qd 1 [.ref qr], eI qr kr 64 fr]) hP hD hS hA [(3, 2)] 5 rfl (by decide +kernel) rfl
          have hKc := K_s (tys' := [(kr, .int)]) hK [(2, 1)] rfl
          refine va_calli (va_runV (As := [.int p0, .int x_50]) (rest := []) ⟨hx, hb, hml, hown, hts⟩ (c_X1_between l dC dI qd p0 x_50 qr kr fr H.size h1 h2 (by first | assumption | omega) (by first | assumption | omega)) (cwV 2 hts gX5_leadsBack_X1_between rfl rfl rfl (by decide +kernel) ⟨Nat.le_of_ble_eq_true rfl, Nat.le_of_ble_eq_true rfl⟩) ⟨fun a U g mk q => by obtain ⟨q0, q1, qP, qK, qD⟩ := q; exact ⟨q0, q1, qP, va_K.moved (u := U) (U := U.calling g mk a) (Vm.Alike.refl U.vm) qK, qD⟩, va_recv (s := s) (q := (RX1, TX1, 1)) hKc hPc (ci := 1) (q0 := 0) rfl rfl, fun U hU hW => ⟨rfl, by rw [hU], by rw [hU]; exact hPc, va_K.moved hW.alike hKc, hDc.weaken (fun _ _ _ _ => trivial)⟩⟩ rfl rfl hl.1 rfl (lv_room (Nat.le_of_ble_eq_true rfl)) dX5_leadsBack_74 ⟨Nat.le_of_ble_eq_true rfl, Nat.le_of_ble_eq_true rfl⟩) hS (fun q _ h => hFc q h) hFc (fun r9 u t H1 locs ht hvm hw hB hz1 hk1 hS => ?_)
          obtain ⟨hP1, hK1, hD1⟩ := hB
          rw [ht] at hP1
          have hK1 := va_K.moved hvm.symm hK1
          try dsimp only at hw
          obtain ⟨hP, hD⟩ := J_s (wL := [eO h0 4 [.ref qd, .ref qw, .int gl, .ref qt], eI qw kw 8 gw, eI qt kt 8 gt, eO qd 1 [.ref qr], eI qr kr 64 fr]) hP hD [(3, 2)] [(0, 3)] hCm hNw (by decide +kernel) hk1 hFc hP1 hD1 rfl
          have hK := KJ_s (tys' := [(kw, .int), (kt, .boolean), (kr, .int)]) hK hK1 [(0, 2)] rfl
          generalize H1 = H at hP hS ⊢
          refine lv_if_le (tgt := 97) hx hb dX5_leadsBack_77 (by decide) (fun c10 => ?_) (fun c10 => ?_)
          · skip
            have f_c10 := i_le c10
            obtain ⟨x11, e_x11⟩ : ∃ yy : Int32, yy = x_50 + 1 := ⟨_, rfl⟩
            refine lv_iinc (v := x11) (lv' := [(5, .int x11), (0, .ref h0), (1, .int p0), (2, .int p1), (3, .int 0), (4, .int p3)]) hx hb dX5_leadsBack_97 hl (k := 0) rfl (by rw [e_x11]; rfl) (by decide) rfl (fun ls hl => ?_)
            have t_x11 := i_add e_x11 (by omega) (by omega)
            refine lv_goto (tgt := 50) hx hb dX5_leadsBack_100 (by decide) ?_
            exact ih_50 (i_50 + 1) x11 (by omega) (by omega) (by rw [e_x11, e_x_50]; exact nI_1 i_50) gw gt gl (fun k hk => hwi k (by omega)) _ _ (K_s hK [(0, 3)] rfl) (P_s hP [(0, 5)] rfl) (D_s hD [(0, 5)] 5 rfl (by decide +kernel) rfl) hS ls (lv_sub hl [0, 1, 2, 3, 4, 5] rfl)
          · skip
            have f_c10 := i_nle c10
            refine lv_aload_n hx hb dX5_leadsBack_80 rfl (lv_at hl 1 rfl) ?_
            refine lv_iload hx hb dX5_leadsBack_81 (lv_at hl 0 rfl) ?_
            refine lv_iload_n hx hb dX5_leadsBack_83 rfl (lv_at hl 3 rfl) ?_
            refine lv_iload_n hx hb dX5_leadsBack_84 rfl (lv_at hl 4 rfl) ?_
            refine lv_iconst (v := 1) hx hb dX5_leadsBack_85 (by decide) ?_
            refine lv_iadd hx hb dX5_leadsBack_86 ?_
            refine lv_topi (fun z12 e_z12 => ?_)
            have e_z12 : z12 = 1 := e_z12.trans (by first | rfl | decide)
            subst e_z12
            refine lv_iload hx hb dX5_leadsBack_87 (lv_at hl 5 rfl) ?_
            obtain ⟨hPc, hDc, hFc, hCm, hNw⟩ := C_s (wc := [eO h0 4 [.ref qd, .ref qw, .int gl, .ref qt], eI qw kw 8 gw, eI qt kt 8 gt, eO qd 1 [.ref qr], eI qr kr 64 fr]) hP hD hS hA [(0, 5)] 5 rfl (by decide +kernel) rfl
            have hKc := K_s (tys' := [(kw, .int), (kt, .boolean), (kr, .int)]) hK [(0, 3)] rfl
            refine va_calli (va_runV (As := [.int x_50, .int p1, .int 1, .int p3]) (rest := []) ⟨hx, hb, hml, hown, hts⟩ (c_X5_leadsBack_d1 l dC dI h0 x_50 p1 p3 qd qw gl qt kw gw kt gt qr kr fr H.size (by first | assumption | omega) (by first | assumption | omega) h3 h4 h5 h6 hwi) (cwV 4 hts gX5_leadsBack_X5_leadsBack rfl rfl rfl (by decide +kernel) ⟨Nat.le_of_ble_eq_true rfl, Nat.le_of_ble_eq_true rfl⟩) ⟨fun a U g mk q => by obtain ⟨q0, q1, qP, qK, qD⟩ := q; exact ⟨q0, q1, qP, va_K.moved (u := U) (U := U.calling g mk a) (Vm.Alike.refl U.vm) qK, qD⟩, va_recv (s := s) (q := (RX5, TX5, 4)) hKc hPc (ci := 4) (q0 := 0) rfl rfl, fun U hU hW => ⟨rfl, by rw [hU], by rw [hU]; exact hPc, va_K.moved hW.alike hKc, hDc.weaken (fun _ _ _ _ => trivial)⟩⟩ rfl rfl hl.1 rfl (lv_room (Nat.le_of_ble_eq_true rfl)) dX5_leadsBack_89 ⟨Nat.le_of_ble_eq_true rfl, Nat.le_of_ble_eq_true rfl⟩) hS (fun q _ h => hFc q h) hFc (fun r13 u t H1 locs ht hvm hw hB hz1 hk1 hS => ?_)
            obtain ⟨u14, u15, u16⟩ := u
            obtain ⟨hP1, hK1, hD1⟩ := hB
            rw [ht] at hP1
            have hK1 := va_K.moved hvm.symm hK1
            try dsimp only at hw
            obtain ⟨hP, hD⟩ := J_s (wL := [eO h0 4 [.ref qd, .ref qw, .int u15, .ref qt], eI qw kw 8 u14, eI qt kt 8 u16, eO qd 1 [.ref qr], eI qr kr 64 fr]) hP hD [(0, 5)] [] hCm hNw (by decide +kernel) hk1 hFc hP1 hD1 rfl
            have hK := KJ_s (tys' := [(kw, .int), (kt, .boolean), (kr, .int)]) hK hK1 [] rfl
            generalize H1 = H at hP hS ⊢
            rcases hw with ⟨e_r13, f_r13⟩ | ⟨e_r13, f_r13⟩
            · subst e_r13
              refine lv_if_eq (tgt := 97) hx hb dX5_leadsBack_92 (by decide) (fun c17 => absurd c17 (by decide)) (fun c17 => ?_)
              refine lv_iconst (v := 1) hx hb dX5_leadsBack_95 (by decide) ?_
              rw [hQ9]
              exact W.zret (v := 1) hx hb hr (by decide) (fun t ht hW => ⟨⟨1, (u14, u15, u16), rfl, Or.inl ⟨rfl, f_r13⟩, by rw [ht]; exact hP, va_K.moved hW.alike hK, hD⟩, hS.F ht⟩) hS.2.2 dX5_leadsBack_96
            · subst e_r13
              refine lv_if_eq (tgt := 97) hx hb dX5_leadsBack_92 (by decide) (fun c18 => ?_) (fun c18 => absurd (by decide) c18)
              obtain ⟨x19, e_x19⟩ : ∃ yy : Int32, yy = x_50 + 1 := ⟨_, rfl⟩
              refine lv_iinc (v := x19) (lv' := [(5, .int x19), (0, .ref h0), (1, .int p0), (2, .int p1), (3, .int 0), (4, .int p3)]) hx hb dX5_leadsBack_97 hl (k := 0) rfl (by rw [e_x19]; rfl) (by decide) rfl (fun ls hl => ?_)
              have t_x19 := i_add e_x19 (by omega) (by omega)
              refine lv_goto (tgt := 50) hx hb dX5_leadsBack_100 (by decide) ?_
              exact ih_50 (i_50 + 1) x19 (by omega) (by omega) (by rw [e_x19, e_x_50]; exact nI_1 i_50) u14 u16 u15 (fun k hk => f_r13 k (by omega)) _ _ (K_s hK [(0, 3)] rfl) (P_s hP [(0, 5)] rfl) (D_s hD [(0, 5)] 5 rfl (by decide +kernel) rfl) hS ls (lv_sub hl [0, 1, 2, 3, 4, 5] rfl)
  exact loop_50 (8 + 1) 0 0 (by omega) (by omega) rfl g2 g3 wl hwd _ _ hK hP hD hS ls hl
