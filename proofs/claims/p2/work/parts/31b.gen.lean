set_option maxRecDepth 100000 in
set_option maxHeartbeats 4000000 in
/-- copy -/
theorem c_X9_copy (l : Launch) (dC : Nat → ClassId) (dI : Nat → Nat → Nat) (h0 : Nat) (p0 : Int32) (p1 : Int32) (p2 : Int32) (p3 : Int32) (p4 : Int32) (jb : Nat) (ji : Nat) (jd : Nat) (je : Nat) (jg : Nat) (qpa : Nat) (pcn : Int32) (ipn : Int32) (jt : Nat) (jr : Nat) (j1 : Nat) (j2 : Nat) (qsa : Nat) (ksa : ClassId) (fsa : Nat → Option Nat) (s0 : Nat) (so0 : Int32) (sn0 : Int32) (si0 : Nat) (ksi0 : ClassId) (fsi0 : Nat → Int32) (s1 : Nat) (so1 : Int32) (sn1 : Int32) (si1 : Nat) (ksi1 : ClassId) (fsi1 : Nat → Int32) (s2 : Nat) (so2 : Int32) (sn2 : Int32) (si2 : Nat) (ksi2 : ClassId) (fsi2 : Nat → Int32) (s3 : Nat) (so3 : Int32) (sn3 : Int32) (si3 : Nat) (ksi3 : ClassId) (fsi3 : Nat → Int32) (sz : Nat) (vsa0 : fsa 0 = some s0) (vsa1 : fsa 1 = some s1) (vsa2 : fsa 2 = some s2) (vsa3 : fsa 3 = some s3) (vs0a : 0 ≤ sn0.toInt) (vs0b : sn0.toInt ≤ 60) (vs1a : 0 ≤ sn1.toInt) (vs1b : sn1.toInt ≤ 60) (vs2a : 0 ≤ sn2.toInt) (vs2b : sn2.toInt ≤ 60) (vs3a : 0 ≤ sn3.toInt) (vs3b : sn3.toInt ≤ 60) : Met l yX9_copy wsX9_copy ({ frames := 1, cells := 0, slots := 0, locals := 60 }) (va_Pc [.ref h0, .int p0, .int p1, .int p2, .int p3, .int p4] (fun U => U.heap.size = sz ∧ va_P (dC, dI) vwCl [eO h0 8 [.ref jb, .ref ji, .ref jd, .ref je, .ref jg, .ref qpa, .int pcn, .int ipn, .ref jt, .ref jr, .ref j1, .ref j2, .ref qsa], eR qsa ksa 4 fsa, eO s0 6 [.int so0, .int sn0, .ref si0], eI si0 ksi0 60 fsi0, eO s1 6 [.int so1, .int sn1, .ref si1], eI si1 ksi1 60 fsi1, eO s2 6 [.int so2, .int sn2, .ref si2], eI si2 ksi2 60 fsi2, eO s3 6 [.int so3, .int sn3, .ref si3], eI si3 ksi3 60 fsi3] U.heap ∧ va_K (dC, dI) vwCl [(ksa, .object "ClearingGates$Sheet"), (ksi0, .int), (ksi1, .int), (ksi2, .int), (ksi3, .int)] U ∧ va_D (fun _ => True) [eO h0 8 [.ref jb, .ref ji, .ref jd, .ref je, .ref jg, .ref qpa, .int pcn, .int ipn, .ref jt, .ref jr, .ref j1, .ref j2, .ref qsa], eR qsa ksa 4 fsa, eO s0 6 [.int so0, .int sn0, .ref si0], eI si0 ksi0 60 fsi0, eO s1 6 [.int so1, .int sn1, .ref si1], eI si1 ksi1 60 fsi1, eO s2 6 [.int so2, .int sn2, .ref si2], eI si2 ksi2 60 fsi2, eO s3 6 [.int so3, .int sn3, .ref si3], eI si3 ksi3 60 fsi3])) (va_Qi (fun (r : Int32) (_ : Unit) => True) (fun (_ : Unit) (t : State) => ∃ (fsi0' : Nat → Int32), ∃ (fsi1' : Nat → Int32), ∃ (fsi2' : Nat → Int32), ∃ (fsi3' : Nat → Int32), va_P (dC, dI) vwCl [eO h0 8 [.ref jb, .ref ji, .ref jd, .ref je, .ref jg, .ref qpa, .int pcn, .int ipn, .ref jt, .ref jr, .ref j1, .ref j2, .ref qsa], eR qsa ksa 4 fsa, eO s0 6 [.int so0, .int sn0, .ref si0], eI si0 ksi0 60 (fsi0'), eO s1 6 [.int so1, .int sn1, .ref si1], eI si1 ksi1 60 (fsi1'), eO s2 6 [.int so2, .int sn2, .ref si2], eI si2 ksi2 60 (fsi2'), eO s3 6 [.int so3, .int sn3, .ref si3], eI si3 ksi3 60 (fsi3')] t.heap ∧ va_K (dC, dI) vwCl [(ksa, .object "ClearingGates$Sheet"), (ksi0, .int), (ksi1, .int), (ksi2, .int), (ksi3, .int)] t ∧ va_D (va_A [eO h0 8 [.ref jb, .ref ji, .ref jd, .ref je, .ref jg, .ref qpa, .int pcn, .int ipn, .ref jt, .ref jr, .ref j1, .ref j2, .ref qsa], eR qsa ksa 4 fsa, eO s0 6 [.int so0, .int sn0, .ref si0], eI si0 ksi0 60 fsi0, eO s1 6 [.int so1, .int sn1, .ref si1], eI si1 ksi1 60 fsi1, eO s2 6 [.int so2, .int sn2, .ref si2], eI si2 ksi2 60 fsi2, eO s3 6 [.int so3, .int sn3, .ref si3], eI si3 ksi3 60 fsi3] sz) [eO h0 8 [.ref jb, .ref ji, .ref jd, .ref je, .ref jg, .ref qpa, .int pcn, .int ipn, .ref jt, .ref jr, .ref j1, .ref j2, .ref qsa], eR qsa ksa 4 fsa, eO s0 6 [.int so0, .int sn0, .ref si0], eI si0 ksi0 60 (fsi0'), eO s1 6 [.int so1, .int sn1, .ref si1], eI si1 ksi1 60 (fsi1'), eO s2 6 [.int so2, .int sn2, .ref si2], eI si2 ksi2 60 (fsi2'), eO s3 6 [.int so3, .int sn3, .ref si3], eI si3 ksi3 60 (fsi3')]) (va_A [eO h0 8 [.ref jb, .ref ji, .ref jd, .ref je, .ref jg, .ref qpa, .int pcn, .int ipn, .ref jt, .ref jr, .ref j1, .ref j2, .ref qsa], eR qsa ksa 4 fsa, eO s0 6 [.int so0, .int sn0, .ref si0], eI si0 ksi0 60 fsi0, eO s1 6 [.int so1, .int sn1, .ref si1], eI si1 ksi1 60 fsi1, eO s2 6 [.int so2, .int sn2, .ref si2], eI si2 ksi2 60 fsi2, eO s3 6 [.int so3, .int sn3, .ref si3], eI si3 ksi3 60 fsi3] sz)) 0 0 (va_A [eO h0 8 [.ref jb, .ref ji, .ref jd, .ref je, .ref jg, .ref qpa, .int pcn, .int ipn, .ref jt, .ref jr, .ref j1, .ref j2, .ref qsa], eR qsa ksa 4 fsa, eO s0 6 [.int so0, .int sn0, .ref si0], eI si0 ksi0 60 fsi0, eO s1 6 [.int so1, .int sn1, .ref si1], eI si1 ksi1 60 fsi1, eO s2 6 [.int so2, .int sn2, .ref si2], eI si2 ksi2 60 fsi2, eO s3 6 [.int so3, .int sn3, .ref si3], eI si3 ksi3 60 fsi3] sz) := by
  refine Met.ofW (cc := cX9_copy) (maxL := 8) (ret := (some .int)) (by decide) rfl ?_
  intro p e s m args below meth c s₁ B hml hv
  obtain ⟨rfl, hsz, hP, hK, hD0⟩ := hv
  have hx := B.exec
  have hb := B.bytes
  have hr := B.returns
  have hts := atoms_spec (ws := wsX9_copy) B.pre
  have hown : s.vm.findClass RX9 = some m.cls := findClass_of_methodNamed B.named
  have hlocks := B.notSynchronized
  subst hsz
  have hD := hD0.self (sz := s.heap.size)
  generalize hAe : va_A [eO h0 8 [.ref jb, .ref ji, .ref jd, .ref je, .ref jg, .ref qpa, .int pcn, .int ipn, .ref jt, .ref jr, .ref j1, .ref j2, .ref qsa], eR qsa ksa 4 fsa, eO s0 6 [.int so0, .int sn0, .ref si0], eI si0 ksi0 60 fsi0, eO s1 6 [.int so1, .int sn1, .ref si1], eI si1 ksi1 60 fsi1, eO s2 6 [.int so2, .int sn2, .ref si2], eI si2 ksi2 60 fsi2, eO s3 6 [.int so3, .int sn3, .ref si3], eI si3 ksi3 60 fsi3] s.heap.size = A at hD ⊢
  have hA : ∀ q : Nat, s.heap.size ≤ q → A q := fun q h => by rw [← hAe]; exact Or.inr h
  have hS : va_S A s.heap s.heap [] := va_S.rf
  have hP : va_P (dC, dI) vwCl [eO h0 8 [.ref jb, .ref ji, .ref jd, .ref je, .ref jg, .ref qpa, .int pcn, .int ipn, .ref jt, .ref jr, .ref j1, .ref j2, .ref qsa], eR qsa ksa 4 fsa, eO s0 6 [.int so0, .int sn0, .ref si0], eI si0 ksi0 60 fsi0, eO s1 6 [.int so1, .int sn1, .ref si1], eI si1 ksi1 60 fsi1, eO s2 6 [.int so2, .int sn2, .ref si2], eI si2 ksi2 60 fsi2, eO s3 6 [.int so3, .int sn3, .ref si3], eI si3 ksi3 60 fsi3] s.heap := hP
  have hl := lv_entry ([.ref h0, .int p0, .int p1, .int p2, .int p3, .int p4]) (n := 8) (Nat.le_of_ble_eq_true rfl)
  rw [lg_entry_eq]
  generalize (lg_sl ([.ref h0, .int p0, .int p1, .int p2, .int p3, .int p4]) ++ List.replicate (8 - (lg_sl ([.ref h0, .int p0, .int p1, .int p2, .int p3, .int p4])).length) Slot.unset).toArray = ls at hl ⊢
  have hl : lv_has ls 8 [(0, .ref h0), (1, .int p0), (2, .int p1), (3, .int p2), (4, .int p3), (5, .int p4)] := hl
  suffices key9 : ∀ Q9 : State → Prop, Q9 = (MQ below (va_Qi (fun (r : Int32) (_ : Unit) => True) (fun (_ : Unit) (t : State) => ∃ (fsi0' : Nat → Int32), ∃ (fsi1' : Nat → Int32), ∃ (fsi2' : Nat → Int32), ∃ (fsi3' : Nat → Int32), va_P (dC, dI) vwCl [eO h0 8 [.ref jb, .ref ji, .ref jd, .ref je, .ref jg, .ref qpa, .int pcn, .int ipn, .ref jt, .ref jr, .ref j1, .ref j2, .ref qsa], eR qsa ksa 4 fsa, eO s0 6 [.int so0, .int sn0, .ref si0], eI si0 ksi0 60 (fsi0'), eO s1 6 [.int so1, .int sn1, .ref si1], eI si1 ksi1 60 (fsi1'), eO s2 6 [.int so2, .int sn2, .ref si2], eI si2 ksi2 60 (fsi2'), eO s3 6 [.int so3, .int sn3, .ref si3], eI si3 ksi3 60 (fsi3')] t.heap ∧ va_K (dC, dI) vwCl [(ksa, .object "ClearingGates$Sheet"), (ksi0, .int), (ksi1, .int), (ksi2, .int), (ksi3, .int)] t ∧ va_D A [eO h0 8 [.ref jb, .ref ji, .ref jd, .ref je, .ref jg, .ref qpa, .int pcn, .int ipn, .ref jt, .ref jr, .ref j1, .ref j2, .ref qsa], eR qsa ksa 4 fsa, eO s0 6 [.int so0, .int sn0, .ref si0], eI si0 ksi0 60 (fsi0'), eO s1 6 [.int so1, .int sn1, .ref si1], eI si1 ksi1 60 (fsi1'), eO s2 6 [.int so2, .int sn2, .ref si2], eI si2 ksi2 60 (fsi2'), eO s3 6 [.int so3, .int sn3, .ref si3], eI si3 ksi3 60 (fsi3')]) A) (([.ref h0, .int p0, .int p1, .int p2, .int p3, .int p4] : List Value).toArray) s 0 0 A) → W p l e ({ frames := 1, cells := 0, slots := 0, locals := 60 }) s m (([.ref h0, .int p0, .int p1, .int p2, .int p3, .int p4] : List Value).toArray) below meth c s.heap [] 0 0 Q9 (F0 m 0 ls []) from key9 _ rfl
  intro Q9 hQ9
  have k_m13 : ((-13) : Int32).toInt = (-13) := by decide
  have k_m12 : ((-12) : Int32).toInt = (-12) := by decide
  have k_m11 : ((-11) : Int32).toInt = (-11) := by decide
  have k_m2 : ((-2) : Int32).toInt = (-2) := by decide
  have k_0 : (0 : Int32).toInt = 0 := by decide
  refine lv_iload_n hx hb dX9_copy_0 rfl (lv_at hl 1 rfl) ?_
  obtain ⟨hPc, hDc, hFc, hCm, hNw⟩ := C_s (wc := []) hP hD hS hA [] 10 rfl (by decide +kernel) rfl
  have hKc := K_s (tys' := []) hK [] rfl
  refine va_calli (va_runS (As := [.int p0]) (rest := []) ⟨hx, hb, hml, hown, hts⟩ (c_X9_isSheet l dC dI p0 s.heap.size) (va_cwS 1 hts gX9_copy_X9_isSheet rfl rfl rfl (by decide +kernel) ⟨Nat.le_of_ble_eq_true rfl, Nat.le_of_ble_eq_true rfl⟩) ⟨fun a U g mk q => by obtain ⟨q0, q1, qP, qK, qD⟩ := q; exact ⟨q0, q1, qP, va_K.moved (u := U) (U := U.calling g mk a) (Vm.Alike.refl U.vm) qK, qD⟩, fun U hU hW => ⟨rfl, by rw [hU], by rw [hU]; exact hPc, va_K.moved hW.alike hKc, hDc.weaken (fun _ _ _ _ => trivial)⟩⟩ rfl rfl hl.1 rfl (lv_room (Nat.le_of_ble_eq_true rfl)) dX9_copy_1 ⟨Nat.le_of_ble_eq_true rfl, Nat.le_of_ble_eq_true rfl⟩) hS (fun q _ h => hFc q h) hFc (fun r1 u t H1 locs ht hvm hw hB hz1 hk1 hS => ?_)
  obtain ⟨hP1, hK1, hD1⟩ := hB
  rw [ht] at hP1
  have hK1 := va_K.moved hvm.symm hK1
  try dsimp only at hw
  obtain ⟨hP, hD⟩ := J_s (wL := [eO h0 8 [.ref jb, .ref ji, .ref jd, .ref je, .ref jg, .ref qpa, .int pcn, .int ipn, .ref jt, .ref jr, .ref j1, .ref j2, .ref qsa], eR qsa ksa 4 fsa, eO s0 6 [.int so0, .int sn0, .ref si0], eI si0 ksi0 60 fsi0, eO s1 6 [.int so1, .int sn1, .ref si1], eI si1 ksi1 60 fsi1, eO s2 6 [.int so2, .int sn2, .ref si2], eI si2 ksi2 60 fsi2, eO s3 6 [.int so3, .int sn3, .ref si3], eI si3 ksi3 60 fsi3]) hP hD [] [(0, 10)] hCm hNw (by decide +kernel) hk1 hFc hP1 hD1 rfl
  have hK := KJ_s (tys' := [(ksa, .object "ClearingGates$Sheet"), (ksi0, .int), (ksi1, .int), (ksi2, .int), (ksi3, .int)]) hK hK1 [(0, 5)] rfl
  generalize H1 = H at hP hS ⊢
  rcases hw with ⟨e_r1, f_r1⟩ | ⟨e_r1, f_r1⟩
  · subst e_r1
    refine lv_if_eq (tgt := 14) hx hb dX9_copy_4 (by decide) (fun c2 => absurd c2 (by decide)) (fun c2 => ?_)
    refine lv_iload_n hx hb dX9_copy_7 rfl (lv_at hl 3 rfl) ?_
    obtain ⟨hPc, hDc, hFc, hCm, hNw⟩ := C_s (wc := []) hP hD hS hA [] 10 rfl (by decide +kernel) rfl
    have hKc := K_s (tys' := []) hK [] rfl
    refine va_calli (va_runS (As := [.int p2]) (rest := []) ⟨hx, hb, hml, hown, hts⟩ (c_X9_isSheet l dC dI p2 H.size) (va_cwS 1 hts gX9_copy_X9_isSheet rfl rfl rfl (by decide +kernel) ⟨Nat.le_of_ble_eq_true rfl, Nat.le_of_ble_eq_true rfl⟩) ⟨fun a U g mk q => by obtain ⟨q0, q1, qP, qK, qD⟩ := q; exact ⟨q0, q1, qP, va_K.moved (u := U) (U := U.calling g mk a) (Vm.Alike.refl U.vm) qK, qD⟩, fun U hU hW => ⟨rfl, by rw [hU], by rw [hU]; exact hPc, va_K.moved hW.alike hKc, hDc.weaken (fun _ _ _ _ => trivial)⟩⟩ rfl rfl hl.1 rfl (lv_room (Nat.le_of_ble_eq_true rfl)) dX9_copy_8 ⟨Nat.le_of_ble_eq_true rfl, Nat.le_of_ble_eq_true rfl⟩) hS (fun q _ h => hFc q h) hFc (fun r3 u t H1 locs ht hvm hw hB hz1 hk1 hS => ?_)
    obtain ⟨hP1, hK1, hD1⟩ := hB
    rw [ht] at hP1
    have hK1 := va_K.moved hvm.symm hK1
    try dsimp only at hw
    obtain ⟨hP, hD⟩ := J_s (wL := [eO h0 8 [.ref jb, .ref ji, .ref jd, .ref je, .ref jg, .ref qpa, .int pcn, .int ipn, .ref jt, .ref jr, .ref j1, .ref j2, .ref qsa], eR qsa ksa 4 fsa, eO s0 6 [.int so0, .int sn0, .ref si0], eI si0 ksi0 60 fsi0, eO s1 6 [.int so1, .int sn1, .ref si1], eI si1 ksi1 60 fsi1, eO s2 6 [.int so2, .int sn2, .ref si2], eI si2 ksi2 60 fsi2, eO s3 6 [.int so3, .int sn3, .ref si3], eI si3 ksi3 60 fsi3]) hP hD [] [(0, 10)] hCm hNw (by decide +kernel) hk1 hFc hP1 hD1 rfl
    have hK := KJ_s (tys' := [(ksa, .object "ClearingGates$Sheet"), (ksi0, .int), (ksi1, .int), (ksi2, .int), (ksi3, .int)]) hK hK1 [(0, 5)] rfl
    generalize H1 = H at hP hS ⊢
    rcases hw with ⟨e_r3, f_r3⟩ | ⟨e_r3, f_r3⟩
    · subst e_r3
      refine lv_if_ne (tgt := 17) hx hb dX9_copy_11 (by decide) (fun c4 => ?_) (fun c4 => absurd c4 (by decide))
      refine lv_aload_n hx hb dX9_copy_17 rfl (lv_at hl 0 rfl) ?_
      refine va_get (D := (dC, dI)) (ci := 8) (v := .ref qsa) (C := RX9) (T := TX9) (N := 13) hx hb hts (fun w h => List.mem_cons_of_mem _ (inlX9 w h)) hown hK hP 0 rfl rfl 12 (by decide) (hts (.fieldLink RX9 79 "ClearingGates" "sheets" "[LClearingGates$Sheet;") (List.mem_cons_of_mem _ mw_220)) (fun _ h9 => h9) rfl dX9_copy_18 ?_
      refine lv_iload_n hx hb dX9_copy_21 rfl (lv_at hl 1 rfl) ?_
      refine va_aldq (D := (dC, dI)) hx hb hK hP 1 0 rfl rfl (vp_in_iff.mpr ⟨by omega, by omega⟩) dX9_copy_22 ?_
      rcases i4 (x := p0) (by omega) (by omega) with j0 | j0 | j0 | j0
      · rw [show va_rf (fsa p0.toNatClampNeg) = .ref s0 from by rw [i_nat j0, vsa0]; rfl]
        refine lv_astore (lv' := [(6, .ref s0), (0, .ref h0), (1, .int p0), (2, .int p1), (3, .int p2), (4, .int p3), (5, .int p4)]) hx hb dX9_copy_23 hl (by decide) rfl (fun ls hl => ?_)
        refine lv_aload_n hx hb dX9_copy_25 rfl (lv_at hl 1 rfl) ?_
        refine va_get (D := (dC, dI)) (ci := 8) (v := .ref qsa) (C := RX9) (T := TX9) (N := 13) hx hb hts (fun w h => List.mem_cons_of_mem _ (inlX9 w h)) hown hK hP 0 rfl rfl 12 (by decide) (hts (.fieldLink RX9 79 "ClearingGates" "sheets" "[LClearingGates$Sheet;") (List.mem_cons_of_mem _ mw_220)) (fun _ h9 => h9) rfl dX9_copy_26 ?_
        refine lv_iload_n hx hb dX9_copy_29 rfl (lv_at hl 4 rfl) ?_
        refine va_aldq (D := (dC, dI)) hx hb hK hP 1 0 rfl rfl (vp_in_iff.mpr ⟨by omega, by omega⟩) dX9_copy_30 ?_
        rcases i4 (x := p2) (by omega) (by omega) with j0 | j0 | j0 | j0
        · rw [show va_rf (fsa p2.toNatClampNeg) = .ref s0 from by rw [i_nat j0, vsa0]; rfl]
          refine lv_astore (lv' := [(7, .ref s0), (6, .ref s0), (0, .ref h0), (1, .int p0), (2, .int p1), (3, .int p2), (4, .int p3), (5, .int p4)]) hx hb dX9_copy_31 hl (by decide) rfl (fun ls hl => ?_)
          refine lv_aload hx hb dX9_copy_33 (lv_at hl 1 rfl) ?_
          obtain ⟨hPc, hDc, hFc, hCm, hNw⟩ := C_s (wc := [eO s0 6 [.int so0, .int sn0, .ref si0]]) hP hD hS hA [(2, 1)] 10 rfl (by decide +kernel) rfl
          have hKc := K_s (tys' := []) hK [] rfl
          refine va_calli (va_runV (As := []) (rest := []) ⟨hx, hb, hml, hown, hts⟩ (c_X7_isMissing l dC dI s0 so0 sn0 si0 H.size) (cwV 0 hts gX9_copy_X7_isMissing rfl rfl rfl (by decide +kernel) ⟨Nat.le_of_ble_eq_true rfl, Nat.le_of_ble_eq_true rfl⟩) ⟨fun a U g mk q => by obtain ⟨q0, q1, qP, qK, qD⟩ := q; exact ⟨q0, q1, qP, va_K.moved (u := U) (U := U.calling g mk a) (Vm.Alike.refl U.vm) qK, qD⟩, va_recv (s := s) (q := (RX7, TX7, 3)) hKc hPc (ci := 6) (q0 := 0) rfl rfl, fun U hU hW => ⟨rfl, by rw [hU], by rw [hU]; exact hPc, va_K.moved hW.alike hKc, hDc.weaken (fun _ _ _ _ => trivial)⟩⟩ rfl rfl hl.1 rfl (lv_room (Nat.le_of_ble_eq_true rfl)) dX9_copy_35 ⟨Nat.le_of_ble_eq_true rfl, Nat.le_of_ble_eq_true rfl⟩) hS (fun q _ h => hFc q h) hFc (fun r5 u t H1 locs ht hvm hw hB hz1 hk1 hS => ?_)
          obtain ⟨hP1, hK1, hD1⟩ := hB
          rw [ht] at hP1
          have hK1 := va_K.moved hvm.symm hK1
          try dsimp only at hw
          obtain ⟨hP, hD⟩ := J_s (wL := [eO h0 8 [.ref jb, .ref ji, .ref jd, .ref je, .ref jg, .ref qpa, .int pcn, .int ipn, .ref jt, .ref jr, .ref j1, .ref j2, .ref qsa], eR qsa ksa 4 fsa, eI si0 ksi0 60 fsi0, eO s1 6 [.int so1, .int sn1, .ref si1], eI si1 ksi1 60 fsi1, eO s2 6 [.int so2, .int sn2, .ref si2], eI si2 ksi2 60 fsi2, eO s3 6 [.int so3, .int sn3, .ref si3], eI si3 ksi3 60 fsi3, eO s0 6 [.int so0, .int sn0, .ref si0]]) hP hD [(2, 1)] [(0, 2), (3, 7)] hCm hNw (by decide +kernel) hk1 hFc hP1 hD1 rfl
          have hK := KJ_s (tys' := [(ksa, .object "ClearingGates$Sheet"), (ksi0, .int), (ksi1, .int), (ksi2, .int), (ksi3, .int)]) hK hK1 [(0, 5)] rfl
          generalize H1 = H at hP hS ⊢
          rcases hw with ⟨e_r5, f_r5⟩ | ⟨e_r5, f_r5⟩
          · subst e_r5
            refine lv_if_ne (tgt := 49) hx hb dX9_copy_38 (by decide) (fun c6 => ?_) (fun c6 => absurd c6 (by decide))
            refine lv_bipush (v := -11) hx hb dX9_copy_49 (by decide) ?_
            rw [hQ9]
            exact W.iret (v := (-11)) hx hb hr (fun t ht hW => ⟨⟨(-11), (), rfl, (by first | rfl | trivial), fsi0, fsi1, fsi2, fsi3, by rw [ht]; exact P_s hP [(0, 2), (9, 1), (2, 7)] rfl, va_K.moved hW.alike hK, D_s hD [(0, 2), (9, 1), (2, 7)] 10 rfl (by decide +kernel) rfl⟩, hS.F ht⟩) hS.2.2 dX9_copy_51
          · subst e_r5
            refine lv_if_ne (tgt := 49) hx hb dX9_copy_38 (by decide) (fun c7 => absurd (by decide) c7) (fun c7 => ?_)
            refine lv_aload hx hb dX9_copy_41 (lv_at hl 0 rfl) ?_
            obtain ⟨hPc, hDc, hFc, hCm, hNw⟩ := C_s (wc := [eO s0 6 [.int so0, .int sn0, .ref si0]]) hP hD hS hA [(9, 1)] 10 rfl (by decide +kernel) rfl
            have hKc := K_s (tys' := []) hK [] rfl
            refine va_calli (va_runV (As := []) (rest := []) ⟨hx, hb, hml, hown, hts⟩ (c_X7_isMissing l dC dI s0 so0 sn0 si0 H.size) (cwV 0 hts gX9_copy_X7_isMissing rfl rfl rfl (by decide +kernel) ⟨Nat.le_of_ble_eq_true rfl, Nat.le_of_ble_eq_true rfl⟩) ⟨fun a U g mk q => by obtain ⟨q0, q1, qP, qK, qD⟩ := q; exact ⟨q0, q1, qP, va_K.moved (u := U) (U := U.calling g mk a) (Vm.Alike.refl U.vm) qK, qD⟩, va_recv (s := s) (q := (RX7, TX7, 3)) hKc hPc (ci := 6) (q0 := 0) rfl rfl, fun U hU hW => ⟨rfl, by rw [hU], by rw [hU]; exact hPc, va_K.moved hW.alike hKc, hDc.weaken (fun _ _ _ _ => trivial)⟩⟩ rfl rfl hl.1 rfl (lv_room (Nat.le_of_ble_eq_true rfl)) dX9_copy_43 ⟨Nat.le_of_ble_eq_true rfl, Nat.le_of_ble_eq_true rfl⟩) hS (fun q _ h => hFc q h) hFc (fun r8 u t H1 locs ht hvm hw hB hz1 hk1 hS => ?_)
            obtain ⟨hP1, hK1, hD1⟩ := hB
            rw [ht] at hP1
            have hK1 := va_K.moved hvm.symm hK1
            try dsimp only at hw
            obtain ⟨hP, hD⟩ := J_s (wL := [eO h0 8 [.ref jb, .ref ji, .ref jd, .ref je, .ref jg, .ref qpa, .int pcn, .int ipn, .ref jt, .ref jr, .ref j1, .ref j2, .ref qsa], eR qsa ksa 4 fsa, eI si0 ksi0 60 fsi0, eO s1 6 [.int so1, .int sn1, .ref si1], eI si1 ksi1 60 fsi1, eO s2 6 [.int so2, .int sn2, .ref si2], eI si2 ksi2 60 fsi2, eO s3 6 [.int so3, .int sn3, .ref si3], eI si3 ksi3 60 fsi3, eO s0 6 [.int so0, .int sn0, .ref si0]]) hP hD [(9, 1)] [(0, 9)] hCm hNw (by decide +kernel) hk1 hFc hP1 hD1 rfl
            have hK := KJ_s (tys' := [(ksa, .object "ClearingGates$Sheet"), (ksi0, .int), (ksi1, .int), (ksi2, .int), (ksi3, .int)]) hK hK1 [(0, 5)] rfl
            generalize H1 = H at hP hS ⊢
            rcases hw with ⟨e_r8, f_r8⟩ | ⟨e_r8, f_r8⟩
            · subst e_r8
              refine lv_if_eq (tgt := 52) hx hb dX9_copy_46 (by decide) (fun c9 => absurd c9 (by decide)) (fun c9 => ?_)
              refine lv_bipush (v := -11) hx hb dX9_copy_49 (by decide) ?_
              rw [hQ9]
              exact W.iret (v := (-11)) hx hb hr (fun t ht hW => ⟨⟨(-11), (), rfl, (by first | rfl | trivial), fsi0, fsi1, fsi2, fsi3, by rw [ht]; exact P_s hP [(0, 2), (9, 1), (2, 7)] rfl, va_K.moved hW.alike hK, D_s hD [(0, 2), (9, 1), (2, 7)] 10 rfl (by decide +kernel) rfl⟩, hS.F ht⟩) hS.2.2 dX9_copy_51
            · subst e_r8
              refine lv_if_eq (tgt := 52) hx hb dX9_copy_46 (by decide) (fun c10 => ?_) (fun c10 => absurd (by decide) c10)
              refine lv_aload hx hb dX9_copy_52 (lv_at hl 1 rfl) ?_
              refine va_get (D := (dC, dI)) (ci := 6) (v := .int so0) (C := RX7) (T := TX7) (N := 3) hx hb hts (fun w h => List.mem_cons_of_mem _ (inlX7 w h)) hown hK hP 9 rfl rfl 0 (by decide) (hts (.fieldLink RX9 270 "ClearingGates$Sheet" "sort" "I") (List.mem_cons_of_mem _ mw_203)) (fun _ h9 => h9) rfl dX9_copy_54 ?_
              refine lv_aload hx hb dX9_copy_57 (lv_at hl 0 rfl) ?_
              refine va_get (D := (dC, dI)) (ci := 6) (v := .int so0) (C := RX7) (T := TX7) (N := 3) hx hb hts (fun w h => List.mem_cons_of_mem _ (inlX7 w h)) hown hK hP 9 rfl rfl 0 (by decide) (hts (.fieldLink RX9 270 "ClearingGates$Sheet" "sort" "I") (List.mem_cons_of_mem _ mw_203)) (fun _ h9 => h9) rfl dX9_copy_59 ?_
              refine lv_icmp_eq (tgt := 68) hx hb dX9_copy_62 (by decide) (fun c11 => ?_) (fun c11 => ?_)
              · skip
                have f_c11 := i_eq c11
                refine lv_aload hx hb dX9_copy_68 (lv_at hl 1 rfl) ?_
                refine lv_iload_n hx hb dX9_copy_70 rfl (lv_at hl 4 rfl) ?_
                refine lv_iload hx hb dX9_copy_71 (lv_at hl 7 rfl) ?_
                obtain ⟨hPc, hDc, hFc, hCm, hNw⟩ := C_s (wc := [eO s0 6 [.int so0, .int sn0, .ref si0]]) hP hD hS hA [(9, 1)] 10 rfl (by decide +kernel) rfl
                have hKc := K_s (tys' := []) hK [] rfl
                refine va_calli (va_runV (As := [.int p1, .int p4]) (rest := []) ⟨hx, hb, hml, hown, hts⟩ (c_X7_hasStretch l dC dI s0 p1 p4 so0 sn0 si0 H.size vs0a vs0b) (cwV 2 hts gX9_copy_X7_hasStretch rfl rfl rfl (by decide +kernel) ⟨Nat.le_of_ble_eq_true rfl, Nat.le_of_ble_eq_true rfl⟩) ⟨fun a U g mk q => by obtain ⟨q0, q1, qP, qK, qD⟩ := q; exact ⟨q0, q1, qP, va_K.moved (u := U) (U := U.calling g mk a) (Vm.Alike.refl U.vm) qK, qD⟩, va_recv (s := s) (q := (RX7, TX7, 3)) hKc hPc (ci := 6) (q0 := 0) rfl rfl, fun U hU hW => ⟨rfl, by rw [hU], by rw [hU]; exact hPc, va_K.moved hW.alike hKc, hDc.weaken (fun _ _ _ _ => trivial)⟩⟩ rfl rfl hl.1 rfl (lv_room (Nat.le_of_ble_eq_true rfl)) dX9_copy_73 ⟨Nat.le_of_ble_eq_true rfl, Nat.le_of_ble_eq_true rfl⟩) hS (fun q _ h => hFc q h) hFc (fun r12 u t H1 locs ht hvm hw hB hz1 hk1 hS => ?_)
                obtain ⟨hP1, hK1, hD1⟩ := hB
                rw [ht] at hP1
                have hK1 := va_K.moved hvm.symm hK1
                try dsimp only at hw
                obtain ⟨hP, hD⟩ := J_s (wL := [eO h0 8 [.ref jb, .ref ji, .ref jd, .ref je, .ref jg, .ref qpa, .int pcn, .int ipn, .ref jt, .ref jr, .ref j1, .ref j2, .ref qsa], eR qsa ksa 4 fsa, eI si0 ksi0 60 fsi0, eO s1 6 [.int so1, .int sn1, .ref si1], eI si1 ksi1 60 fsi1, eO s2 6 [.int so2, .int sn2, .ref si2], eI si2 ksi2 60 fsi2, eO s3 6 [.int so3, .int sn3, .ref si3], eI si3 ksi3 60 fsi3, eO s0 6 [.int so0, .int sn0, .ref si0]]) hP hD [(9, 1)] [(0, 9)] hCm hNw (by decide +kernel) hk1 hFc hP1 hD1 rfl
                have hK := KJ_s (tys' := [(ksa, .object "ClearingGates$Sheet"), (ksi0, .int), (ksi1, .int), (ksi2, .int), (ksi3, .int)]) hK hK1 [(0, 5)] rfl
                generalize H1 = H at hP hS ⊢
                rcases hw with ⟨e_r12, f_r12⟩ | ⟨e_r12, f_r12⟩
                · subst e_r12
                  refine lv_if_eq (tgt := 91) hx hb dX9_copy_76 (by decide) (fun c13 => absurd c13 (by decide)) (fun c13 => ?_)
                  refine lv_aload hx hb dX9_copy_79 (lv_at hl 0 rfl) ?_
                  refine lv_iload hx hb dX9_copy_81 (lv_at hl 6 rfl) ?_
                  refine lv_iload hx hb dX9_copy_83 (lv_at hl 7 rfl) ?_
                  obtain ⟨hPc, hDc, hFc, hCm, hNw⟩ := C_s (wc := [eO s0 6 [.int so0, .int sn0, .ref si0]]) hP hD hS hA [(9, 1)] 10 rfl (by decide +kernel) rfl
                  have hKc := K_s (tys' := []) hK [] rfl
                  refine va_calli (va_runV (As := [.int p3, .int p4]) (rest := []) ⟨hx, hb, hml, hown, hts⟩ (c_X7_hasStretch l dC dI s0 p3 p4 so0 sn0 si0 H.size vs0a vs0b) (cwV 2 hts gX9_copy_X7_hasStretch rfl rfl rfl (by decide +kernel) ⟨Nat.le_of_ble_eq_true rfl, Nat.le_of_ble_eq_true rfl⟩) ⟨fun a U g mk q => by obtain ⟨q0, q1, qP, qK, qD⟩ := q; exact ⟨q0, q1, qP, va_K.moved (u := U) (U := U.calling g mk a) (Vm.Alike.refl U.vm) qK, qD⟩, va_recv (s := s) (q := (RX7, TX7, 3)) hKc hPc (ci := 6) (q0 := 0) rfl rfl, fun U hU hW => ⟨rfl, by rw [hU], by rw [hU]; exact hPc, va_K.moved hW.alike hKc, hDc.weaken (fun _ _ _ _ => trivial)⟩⟩ rfl rfl hl.1 rfl (lv_room (Nat.le_of_ble_eq_true rfl)) dX9_copy_85 ⟨Nat.le_of_ble_eq_true rfl, Nat.le_of_ble_eq_true rfl⟩) hS (fun q _ h => hFc q h) hFc (fun r14 u t H1 locs ht hvm hw hB hz1 hk1 hS => ?_)
                  obtain ⟨hP1, hK1, hD1⟩ := hB
                  rw [ht] at hP1
                  have hK1 := va_K.moved hvm.symm hK1
                  try dsimp only at hw
                  obtain ⟨hP, hD⟩ := J_s (wL := [eO h0 8 [.ref jb, .ref ji, .ref jd, .ref je, .ref jg, .ref qpa, .int pcn, .int ipn, .ref jt, .ref jr, .ref j1, .ref j2, .ref qsa], eR qsa ksa 4 fsa, eI si0 ksi0 60 fsi0, eO s1 6 [.int so1, .int sn1, .ref si1], eI si1 ksi1 60 fsi1, eO s2 6 [.int so2, .int sn2, .ref si2], eI si2 ksi2 60 fsi2, eO s3 6 [.int so3, .int sn3, .ref si3], eI si3 ksi3 60 fsi3, eO s0 6 [.int so0, .int sn0, .ref si0]]) hP hD [(9, 1)] [(0, 9)] hCm hNw (by decide +kernel) hk1 hFc hP1 hD1 rfl
                  have hK := KJ_s (tys' := [(ksa, .object "ClearingGates$Sheet"), (ksi0, .int), (ksi1, .int), (ksi2, .int), (ksi3, .int)]) hK hK1 [(0, 5)] rfl
                  generalize H1 = H at hP hS ⊢
                  rcases hw with ⟨e_r14, f_r14⟩ | ⟨e_r14, f_r14⟩
                  · subst e_r14
                    refine lv_if_ne (tgt := 94) hx hb dX9_copy_88 (by decide) (fun c15 => ?_) (fun c15 => absurd c15 (by decide))
                    refine lv_aload hx hb dX9_copy_94 (lv_at hl 1 rfl) ?_
                    refine va_get (D := (dC, dI)) (ci := 6) (v := .ref si0) (C := RX7) (T := TX7) (N := 3) hx hb hts (fun w h => List.mem_cons_of_mem _ (inlX7 w h)) hown hK hP 9 rfl rfl 2 (by decide) (hts (.fieldLink RX9 276 "ClearingGates$Sheet" "items" "[I") (List.mem_cons_of_mem _ mw_207)) (fun _ h9 => h9) rfl dX9_copy_96 ?_
                    refine lv_iload_n hx hb dX9_copy_99 rfl (lv_at hl 4 rfl) ?_
                    refine lv_aload hx hb dX9_copy_100 (lv_at hl 0 rfl) ?_
                    refine va_get (D := (dC, dI)) (ci := 6) (v := .ref si0) (C := RX7) (T := TX7) (N := 3) hx hb hts (fun w h => List.mem_cons_of_mem _ (inlX7 w h)) hown hK hP 9 rfl rfl 2 (by decide) (hts (.fieldLink RX9 276 "ClearingGates$Sheet" "items" "[I") (List.mem_cons_of_mem _ mw_207)) (fun _ h9 => h9) rfl dX9_copy_102 ?_
                    refine lv_iload hx hb dX9_copy_105 (lv_at hl 6 rfl) ?_
                    refine lv_iload hx hb dX9_copy_107 (lv_at hl 7 rfl) ?_
                    refine va_copyi (D := (dC, dI)) hx hb (hml.trans hl.1.symm) hown (hts (.methodLink RX9 279 arraycopyName) (List.mem_cons_of_mem _ mw_597)) (hts (.native arraycopyName) (List.mem_cons_of_mem _ mw_330)) (hts (.static arraycopyName) (List.mem_cons_of_mem _ mw_329)) (hts (.initialized "java/lang/System") (List.mem_cons_of_mem _ mw_80)) hK hP hD hS 2 2 1 1 rfl rfl rfl rfl rfl (fun q => by have := i_lt q; omega) (fun q => by have := i_lt q; omega) (fun q => by have := i_lt q; omega) (by have e1 := i_natZ (x := p1) (by omega); have e2 := i_natZ (x := p4) (by omega); omega) (by have e1 := i_natZ (x := p3) (by omega); have e2 := i_natZ (x := p4) (by omega); omega) (fun _ _ => rfl) (Nat.le_of_ble_eq_true rfl) (by decide) dX9_copy_109 (fun H locs hP hD hS => ?_)
                    generalize e_g16 : (va_cpy fsi0 fsi0 (p1 : Int32).toNatClampNeg (p3 : Int32).toNatClampNeg (p4 : Int32).toNatClampNeg) = g16 at hP hD
                    obtain ⟨hP, hD⟩ := X_s (ws' := [eO h0 8 [.ref jb, .ref ji, .ref jd, .ref je, .ref jg, .ref qpa, .int pcn, .int ipn, .ref jt, .ref jr, .ref j1, .ref j2, .ref qsa], eR qsa ksa 4 fsa, eI si0 ksi0 60 g16, eO s1 6 [.int so1, .int sn1, .ref si1], eI si1 ksi1 60 fsi1, eO s2 6 [.int so2, .int sn2, .ref si2], eI si2 ksi2 60 fsi2, eO s3 6 [.int so3, .int sn3, .ref si3], eI si3 ksi3 60 fsi3, eO s0 6 [.int so0, .int sn0, .ref si0]]) hP hD rfl
                    refine lv_iload hx hb dX9_copy_112 (lv_at hl 7 rfl) ?_
                    rw [hQ9]
                    exact W.iret (v := p4) hx hb hr (fun t ht hW => ⟨⟨p4, (), rfl, (by first | rfl | trivial), g16, fsi1, fsi2, fsi3, by rw [ht]; exact P_s hP [(0, 2), (9, 1), (2, 7)] rfl, va_K.moved hW.alike hK, D_s hD [(0, 2), (9, 1), (2, 7)] 10 rfl (by decide +kernel) rfl⟩, hS.F ht⟩) hS.2.2 dX9_copy_114
                  · subst e_r14
                    refine lv_if_ne (tgt := 94) hx hb dX9_copy_88 (by decide) (fun c17 => absurd (by decide) c17) (fun c17 => ?_)
                    refine lv_bipush (v := -12) hx hb dX9_copy_91 (by decide) ?_
                    rw [hQ9]
                    exact W.iret (v := (-12)) hx hb hr (fun t ht hW => ⟨⟨(-12), (), rfl, (by first | rfl | trivial), fsi0, fsi1, fsi2, fsi3, by rw [ht]; exact P_s hP [(0, 2), (9, 1), (2, 7)] rfl, va_K.moved hW.alike hK, D_s hD [(0, 2), (9, 1), (2, 7)] 10 rfl (by decide +kernel) rfl⟩, hS.F ht⟩) hS.2.2 dX9_copy_93
                · subst e_r12
                  refine lv_if_eq (tgt := 91) hx hb dX9_copy_76 (by decide) (fun c18 => ?_) (fun c18 => absurd (by decide) c18)
                  refine lv_bipush (v := -12) hx hb dX9_copy_91 (by decide) ?_
                  rw [hQ9]
                  exact W.iret (v := (-12)) hx hb hr (fun t ht hW => ⟨⟨(-12), (), rfl, (by first | rfl | trivial), fsi0, fsi1, fsi2, fsi3, by rw [ht]; exact P_s hP [(0, 2), (9, 1), (2, 7)] rfl, va_K.moved hW.alike hK, D_s hD [(0, 2), (9, 1), (2, 7)] 10 rfl (by decide +kernel) rfl⟩, hS.F ht⟩) hS.2.2 dX9_copy_93
              · skip
                have f_c11 := i_ne c11
                refine lv_bipush (v := -13) hx hb dX9_copy_65 (by decide) ?_
                rw [hQ9]
                exact W.iret (v := (-13)) hx hb hr (fun t ht hW => ⟨⟨(-13), (), rfl, (by first | rfl | trivial), fsi0, fsi1, fsi2, fsi3, by rw [ht]; exact P_s hP [(0, 2), (9, 1), (2, 7)] rfl, va_K.moved hW.alike hK, D_s hD [(0, 2), (9, 1), (2, 7)] 10 rfl (by decide +kernel) rfl⟩, hS.F ht⟩) hS.2.2 dX9_copy_67
        · rw [show va_rf (fsa p2.toNatClampNeg) = .ref s1 from by rw [i_nat j0, vsa1]; rfl]
          refine lv_astore (lv' := [(7, .ref s1), (6, .ref s0), (0, .ref h0), (1, .int p0), (2, .int p1), (3, .int p2), (4, .int p3), (5, .int p4)]) hx hb dX9_copy_31 hl (by decide) rfl (fun ls hl => ?_)
          refine lv_aload hx hb dX9_copy_33 (lv_at hl 1 rfl) ?_
          obtain ⟨hPc, hDc, hFc, hCm, hNw⟩ := C_s (wc := [eO s0 6 [.int so0, .int sn0, .ref si0]]) hP hD hS hA [(2, 1)] 10 rfl (by decide +kernel) rfl
          have hKc := K_s (tys' := []) hK [] rfl
          refine va_calli (va_runV (As := []) (rest := []) ⟨hx, hb, hml, hown, hts⟩ (c_X7_isMissing l dC dI s0 so0 sn0 si0 H.size) (cwV 0 hts gX9_copy_X7_isMissing rfl rfl rfl (by decide +kernel) ⟨Nat.le_of_ble_eq_true rfl, Nat.le_of_ble_eq_true rfl⟩) ⟨fun a U g mk q => by obtain ⟨q0, q1, qP, qK, qD⟩ := q; exact ⟨q0, q1, qP, va_K.moved (u := U) (U := U.calling g mk a) (Vm.Alike.refl U.vm) qK, qD⟩, va_recv (s := s) (q := (RX7, TX7, 3)) hKc hPc (ci := 6) (q0 := 0) rfl rfl, fun U hU hW => ⟨rfl, by rw [hU], by rw [hU]; exact hPc, va_K.moved hW.alike hKc, hDc.weaken (fun _ _ _ _ => trivial)⟩⟩ rfl rfl hl.1 rfl (lv_room (Nat.le_of_ble_eq_true rfl)) dX9_copy_35 ⟨Nat.le_of_ble_eq_true rfl, Nat.le_of_ble_eq_true rfl⟩) hS (fun q _ h => hFc q h) hFc (fun r19 u t H1 locs ht hvm hw hB hz1 hk1 hS => ?_)
          obtain ⟨hP1, hK1, hD1⟩ := hB
          rw [ht] at hP1
          have hK1 := va_K.moved hvm.symm hK1
          try dsimp only at hw
          obtain ⟨hP, hD⟩ := J_s (wL := [eO h0 8 [.ref jb, .ref ji, .ref jd, .ref je, .ref jg, .ref qpa, .int pcn, .int ipn, .ref jt, .ref jr, .ref j1, .ref j2, .ref qsa], eR qsa ksa 4 fsa, eI si0 ksi0 60 fsi0, eO s1 6 [.int so1, .int sn1, .ref si1], eI si1 ksi1 60 fsi1, eO s2 6 [.int so2, .int sn2, .ref si2], eI si2 ksi2 60 fsi2, eO s3 6 [.int so3, .int sn3, .ref si3], eI si3 ksi3 60 fsi3, eO s0 6 [.int so0, .int sn0, .ref si0]]) hP hD [(2, 1)] [(0, 2), (3, 7)] hCm hNw (by decide +kernel) hk1 hFc hP1 hD1 rfl
          have hK := KJ_s (tys' := [(ksa, .object "ClearingGates$Sheet"), (ksi0, .int), (ksi1, .int), (ksi2, .int), (ksi3, .int)]) hK hK1 [(0, 5)] rfl
          generalize H1 = H at hP hS ⊢
          rcases hw with ⟨e_r19, f_r19⟩ | ⟨e_r19, f_r19⟩
          · subst e_r19
            refine lv_if_ne (tgt := 49) hx hb dX9_copy_38 (by decide) (fun c20 => ?_) (fun c20 => absurd c20 (by decide))
            refine lv_bipush (v := -11) hx hb dX9_copy_49 (by decide) ?_
            rw [hQ9]
            exact W.iret (v := (-11)) hx hb hr (fun t ht hW => ⟨⟨(-11), (), rfl, (by first | rfl | trivial), fsi0, fsi1, fsi2, fsi3, by rw [ht]; exact P_s hP [(0, 2), (9, 1), (2, 7)] rfl, va_K.moved hW.alike hK, D_s hD [(0, 2), (9, 1), (2, 7)] 10 rfl (by decide +kernel) rfl⟩, hS.F ht⟩) hS.2.2 dX9_copy_51
          · subst e_r19
            refine lv_if_ne (tgt := 49) hx hb dX9_copy_38 (by decide) (fun c21 => absurd (by decide) c21) (fun c21 => ?_)
            refine lv_aload hx hb dX9_copy_41 (lv_at hl 0 rfl) ?_
            obtain ⟨hPc, hDc, hFc, hCm, hNw⟩ := C_s (wc := [eO s1 6 [.int so1, .int sn1, .ref si1]]) hP hD hS hA [(3, 1)] 10 rfl (by decide +kernel) rfl
            have hKc := K_s (tys' := []) hK [] rfl
            refine va_calli (va_runV (As := []) (rest := []) ⟨hx, hb, hml, hown, hts⟩ (c_X7_isMissing l dC dI s1 so1 sn1 si1 H.size) (cwV 0 hts gX9_copy_X7_isMissing rfl rfl rfl (by decide +kernel) ⟨Nat.le_of_ble_eq_true rfl, Nat.le_of_ble_eq_true rfl⟩) ⟨fun a U g mk q => by obtain ⟨q0, q1, qP, qK, qD⟩ := q; exact ⟨q0, q1, qP, va_K.moved (u := U) (U := U.calling g mk a) (Vm.Alike.refl U.vm) qK, qD⟩, va_recv (s := s) (q := (RX7, TX7, 3)) hKc hPc (ci := 6) (q0 := 0) rfl rfl, fun U hU hW => ⟨rfl, by rw [hU], by rw [hU]; exact hPc, va_K.moved hW.alike hKc, hDc.weaken (fun _ _ _ _ => trivial)⟩⟩ rfl rfl hl.1 rfl (lv_room (Nat.le_of_ble_eq_true rfl)) dX9_copy_43 ⟨Nat.le_of_ble_eq_true rfl, Nat.le_of_ble_eq_true rfl⟩) hS (fun q _ h => hFc q h) hFc (fun r22 u t H1 locs ht hvm hw hB hz1 hk1 hS => ?_)
            obtain ⟨hP1, hK1, hD1⟩ := hB
            rw [ht] at hP1
            have hK1 := va_K.moved hvm.symm hK1
            try dsimp only at hw
            obtain ⟨hP, hD⟩ := J_s (wL := [eO h0 8 [.ref jb, .ref ji, .ref jd, .ref je, .ref jg, .ref qpa, .int pcn, .int ipn, .ref jt, .ref jr, .ref j1, .ref j2, .ref qsa], eR qsa ksa 4 fsa, eI si0 ksi0 60 fsi0, eI si1 ksi1 60 fsi1, eO s2 6 [.int so2, .int sn2, .ref si2], eI si2 ksi2 60 fsi2, eO s3 6 [.int so3, .int sn3, .ref si3], eI si3 ksi3 60 fsi3, eO s0 6 [.int so0, .int sn0, .ref si0], eO s1 6 [.int so1, .int sn1, .ref si1]]) hP hD [(3, 1)] [(0, 3), (4, 6)] hCm hNw (by decide +kernel) hk1 hFc hP1 hD1 rfl
            have hK := KJ_s (tys' := [(ksa, .object "ClearingGates$Sheet"), (ksi0, .int), (ksi1, .int), (ksi2, .int), (ksi3, .int)]) hK hK1 [(0, 5)] rfl
            generalize H1 = H at hP hS ⊢
            rcases hw with ⟨e_r22, f_r22⟩ | ⟨e_r22, f_r22⟩
            · subst e_r22
              refine lv_if_eq (tgt := 52) hx hb dX9_copy_46 (by decide) (fun c23 => absurd c23 (by decide)) (fun c23 => ?_)
              refine lv_bipush (v := -11) hx hb dX9_copy_49 (by decide) ?_
              rw [hQ9]
              exact W.iret (v := (-11)) hx hb hr (fun t ht hW => ⟨⟨(-11), (), rfl, (by first | rfl | trivial), fsi0, fsi1, fsi2, fsi3, by rw [ht]; exact P_s hP [(0, 2), (8, 1), (2, 1), (9, 1), (3, 5)] rfl, va_K.moved hW.alike hK, D_s hD [(0, 2), (8, 1), (2, 1), (9, 1), (3, 5)] 10 rfl (by decide +kernel) rfl⟩, hS.F ht⟩) hS.2.2 dX9_copy_51
            · subst e_r22
              refine lv_if_eq (tgt := 52) hx hb dX9_copy_46 (by decide) (fun c24 => ?_) (fun c24 => absurd (by decide) c24)
              refine lv_aload hx hb dX9_copy_52 (lv_at hl 1 rfl) ?_
              refine va_get (D := (dC, dI)) (ci := 6) (v := .int so0) (C := RX7) (T := TX7) (N := 3) hx hb hts (fun w h => List.mem_cons_of_mem _ (inlX7 w h)) hown hK hP 8 rfl rfl 0 (by decide) (hts (.fieldLink RX9 270 "ClearingGates$Sheet" "sort" "I") (List.mem_cons_of_mem _ mw_203)) (fun _ h9 => h9) rfl dX9_copy_54 ?_
              refine lv_aload hx hb dX9_copy_57 (lv_at hl 0 rfl) ?_
              refine va_get (D := (dC, dI)) (ci := 6) (v := .int so1) (C := RX7) (T := TX7) (N := 3) hx hb hts (fun w h => List.mem_cons_of_mem _ (inlX7 w h)) hown hK hP 9 rfl rfl 0 (by decide) (hts (.fieldLink RX9 270 "ClearingGates$Sheet" "sort" "I") (List.mem_cons_of_mem _ mw_203)) (fun _ h9 => h9) rfl dX9_copy_59 ?_
              refine lv_icmp_eq (tgt := 68) hx hb dX9_copy_62 (by decide) (fun c25 => ?_) (fun c25 => ?_)
              · skip
                have f_c25 := i_eq c25
                refine lv_aload hx hb dX9_copy_68 (lv_at hl 1 rfl) ?_
                refine lv_iload_n hx hb dX9_copy_70 rfl (lv_at hl 4 rfl) ?_
                refine lv_iload hx hb dX9_copy_71 (lv_at hl 7 rfl) ?_
                obtain ⟨hPc, hDc, hFc, hCm, hNw⟩ := C_s (wc := [eO s0 6 [.int so0, .int sn0, .ref si0]]) hP hD hS hA [(8, 1)] 10 rfl (by decide +kernel) rfl
                have hKc := K_s (tys' := []) hK [] rfl
                refine va_calli (va_runV (As := [.int p1, .int p4]) (rest := []) ⟨hx, hb, hml, hown, hts⟩ (c_X7_hasStretch l dC dI s0 p1 p4 so0 sn0 si0 H.size vs0a vs0b) (cwV 2 hts gX9_copy_X7_hasStretch rfl rfl rfl (by decide +kernel) ⟨Nat.le_of_ble_eq_true rfl, Nat.le_of_ble_eq_true rfl⟩) ⟨fun a U g mk q => by obtain ⟨q0, q1, qP, qK, qD⟩ := q; exact ⟨q0, q1, qP, va_K.moved (u := U) (U := U.calling g mk a) (Vm.Alike.refl U.vm) qK, qD⟩, va_recv (s := s) (q := (RX7, TX7, 3)) hKc hPc (ci := 6) (q0 := 0) rfl rfl, fun U hU hW => ⟨rfl, by rw [hU], by rw [hU]; exact hPc, va_K.moved hW.alike hKc, hDc.weaken (fun _ _ _ _ => trivial)⟩⟩ rfl rfl hl.1 rfl (lv_room (Nat.le_of_ble_eq_true rfl)) dX9_copy_73 ⟨Nat.le_of_ble_eq_true rfl, Nat.le_of_ble_eq_true rfl⟩) hS (fun q _ h => hFc q h) hFc (fun r26 u t H1 locs ht hvm hw hB hz1 hk1 hS => ?_)
                obtain ⟨hP1, hK1, hD1⟩ := hB
                rw [ht] at hP1
                have hK1 := va_K.moved hvm.symm hK1
                try dsimp only at hw
                obtain ⟨hP, hD⟩ := J_s (wL := [eO h0 8 [.ref jb, .ref ji, .ref jd, .ref je, .ref jg, .ref qpa, .int pcn, .int ipn, .ref jt, .ref jr, .ref j1, .ref j2, .ref qsa], eR qsa ksa 4 fsa, eI si0 ksi0 60 fsi0, eI si1 ksi1 60 fsi1, eO s2 6 [.int so2, .int sn2, .ref si2], eI si2 ksi2 60 fsi2, eO s3 6 [.int so3, .int sn3, .ref si3], eI si3 ksi3 60 fsi3, eO s1 6 [.int so1, .int sn1, .ref si1], eO s0 6 [.int so0, .int sn0, .ref si0]]) hP hD [(8, 1)] [(0, 8), (9, 1)] hCm hNw (by decide +kernel) hk1 hFc hP1 hD1 rfl
                have hK := KJ_s (tys' := [(ksa, .object "ClearingGates$Sheet"), (ksi0, .int), (ksi1, .int), (ksi2, .int), (ksi3, .int)]) hK hK1 [(0, 5)] rfl
                generalize H1 = H at hP hS ⊢
                rcases hw with ⟨e_r26, f_r26⟩ | ⟨e_r26, f_r26⟩
                · subst e_r26
                  refine lv_if_eq (tgt := 91) hx hb dX9_copy_76 (by decide) (fun c27 => absurd c27 (by decide)) (fun c27 => ?_)
                  refine lv_aload hx hb dX9_copy_79 (lv_at hl 0 rfl) ?_
                  refine lv_iload hx hb dX9_copy_81 (lv_at hl 6 rfl) ?_
                  refine lv_iload hx hb dX9_copy_83 (lv_at hl 7 rfl) ?_
                  obtain ⟨hPc, hDc, hFc, hCm, hNw⟩ := C_s (wc := [eO s1 6 [.int so1, .int sn1, .ref si1]]) hP hD hS hA [(8, 1)] 10 rfl (by decide +kernel) rfl
                  have hKc := K_s (tys' := []) hK [] rfl
                  refine va_calli (va_runV (As := [.int p3, .int p4]) (rest := []) ⟨hx, hb, hml, hown, hts⟩ (c_X7_hasStretch l dC dI s1 p3 p4 so1 sn1 si1 H.size vs1a vs1b) (cwV 2 hts gX9_copy_X7_hasStretch rfl rfl rfl (by decide +kernel) ⟨Nat.le_of_ble_eq_true rfl, Nat.le_of_ble_eq_true rfl⟩) ⟨fun a U g mk q => by obtain ⟨q0, q1, qP, qK, qD⟩ := q; exact ⟨q0, q1, qP, va_K.moved (u := U) (U := U.calling g mk a) (Vm.Alike.refl U.vm) qK, qD⟩, va_recv (s := s) (q := (RX7, TX7, 3)) hKc hPc (ci := 6) (q0 := 0) rfl rfl, fun U hU hW => ⟨rfl, by rw [hU], by rw [hU]; exact hPc, va_K.moved hW.alike hKc, hDc.weaken (fun _ _ _ _ => trivial)⟩⟩ rfl rfl hl.1 rfl (lv_room (Nat.le_of_ble_eq_true rfl)) dX9_copy_85 ⟨Nat.le_of_ble_eq_true rfl, Nat.le_of_ble_eq_true rfl⟩) hS (fun q _ h => hFc q h) hFc (fun r28 u t H1 locs ht hvm hw hB hz1 hk1 hS => ?_)
                  obtain ⟨hP1, hK1, hD1⟩ := hB
                  rw [ht] at hP1
                  have hK1 := va_K.moved hvm.symm hK1
                  try dsimp only at hw
                  obtain ⟨hP, hD⟩ := J_s (wL := [eO h0 8 [.ref jb, .ref ji, .ref jd, .ref je, .ref jg, .ref qpa, .int pcn, .int ipn, .ref jt, .ref jr, .ref j1, .ref j2, .ref qsa], eR qsa ksa 4 fsa, eI si0 ksi0 60 fsi0, eI si1 ksi1 60 fsi1, eO s2 6 [.int so2, .int sn2, .ref si2], eI si2 ksi2 60 fsi2, eO s3 6 [.int so3, .int sn3, .ref si3], eI si3 ksi3 60 fsi3, eO s0 6 [.int so0, .int sn0, .ref si0], eO s1 6 [.int so1, .int sn1, .ref si1]]) hP hD [(8, 1)] [(0, 8), (9, 1)] hCm hNw (by decide +kernel) hk1 hFc hP1 hD1 rfl
                  have hK := KJ_s (tys' := [(ksa, .object "ClearingGates$Sheet"), (ksi0, .int), (ksi1, .int), (ksi2, .int), (ksi3, .int)]) hK hK1 [(0, 5)] rfl
                  generalize H1 = H at hP hS ⊢
                  rcases hw with ⟨e_r28, f_r28⟩ | ⟨e_r28, f_r28⟩
                  · subst e_r28
                    refine lv_if_ne (tgt := 94) hx hb dX9_copy_88 (by decide) (fun c29 => ?_) (fun c29 => absurd c29 (by decide))
                    refine lv_aload hx hb dX9_copy_94 (lv_at hl 1 rfl) ?_
                    refine va_get (D := (dC, dI)) (ci := 6) (v := .ref si0) (C := RX7) (T := TX7) (N := 3) hx hb hts (fun w h => List.mem_cons_of_mem _ (inlX7 w h)) hown hK hP 8 rfl rfl 2 (by decide) (hts (.fieldLink RX9 276 "ClearingGates$Sheet" "items" "[I") (List.mem_cons_of_mem _ mw_207)) (fun _ h9 => h9) rfl dX9_copy_96 ?_
                    refine lv_iload_n hx hb dX9_copy_99 rfl (lv_at hl 4 rfl) ?_
                    refine lv_aload hx hb dX9_copy_100 (lv_at hl 0 rfl) ?_
                    refine va_get (D := (dC, dI)) (ci := 6) (v := .ref si1) (C := RX7) (T := TX7) (N := 3) hx hb hts (fun w h => List.mem_cons_of_mem _ (inlX7 w h)) hown hK hP 9 rfl rfl 2 (by decide) (hts (.fieldLink RX9 276 "ClearingGates$Sheet" "items" "[I") (List.mem_cons_of_mem _ mw_207)) (fun _ h9 => h9) rfl dX9_copy_102 ?_
                    refine lv_iload hx hb dX9_copy_105 (lv_at hl 6 rfl) ?_
                    refine lv_iload hx hb dX9_copy_107 (lv_at hl 7 rfl) ?_
                    refine va_copyi (D := (dC, dI)) hx hb (hml.trans hl.1.symm) hown (hts (.methodLink RX9 279 arraycopyName) (List.mem_cons_of_mem _ mw_597)) (hts (.native arraycopyName) (List.mem_cons_of_mem _ mw_330)) (hts (.static arraycopyName) (List.mem_cons_of_mem _ mw_329)) (hts (.initialized "java/lang/System") (List.mem_cons_of_mem _ mw_80)) hK hP hD hS 2 3 1 2 rfl rfl rfl rfl rfl (fun q => by have := i_lt q; omega) (fun q => by have := i_lt q; omega) (fun q => by have := i_lt q; omega) (by have e1 := i_natZ (x := p1) (by omega); have e2 := i_natZ (x := p4) (by omega); omega) (by have e1 := i_natZ (x := p3) (by omega); have e2 := i_natZ (x := p4) (by omega); omega) (fun _ _ => rfl) (Nat.le_of_ble_eq_true rfl) (by decide) dX9_copy_109 (fun H locs hP hD hS => ?_)
                    generalize e_g30 : (va_cpy fsi0 fsi1 (p1 : Int32).toNatClampNeg (p3 : Int32).toNatClampNeg (p4 : Int32).toNatClampNeg) = g30 at hP hD
                    obtain ⟨hP, hD⟩ := X_s (ws' := [eO h0 8 [.ref jb, .ref ji, .ref jd, .ref je, .ref jg, .ref qpa, .int pcn, .int ipn, .ref jt, .ref jr, .ref j1, .ref j2, .ref qsa], eR qsa ksa 4 fsa, eI si0 ksi0 60 fsi0, eI si1 ksi1 60 g30, eO s2 6 [.int so2, .int sn2, .ref si2], eI si2 ksi2 60 fsi2, eO s3 6 [.int so3, .int sn3, .ref si3], eI si3 ksi3 60 fsi3, eO s0 6 [.int so0, .int sn0, .ref si0], eO s1 6 [.int so1, .int sn1, .ref si1]]) hP hD rfl
                    refine lv_iload hx hb dX9_copy_112 (lv_at hl 7 rfl) ?_
                    rw [hQ9]
                    exact W.iret (v := p4) hx hb hr (fun t ht hW => ⟨⟨p4, (), rfl, (by first | rfl | trivial), fsi0, g30, fsi2, fsi3, by rw [ht]; exact P_s hP [(0, 2), (8, 1), (2, 1), (9, 1), (3, 5)] rfl, va_K.moved hW.alike hK, D_s hD [(0, 2), (8, 1), (2, 1), (9, 1), (3, 5)] 10 rfl (by decide +kernel) rfl⟩, hS.F ht⟩) hS.2.2 dX9_copy_114
                  · subst e_r28
                    refine lv_if_ne (tgt := 94) hx hb dX9_copy_88 (by decide) (fun c31 => absurd (by decide) c31) (fun c31 => ?_)
                    refine lv_bipush (v := -12) hx hb dX9_copy_91 (by decide) ?_
                    rw [hQ9]
                    exact W.iret (v := (-12)) hx hb hr (fun t ht hW => ⟨⟨(-12), (), rfl, (by first | rfl | trivial), fsi0, fsi1, fsi2, fsi3, by rw [ht]; exact P_s hP [(0, 2), (8, 1), (2, 1), (9, 1), (3, 5)] rfl, va_K.moved hW.alike hK, D_s hD [(0, 2), (8, 1), (2, 1), (9, 1), (3, 5)] 10 rfl (by decide +kernel) rfl⟩, hS.F ht⟩) hS.2.2 dX9_copy_93
                · subst e_r26
                  refine lv_if_eq (tgt := 91) hx hb dX9_copy_76 (by decide) (fun c32 => ?_) (fun c32 => absurd (by decide) c32)
                  refine lv_bipush (v := -12) hx hb dX9_copy_91 (by decide) ?_
                  rw [hQ9]
                  exact W.iret (v := (-12)) hx hb hr (fun t ht hW => ⟨⟨(-12), (), rfl, (by first | rfl | trivial), fsi0, fsi1, fsi2, fsi3, by rw [ht]; exact P_s hP [(0, 2), (9, 1), (2, 1), (8, 1), (3, 5)] rfl, va_K.moved hW.alike hK, D_s hD [(0, 2), (9, 1), (2, 1), (8, 1), (3, 5)] 10 rfl (by decide +kernel) rfl⟩, hS.F ht⟩) hS.2.2 dX9_copy_93
              · skip
                have f_c25 := i_ne c25
                refine lv_bipush (v := -13) hx hb dX9_copy_65 (by decide) ?_
                rw [hQ9]
                exact W.iret (v := (-13)) hx hb hr (fun t ht hW => ⟨⟨(-13), (), rfl, (by first | rfl | trivial), fsi0, fsi1, fsi2, fsi3, by rw [ht]; exact P_s hP [(0, 2), (8, 1), (2, 1), (9, 1), (3, 5)] rfl, va_K.moved hW.alike hK, D_s hD [(0, 2), (8, 1), (2, 1), (9, 1), (3, 5)] 10 rfl (by decide +kernel) rfl⟩, hS.F ht⟩) hS.2.2 dX9_copy_67
        · rw [show va_rf (fsa p2.toNatClampNeg) = .ref s2 from by rw [i_nat j0, vsa2]; rfl]
          refine lv_astore (lv' := [(7, .ref s2), (6, .ref s0), (0, .ref h0), (1, .int p0), (2, .int p1), (3, .int p2), (4, .int p3), (5, .int p4)]) hx hb dX9_copy_31 hl (by decide) rfl (fun ls hl => ?_)
          refine lv_aload hx hb dX9_copy_33 (lv_at hl 1 rfl) ?_
          obtain ⟨hPc, hDc, hFc, hCm, hNw⟩ := C_s (wc := [eO s0 6 [.int so0, .int sn0, .ref si0]]) hP hD hS hA [(2, 1)] 10 rfl (by decide +kernel) rfl
          have hKc := K_s (tys' := []) hK [] rfl
          refine va_calli (va_runV (As := []) (rest := []) ⟨hx, hb, hml, hown, hts⟩ (c_X7_isMissing l dC dI s0 so0 sn0 si0 H.size) (cwV 0 hts gX9_copy_X7_isMissing rfl rfl rfl (by decide +kernel) ⟨Nat.le_of_ble_eq_true rfl, Nat.le_of_ble_eq_true rfl⟩) ⟨fun a U g mk q => by obtain ⟨q0, q1, qP, qK, qD⟩ := q; exact ⟨q0, q1, qP, va_K.moved (u := U) (U := U.calling g mk a) (Vm.Alike.refl U.vm) qK, qD⟩, va_recv (s := s) (q := (RX7, TX7, 3)) hKc hPc (ci := 6) (q0 := 0) rfl rfl, fun U hU hW => ⟨rfl, by rw [hU], by rw [hU]; exact hPc, va_K.moved hW.alike hKc, hDc.weaken (fun _ _ _ _ => trivial)⟩⟩ rfl rfl hl.1 rfl (lv_room (Nat.le_of_ble_eq_true rfl)) dX9_copy_35 ⟨Nat.le_of_ble_eq_true rfl, Nat.le_of_ble_eq_true rfl⟩) hS (fun q _ h => hFc q h) hFc (fun r33 u t H1 locs ht hvm hw hB hz1 hk1 hS => ?_)
          obtain ⟨hP1, hK1, hD1⟩ := hB
          rw [ht] at hP1
          have hK1 := va_K.moved hvm.symm hK1
          try dsimp only at hw
          obtain ⟨hP, hD⟩ := J_s (wL := [eO h0 8 [.ref jb, .ref ji, .ref jd, .ref je, .ref jg, .ref qpa, .int pcn, .int ipn, .ref jt, .ref jr, .ref j1, .ref j2, .ref qsa], eR qsa ksa 4 fsa, eI si0 ksi0 60 fsi0, eO s1 6 [.int so1, .int sn1, .ref si1], eI si1 ksi1 60 fsi1, eO s2 6 [.int so2, .int sn2, .ref si2], eI si2 ksi2 60 fsi2, eO s3 6 [.int so3, .int sn3, .ref si3], eI si3 ksi3 60 fsi3, eO s0 6 [.int so0, .int sn0, .ref si0]]) hP hD [(2, 1)] [(0, 2), (3, 7)] hCm hNw (by decide +kernel) hk1 hFc hP1 hD1 rfl
          have hK := KJ_s (tys' := [(ksa, .object "ClearingGates$Sheet"), (ksi0, .int), (ksi1, .int), (ksi2, .int), (ksi3, .int)]) hK hK1 [(0, 5)] rfl
          generalize H1 = H at hP hS ⊢
          rcases hw with ⟨e_r33, f_r33⟩ | ⟨e_r33, f_r33⟩
          · subst e_r33
            refine lv_if_ne (tgt := 49) hx hb dX9_copy_38 (by decide) (fun c34 => ?_) (fun c34 => absurd c34 (by decide))
            refine lv_bipush (v := -11) hx hb dX9_copy_49 (by decide) ?_
            rw [hQ9]
            exact W.iret (v := (-11)) hx hb hr (fun t ht hW => ⟨⟨(-11), (), rfl, (by first | rfl | trivial), fsi0, fsi1, fsi2, fsi3, by rw [ht]; exact P_s hP [(0, 2), (9, 1), (2, 7)] rfl, va_K.moved hW.alike hK, D_s hD [(0, 2), (9, 1), (2, 7)] 10 rfl (by decide +kernel) rfl⟩, hS.F ht⟩) hS.2.2 dX9_copy_51
          · subst e_r33
            refine lv_if_ne (tgt := 49) hx hb dX9_copy_38 (by decide) (fun c35 => absurd (by decide) c35) (fun c35 => ?_)
            refine lv_aload hx hb dX9_copy_41 (lv_at hl 0 rfl) ?_
            obtain ⟨hPc, hDc, hFc, hCm, hNw⟩ := C_s (wc := [eO s2 6 [.int so2, .int sn2, .ref si2]]) hP hD hS hA [(5, 1)] 10 rfl (by decide +kernel) rfl
            have hKc := K_s (tys' := []) hK [] rfl
            refine va_calli (va_runV (As := []) (rest := []) ⟨hx, hb, hml, hown, hts⟩ (c_X7_isMissing l dC dI s2 so2 sn2 si2 H.size) (cwV 0 hts gX9_copy_X7_isMissing rfl rfl rfl (by decide +kernel) ⟨Nat.le_of_ble_eq_true rfl, Nat.le_of_ble_eq_true rfl⟩) ⟨fun a U g mk q => by obtain ⟨q0, q1, qP, qK, qD⟩ := q; exact ⟨q0, q1, qP, va_K.moved (u := U) (U := U.calling g mk a) (Vm.Alike.refl U.vm) qK, qD⟩, va_recv (s := s) (q := (RX7, TX7, 3)) hKc hPc (ci := 6) (q0 := 0) rfl rfl, fun U hU hW => ⟨rfl, by rw [hU], by rw [hU]; exact hPc, va_K.moved hW.alike hKc, hDc.weaken (fun _ _ _ _ => trivial)⟩⟩ rfl rfl hl.1 rfl (lv_room (Nat.le_of_ble_eq_true rfl)) dX9_copy_43 ⟨Nat.le_of_ble_eq_true rfl, Nat.le_of_ble_eq_true rfl⟩) hS (fun q _ h => hFc q h) hFc (fun r36 u t H1 locs ht hvm hw hB hz1 hk1 hS => ?_)
            obtain ⟨hP1, hK1, hD1⟩ := hB
            rw [ht] at hP1
            have hK1 := va_K.moved hvm.symm hK1
            try dsimp only at hw
            obtain ⟨hP, hD⟩ := J_s (wL := [eO h0 8 [.ref jb, .ref ji, .ref jd, .ref je, .ref jg, .ref qpa, .int pcn, .int ipn, .ref jt, .ref jr, .ref j1, .ref j2, .ref qsa], eR qsa ksa 4 fsa, eI si0 ksi0 60 fsi0, eO s1 6 [.int so1, .int sn1, .ref si1], eI si1 ksi1 60 fsi1, eI si2 ksi2 60 fsi2, eO s3 6 [.int so3, .int sn3, .ref si3], eI si3 ksi3 60 fsi3, eO s0 6 [.int so0, .int sn0, .ref si0], eO s2 6 [.int so2, .int sn2, .ref si2]]) hP hD [(5, 1)] [(0, 5), (6, 4)] hCm hNw (by decide +kernel) hk1 hFc hP1 hD1 rfl
            have hK := KJ_s (tys' := [(ksa, .object "ClearingGates$Sheet"), (ksi0, .int), (ksi1, .int), (ksi2, .int), (ksi3, .int)]) hK hK1 [(0, 5)] rfl
            generalize H1 = H at hP hS ⊢
            rcases hw with ⟨e_r36, f_r36⟩ | ⟨e_r36, f_r36⟩
            · subst e_r36
              refine lv_if_eq (tgt := 52) hx hb dX9_copy_46 (by decide) (fun c37 => absurd c37 (by decide)) (fun c37 => ?_)
              refine lv_bipush (v := -11) hx hb dX9_copy_49 (by decide) ?_
              rw [hQ9]
              exact W.iret (v := (-11)) hx hb hr (fun t ht hW => ⟨⟨(-11), (), rfl, (by first | rfl | trivial), fsi0, fsi1, fsi2, fsi3, by rw [ht]; exact P_s hP [(0, 2), (8, 1), (2, 3), (9, 1), (5, 3)] rfl, va_K.moved hW.alike hK, D_s hD [(0, 2), (8, 1), (2, 3), (9, 1), (5, 3)] 10 rfl (by decide +kernel) rfl⟩, hS.F ht⟩) hS.2.2 dX9_copy_51
            · subst e_r36
              refine lv_if_eq (tgt := 52) hx hb dX9_copy_46 (by decide) (fun c38 => ?_) (fun c38 => absurd (by decide) c38)
              refine lv_aload hx hb dX9_copy_52 (lv_at hl 1 rfl) ?_
              refine va_get (D := (dC, dI)) (ci := 6) (v := .int so0) (C := RX7) (T := TX7) (N := 3) hx hb hts (fun w h => List.mem_cons_of_mem _ (inlX7 w h)) hown hK hP 8 rfl rfl 0 (by decide) (hts (.fieldLink RX9 270 "ClearingGates$Sheet" "sort" "I") (List.mem_cons_of_mem _ mw_203)) (fun _ h9 => h9) rfl dX9_copy_54 ?_
              refine lv_aload hx hb dX9_copy_57 (lv_at hl 0 rfl) ?_
              refine va_get (D := (dC, dI)) (ci := 6) (v := .int so2) (C := RX7) (T := TX7) (N := 3) hx hb hts (fun w h => List.mem_cons_of_mem _ (inlX7 w h)) hown hK hP 9 rfl rfl 0 (by decide) (hts (.fieldLink RX9 270 "ClearingGates$Sheet" "sort" "I") (List.mem_cons_of_mem _ mw_203)) (fun _ h9 => h9) rfl dX9_copy_59 ?_
              refine lv_icmp_eq (tgt := 68) hx hb dX9_copy_62 (by decide) (fun c39 => ?_) (fun c39 => ?_)
              · skip
                have f_c39 := i_eq c39
                refine lv_aload hx hb dX9_copy_68 (lv_at hl 1 rfl) ?_
                refine lv_iload_n hx hb dX9_copy_70 rfl (lv_at hl 4 rfl) ?_
                refine lv_iload hx hb dX9_copy_71 (lv_at hl 7 rfl) ?_
                obtain ⟨hPc, hDc, hFc, hCm, hNw⟩ := C_s (wc := [eO s0 6 [.int so0, .int sn0, .ref si0]]) hP hD hS hA [(8, 1)] 10 rfl (by decide +kernel) rfl
                have hKc := K_s (tys' := []) hK [] rfl
                refine va_calli (va_runV (As := [.int p1, .int p4]) (rest := []) ⟨hx, hb, hml, hown, hts⟩ (c_X7_hasStretch l dC dI s0 p1 p4 so0 sn0 si0 H.size vs0a vs0b) (cwV 2 hts gX9_copy_X7_hasStretch rfl rfl rfl (by decide +kernel) ⟨Nat.le_of_ble_eq_true rfl, Nat.le_of_ble_eq_true rfl⟩) ⟨fun a U g mk q => by obtain ⟨q0, q1, qP, qK, qD⟩ := q; exact ⟨q0, q1, qP, va_K.moved (u := U) (U := U.calling g mk a) (Vm.Alike.refl U.vm) qK, qD⟩, va_recv (s := s) (q := (RX7, TX7, 3)) hKc hPc (ci := 6) (q0 := 0) rfl rfl, fun U hU hW => ⟨rfl, by rw [hU], by rw [hU]; exact hPc, va_K.moved hW.alike hKc, hDc.weaken (fun _ _ _ _ => trivial)⟩⟩ rfl rfl hl.1 rfl (lv_room (Nat.le_of_ble_eq_true rfl)) dX9_copy_73 ⟨Nat.le_of_ble_eq_true rfl, Nat.le_of_ble_eq_true rfl⟩) hS (fun q _ h => hFc q h) hFc (fun r40 u t H1 locs ht hvm hw hB hz1 hk1 hS => ?_)
                obtain ⟨hP1, hK1, hD1⟩ := hB
                rw [ht] at hP1
                have hK1 := va_K.moved hvm.symm hK1
                try dsimp only at hw
                obtain ⟨hP, hD⟩ := J_s (wL := [eO h0 8 [.ref jb, .ref ji, .ref jd, .ref je, .ref jg, .ref qpa, .int pcn, .int ipn, .ref jt, .ref jr, .ref j1, .ref j2, .ref qsa], eR qsa ksa 4 fsa, eI si0 ksi0 60 fsi0, eO s1 6 [.int so1, .int sn1, .ref si1], eI si1 ksi1 60 fsi1, eI si2 ksi2 60 fsi2, eO s3 6 [.int so3, .int sn3, .ref si3], eI si3 ksi3 60 fsi3, eO s2 6 [.int so2, .int sn2, .ref si2], eO s0 6 [.int so0, .int sn0, .ref si0]]) hP hD [(8, 1)] [(0, 8), (9, 1)] hCm hNw (by decide +kernel) hk1 hFc hP1 hD1 rfl
                have hK := KJ_s (tys' := [(ksa, .object "ClearingGates$Sheet"), (ksi0, .int), (ksi1, .int), (ksi2, .int), (ksi3, .int)]) hK hK1 [(0, 5)] rfl
                generalize H1 = H at hP hS ⊢
                rcases hw with ⟨e_r40, f_r40⟩ | ⟨e_r40, f_r40⟩
                · subst e_r40
                  refine lv_if_eq (tgt := 91) hx hb dX9_copy_76 (by decide) (fun c41 => absurd c41 (by decide)) (fun c41 => ?_)
                  refine lv_aload hx hb dX9_copy_79 (lv_at hl 0 rfl) ?_
                  refine lv_iload hx hb dX9_copy_81 (lv_at hl 6 rfl) ?_
                  refine lv_iload hx hb dX9_copy_83 (lv_at hl 7 rfl) ?_
                  obtain ⟨hPc, hDc, hFc, hCm, hNw⟩ := C_s (wc := [eO s2 6 [.int so2, .int sn2, .ref si2]]) hP hD hS hA [(8, 1)] 10 rfl (by decide +kernel) rfl
                  have hKc := K_s (tys' := []) hK [] rfl
                  refine va_calli (va_runV (As := [.int p3, .int p4]) (rest := []) ⟨hx, hb, hml, hown, hts⟩ (c_X7_hasStretch l dC dI s2 p3 p4 so2 sn2 si2 H.size vs2a vs2b) (cwV 2 hts gX9_copy_X7_hasStretch rfl rfl rfl (by decide +kernel) ⟨Nat.le_of_ble_eq_true rfl, Nat.le_of_ble_eq_true rfl⟩) ⟨fun a U g mk q => by obtain ⟨q0, q1, qP, qK, qD⟩ := q; exact ⟨q0, q1, qP, va_K.moved (u := U) (U := U.calling g mk a) (Vm.Alike.refl U.vm) qK, qD⟩, va_recv (s := s) (q := (RX7, TX7, 3)) hKc hPc (ci := 6) (q0 := 0) rfl rfl, fun U hU hW => ⟨rfl, by rw [hU], by rw [hU]; exact hPc, va_K.moved hW.alike hKc, hDc.weaken (fun _ _ _ _ => trivial)⟩⟩ rfl rfl hl.1 rfl (lv_room (Nat.le_of_ble_eq_true rfl)) dX9_copy_85 ⟨Nat.le_of_ble_eq_true rfl, Nat.le_of_ble_eq_true rfl⟩) hS (fun q _ h => hFc q h) hFc (fun r42 u t H1 locs ht hvm hw hB hz1 hk1 hS => ?_)
                  obtain ⟨hP1, hK1, hD1⟩ := hB
                  rw [ht] at hP1
                  have hK1 := va_K.moved hvm.symm hK1
                  try dsimp only at hw
                  obtain ⟨hP, hD⟩ := J_s (wL := [eO h0 8 [.ref jb, .ref ji, .ref jd, .ref je, .ref jg, .ref qpa, .int pcn, .int ipn, .ref jt, .ref jr, .ref j1, .ref j2, .ref qsa], eR qsa ksa 4 fsa, eI si0 ksi0 60 fsi0, eO s1 6 [.int so1, .int sn1, .ref si1], eI si1 ksi1 60 fsi1, eI si2 ksi2 60 fsi2, eO s3 6 [.int so3, .int sn3, .ref si3], eI si3 ksi3 60 fsi3, eO s0 6 [.int so0, .int sn0, .ref si0], eO s2 6 [.int so2, .int sn2, .ref si2]]) hP hD [(8, 1)] [(0, 8), (9, 1)] hCm hNw (by decide +kernel) hk1 hFc hP1 hD1 rfl
                  have hK := KJ_s (tys' := [(ksa, .object "ClearingGates$Sheet"), (ksi0, .int), (ksi1, .int), (ksi2, .int), (ksi3, .int)]) hK hK1 [(0, 5)] rfl
                  generalize H1 = H at hP hS ⊢
                  rcases hw with ⟨e_r42, f_r42⟩ | ⟨e_r42, f_r42⟩
                  · subst e_r42
                    refine lv_if_ne (tgt := 94) hx hb dX9_copy_88 (by decide) (fun c43 => ?_) (fun c43 => absurd c43 (by decide))
                    refine lv_aload hx hb dX9_copy_94 (lv_at hl 1 rfl) ?_
                    refine va_get (D := (dC, dI)) (ci := 6) (v := .ref si0) (C := RX7) (T := TX7) (N := 3) hx hb hts (fun w h => List.mem_cons_of_mem _ (inlX7 w h)) hown hK hP 8 rfl rfl 2 (by decide) (hts (.fieldLink RX9 276 "ClearingGates$Sheet" "items" "[I") (List.mem_cons_of_mem _ mw_207)) (fun _ h9 => h9) rfl dX9_copy_96 ?_
                    refine lv_iload_n hx hb dX9_copy_99 rfl (lv_at hl 4 rfl) ?_
                    refine lv_aload hx hb dX9_copy_100 (lv_at hl 0 rfl) ?_
                    refine va_get (D := (dC, dI)) (ci := 6) (v := .ref si2) (C := RX7) (T := TX7) (N := 3) hx hb hts (fun w h => List.mem_cons_of_mem _ (inlX7 w h)) hown hK hP 9 rfl rfl 2 (by decide) (hts (.fieldLink RX9 276 "ClearingGates$Sheet" "items" "[I") (List.mem_cons_of_mem _ mw_207)) (fun _ h9 => h9) rfl dX9_copy_102 ?_
                    refine lv_iload hx hb dX9_copy_105 (lv_at hl 6 rfl) ?_
                    refine lv_iload hx hb dX9_copy_107 (lv_at hl 7 rfl) ?_
                    refine va_copyi (D := (dC, dI)) hx hb (hml.trans hl.1.symm) hown (hts (.methodLink RX9 279 arraycopyName) (List.mem_cons_of_mem _ mw_597)) (hts (.native arraycopyName) (List.mem_cons_of_mem _ mw_330)) (hts (.static arraycopyName) (List.mem_cons_of_mem _ mw_329)) (hts (.initialized "java/lang/System") (List.mem_cons_of_mem _ mw_80)) hK hP hD hS 2 5 1 3 rfl rfl rfl rfl rfl (fun q => by have := i_lt q; omega) (fun q => by have := i_lt q; omega) (fun q => by have := i_lt q; omega) (by have e1 := i_natZ (x := p1) (by omega); have e2 := i_natZ (x := p4) (by omega); omega) (by have e1 := i_natZ (x := p3) (by omega); have e2 := i_natZ (x := p4) (by omega); omega) (fun _ _ => rfl) (Nat.le_of_ble_eq_true rfl) (by decide) dX9_copy_109 (fun H locs hP hD hS => ?_)
                    generalize e_g44 : (va_cpy fsi0 fsi2 (p1 : Int32).toNatClampNeg (p3 : Int32).toNatClampNeg (p4 : Int32).toNatClampNeg) = g44 at hP hD
                    obtain ⟨hP, hD⟩ := X_s (ws' := [eO h0 8 [.ref jb, .ref ji, .ref jd, .ref je, .ref jg, .ref qpa, .int pcn, .int ipn, .ref jt, .ref jr, .ref j1, .ref j2, .ref qsa], eR qsa ksa 4 fsa, eI si0 ksi0 60 fsi0, eO s1 6 [.int so1, .int sn1, .ref si1], eI si1 ksi1 60 fsi1, eI si2 ksi2 60 g44, eO s3 6 [.int so3, .int sn3, .ref si3], eI si3 ksi3 60 fsi3, eO s0 6 [.int so0, .int sn0, .ref si0], eO s2 6 [.int so2, .int sn2, .ref si2]]) hP hD rfl
                    refine lv_iload hx hb dX9_copy_112 (lv_at hl 7 rfl) ?_
                    rw [hQ9]
                    exact W.iret (v := p4) hx hb hr (fun t ht hW => ⟨⟨p4, (), rfl, (by first | rfl | trivial), fsi0, fsi1, g44, fsi3, by rw [ht]; exact P_s hP [(0, 2), (8, 1), (2, 3), (9, 1), (5, 3)] rfl, va_K.moved hW.alike hK, D_s hD [(0, 2), (8, 1), (2, 3), (9, 1), (5, 3)] 10 rfl (by decide +kernel) rfl⟩, hS.F ht⟩) hS.2.2 dX9_copy_114
                  · subst e_r42
                    refine lv_if_ne (tgt := 94) hx hb dX9_copy_88 (by decide) (fun c45 => absurd (by decide) c45) (fun c45 => ?_)
                    refine lv_bipush (v := -12) hx hb dX9_copy_91 (by decide) ?_
                    rw [hQ9]
                    exact W.iret (v := (-12)) hx hb hr (fun t ht hW => ⟨⟨(-12), (), rfl, (by first | rfl | trivial), fsi0, fsi1, fsi2, fsi3, by rw [ht]; exact P_s hP [(0, 2), (8, 1), (2, 3), (9, 1), (5, 3)] rfl, va_K.moved hW.alike hK, D_s hD [(0, 2), (8, 1), (2, 3), (9, 1), (5, 3)] 10 rfl (by decide +kernel) rfl⟩, hS.F ht⟩) hS.2.2 dX9_copy_93
                · subst e_r40
                  refine lv_if_eq (tgt := 91) hx hb dX9_copy_76 (by decide) (fun c46 => ?_) (fun c46 => absurd (by decide) c46)
                  refine lv_bipush (v := -12) hx hb dX9_copy_91 (by decide) ?_
                  rw [hQ9]
                  exact W.iret (v := (-12)) hx hb hr (fun t ht hW => ⟨⟨(-12), (), rfl, (by first | rfl | trivial), fsi0, fsi1, fsi2, fsi3, by rw [ht]; exact P_s hP [(0, 2), (9, 1), (2, 3), (8, 1), (5, 3)] rfl, va_K.moved hW.alike hK, D_s hD [(0, 2), (9, 1), (2, 3), (8, 1), (5, 3)] 10 rfl (by decide +kernel) rfl⟩, hS.F ht⟩) hS.2.2 dX9_copy_93
              · skip
                have f_c39 := i_ne c39
                refine lv_bipush (v := -13) hx hb dX9_copy_65 (by decide) ?_
                rw [hQ9]
                exact W.iret (v := (-13)) hx hb hr (fun t ht hW => ⟨⟨(-13), (), rfl, (by first | rfl | trivial), fsi0, fsi1, fsi2, fsi3, by rw [ht]; exact P_s hP [(0, 2), (8, 1), (2, 3), (9, 1), (5, 3)] rfl, va_K.moved hW.alike hK, D_s hD [(0, 2), (8, 1), (2, 3), (9, 1), (5, 3)] 10 rfl (by decide +kernel) rfl⟩, hS.F ht⟩) hS.2.2 dX9_copy_67
        · rw [show va_rf (fsa p2.toNatClampNeg) = .ref s3 from by rw [i_nat j0, vsa3]; rfl]
          refine lv_astore (lv' := [(7, .ref s3), (6, .ref s0), (0, .ref h0), (1, .int p0), (2, .int p1), (3, .int p2), (4, .int p3), (5, .int p4)]) hx hb dX9_copy_31 hl (by decide) rfl (fun ls hl => ?_)
          refine lv_aload hx hb dX9_copy_33 (lv_at hl 1 rfl) ?_
          obtain ⟨hPc, hDc, hFc, hCm, hNw⟩ := C_s (wc := [eO s0 6 [.int so0, .int sn0, .ref si0]]) hP hD hS hA [(2, 1)] 10 rfl (by decide +kernel) rfl
          have hKc := K_s (tys' := []) hK [] rfl
          refine va_calli (va_runV (As := []) (rest := []) ⟨hx, hb, hml, hown, hts⟩ (c_X7_isMissing l dC dI s0 so0 sn0 si0 H.size) (cwV 0 hts gX9_copy_X7_isMissing rfl rfl rfl (by decide +kernel) ⟨Nat.le_of_ble_eq_true rfl, Nat.le_of_ble_eq_true rfl⟩) ⟨fun a U g mk q => by obtain ⟨q0, q1, qP, qK, qD⟩ := q; exact ⟨q0, q1, qP, va_K.moved (u := U) (U := U.calling g mk a) (Vm.Alike.refl U.vm) qK, qD⟩, va_recv (s := s) (q := (RX7, TX7, 3)) hKc hPc (ci := 6) (q0 := 0) rfl rfl, fun U hU hW => ⟨rfl, by rw [hU], by rw [hU]; exact hPc, va_K.moved hW.alike hKc, hDc.weaken (fun _ _ _ _ => trivial)⟩⟩ rfl rfl hl.1 rfl (lv_room (Nat.le_of_ble_eq_true rfl)) dX9_copy_35 ⟨Nat.le_of_ble_eq_true rfl, Nat.le_of_ble_eq_true rfl⟩) hS (fun q _ h => hFc q h) hFc (fun r47 u t H1 locs ht hvm hw hB hz1 hk1 hS => ?_)
          obtain ⟨hP1, hK1, hD1⟩ := hB
          rw [ht] at hP1
          have hK1 := va_K.moved hvm.symm hK1
          try dsimp only at hw
          obtain ⟨hP, hD⟩ := J_s (wL := [eO h0 8 [.ref jb, .ref ji, .ref jd, .ref je, .ref jg, .ref qpa, .int pcn, .int ipn, .ref jt, .ref jr, .ref j1, .ref j2, .ref qsa], eR qsa ksa 4 fsa, eI si0 ksi0 60 fsi0, eO s1 6 [.int so1, .int sn1, .ref si1], eI si1 ksi1 60 fsi1, eO s2 6 [.int so2, .int sn2, .ref si2], eI si2 ksi2 60 fsi2, eO s3 6 [.int so3, .int sn3, .ref si3], eI si3 ksi3 60 fsi3, eO s0 6 [.int so0, .int sn0, .ref si0]]) hP hD [(2, 1)] [(0, 2), (3, 7)] hCm hNw (by decide +kernel) hk1 hFc hP1 hD1 rfl
          have hK := KJ_s (tys' := [(ksa, .object "ClearingGates$Sheet"), (ksi0, .int), (ksi1, .int), (ksi2, .int), (ksi3, .int)]) hK hK1 [(0, 5)] rfl
          generalize H1 = H at hP hS ⊢
          rcases hw with ⟨e_r47, f_r47⟩ | ⟨e_r47, f_r47⟩
          · subst e_r47
            refine lv_if_ne (tgt := 49) hx hb dX9_copy_38 (by decide) (fun c48 => ?_) (fun c48 => absurd c48 (by decide))
            refine lv_bipush (v := -11) hx hb dX9_copy_49 (by decide) ?_
            rw [hQ9]
            exact W.iret (v := (-11)) hx hb hr (fun t ht hW => ⟨⟨(-11), (), rfl, (by first | rfl | trivial), fsi0, fsi1, fsi2, fsi3, by rw [ht]; exact P_s hP [(0, 2), (9, 1), (2, 7)] rfl, va_K.moved hW.alike hK, D_s hD [(0, 2), (9, 1), (2, 7)] 10 rfl (by decide +kernel) rfl⟩, hS.F ht⟩) hS.2.2 dX9_copy_51
          · subst e_r47
            refine lv_if_ne (tgt := 49) hx hb dX9_copy_38 (by decide) (fun c49 => absurd (by decide) c49) (fun c49 => ?_)
            refine lv_aload hx hb dX9_copy_41 (lv_at hl 0 rfl) ?_
            obtain ⟨hPc, hDc, hFc, hCm, hNw⟩ := C_s (wc := [eO s3 6 [.int so3, .int sn3, .ref si3]]) hP hD hS hA [(7, 1)] 10 rfl (by decide +kernel) rfl
            have hKc := K_s (tys' := []) hK [] rfl
            refine va_calli (va_runV (As := []) (rest := []) ⟨hx, hb, hml, hown, hts⟩ (c_X7_isMissing l dC dI s3 so3 sn3 si3 H.size) (cwV 0 hts gX9_copy_X7_isMissing rfl rfl rfl (by decide +kernel) ⟨Nat.le_of_ble_eq_true rfl, Nat.le_of_ble_eq_true rfl⟩) ⟨fun a U g mk q => by obtain ⟨q0, q1, qP, qK, qD⟩ := q; exact ⟨q0, q1, qP, va_K.moved (u := U) (U := U.calling g mk a) (Vm.Alike.refl U.vm) qK, qD⟩, va_recv (s := s) (q := (RX7, TX7, 3)) hKc hPc (ci := 6) (q0 := 0) rfl rfl, fun U hU hW => ⟨rfl, by rw [hU], by rw [hU]; exact hPc, va_K.moved hW.alike hKc, hDc.weaken (fun _ _ _ _ => trivial)⟩⟩ rfl rfl hl.1 rfl (lv_room (Nat.le_of_ble_eq_true rfl)) dX9_copy_43 ⟨Nat.le_of_ble_eq_true rfl, Nat.le_of_ble_eq_true rfl⟩) hS (fun q _ h => hFc q h) hFc (fun r50 u t H1 locs ht hvm hw hB hz1 hk1 hS => ?_)
            obtain ⟨hP1, hK1, hD1⟩ := hB
            rw [ht] at hP1
            have hK1 := va_K.moved hvm.symm hK1
            try dsimp only at hw
            obtain ⟨hP, hD⟩ := J_s (wL := [eO h0 8 [.ref jb, .ref ji, .ref jd, .ref je, .ref jg, .ref qpa, .int pcn, .int ipn, .ref jt, .ref jr, .ref j1, .ref j2, .ref qsa], eR qsa ksa 4 fsa, eI si0 ksi0 60 fsi0, eO s1 6 [.int so1, .int sn1, .ref si1], eI si1 ksi1 60 fsi1, eO s2 6 [.int so2, .int sn2, .ref si2], eI si2 ksi2 60 fsi2, eI si3 ksi3 60 fsi3, eO s0 6 [.int so0, .int sn0, .ref si0], eO s3 6 [.int so3, .int sn3, .ref si3]]) hP hD [(7, 1)] [(0, 7), (8, 2)] hCm hNw (by decide +kernel) hk1 hFc hP1 hD1 rfl
            have hK := KJ_s (tys' := [(ksa, .object "ClearingGates$Sheet"), (ksi0, .int), (ksi1, .int), (ksi2, .int), (ksi3, .int)]) hK hK1 [(0, 5)] rfl
            generalize H1 = H at hP hS ⊢
            rcases hw with ⟨e_r50, f_r50⟩ | ⟨e_r50, f_r50⟩
            · subst e_r50
              refine lv_if_eq (tgt := 52) hx hb dX9_copy_46 (by decide) (fun c51 => absurd c51 (by decide)) (fun c51 => ?_)
              refine lv_bipush (v := -11) hx hb dX9_copy_49 (by decide) ?_
              rw [hQ9]
              exact W.iret (v := (-11)) hx hb hr (fun t ht hW => ⟨⟨(-11), (), rfl, (by first | rfl | trivial), fsi0, fsi1, fsi2, fsi3, by rw [ht]; exact P_s hP [(0, 2), (8, 1), (2, 5), (9, 1), (7, 1)] rfl, va_K.moved hW.alike hK, D_s hD [(0, 2), (8, 1), (2, 5), (9, 1), (7, 1)] 10 rfl (by decide +kernel) rfl⟩, hS.F ht⟩) hS.2.2 dX9_copy_51
            · subst e_r50
              refine lv_if_eq (tgt := 52) hx hb dX9_copy_46 (by decide) (fun c52 => ?_) (fun c52 => absurd (by decide) c52)
              refine lv_aload hx hb dX9_copy_52 (lv_at hl 1 rfl) ?_
              refine va_get (D := (dC, dI)) (ci := 6) (v := .int so0) (C := RX7) (T := TX7) (N := 3) hx hb hts (fun w h => List.mem_cons_of_mem _ (inlX7 w h)) hown hK hP 8 rfl rfl 0 (by decide) (hts (.fieldLink RX9 270 "ClearingGates$Sheet" "sort" "I") (List.mem_cons_of_mem _ mw_203)) (fun _ h9 => h9) rfl dX9_copy_54 ?_
              refine lv_aload hx hb dX9_copy_57 (lv_at hl 0 rfl) ?_
              refine va_get (D := (dC, dI)) (ci := 6) (v := .int so3) (C := RX7) (T := TX7) (N := 3) hx hb hts (fun w h => List.mem_cons_of_mem _ (inlX7 w h)) hown hK hP 9 rfl rfl 0 (by decide) (hts (.fieldLink RX9 270 "ClearingGates$Sheet" "sort" "I") (List.mem_cons_of_mem _ mw_203)) (fun _ h9 => h9) rfl dX9_copy_59 ?_
              refine lv_icmp_eq (tgt := 68) hx hb dX9_copy_62 (by decide) (fun c53 => ?_) (fun c53 => ?_)
              · skip
                have f_c53 := i_eq c53
                refine lv_aload hx hb dX9_copy_68 (lv_at hl 1 rfl) ?_
                refine lv_iload_n hx hb dX9_copy_70 rfl (lv_at hl 4 rfl) ?_
                refine lv_iload hx hb dX9_copy_71 (lv_at hl 7 rfl) ?_
                obtain ⟨hPc, hDc, hFc, hCm, hNw⟩ := C_s (wc := [eO s0 6 [.int so0, .int sn0, .ref si0]]) hP hD hS hA [(8, 1)] 10 rfl (by decide +kernel) rfl
                have hKc := K_s (tys' := []) hK [] rfl
                refine va_calli (va_runV (As := [.int p1, .int p4]) (rest := []) ⟨hx, hb, hml, hown, hts⟩ (c_X7_hasStretch l dC dI s0 p1 p4 so0 sn0 si0 H.size vs0a vs0b) (cwV 2 hts gX9_copy_X7_hasStretch rfl rfl rfl (by decide +kernel) ⟨Nat.le_of_ble_eq_true rfl, Nat.le_of_ble_eq_true rfl⟩) ⟨fun a U g mk q => by obtain ⟨q0, q1, qP, qK, qD⟩ := q; exact ⟨q0, q1, qP, va_K.moved (u := U) (U := U.calling g mk a) (Vm.Alike.refl U.vm) qK, qD⟩, va_recv (s := s) (q := (RX7, TX7, 3)) hKc hPc (ci := 6) (q0 := 0) rfl rfl, fun U hU hW => ⟨rfl, by rw [hU], by rw [hU]; exact hPc, va_K.moved hW.alike hKc, hDc.weaken (fun _ _ _ _ => trivial)⟩⟩ rfl rfl hl.1 rfl (lv_room (Nat.le_of_ble_eq_true rfl)) dX9_copy_73 ⟨Nat.le_of_ble_eq_true rfl, Nat.le_of_ble_eq_true rfl⟩) hS (fun q _ h => hFc q h) hFc (fun r54 u t H1 locs ht hvm hw hB hz1 hk1 hS => ?_)
                obtain ⟨hP1, hK1, hD1⟩ := hB
                rw [ht] at hP1
                have hK1 := va_K.moved hvm.symm hK1
                try dsimp only at hw
                obtain ⟨hP, hD⟩ := J_s (wL := [eO h0 8 [.ref jb, .ref ji, .ref jd, .ref je, .ref jg, .ref qpa, .int pcn, .int ipn, .ref jt, .ref jr, .ref j1, .ref j2, .ref qsa], eR qsa ksa 4 fsa, eI si0 ksi0 60 fsi0, eO s1 6 [.int so1, .int sn1, .ref si1], eI si1 ksi1 60 fsi1, eO s2 6 [.int so2, .int sn2, .ref si2], eI si2 ksi2 60 fsi2, eI si3 ksi3 60 fsi3, eO s3 6 [.int so3, .int sn3, .ref si3], eO s0 6 [.int so0, .int sn0, .ref si0]]) hP hD [(8, 1)] [(0, 8), (9, 1)] hCm hNw (by decide +kernel) hk1 hFc hP1 hD1 rfl
                have hK := KJ_s (tys' := [(ksa, .object "ClearingGates$Sheet"), (ksi0, .int), (ksi1, .int), (ksi2, .int), (ksi3, .int)]) hK hK1 [(0, 5)] rfl
                generalize H1 = H at hP hS ⊢
                rcases hw with ⟨e_r54, f_r54⟩ | ⟨e_r54, f_r54⟩
                · subst e_r54
                  refine lv_if_eq (tgt := 91) hx hb dX9_copy_76 (by decide) (fun c55 => absurd c55 (by decide)) (fun c55 => ?_)
                  refine lv_aload hx hb dX9_copy_79 (lv_at hl 0 rfl) ?_
                  refine lv_iload hx hb dX9_copy_81 (lv_at hl 6 rfl) ?_
                  refine lv_iload hx hb dX9_copy_83 (lv_at hl 7 rfl) ?_
                  obtain ⟨hPc, hDc, hFc, hCm, hNw⟩ := C_s (wc := [eO s3 6 [.int so3, .int sn3, .ref si3]]) hP hD hS hA [(8, 1)] 10 rfl (by decide +kernel) rfl
                  have hKc := K_s (tys' := []) hK [] rfl
                  refine va_calli (va_runV (As := [.int p3, .int p4]) (rest := []) ⟨hx, hb, hml, hown, hts⟩ (c_X7_hasStretch l dC dI s3 p3 p4 so3 sn3 si3 H.size vs3a vs3b) (cwV 2 hts gX9_copy_X7_hasStretch rfl rfl rfl (by decide +kernel) ⟨Nat.le_of_ble_eq_true rfl, Nat.le_of_ble_eq_true rfl⟩) ⟨fun a U g mk q => by obtain ⟨q0, q1, qP, qK, qD⟩ := q; exact ⟨q0, q1, qP, va_K.moved (u := U) (U := U.calling g mk a) (Vm.Alike.refl U.vm) qK, qD⟩, va_recv (s := s) (q := (RX7, TX7, 3)) hKc hPc (ci := 6) (q0 := 0) rfl rfl, fun U hU hW => ⟨rfl, by rw [hU], by rw [hU]; exact hPc, va_K.moved hW.alike hKc, hDc.weaken (fun _ _ _ _ => trivial)⟩⟩ rfl rfl hl.1 rfl (lv_room (Nat.le_of_ble_eq_true rfl)) dX9_copy_85 ⟨Nat.le_of_ble_eq_true rfl, Nat.le_of_ble_eq_true rfl⟩) hS (fun q _ h => hFc q h) hFc (fun r56 u t H1 locs ht hvm hw hB hz1 hk1 hS => ?_)
                  obtain ⟨hP1, hK1, hD1⟩ := hB
                  rw [ht] at hP1
                  have hK1 := va_K.moved hvm.symm hK1
                  try dsimp only at hw
                  obtain ⟨hP, hD⟩ := J_s (wL := [eO h0 8 [.ref jb, .ref ji, .ref jd, .ref je, .ref jg, .ref qpa, .int pcn, .int ipn, .ref jt, .ref jr, .ref j1, .ref j2, .ref qsa], eR qsa ksa 4 fsa, eI si0 ksi0 60 fsi0, eO s1 6 [.int so1, .int sn1, .ref si1], eI si1 ksi1 60 fsi1, eO s2 6 [.int so2, .int sn2, .ref si2], eI si2 ksi2 60 fsi2, eI si3 ksi3 60 fsi3, eO s0 6 [.int so0, .int sn0, .ref si0], eO s3 6 [.int so3, .int sn3, .ref si3]]) hP hD [(8, 1)] [(0, 8), (9, 1)] hCm hNw (by decide +kernel) hk1 hFc hP1 hD1 rfl
                  have hK := KJ_s (tys' := [(ksa, .object "ClearingGates$Sheet"), (ksi0, .int), (ksi1, .int), (ksi2, .int), (ksi3, .int)]) hK hK1 [(0, 5)] rfl
                  generalize H1 = H at hP hS ⊢
                  rcases hw with ⟨e_r56, f_r56⟩ | ⟨e_r56, f_r56⟩
                  · subst e_r56
                    refine lv_if_ne (tgt := 94) hx hb dX9_copy_88 (by decide) (fun c57 => ?_) (fun c57 => absurd c57 (by decide))
                    refine lv_aload hx hb dX9_copy_94 (lv_at hl 1 rfl) ?_
                    refine va_get (D := (dC, dI)) (ci := 6) (v := .ref si0) (C := RX7) (T := TX7) (N := 3) hx hb hts (fun w h => List.mem_cons_of_mem _ (inlX7 w h)) hown hK hP 8 rfl rfl 2 (by decide) (hts (.fieldLink RX9 276 "ClearingGates$Sheet" "items" "[I") (List.mem_cons_of_mem _ mw_207)) (fun _ h9 => h9) rfl dX9_copy_96 ?_
                    refine lv_iload_n hx hb dX9_copy_99 rfl (lv_at hl 4 rfl) ?_
                    refine lv_aload hx hb dX9_copy_100 (lv_at hl 0 rfl) ?_
                    refine va_get (D := (dC, dI)) (ci := 6) (v := .ref si3) (C := RX7) (T := TX7) (N := 3) hx hb hts (fun w h => List.mem_cons_of_mem _ (inlX7 w h)) hown hK hP 9 rfl rfl 2 (by decide) (hts (.fieldLink RX9 276 "ClearingGates$Sheet" "items" "[I") (List.mem_cons_of_mem _ mw_207)) (fun _ h9 => h9) rfl dX9_copy_102 ?_
                    refine lv_iload hx hb dX9_copy_105 (lv_at hl 6 rfl) ?_
                    refine lv_iload hx hb dX9_copy_107 (lv_at hl 7 rfl) ?_
                    refine va_copyi (D := (dC, dI)) hx hb (hml.trans hl.1.symm) hown (hts (.methodLink RX9 279 arraycopyName) (List.mem_cons_of_mem _ mw_597)) (hts (.native arraycopyName) (List.mem_cons_of_mem _ mw_330)) (hts (.static arraycopyName) (List.mem_cons_of_mem _ mw_329)) (hts (.initialized "java/lang/System") (List.mem_cons_of_mem _ mw_80)) hK hP hD hS 2 7 1 4 rfl rfl rfl rfl rfl (fun q => by have := i_lt q; omega) (fun q => by have := i_lt q; omega) (fun q => by have := i_lt q; omega) (by have e1 := i_natZ (x := p1) (by omega); have e2 := i_natZ (x := p4) (by omega); omega) (by have e1 := i_natZ (x := p3) (by omega); have e2 := i_natZ (x := p4) (by omega); omega) (fun _ _ => rfl) (Nat.le_of_ble_eq_true rfl) (by decide) dX9_copy_109 (fun H locs hP hD hS => ?_)
                    generalize e_g58 : (va_cpy fsi0 fsi3 (p1 : Int32).toNatClampNeg (p3 : Int32).toNatClampNeg (p4 : Int32).toNatClampNeg) = g58 at hP hD
                    obtain ⟨hP, hD⟩ := X_s (ws' := [eO h0 8 [.ref jb, .ref ji, .ref jd, .ref je, .ref jg, .ref qpa, .int pcn, .int ipn, .ref jt, .ref jr, .ref j1, .ref j2, .ref qsa], eR qsa ksa 4 fsa, eI si0 ksi0 60 fsi0, eO s1 6 [.int so1, .int sn1, .ref si1], eI si1 ksi1 60 fsi1, eO s2 6 [.int so2, .int sn2, .ref si2], eI si2 ksi2 60 fsi2, eI si3 ksi3 60 g58, eO s0 6 [.int so0, .int sn0, .ref si0], eO s3 6 [.int so3, .int sn3, .ref si3]]) hP hD rfl
                    refine lv_iload hx hb dX9_copy_112 (lv_at hl 7 rfl) ?_
                    rw [hQ9]
                    exact W.iret (v := p4) hx hb hr (fun t ht hW => ⟨⟨p4, (), rfl, (by first | rfl | trivial), fsi0, fsi1, fsi2, g58, by rw [ht]; exact P_s hP [(0, 2), (8, 1), (2, 5), (9, 1), (7, 1)] rfl, va_K.moved hW.alike hK, D_s hD [(0, 2), (8, 1), (2, 5), (9, 1), (7, 1)] 10 rfl (by decide +kernel) rfl⟩, hS.F ht⟩) hS.2.2 dX9_copy_114
                  · subst e_r56
                    refine lv_if_ne (tgt := 94) hx hb dX9_copy_88 (by decide) (fun c59 => absurd (by decide) c59) (fun c59 => ?_)
                    refine lv_bipush (v := -12) hx hb dX9_copy_91 (by decide) ?_
                    rw [hQ9]
                    exact W.iret (v := (-12)) hx hb hr (fun t ht hW => ⟨⟨(-12), (), rfl, (by first | rfl | trivial), fsi0, fsi1, fsi2, fsi3, by rw [ht]; exact P_s hP [(0, 2), (8, 1), (2, 5), (9, 1), (7, 1)] rfl, va_K.moved hW.alike hK, D_s hD [(0, 2), (8, 1), (2, 5), (9, 1), (7, 1)] 10 rfl (by decide +kernel) rfl⟩, hS.F ht⟩) hS.2.2 dX9_copy_93
                · subst e_r54
                  refine lv_if_eq (tgt := 91) hx hb dX9_copy_76 (by decide) (fun c60 => ?_) (fun c60 => absurd (by decide) c60)
                  refine lv_bipush (v := -12) hx hb dX9_copy_91 (by decide) ?_
                  rw [hQ9]
                  exact W.iret (v := (-12)) hx hb hr (fun t ht hW => ⟨⟨(-12), (), rfl, (by first | rfl | trivial), fsi0, fsi1, fsi2, fsi3, by rw [ht]; exact P_s hP [(0, 2), (9, 1), (2, 5), (8, 1), (7, 1)] rfl, va_K.moved hW.alike hK, D_s hD [(0, 2), (9, 1), (2, 5), (8, 1), (7, 1)] 10 rfl (by decide +kernel) rfl⟩, hS.F ht⟩) hS.2.2 dX9_copy_93
              · skip
                have f_c53 := i_ne c53
                refine lv_bipush (v := -13) hx hb dX9_copy_65 (by decide) ?_
                rw [hQ9]
                exact W.iret (v := (-13)) hx hb hr (fun t ht hW => ⟨⟨(-13), (), rfl, (by first | rfl | trivial), fsi0, fsi1, fsi2, fsi3, by rw [ht]; exact P_s hP [(0, 2), (8, 1), (2, 5), (9, 1), (7, 1)] rfl, va_K.moved hW.alike hK, D_s hD [(0, 2), (8, 1), (2, 5), (9, 1), (7, 1)] 10 rfl (by decide +kernel) rfl⟩, hS.F ht⟩) hS.2.2 dX9_copy_67
      · rw [show va_rf (fsa p0.toNatClampNeg) = .ref s1 from by rw [i_nat j0, vsa1]; rfl]
        refine lv_astore (lv' := [(6, .ref s1), (0, .ref h0), (1, .int p0), (2, .int p1), (3, .int p2), (4, .int p3), (5, .int p4)]) hx hb dX9_copy_23 hl (by decide) rfl (fun ls hl => ?_)
        refine lv_aload_n hx hb dX9_copy_25 rfl (lv_at hl 1 rfl) ?_
        refine va_get (D := (dC, dI)) (ci := 8) (v := .ref qsa) (C := RX9) (T := TX9) (N := 13) hx hb hts (fun w h => List.mem_cons_of_mem _ (inlX9 w h)) hown hK hP 0 rfl rfl 12 (by decide) (hts (.fieldLink RX9 79 "ClearingGates" "sheets" "[LClearingGates$Sheet;") (List.mem_cons_of_mem _ mw_220)) (fun _ h9 => h9) rfl dX9_copy_26 ?_
        refine lv_iload_n hx hb dX9_copy_29 rfl (lv_at hl 4 rfl) ?_
        refine va_aldq (D := (dC, dI)) hx hb hK hP 1 0 rfl rfl (vp_in_iff.mpr ⟨by omega, by omega⟩) dX9_copy_30 ?_
        rcases i4 (x := p2) (by omega) (by omega) with j0 | j0 | j0 | j0
        · rw [show va_rf (fsa p2.toNatClampNeg) = .ref s0 from by rw [i_nat j0, vsa0]; rfl]
          refine lv_astore (lv' := [(7, .ref s0), (6, .ref s1), (0, .ref h0), (1, .int p0), (2, .int p1), (3, .int p2), (4, .int p3), (5, .int p4)]) hx hb dX9_copy_31 hl (by decide) rfl (fun ls hl => ?_)
          refine lv_aload hx hb dX9_copy_33 (lv_at hl 1 rfl) ?_
          obtain ⟨hPc, hDc, hFc, hCm, hNw⟩ := C_s (wc := [eO s1 6 [.int so1, .int sn1, .ref si1]]) hP hD hS hA [(4, 1)] 10 rfl (by decide +kernel) rfl
          have hKc := K_s (tys' := []) hK [] rfl
          refine va_calli (va_runV (As := []) (rest := []) ⟨hx, hb, hml, hown, hts⟩ (c_X7_isMissing l dC dI s1 so1 sn1 si1 H.size) (cwV 0 hts gX9_copy_X7_isMissing rfl rfl rfl (by decide +kernel) ⟨Nat.le_of_ble_eq_true rfl, Nat.le_of_ble_eq_true rfl⟩) ⟨fun a U g mk q => by obtain ⟨q0, q1, qP, qK, qD⟩ := q; exact ⟨q0, q1, qP, va_K.moved (u := U) (U := U.calling g mk a) (Vm.Alike.refl U.vm) qK, qD⟩, va_recv (s := s) (q := (RX7, TX7, 3)) hKc hPc (ci := 6) (q0 := 0) rfl rfl, fun U hU hW => ⟨rfl, by rw [hU], by rw [hU]; exact hPc, va_K.moved hW.alike hKc, hDc.weaken (fun _ _ _ _ => trivial)⟩⟩ rfl rfl hl.1 rfl (lv_room (Nat.le_of_ble_eq_true rfl)) dX9_copy_35 ⟨Nat.le_of_ble_eq_true rfl, Nat.le_of_ble_eq_true rfl⟩) hS (fun q _ h => hFc q h) hFc (fun r61 u t H1 locs ht hvm hw hB hz1 hk1 hS => ?_)
          obtain ⟨hP1, hK1, hD1⟩ := hB
          rw [ht] at hP1
          have hK1 := va_K.moved hvm.symm hK1
          try dsimp only at hw
          obtain ⟨hP, hD⟩ := J_s (wL := [eO h0 8 [.ref jb, .ref ji, .ref jd, .ref je, .ref jg, .ref qpa, .int pcn, .int ipn, .ref jt, .ref jr, .ref j1, .ref j2, .ref qsa], eR qsa ksa 4 fsa, eO s0 6 [.int so0, .int sn0, .ref si0], eI si0 ksi0 60 fsi0, eI si1 ksi1 60 fsi1, eO s2 6 [.int so2, .int sn2, .ref si2], eI si2 ksi2 60 fsi2, eO s3 6 [.int so3, .int sn3, .ref si3], eI si3 ksi3 60 fsi3, eO s1 6 [.int so1, .int sn1, .ref si1]]) hP hD [(4, 1)] [(0, 4), (5, 5)] hCm hNw (by decide +kernel) hk1 hFc hP1 hD1 rfl
          have hK := KJ_s (tys' := [(ksa, .object "ClearingGates$Sheet"), (ksi0, .int), (ksi1, .int), (ksi2, .int), (ksi3, .int)]) hK hK1 [(0, 5)] rfl
          generalize H1 = H at hP hS ⊢
          rcases hw with ⟨e_r61, f_r61⟩ | ⟨e_r61, f_r61⟩
          · subst e_r61
            refine lv_if_ne (tgt := 49) hx hb dX9_copy_38 (by decide) (fun c62 => ?_) (fun c62 => absurd c62 (by decide))
            refine lv_bipush (v := -11) hx hb dX9_copy_49 (by decide) ?_
            rw [hQ9]
            exact W.iret (v := (-11)) hx hb hr (fun t ht hW => ⟨⟨(-11), (), rfl, (by first | rfl | trivial), fsi0, fsi1, fsi2, fsi3, by rw [ht]; exact P_s hP [(0, 4), (9, 1), (4, 5)] rfl, va_K.moved hW.alike hK, D_s hD [(0, 4), (9, 1), (4, 5)] 10 rfl (by decide +kernel) rfl⟩, hS.F ht⟩) hS.2.2 dX9_copy_51
          · subst e_r61
            refine lv_if_ne (tgt := 49) hx hb dX9_copy_38 (by decide) (fun c63 => absurd (by decide) c63) (fun c63 => ?_)
            refine lv_aload hx hb dX9_copy_41 (lv_at hl 0 rfl) ?_
            obtain ⟨hPc, hDc, hFc, hCm, hNw⟩ := C_s (wc := [eO s0 6 [.int so0, .int sn0, .ref si0]]) hP hD hS hA [(2, 1)] 10 rfl (by decide +kernel) rfl
            have hKc := K_s (tys' := []) hK [] rfl
            refine va_calli (va_runV (As := []) (rest := []) ⟨hx, hb, hml, hown, hts⟩ (c_X7_isMissing l dC dI s0 so0 sn0 si0 H.size) (cwV 0 hts gX9_copy_X7_isMissing rfl rfl rfl (by decide +kernel) ⟨Nat.le_of_ble_eq_true rfl, Nat.le_of_ble_eq_true rfl⟩) ⟨fun a U g mk q => by obtain ⟨q0, q1, qP, qK, qD⟩ := q; exact ⟨q0, q1, qP, va_K.moved (u := U) (U := U.calling g mk a) (Vm.Alike.refl U.vm) qK, qD⟩, va_recv (s := s) (q := (RX7, TX7, 3)) hKc hPc (ci := 6) (q0 := 0) rfl rfl, fun U hU hW => ⟨rfl, by rw [hU], by rw [hU]; exact hPc, va_K.moved hW.alike hKc, hDc.weaken (fun _ _ _ _ => trivial)⟩⟩ rfl rfl hl.1 rfl (lv_room (Nat.le_of_ble_eq_true rfl)) dX9_copy_43 ⟨Nat.le_of_ble_eq_true rfl, Nat.le_of_ble_eq_true rfl⟩) hS (fun q _ h => hFc q h) hFc (fun r64 u t H1 locs ht hvm hw hB hz1 hk1 hS => ?_)
            obtain ⟨hP1, hK1, hD1⟩ := hB
            rw [ht] at hP1
            have hK1 := va_K.moved hvm.symm hK1
            try dsimp only at hw
            obtain ⟨hP, hD⟩ := J_s (wL := [eO h0 8 [.ref jb, .ref ji, .ref jd, .ref je, .ref jg, .ref qpa, .int pcn, .int ipn, .ref jt, .ref jr, .ref j1, .ref j2, .ref qsa], eR qsa ksa 4 fsa, eI si0 ksi0 60 fsi0, eI si1 ksi1 60 fsi1, eO s2 6 [.int so2, .int sn2, .ref si2], eI si2 ksi2 60 fsi2, eO s3 6 [.int so3, .int sn3, .ref si3], eI si3 ksi3 60 fsi3, eO s1 6 [.int so1, .int sn1, .ref si1], eO s0 6 [.int so0, .int sn0, .ref si0]]) hP hD [(2, 1)] [(0, 2), (3, 7)] hCm hNw (by decide +kernel) hk1 hFc hP1 hD1 rfl
            have hK := KJ_s (tys' := [(ksa, .object "ClearingGates$Sheet"), (ksi0, .int), (ksi1, .int), (ksi2, .int), (ksi3, .int)]) hK hK1 [(0, 5)] rfl
            generalize H1 = H at hP hS ⊢
            rcases hw with ⟨e_r64, f_r64⟩ | ⟨e_r64, f_r64⟩
            · subst e_r64
              refine lv_if_eq (tgt := 52) hx hb dX9_copy_46 (by decide) (fun c65 => absurd c65 (by decide)) (fun c65 => ?_)
              refine lv_bipush (v := -11) hx hb dX9_copy_49 (by decide) ?_
              rw [hQ9]
              exact W.iret (v := (-11)) hx hb hr (fun t ht hW => ⟨⟨(-11), (), rfl, (by first | rfl | trivial), fsi0, fsi1, fsi2, fsi3, by rw [ht]; exact P_s hP [(0, 2), (9, 1), (2, 1), (8, 1), (3, 5)] rfl, va_K.moved hW.alike hK, D_s hD [(0, 2), (9, 1), (2, 1), (8, 1), (3, 5)] 10 rfl (by decide +kernel) rfl⟩, hS.F ht⟩) hS.2.2 dX9_copy_51
            · subst e_r64
              refine lv_if_eq (tgt := 52) hx hb dX9_copy_46 (by decide) (fun c66 => ?_) (fun c66 => absurd (by decide) c66)
              refine lv_aload hx hb dX9_copy_52 (lv_at hl 1 rfl) ?_
              refine va_get (D := (dC, dI)) (ci := 6) (v := .int so1) (C := RX7) (T := TX7) (N := 3) hx hb hts (fun w h => List.mem_cons_of_mem _ (inlX7 w h)) hown hK hP 8 rfl rfl 0 (by decide) (hts (.fieldLink RX9 270 "ClearingGates$Sheet" "sort" "I") (List.mem_cons_of_mem _ mw_203)) (fun _ h9 => h9) rfl dX9_copy_54 ?_
              refine lv_aload hx hb dX9_copy_57 (lv_at hl 0 rfl) ?_
              refine va_get (D := (dC, dI)) (ci := 6) (v := .int so0) (C := RX7) (T := TX7) (N := 3) hx hb hts (fun w h => List.mem_cons_of_mem _ (inlX7 w h)) hown hK hP 9 rfl rfl 0 (by decide) (hts (.fieldLink RX9 270 "ClearingGates$Sheet" "sort" "I") (List.mem_cons_of_mem _ mw_203)) (fun _ h9 => h9) rfl dX9_copy_59 ?_
              refine lv_icmp_eq (tgt := 68) hx hb dX9_copy_62 (by decide) (fun c67 => ?_) (fun c67 => ?_)
              · skip
                have f_c67 := i_eq c67
                refine lv_aload hx hb dX9_copy_68 (lv_at hl 1 rfl) ?_
                refine lv_iload_n hx hb dX9_copy_70 rfl (lv_at hl 4 rfl) ?_
                refine lv_iload hx hb dX9_copy_71 (lv_at hl 7 rfl) ?_
                obtain ⟨hPc, hDc, hFc, hCm, hNw⟩ := C_s (wc := [eO s1 6 [.int so1, .int sn1, .ref si1]]) hP hD hS hA [(8, 1)] 10 rfl (by decide +kernel) rfl
                have hKc := K_s (tys' := []) hK [] rfl
                refine va_calli (va_runV (As := [.int p1, .int p4]) (rest := []) ⟨hx, hb, hml, hown, hts⟩ (c_X7_hasStretch l dC dI s1 p1 p4 so1 sn1 si1 H.size vs1a vs1b) (cwV 2 hts gX9_copy_X7_hasStretch rfl rfl rfl (by decide +kernel) ⟨Nat.le_of_ble_eq_true rfl, Nat.le_of_ble_eq_true rfl⟩) ⟨fun a U g mk q => by obtain ⟨q0, q1, qP, qK, qD⟩ := q; exact ⟨q0, q1, qP, va_K.moved (u := U) (U := U.calling g mk a) (Vm.Alike.refl U.vm) qK, qD⟩, va_recv (s := s) (q := (RX7, TX7, 3)) hKc hPc (ci := 6) (q0 := 0) rfl rfl, fun U hU hW => ⟨rfl, by rw [hU], by rw [hU]; exact hPc, va_K.moved hW.alike hKc, hDc.weaken (fun _ _ _ _ => trivial)⟩⟩ rfl rfl hl.1 rfl (lv_room (Nat.le_of_ble_eq_true rfl)) dX9_copy_73 ⟨Nat.le_of_ble_eq_true rfl, Nat.le_of_ble_eq_true rfl⟩) hS (fun q _ h => hFc q h) hFc (fun r68 u t H1 locs ht hvm hw hB hz1 hk1 hS => ?_)
                obtain ⟨hP1, hK1, hD1⟩ := hB
                rw [ht] at hP1
                have hK1 := va_K.moved hvm.symm hK1
                try dsimp only at hw
                obtain ⟨hP, hD⟩ := J_s (wL := [eO h0 8 [.ref jb, .ref ji, .ref jd, .ref je, .ref jg, .ref qpa, .int pcn, .int ipn, .ref jt, .ref jr, .ref j1, .ref j2, .ref qsa], eR qsa ksa 4 fsa, eI si0 ksi0 60 fsi0, eI si1 ksi1 60 fsi1, eO s2 6 [.int so2, .int sn2, .ref si2], eI si2 ksi2 60 fsi2, eO s3 6 [.int so3, .int sn3, .ref si3], eI si3 ksi3 60 fsi3, eO s0 6 [.int so0, .int sn0, .ref si0], eO s1 6 [.int so1, .int sn1, .ref si1]]) hP hD [(8, 1)] [(0, 8), (9, 1)] hCm hNw (by decide +kernel) hk1 hFc hP1 hD1 rfl
                have hK := KJ_s (tys' := [(ksa, .object "ClearingGates$Sheet"), (ksi0, .int), (ksi1, .int), (ksi2, .int), (ksi3, .int)]) hK hK1 [(0, 5)] rfl
                generalize H1 = H at hP hS ⊢
                rcases hw with ⟨e_r68, f_r68⟩ | ⟨e_r68, f_r68⟩
                · subst e_r68
                  refine lv_if_eq (tgt := 91) hx hb dX9_copy_76 (by decide) (fun c69 => absurd c69 (by decide)) (fun c69 => ?_)
                  refine lv_aload hx hb dX9_copy_79 (lv_at hl 0 rfl) ?_
                  refine lv_iload hx hb dX9_copy_81 (lv_at hl 6 rfl) ?_
                  refine lv_iload hx hb dX9_copy_83 (lv_at hl 7 rfl) ?_
                  obtain ⟨hPc, hDc, hFc, hCm, hNw⟩ := C_s (wc := [eO s0 6 [.int so0, .int sn0, .ref si0]]) hP hD hS hA [(8, 1)] 10 rfl (by decide +kernel) rfl
                  have hKc := K_s (tys' := []) hK [] rfl
                  refine va_calli (va_runV (As := [.int p3, .int p4]) (rest := []) ⟨hx, hb, hml, hown, hts⟩ (c_X7_hasStretch l dC dI s0 p3 p4 so0 sn0 si0 H.size vs0a vs0b) (cwV 2 hts gX9_copy_X7_hasStretch rfl rfl rfl (by decide +kernel) ⟨Nat.le_of_ble_eq_true rfl, Nat.le_of_ble_eq_true rfl⟩) ⟨fun a U g mk q => by obtain ⟨q0, q1, qP, qK, qD⟩ := q; exact ⟨q0, q1, qP, va_K.moved (u := U) (U := U.calling g mk a) (Vm.Alike.refl U.vm) qK, qD⟩, va_recv (s := s) (q := (RX7, TX7, 3)) hKc hPc (ci := 6) (q0 := 0) rfl rfl, fun U hU hW => ⟨rfl, by rw [hU], by rw [hU]; exact hPc, va_K.moved hW.alike hKc, hDc.weaken (fun _ _ _ _ => trivial)⟩⟩ rfl rfl hl.1 rfl (lv_room (Nat.le_of_ble_eq_true rfl)) dX9_copy_85 ⟨Nat.le_of_ble_eq_true rfl, Nat.le_of_ble_eq_true rfl⟩) hS (fun q _ h => hFc q h) hFc (fun r70 u t H1 locs ht hvm hw hB hz1 hk1 hS => ?_)
                  obtain ⟨hP1, hK1, hD1⟩ := hB
                  rw [ht] at hP1
                  have hK1 := va_K.moved hvm.symm hK1
                  try dsimp only at hw
                  obtain ⟨hP, hD⟩ := J_s (wL := [eO h0 8 [.ref jb, .ref ji, .ref jd, .ref je, .ref jg, .ref qpa, .int pcn, .int ipn, .ref jt, .ref jr, .ref j1, .ref j2, .ref qsa], eR qsa ksa 4 fsa, eI si0 ksi0 60 fsi0, eI si1 ksi1 60 fsi1, eO s2 6 [.int so2, .int sn2, .ref si2], eI si2 ksi2 60 fsi2, eO s3 6 [.int so3, .int sn3, .ref si3], eI si3 ksi3 60 fsi3, eO s1 6 [.int so1, .int sn1, .ref si1], eO s0 6 [.int so0, .int sn0, .ref si0]]) hP hD [(8, 1)] [(0, 8), (9, 1)] hCm hNw (by decide +kernel) hk1 hFc hP1 hD1 rfl
                  have hK := KJ_s (tys' := [(ksa, .object "ClearingGates$Sheet"), (ksi0, .int), (ksi1, .int), (ksi2, .int), (ksi3, .int)]) hK hK1 [(0, 5)] rfl
                  generalize H1 = H at hP hS ⊢
                  rcases hw with ⟨e_r70, f_r70⟩ | ⟨e_r70, f_r70⟩
                  · subst e_r70
                    refine lv_if_ne (tgt := 94) hx hb dX9_copy_88 (by decide) (fun c71 => ?_) (fun c71 => absurd c71 (by decide))
                    refine lv_aload hx hb dX9_copy_94 (lv_at hl 1 rfl) ?_
                    refine va_get (D := (dC, dI)) (ci := 6) (v := .ref si1) (C := RX7) (T := TX7) (N := 3) hx hb hts (fun w h => List.mem_cons_of_mem _ (inlX7 w h)) hown hK hP 8 rfl rfl 2 (by decide) (hts (.fieldLink RX9 276 "ClearingGates$Sheet" "items" "[I") (List.mem_cons_of_mem _ mw_207)) (fun _ h9 => h9) rfl dX9_copy_96 ?_
                    refine lv_iload_n hx hb dX9_copy_99 rfl (lv_at hl 4 rfl) ?_
                    refine lv_aload hx hb dX9_copy_100 (lv_at hl 0 rfl) ?_
                    refine va_get (D := (dC, dI)) (ci := 6) (v := .ref si0) (C := RX7) (T := TX7) (N := 3) hx hb hts (fun w h => List.mem_cons_of_mem _ (inlX7 w h)) hown hK hP 9 rfl rfl 2 (by decide) (hts (.fieldLink RX9 276 "ClearingGates$Sheet" "items" "[I") (List.mem_cons_of_mem _ mw_207)) (fun _ h9 => h9) rfl dX9_copy_102 ?_
                    refine lv_iload hx hb dX9_copy_105 (lv_at hl 6 rfl) ?_
                    refine lv_iload hx hb dX9_copy_107 (lv_at hl 7 rfl) ?_
                    refine va_copyi (D := (dC, dI)) hx hb (hml.trans hl.1.symm) hown (hts (.methodLink RX9 279 arraycopyName) (List.mem_cons_of_mem _ mw_597)) (hts (.native arraycopyName) (List.mem_cons_of_mem _ mw_330)) (hts (.static arraycopyName) (List.mem_cons_of_mem _ mw_329)) (hts (.initialized "java/lang/System") (List.mem_cons_of_mem _ mw_80)) hK hP hD hS 3 2 2 1 rfl rfl rfl rfl rfl (fun q => by have := i_lt q; omega) (fun q => by have := i_lt q; omega) (fun q => by have := i_lt q; omega) (by have e1 := i_natZ (x := p1) (by omega); have e2 := i_natZ (x := p4) (by omega); omega) (by have e1 := i_natZ (x := p3) (by omega); have e2 := i_natZ (x := p4) (by omega); omega) (fun _ _ => rfl) (Nat.le_of_ble_eq_true rfl) (by decide) dX9_copy_109 (fun H locs hP hD hS => ?_)
                    generalize e_g72 : (va_cpy fsi1 fsi0 (p1 : Int32).toNatClampNeg (p3 : Int32).toNatClampNeg (p4 : Int32).toNatClampNeg) = g72 at hP hD
                    obtain ⟨hP, hD⟩ := X_s (ws' := [eO h0 8 [.ref jb, .ref ji, .ref jd, .ref je, .ref jg, .ref qpa, .int pcn, .int ipn, .ref jt, .ref jr, .ref j1, .ref j2, .ref qsa], eR qsa ksa 4 fsa, eI si0 ksi0 60 g72, eI si1 ksi1 60 fsi1, eO s2 6 [.int so2, .int sn2, .ref si2], eI si2 ksi2 60 fsi2, eO s3 6 [.int so3, .int sn3, .ref si3], eI si3 ksi3 60 fsi3, eO s1 6 [.int so1, .int sn1, .ref si1], eO s0 6 [.int so0, .int sn0, .ref si0]]) hP hD rfl
                    refine lv_iload hx hb dX9_copy_112 (lv_at hl 7 rfl) ?_
                    rw [hQ9]
                    exact W.iret (v := p4) hx hb hr (fun t ht hW => ⟨⟨p4, (), rfl, (by first | rfl | trivial), g72, fsi1, fsi2, fsi3, by rw [ht]; exact P_s hP [(0, 2), (9, 1), (2, 1), (8, 1), (3, 5)] rfl, va_K.moved hW.alike hK, D_s hD [(0, 2), (9, 1), (2, 1), (8, 1), (3, 5)] 10 rfl (by decide +kernel) rfl⟩, hS.F ht⟩) hS.2.2 dX9_copy_114
                  · subst e_r70
                    refine lv_if_ne (tgt := 94) hx hb dX9_copy_88 (by decide) (fun c73 => absurd (by decide) c73) (fun c73 => ?_)
                    refine lv_bipush (v := -12) hx hb dX9_copy_91 (by decide) ?_
                    rw [hQ9]
                    exact W.iret (v := (-12)) hx hb hr (fun t ht hW => ⟨⟨(-12), (), rfl, (by first | rfl | trivial), fsi0, fsi1, fsi2, fsi3, by rw [ht]; exact P_s hP [(0, 2), (9, 1), (2, 1), (8, 1), (3, 5)] rfl, va_K.moved hW.alike hK, D_s hD [(0, 2), (9, 1), (2, 1), (8, 1), (3, 5)] 10 rfl (by decide +kernel) rfl⟩, hS.F ht⟩) hS.2.2 dX9_copy_93
                · subst e_r68
                  refine lv_if_eq (tgt := 91) hx hb dX9_copy_76 (by decide) (fun c74 => ?_) (fun c74 => absurd (by decide) c74)
                  refine lv_bipush (v := -12) hx hb dX9_copy_91 (by decide) ?_
                  rw [hQ9]
                  exact W.iret (v := (-12)) hx hb hr (fun t ht hW => ⟨⟨(-12), (), rfl, (by first | rfl | trivial), fsi0, fsi1, fsi2, fsi3, by rw [ht]; exact P_s hP [(0, 2), (8, 1), (2, 1), (9, 1), (3, 5)] rfl, va_K.moved hW.alike hK, D_s hD [(0, 2), (8, 1), (2, 1), (9, 1), (3, 5)] 10 rfl (by decide +kernel) rfl⟩, hS.F ht⟩) hS.2.2 dX9_copy_93
              · skip
                have f_c67 := i_ne c67
                refine lv_bipush (v := -13) hx hb dX9_copy_65 (by decide) ?_
                rw [hQ9]
                exact W.iret (v := (-13)) hx hb hr (fun t ht hW => ⟨⟨(-13), (), rfl, (by first | rfl | trivial), fsi0, fsi1, fsi2, fsi3, by rw [ht]; exact P_s hP [(0, 2), (9, 1), (2, 1), (8, 1), (3, 5)] rfl, va_K.moved hW.alike hK, D_s hD [(0, 2), (9, 1), (2, 1), (8, 1), (3, 5)] 10 rfl (by decide +kernel) rfl⟩, hS.F ht⟩) hS.2.2 dX9_copy_67
        · rw [show va_rf (fsa p2.toNatClampNeg) = .ref s1 from by rw [i_nat j0, vsa1]; rfl]
          refine lv_astore (lv' := [(7, .ref s1), (6, .ref s1), (0, .ref h0), (1, .int p0), (2, .int p1), (3, .int p2), (4, .int p3), (5, .int p4)]) hx hb dX9_copy_31 hl (by decide) rfl (fun ls hl => ?_)
          refine lv_aload hx hb dX9_copy_33 (lv_at hl 1 rfl) ?_
          obtain ⟨hPc, hDc, hFc, hCm, hNw⟩ := C_s (wc := [eO s1 6 [.int so1, .int sn1, .ref si1]]) hP hD hS hA [(4, 1)] 10 rfl (by decide +kernel) rfl
          have hKc := K_s (tys' := []) hK [] rfl
          refine va_calli (va_runV (As := []) (rest := []) ⟨hx, hb, hml, hown, hts⟩ (c_X7_isMissing l dC dI s1 so1 sn1 si1 H.size) (cwV 0 hts gX9_copy_X7_isMissing rfl rfl rfl (by decide +kernel) ⟨Nat.le_of_ble_eq_true rfl, Nat.le_of_ble_eq_true rfl⟩) ⟨fun a U g mk q => by obtain ⟨q0, q1, qP, qK, qD⟩ := q; exact ⟨q0, q1, qP, va_K.moved (u := U) (U := U.calling g mk a) (Vm.Alike.refl U.vm) qK, qD⟩, va_recv (s := s) (q := (RX7, TX7, 3)) hKc hPc (ci := 6) (q0 := 0) rfl rfl, fun U hU hW => ⟨rfl, by rw [hU], by rw [hU]; exact hPc, va_K.moved hW.alike hKc, hDc.weaken (fun _ _ _ _ => trivial)⟩⟩ rfl rfl hl.1 rfl (lv_room (Nat.le_of_ble_eq_true rfl)) dX9_copy_35 ⟨Nat.le_of_ble_eq_true rfl, Nat.le_of_ble_eq_true rfl⟩) hS (fun q _ h => hFc q h) hFc (fun r75 u t H1 locs ht hvm hw hB hz1 hk1 hS => ?_)
          obtain ⟨hP1, hK1, hD1⟩ := hB
          rw [ht] at hP1
          have hK1 := va_K.moved hvm.symm hK1
          try dsimp only at hw
          obtain ⟨hP, hD⟩ := J_s (wL := [eO h0 8 [.ref jb, .ref ji, .ref jd, .ref je, .ref jg, .ref qpa, .int pcn, .int ipn, .ref jt, .ref jr, .ref j1, .ref j2, .ref qsa], eR qsa ksa 4 fsa, eO s0 6 [.int so0, .int sn0, .ref si0], eI si0 ksi0 60 fsi0, eI si1 ksi1 60 fsi1, eO s2 6 [.int so2, .int sn2, .ref si2], eI si2 ksi2 60 fsi2, eO s3 6 [.int so3, .int sn3, .ref si3], eI si3 ksi3 60 fsi3, eO s1 6 [.int so1, .int sn1, .ref si1]]) hP hD [(4, 1)] [(0, 4), (5, 5)] hCm hNw (by decide +kernel) hk1 hFc hP1 hD1 rfl
          have hK := KJ_s (tys' := [(ksa, .object "ClearingGates$Sheet"), (ksi0, .int), (ksi1, .int), (ksi2, .int), (ksi3, .int)]) hK hK1 [(0, 5)] rfl
          generalize H1 = H at hP hS ⊢
          rcases hw with ⟨e_r75, f_r75⟩ | ⟨e_r75, f_r75⟩
          · subst e_r75
            refine lv_if_ne (tgt := 49) hx hb dX9_copy_38 (by decide) (fun c76 => ?_) (fun c76 => absurd c76 (by decide))
            refine lv_bipush (v := -11) hx hb dX9_copy_49 (by decide) ?_
            rw [hQ9]
            exact W.iret (v := (-11)) hx hb hr (fun t ht hW => ⟨⟨(-11), (), rfl, (by first | rfl | trivial), fsi0, fsi1, fsi2, fsi3, by rw [ht]; exact P_s hP [(0, 4), (9, 1), (4, 5)] rfl, va_K.moved hW.alike hK, D_s hD [(0, 4), (9, 1), (4, 5)] 10 rfl (by decide +kernel) rfl⟩, hS.F ht⟩) hS.2.2 dX9_copy_51
          · subst e_r75
            refine lv_if_ne (tgt := 49) hx hb dX9_copy_38 (by decide) (fun c77 => absurd (by decide) c77) (fun c77 => ?_)
            refine lv_aload hx hb dX9_copy_41 (lv_at hl 0 rfl) ?_
            obtain ⟨hPc, hDc, hFc, hCm, hNw⟩ := C_s (wc := [eO s1 6 [.int so1, .int sn1, .ref si1]]) hP hD hS hA [(9, 1)] 10 rfl (by decide +kernel) rfl
            have hKc := K_s (tys' := []) hK [] rfl
            refine va_calli (va_runV (As := []) (rest := []) ⟨hx, hb, hml, hown, hts⟩ (c_X7_isMissing l dC dI s1 so1 sn1 si1 H.size) (cwV 0 hts gX9_copy_X7_isMissing rfl rfl rfl (by decide +kernel) ⟨Nat.le_of_ble_eq_true rfl, Nat.le_of_ble_eq_true rfl⟩) ⟨fun a U g mk q => by obtain ⟨q0, q1, qP, qK, qD⟩ := q; exact ⟨q0, q1, qP, va_K.moved (u := U) (U := U.calling g mk a) (Vm.Alike.refl U.vm) qK, qD⟩, va_recv (s := s) (q := (RX7, TX7, 3)) hKc hPc (ci := 6) (q0 := 0) rfl rfl, fun U hU hW => ⟨rfl, by rw [hU], by rw [hU]; exact hPc, va_K.moved hW.alike hKc, hDc.weaken (fun _ _ _ _ => trivial)⟩⟩ rfl rfl hl.1 rfl (lv_room (Nat.le_of_ble_eq_true rfl)) dX9_copy_43 ⟨Nat.le_of_ble_eq_true rfl, Nat.le_of_ble_eq_true rfl⟩) hS (fun q _ h => hFc q h) hFc (fun r78 u t H1 locs ht hvm hw hB hz1 hk1 hS => ?_)
            obtain ⟨hP1, hK1, hD1⟩ := hB
            rw [ht] at hP1
            have hK1 := va_K.moved hvm.symm hK1
            try dsimp only at hw
            obtain ⟨hP, hD⟩ := J_s (wL := [eO h0 8 [.ref jb, .ref ji, .ref jd, .ref je, .ref jg, .ref qpa, .int pcn, .int ipn, .ref jt, .ref jr, .ref j1, .ref j2, .ref qsa], eR qsa ksa 4 fsa, eO s0 6 [.int so0, .int sn0, .ref si0], eI si0 ksi0 60 fsi0, eI si1 ksi1 60 fsi1, eO s2 6 [.int so2, .int sn2, .ref si2], eI si2 ksi2 60 fsi2, eO s3 6 [.int so3, .int sn3, .ref si3], eI si3 ksi3 60 fsi3, eO s1 6 [.int so1, .int sn1, .ref si1]]) hP hD [(9, 1)] [(0, 9)] hCm hNw (by decide +kernel) hk1 hFc hP1 hD1 rfl
            have hK := KJ_s (tys' := [(ksa, .object "ClearingGates$Sheet"), (ksi0, .int), (ksi1, .int), (ksi2, .int), (ksi3, .int)]) hK hK1 [(0, 5)] rfl
            generalize H1 = H at hP hS ⊢
            rcases hw with ⟨e_r78, f_r78⟩ | ⟨e_r78, f_r78⟩
            · subst e_r78
              refine lv_if_eq (tgt := 52) hx hb dX9_copy_46 (by decide) (fun c79 => absurd c79 (by decide)) (fun c79 => ?_)
              refine lv_bipush (v := -11) hx hb dX9_copy_49 (by decide) ?_
              rw [hQ9]
              exact W.iret (v := (-11)) hx hb hr (fun t ht hW => ⟨⟨(-11), (), rfl, (by first | rfl | trivial), fsi0, fsi1, fsi2, fsi3, by rw [ht]; exact P_s hP [(0, 4), (9, 1), (4, 5)] rfl, va_K.moved hW.alike hK, D_s hD [(0, 4), (9, 1), (4, 5)] 10 rfl (by decide +kernel) rfl⟩, hS.F ht⟩) hS.2.2 dX9_copy_51
            · subst e_r78
              refine lv_if_eq (tgt := 52) hx hb dX9_copy_46 (by decide) (fun c80 => ?_) (fun c80 => absurd (by decide) c80)
              refine lv_aload hx hb dX9_copy_52 (lv_at hl 1 rfl) ?_
              refine va_get (D := (dC, dI)) (ci := 6) (v := .int so1) (C := RX7) (T := TX7) (N := 3) hx hb hts (fun w h => List.mem_cons_of_mem _ (inlX7 w h)) hown hK hP 9 rfl rfl 0 (by decide) (hts (.fieldLink RX9 270 "ClearingGates$Sheet" "sort" "I") (List.mem_cons_of_mem _ mw_203)) (fun _ h9 => h9) rfl dX9_copy_54 ?_
              refine lv_aload hx hb dX9_copy_57 (lv_at hl 0 rfl) ?_
              refine va_get (D := (dC, dI)) (ci := 6) (v := .int so1) (C := RX7) (T := TX7) (N := 3) hx hb hts (fun w h => List.mem_cons_of_mem _ (inlX7 w h)) hown hK hP 9 rfl rfl 0 (by decide) (hts (.fieldLink RX9 270 "ClearingGates$Sheet" "sort" "I") (List.mem_cons_of_mem _ mw_203)) (fun _ h9 => h9) rfl dX9_copy_59 ?_
              refine lv_icmp_eq (tgt := 68) hx hb dX9_copy_62 (by decide) (fun c81 => ?_) (fun c81 => ?_)
              · skip
                have f_c81 := i_eq c81
                refine lv_aload hx hb dX9_copy_68 (lv_at hl 1 rfl) ?_
                refine lv_iload_n hx hb dX9_copy_70 rfl (lv_at hl 4 rfl) ?_
                refine lv_iload hx hb dX9_copy_71 (lv_at hl 7 rfl) ?_
                obtain ⟨hPc, hDc, hFc, hCm, hNw⟩ := C_s (wc := [eO s1 6 [.int so1, .int sn1, .ref si1]]) hP hD hS hA [(9, 1)] 10 rfl (by decide +kernel) rfl
                have hKc := K_s (tys' := []) hK [] rfl
                refine va_calli (va_runV (As := [.int p1, .int p4]) (rest := []) ⟨hx, hb, hml, hown, hts⟩ (c_X7_hasStretch l dC dI s1 p1 p4 so1 sn1 si1 H.size vs1a vs1b) (cwV 2 hts gX9_copy_X7_hasStretch rfl rfl rfl (by decide +kernel) ⟨Nat.le_of_ble_eq_true rfl, Nat.le_of_ble_eq_true rfl⟩) ⟨fun a U g mk q => by obtain ⟨q0, q1, qP, qK, qD⟩ := q; exact ⟨q0, q1, qP, va_K.moved (u := U) (U := U.calling g mk a) (Vm.Alike.refl U.vm) qK, qD⟩, va_recv (s := s) (q := (RX7, TX7, 3)) hKc hPc (ci := 6) (q0 := 0) rfl rfl, fun U hU hW => ⟨rfl, by rw [hU], by rw [hU]; exact hPc, va_K.moved hW.alike hKc, hDc.weaken (fun _ _ _ _ => trivial)⟩⟩ rfl rfl hl.1 rfl (lv_room (Nat.le_of_ble_eq_true rfl)) dX9_copy_73 ⟨Nat.le_of_ble_eq_true rfl, Nat.le_of_ble_eq_true rfl⟩) hS (fun q _ h => hFc q h) hFc (fun r82 u t H1 locs ht hvm hw hB hz1 hk1 hS => ?_)
                obtain ⟨hP1, hK1, hD1⟩ := hB
                rw [ht] at hP1
                have hK1 := va_K.moved hvm.symm hK1
                try dsimp only at hw
                obtain ⟨hP, hD⟩ := J_s (wL := [eO h0 8 [.ref jb, .ref ji, .ref jd, .ref je, .ref jg, .ref qpa, .int pcn, .int ipn, .ref jt, .ref jr, .ref j1, .ref j2, .ref qsa], eR qsa ksa 4 fsa, eO s0 6 [.int so0, .int sn0, .ref si0], eI si0 ksi0 60 fsi0, eI si1 ksi1 60 fsi1, eO s2 6 [.int so2, .int sn2, .ref si2], eI si2 ksi2 60 fsi2, eO s3 6 [.int so3, .int sn3, .ref si3], eI si3 ksi3 60 fsi3, eO s1 6 [.int so1, .int sn1, .ref si1]]) hP hD [(9, 1)] [(0, 9)] hCm hNw (by decide +kernel) hk1 hFc hP1 hD1 rfl
                have hK := KJ_s (tys' := [(ksa, .object "ClearingGates$Sheet"), (ksi0, .int), (ksi1, .int), (ksi2, .int), (ksi3, .int)]) hK hK1 [(0, 5)] rfl
                generalize H1 = H at hP hS ⊢
                rcases hw with ⟨e_r82, f_r82⟩ | ⟨e_r82, f_r82⟩
                · subst e_r82
                  refine lv_if_eq (tgt := 91) hx hb dX9_copy_76 (by decide) (fun c83 => absurd c83 (by decide)) (fun c83 => ?_)
                  refine lv_aload hx hb dX9_copy_79 (lv_at hl 0 rfl) ?_
                  refine lv_iload hx hb dX9_copy_81 (lv_at hl 6 rfl) ?_
                  refine lv_iload hx hb dX9_copy_83 (lv_at hl 7 rfl) ?_
                  obtain ⟨hPc, hDc, hFc, hCm, hNw⟩ := C_s (wc := [eO s1 6 [.int so1, .int sn1, .ref si1]]) hP hD hS hA [(9, 1)] 10 rfl (by decide +kernel) rfl
                  have hKc := K_s (tys' := []) hK [] rfl
                  refine va_calli (va_runV (As := [.int p3, .int p4]) (rest := []) ⟨hx, hb, hml, hown, hts⟩ (c_X7_hasStretch l dC dI s1 p3 p4 so1 sn1 si1 H.size vs1a vs1b) (cwV 2 hts gX9_copy_X7_hasStretch rfl rfl rfl (by decide +kernel) ⟨Nat.le_of_ble_eq_true rfl, Nat.le_of_ble_eq_true rfl⟩) ⟨fun a U g mk q => by obtain ⟨q0, q1, qP, qK, qD⟩ := q; exact ⟨q0, q1, qP, va_K.moved (u := U) (U := U.calling g mk a) (Vm.Alike.refl U.vm) qK, qD⟩, va_recv (s := s) (q := (RX7, TX7, 3)) hKc hPc (ci := 6) (q0 := 0) rfl rfl, fun U hU hW => ⟨rfl, by rw [hU], by rw [hU]; exact hPc, va_K.moved hW.alike hKc, hDc.weaken (fun _ _ _ _ => trivial)⟩⟩ rfl rfl hl.1 rfl (lv_room (Nat.le_of_ble_eq_true rfl)) dX9_copy_85 ⟨Nat.le_of_ble_eq_true rfl, Nat.le_of_ble_eq_true rfl⟩) hS (fun q _ h => hFc q h) hFc (fun r84 u t H1 locs ht hvm hw hB hz1 hk1 hS => ?_)
                  obtain ⟨hP1, hK1, hD1⟩ := hB
                  rw [ht] at hP1
                  have hK1 := va_K.moved hvm.symm hK1
                  try dsimp only at hw
                  obtain ⟨hP, hD⟩ := J_s (wL := [eO h0 8 [.ref jb, .ref ji, .ref jd, .ref je, .ref jg, .ref qpa, .int pcn, .int ipn, .ref jt, .ref jr, .ref j1, .ref j2, .ref qsa], eR qsa ksa 4 fsa, eO s0 6 [.int so0, .int sn0, .ref si0], eI si0 ksi0 60 fsi0, eI si1 ksi1 60 fsi1, eO s2 6 [.int so2, .int sn2, .ref si2], eI si2 ksi2 60 fsi2, eO s3 6 [.int so3, .int sn3, .ref si3], eI si3 ksi3 60 fsi3, eO s1 6 [.int so1, .int sn1, .ref si1]]) hP hD [(9, 1)] [(0, 9)] hCm hNw (by decide +kernel) hk1 hFc hP1 hD1 rfl
                  have hK := KJ_s (tys' := [(ksa, .object "ClearingGates$Sheet"), (ksi0, .int), (ksi1, .int), (ksi2, .int), (ksi3, .int)]) hK hK1 [(0, 5)] rfl
                  generalize H1 = H at hP hS ⊢
                  rcases hw with ⟨e_r84, f_r84⟩ | ⟨e_r84, f_r84⟩
                  · subst e_r84
                    refine lv_if_ne (tgt := 94) hx hb dX9_copy_88 (by decide) (fun c85 => ?_) (fun c85 => absurd c85 (by decide))
                    refine lv_aload hx hb dX9_copy_94 (lv_at hl 1 rfl) ?_
                    refine va_get (D := (dC, dI)) (ci := 6) (v := .ref si1) (C := RX7) (T := TX7) (N := 3) hx hb hts (fun w h => List.mem_cons_of_mem _ (inlX7 w h)) hown hK hP 9 rfl rfl 2 (by decide) (hts (.fieldLink RX9 276 "ClearingGates$Sheet" "items" "[I") (List.mem_cons_of_mem _ mw_207)) (fun _ h9 => h9) rfl dX9_copy_96 ?_
                    refine lv_iload_n hx hb dX9_copy_99 rfl (lv_at hl 4 rfl) ?_
                    refine lv_aload hx hb dX9_copy_100 (lv_at hl 0 rfl) ?_
                    refine va_get (D := (dC, dI)) (ci := 6) (v := .ref si1) (C := RX7) (T := TX7) (N := 3) hx hb hts (fun w h => List.mem_cons_of_mem _ (inlX7 w h)) hown hK hP 9 rfl rfl 2 (by decide) (hts (.fieldLink RX9 276 "ClearingGates$Sheet" "items" "[I") (List.mem_cons_of_mem _ mw_207)) (fun _ h9 => h9) rfl dX9_copy_102 ?_
                    refine lv_iload hx hb dX9_copy_105 (lv_at hl 6 rfl) ?_
                    refine lv_iload hx hb dX9_copy_107 (lv_at hl 7 rfl) ?_
                    refine va_copyi (D := (dC, dI)) hx hb (hml.trans hl.1.symm) hown (hts (.methodLink RX9 279 arraycopyName) (List.mem_cons_of_mem _ mw_597)) (hts (.native arraycopyName) (List.mem_cons_of_mem _ mw_330)) (hts (.static arraycopyName) (List.mem_cons_of_mem _ mw_329)) (hts (.initialized "java/lang/System") (List.mem_cons_of_mem _ mw_80)) hK hP hD hS 4 4 2 2 rfl rfl rfl rfl rfl (fun q => by have := i_lt q; omega) (fun q => by have := i_lt q; omega) (fun q => by have := i_lt q; omega) (by have e1 := i_natZ (x := p1) (by omega); have e2 := i_natZ (x := p4) (by omega); omega) (by have e1 := i_natZ (x := p3) (by omega); have e2 := i_natZ (x := p4) (by omega); omega) (fun _ _ => rfl) (Nat.le_of_ble_eq_true rfl) (by decide) dX9_copy_109 (fun H locs hP hD hS => ?_)
                    generalize e_g86 : (va_cpy fsi1 fsi1 (p1 : Int32).toNatClampNeg (p3 : Int32).toNatClampNeg (p4 : Int32).toNatClampNeg) = g86 at hP hD
                    obtain ⟨hP, hD⟩ := X_s (ws' := [eO h0 8 [.ref jb, .ref ji, .ref jd, .ref je, .ref jg, .ref qpa, .int pcn, .int ipn, .ref jt, .ref jr, .ref j1, .ref j2, .ref qsa], eR qsa ksa 4 fsa, eO s0 6 [.int so0, .int sn0, .ref si0], eI si0 ksi0 60 fsi0, eI si1 ksi1 60 g86, eO s2 6 [.int so2, .int sn2, .ref si2], eI si2 ksi2 60 fsi2, eO s3 6 [.int so3, .int sn3, .ref si3], eI si3 ksi3 60 fsi3, eO s1 6 [.int so1, .int sn1, .ref si1]]) hP hD rfl
                    refine lv_iload hx hb dX9_copy_112 (lv_at hl 7 rfl) ?_
                    rw [hQ9]
                    exact W.iret (v := p4) hx hb hr (fun t ht hW => ⟨⟨p4, (), rfl, (by first | rfl | trivial), fsi0, g86, fsi2, fsi3, by rw [ht]; exact P_s hP [(0, 4), (9, 1), (4, 5)] rfl, va_K.moved hW.alike hK, D_s hD [(0, 4), (9, 1), (4, 5)] 10 rfl (by decide +kernel) rfl⟩, hS.F ht⟩) hS.2.2 dX9_copy_114
                  · subst e_r84
                    refine lv_if_ne (tgt := 94) hx hb dX9_copy_88 (by decide) (fun c87 => absurd (by decide) c87) (fun c87 => ?_)
                    refine lv_bipush (v := -12) hx hb dX9_copy_91 (by decide) ?_
                    rw [hQ9]
                    exact W.iret (v := (-12)) hx hb hr (fun t ht hW => ⟨⟨(-12), (), rfl, (by first | rfl | trivial), fsi0, fsi1, fsi2, fsi3, by rw [ht]; exact P_s hP [(0, 4), (9, 1), (4, 5)] rfl, va_K.moved hW.alike hK, D_s hD [(0, 4), (9, 1), (4, 5)] 10 rfl (by decide +kernel) rfl⟩, hS.F ht⟩) hS.2.2 dX9_copy_93
                · subst e_r82
                  refine lv_if_eq (tgt := 91) hx hb dX9_copy_76 (by decide) (fun c88 => ?_) (fun c88 => absurd (by decide) c88)
                  refine lv_bipush (v := -12) hx hb dX9_copy_91 (by decide) ?_
                  rw [hQ9]
                  exact W.iret (v := (-12)) hx hb hr (fun t ht hW => ⟨⟨(-12), (), rfl, (by first | rfl | trivial), fsi0, fsi1, fsi2, fsi3, by rw [ht]; exact P_s hP [(0, 4), (9, 1), (4, 5)] rfl, va_K.moved hW.alike hK, D_s hD [(0, 4), (9, 1), (4, 5)] 10 rfl (by decide +kernel) rfl⟩, hS.F ht⟩) hS.2.2 dX9_copy_93
              · skip
                have f_c81 := i_ne c81
                refine lv_bipush (v := -13) hx hb dX9_copy_65 (by decide) ?_
                rw [hQ9]
                exact W.iret (v := (-13)) hx hb hr (fun t ht hW => ⟨⟨(-13), (), rfl, (by first | rfl | trivial), fsi0, fsi1, fsi2, fsi3, by rw [ht]; exact P_s hP [(0, 4), (9, 1), (4, 5)] rfl, va_K.moved hW.alike hK, D_s hD [(0, 4), (9, 1), (4, 5)] 10 rfl (by decide +kernel) rfl⟩, hS.F ht⟩) hS.2.2 dX9_copy_67
        · rw [show va_rf (fsa p2.toNatClampNeg) = .ref s2 from by rw [i_nat j0, vsa2]; rfl]
          refine lv_astore (lv' := [(7, .ref s2), (6, .ref s1), (0, .ref h0), (1, .int p0), (2, .int p1), (3, .int p2), (4, .int p3), (5, .int p4)]) hx hb dX9_copy_31 hl (by decide) rfl (fun ls hl => ?_)
          refine lv_aload hx hb dX9_copy_33 (lv_at hl 1 rfl) ?_
          obtain ⟨hPc, hDc, hFc, hCm, hNw⟩ := C_s (wc := [eO s1 6 [.int so1, .int sn1, .ref si1]]) hP hD hS hA [(4, 1)] 10 rfl (by decide +kernel) rfl
          have hKc := K_s (tys' := []) hK [] rfl
          refine va_calli (va_runV (As := []) (rest := []) ⟨hx, hb, hml, hown, hts⟩ (c_X7_isMissing l dC dI s1 so1 sn1 si1 H.size) (cwV 0 hts gX9_copy_X7_isMissing rfl rfl rfl (by decide +kernel) ⟨Nat.le_of_ble_eq_true rfl, Nat.le_of_ble_eq_true rfl⟩) ⟨fun a U g mk q => by obtain ⟨q0, q1, qP, qK, qD⟩ := q; exact ⟨q0, q1, qP, va_K.moved (u := U) (U := U.calling g mk a) (Vm.Alike.refl U.vm) qK, qD⟩, va_recv (s := s) (q := (RX7, TX7, 3)) hKc hPc (ci := 6) (q0 := 0) rfl rfl, fun U hU hW => ⟨rfl, by rw [hU], by rw [hU]; exact hPc, va_K.moved hW.alike hKc, hDc.weaken (fun _ _ _ _ => trivial)⟩⟩ rfl rfl hl.1 rfl (lv_room (Nat.le_of_ble_eq_true rfl)) dX9_copy_35 ⟨Nat.le_of_ble_eq_true rfl, Nat.le_of_ble_eq_true rfl⟩) hS (fun q _ h => hFc q h) hFc (fun r89 u t H1 locs ht hvm hw hB hz1 hk1 hS => ?_)
          obtain ⟨hP1, hK1, hD1⟩ := hB
          rw [ht] at hP1
          have hK1 := va_K.moved hvm.symm hK1
          try dsimp only at hw
          obtain ⟨hP, hD⟩ := J_s (wL := [eO h0 8 [.ref jb, .ref ji, .ref jd, .ref je, .ref jg, .ref qpa, .int pcn, .int ipn, .ref jt, .ref jr, .ref j1, .ref j2, .ref qsa], eR qsa ksa 4 fsa, eO s0 6 [.int so0, .int sn0, .ref si0], eI si0 ksi0 60 fsi0, eI si1 ksi1 60 fsi1, eO s2 6 [.int so2, .int sn2, .ref si2], eI si2 ksi2 60 fsi2, eO s3 6 [.int so3, .int sn3, .ref si3], eI si3 ksi3 60 fsi3, eO s1 6 [.int so1, .int sn1, .ref si1]]) hP hD [(4, 1)] [(0, 4), (5, 5)] hCm hNw (by decide +kernel) hk1 hFc hP1 hD1 rfl
          have hK := KJ_s (tys' := [(ksa, .object "ClearingGates$Sheet"), (ksi0, .int), (ksi1, .int), (ksi2, .int), (ksi3, .int)]) hK hK1 [(0, 5)] rfl
          generalize H1 = H at hP hS ⊢
          rcases hw with ⟨e_r89, f_r89⟩ | ⟨e_r89, f_r89⟩
          · subst e_r89
            refine lv_if_ne (tgt := 49) hx hb dX9_copy_38 (by decide) (fun c90 => ?_) (fun c90 => absurd c90 (by decide))
            refine lv_bipush (v := -11) hx hb dX9_copy_49 (by decide) ?_
            rw [hQ9]
            exact W.iret (v := (-11)) hx hb hr (fun t ht hW => ⟨⟨(-11), (), rfl, (by first | rfl | trivial), fsi0, fsi1, fsi2, fsi3, by rw [ht]; exact P_s hP [(0, 4), (9, 1), (4, 5)] rfl, va_K.moved hW.alike hK, D_s hD [(0, 4), (9, 1), (4, 5)] 10 rfl (by decide +kernel) rfl⟩, hS.F ht⟩) hS.2.2 dX9_copy_51
          · subst e_r89
            refine lv_if_ne (tgt := 49) hx hb dX9_copy_38 (by decide) (fun c91 => absurd (by decide) c91) (fun c91 => ?_)
            refine lv_aload hx hb dX9_copy_41 (lv_at hl 0 rfl) ?_
            obtain ⟨hPc, hDc, hFc, hCm, hNw⟩ := C_s (wc := [eO s2 6 [.int so2, .int sn2, .ref si2]]) hP hD hS hA [(5, 1)] 10 rfl (by decide +kernel) rfl
            have hKc := K_s (tys' := []) hK [] rfl
            refine va_calli (va_runV (As := []) (rest := []) ⟨hx, hb, hml, hown, hts⟩ (c_X7_isMissing l dC dI s2 so2 sn2 si2 H.size) (cwV 0 hts gX9_copy_X7_isMissing rfl rfl rfl (by decide +kernel) ⟨Nat.le_of_ble_eq_true rfl, Nat.le_of_ble_eq_true rfl⟩) ⟨fun a U g mk q => by obtain ⟨q0, q1, qP, qK, qD⟩ := q; exact ⟨q0, q1, qP, va_K.moved (u := U) (U := U.calling g mk a) (Vm.Alike.refl U.vm) qK, qD⟩, va_recv (s := s) (q := (RX7, TX7, 3)) hKc hPc (ci := 6) (q0 := 0) rfl rfl, fun U hU hW => ⟨rfl, by rw [hU], by rw [hU]; exact hPc, va_K.moved hW.alike hKc, hDc.weaken (fun _ _ _ _ => trivial)⟩⟩ rfl rfl hl.1 rfl (lv_room (Nat.le_of_ble_eq_true rfl)) dX9_copy_43 ⟨Nat.le_of_ble_eq_true rfl, Nat.le_of_ble_eq_true rfl⟩) hS (fun q _ h => hFc q h) hFc (fun r92 u t H1 locs ht hvm hw hB hz1 hk1 hS => ?_)
            obtain ⟨hP1, hK1, hD1⟩ := hB
            rw [ht] at hP1
            have hK1 := va_K.moved hvm.symm hK1
            try dsimp only at hw
            obtain ⟨hP, hD⟩ := J_s (wL := [eO h0 8 [.ref jb, .ref ji, .ref jd, .ref je, .ref jg, .ref qpa, .int pcn, .int ipn, .ref jt, .ref jr, .ref j1, .ref j2, .ref qsa], eR qsa ksa 4 fsa, eO s0 6 [.int so0, .int sn0, .ref si0], eI si0 ksi0 60 fsi0, eI si1 ksi1 60 fsi1, eI si2 ksi2 60 fsi2, eO s3 6 [.int so3, .int sn3, .ref si3], eI si3 ksi3 60 fsi3, eO s1 6 [.int so1, .int sn1, .ref si1], eO s2 6 [.int so2, .int sn2, .ref si2]]) hP hD [(5, 1)] [(0, 5), (6, 4)] hCm hNw (by decide +kernel) hk1 hFc hP1 hD1 rfl
            have hK := KJ_s (tys' := [(ksa, .object "ClearingGates$Sheet"), (ksi0, .int), (ksi1, .int), (ksi2, .int), (ksi3, .int)]) hK hK1 [(0, 5)] rfl
            generalize H1 = H at hP hS ⊢
            rcases hw with ⟨e_r92, f_r92⟩ | ⟨e_r92, f_r92⟩
            · subst e_r92
              refine lv_if_eq (tgt := 52) hx hb dX9_copy_46 (by decide) (fun c93 => absurd c93 (by decide)) (fun c93 => ?_)
              refine lv_bipush (v := -11) hx hb dX9_copy_49 (by decide) ?_
              rw [hQ9]
              exact W.iret (v := (-11)) hx hb hr (fun t ht hW => ⟨⟨(-11), (), rfl, (by first | rfl | trivial), fsi0, fsi1, fsi2, fsi3, by rw [ht]; exact P_s hP [(0, 4), (8, 1), (4, 1), (9, 1), (5, 3)] rfl, va_K.moved hW.alike hK, D_s hD [(0, 4), (8, 1), (4, 1), (9, 1), (5, 3)] 10 rfl (by decide +kernel) rfl⟩, hS.F ht⟩) hS.2.2 dX9_copy_51
            · subst e_r92
              refine lv_if_eq (tgt := 52) hx hb dX9_copy_46 (by decide) (fun c94 => ?_) (fun c94 => absurd (by decide) c94)
              refine lv_aload hx hb dX9_copy_52 (lv_at hl 1 rfl) ?_
              refine va_get (D := (dC, dI)) (ci := 6) (v := .int so1) (C := RX7) (T := TX7) (N := 3) hx hb hts (fun w h => List.mem_cons_of_mem _ (inlX7 w h)) hown hK hP 8 rfl rfl 0 (by decide) (hts (.fieldLink RX9 270 "ClearingGates$Sheet" "sort" "I") (List.mem_cons_of_mem _ mw_203)) (fun _ h9 => h9) rfl dX9_copy_54 ?_
              refine lv_aload hx hb dX9_copy_57 (lv_at hl 0 rfl) ?_
              refine va_get (D := (dC, dI)) (ci := 6) (v := .int so2) (C := RX7) (T := TX7) (N := 3) hx hb hts (fun w h => List.mem_cons_of_mem _ (inlX7 w h)) hown hK hP 9 rfl rfl 0 (by decide) (hts (.fieldLink RX9 270 "ClearingGates$Sheet" "sort" "I") (List.mem_cons_of_mem _ mw_203)) (fun _ h9 => h9) rfl dX9_copy_59 ?_
              refine lv_icmp_eq (tgt := 68) hx hb dX9_copy_62 (by decide) (fun c95 => ?_) (fun c95 => ?_)
              · skip
                have f_c95 := i_eq c95
                refine lv_aload hx hb dX9_copy_68 (lv_at hl 1 rfl) ?_
                refine lv_iload_n hx hb dX9_copy_70 rfl (lv_at hl 4 rfl) ?_
                refine lv_iload hx hb dX9_copy_71 (lv_at hl 7 rfl) ?_
                obtain ⟨hPc, hDc, hFc, hCm, hNw⟩ := C_s (wc := [eO s1 6 [.int so1, .int sn1, .ref si1]]) hP hD hS hA [(8, 1)] 10 rfl (by decide +kernel) rfl
                have hKc := K_s (tys' := []) hK [] rfl
                refine va_calli (va_runV (As := [.int p1, .int p4]) (rest := []) ⟨hx, hb, hml, hown, hts⟩ (c_X7_hasStretch l dC dI s1 p1 p4 so1 sn1 si1 H.size vs1a vs1b) (cwV 2 hts gX9_copy_X7_hasStretch rfl rfl rfl (by decide +kernel) ⟨Nat.le_of_ble_eq_true rfl, Nat.le_of_ble_eq_true rfl⟩) ⟨fun a U g mk q => by obtain ⟨q0, q1, qP, qK, qD⟩ := q; exact ⟨q0, q1, qP, va_K.moved (u := U) (U := U.calling g mk a) (Vm.Alike.refl U.vm) qK, qD⟩, va_recv (s := s) (q := (RX7, TX7, 3)) hKc hPc (ci := 6) (q0 := 0) rfl rfl, fun U hU hW => ⟨rfl, by rw [hU], by rw [hU]; exact hPc, va_K.moved hW.alike hKc, hDc.weaken (fun _ _ _ _ => trivial)⟩⟩ rfl rfl hl.1 rfl (lv_room (Nat.le_of_ble_eq_true rfl)) dX9_copy_73 ⟨Nat.le_of_ble_eq_true rfl, Nat.le_of_ble_eq_true rfl⟩) hS (fun q _ h => hFc q h) hFc (fun r96 u t H1 locs ht hvm hw hB hz1 hk1 hS => ?_)
                obtain ⟨hP1, hK1, hD1⟩ := hB
                rw [ht] at hP1
                have hK1 := va_K.moved hvm.symm hK1
                try dsimp only at hw
                obtain ⟨hP, hD⟩ := J_s (wL := [eO h0 8 [.ref jb, .ref ji, .ref jd, .ref je, .ref jg, .ref qpa, .int pcn, .int ipn, .ref jt, .ref jr, .ref j1, .ref j2, .ref qsa], eR qsa ksa 4 fsa, eO s0 6 [.int so0, .int sn0, .ref si0], eI si0 ksi0 60 fsi0, eI si1 ksi1 60 fsi1, eI si2 ksi2 60 fsi2, eO s3 6 [.int so3, .int sn3, .ref si3], eI si3 ksi3 60 fsi3, eO s2 6 [.int so2, .int sn2, .ref si2], eO s1 6 [.int so1, .int sn1, .ref si1]]) hP hD [(8, 1)] [(0, 8), (9, 1)] hCm hNw (by decide +kernel) hk1 hFc hP1 hD1 rfl
                have hK := KJ_s (tys' := [(ksa, .object "ClearingGates$Sheet"), (ksi0, .int), (ksi1, .int), (ksi2, .int), (ksi3, .int)]) hK hK1 [(0, 5)] rfl
                generalize H1 = H at hP hS ⊢
                rcases hw with ⟨e_r96, f_r96⟩ | ⟨e_r96, f_r96⟩
                · subst e_r96
                  refine lv_if_eq (tgt := 91) hx hb dX9_copy_76 (by decide) (fun c97 => absurd c97 (by decide)) (fun c97 => ?_)
                  refine lv_aload hx hb dX9_copy_79 (lv_at hl 0 rfl) ?_
                  refine lv_iload hx hb dX9_copy_81 (lv_at hl 6 rfl) ?_
                  refine lv_iload hx hb dX9_copy_83 (lv_at hl 7 rfl) ?_
                  obtain ⟨hPc, hDc, hFc, hCm, hNw⟩ := C_s (wc := [eO s2 6 [.int so2, .int sn2, .ref si2]]) hP hD hS hA [(8, 1)] 10 rfl (by decide +kernel) rfl
                  have hKc := K_s (tys' := []) hK [] rfl
                  refine va_calli (va_runV (As := [.int p3, .int p4]) (rest := []) ⟨hx, hb, hml, hown, hts⟩ (c_X7_hasStretch l dC dI s2 p3 p4 so2 sn2 si2 H.size vs2a vs2b) (cwV 2 hts gX9_copy_X7_hasStretch rfl rfl rfl (by decide +kernel) ⟨Nat.le_of_ble_eq_true rfl, Nat.le_of_ble_eq_true rfl⟩) ⟨fun a U g mk q => by obtain ⟨q0, q1, qP, qK, qD⟩ := q; exact ⟨q0, q1, qP, va_K.moved (u := U) (U := U.calling g mk a) (Vm.Alike.refl U.vm) qK, qD⟩, va_recv (s := s) (q := (RX7, TX7, 3)) hKc hPc (ci := 6) (q0 := 0) rfl rfl, fun U hU hW => ⟨rfl, by rw [hU], by rw [hU]; exact hPc, va_K.moved hW.alike hKc, hDc.weaken (fun _ _ _ _ => trivial)⟩⟩ rfl rfl hl.1 rfl (lv_room (Nat.le_of_ble_eq_true rfl)) dX9_copy_85 ⟨Nat.le_of_ble_eq_true rfl, Nat.le_of_ble_eq_true rfl⟩) hS (fun q _ h => hFc q h) hFc (fun r98 u t H1 locs ht hvm hw hB hz1 hk1 hS => ?_)
                  obtain ⟨hP1, hK1, hD1⟩ := hB
                  rw [ht] at hP1
                  have hK1 := va_K.moved hvm.symm hK1
                  try dsimp only at hw
                  obtain ⟨hP, hD⟩ := J_s (wL := [eO h0 8 [.ref jb, .ref ji, .ref jd, .ref je, .ref jg, .ref qpa, .int pcn, .int ipn, .ref jt, .ref jr, .ref j1, .ref j2, .ref qsa], eR qsa ksa 4 fsa, eO s0 6 [.int so0, .int sn0, .ref si0], eI si0 ksi0 60 fsi0, eI si1 ksi1 60 fsi1, eI si2 ksi2 60 fsi2, eO s3 6 [.int so3, .int sn3, .ref si3], eI si3 ksi3 60 fsi3, eO s1 6 [.int so1, .int sn1, .ref si1], eO s2 6 [.int so2, .int sn2, .ref si2]]) hP hD [(8, 1)] [(0, 8), (9, 1)] hCm hNw (by decide +kernel) hk1 hFc hP1 hD1 rfl
                  have hK := KJ_s (tys' := [(ksa, .object "ClearingGates$Sheet"), (ksi0, .int), (ksi1, .int), (ksi2, .int), (ksi3, .int)]) hK hK1 [(0, 5)] rfl
                  generalize H1 = H at hP hS ⊢
                  rcases hw with ⟨e_r98, f_r98⟩ | ⟨e_r98, f_r98⟩
                  · subst e_r98
                    refine lv_if_ne (tgt := 94) hx hb dX9_copy_88 (by decide) (fun c99 => ?_) (fun c99 => absurd c99 (by decide))
                    refine lv_aload hx hb dX9_copy_94 (lv_at hl 1 rfl) ?_
                    refine va_get (D := (dC, dI)) (ci := 6) (v := .ref si1) (C := RX7) (T := TX7) (N := 3) hx hb hts (fun w h => List.mem_cons_of_mem _ (inlX7 w h)) hown hK hP 8 rfl rfl 2 (by decide) (hts (.fieldLink RX9 276 "ClearingGates$Sheet" "items" "[I") (List.mem_cons_of_mem _ mw_207)) (fun _ h9 => h9) rfl dX9_copy_96 ?_
                    refine lv_iload_n hx hb dX9_copy_99 rfl (lv_at hl 4 rfl) ?_
                    refine lv_aload hx hb dX9_copy_100 (lv_at hl 0 rfl) ?_
                    refine va_get (D := (dC, dI)) (ci := 6) (v := .ref si2) (C := RX7) (T := TX7) (N := 3) hx hb hts (fun w h => List.mem_cons_of_mem _ (inlX7 w h)) hown hK hP 9 rfl rfl 2 (by decide) (hts (.fieldLink RX9 276 "ClearingGates$Sheet" "items" "[I") (List.mem_cons_of_mem _ mw_207)) (fun _ h9 => h9) rfl dX9_copy_102 ?_
                    refine lv_iload hx hb dX9_copy_105 (lv_at hl 6 rfl) ?_
                    refine lv_iload hx hb dX9_copy_107 (lv_at hl 7 rfl) ?_
                    refine va_copyi (D := (dC, dI)) hx hb (hml.trans hl.1.symm) hown (hts (.methodLink RX9 279 arraycopyName) (List.mem_cons_of_mem _ mw_597)) (hts (.native arraycopyName) (List.mem_cons_of_mem _ mw_330)) (hts (.static arraycopyName) (List.mem_cons_of_mem _ mw_329)) (hts (.initialized "java/lang/System") (List.mem_cons_of_mem _ mw_80)) hK hP hD hS 4 5 2 3 rfl rfl rfl rfl rfl (fun q => by have := i_lt q; omega) (fun q => by have := i_lt q; omega) (fun q => by have := i_lt q; omega) (by have e1 := i_natZ (x := p1) (by omega); have e2 := i_natZ (x := p4) (by omega); omega) (by have e1 := i_natZ (x := p3) (by omega); have e2 := i_natZ (x := p4) (by omega); omega) (fun _ _ => rfl) (Nat.le_of_ble_eq_true rfl) (by decide) dX9_copy_109 (fun H locs hP hD hS => ?_)
                    generalize e_g100 : (va_cpy fsi1 fsi2 (p1 : Int32).toNatClampNeg (p3 : Int32).toNatClampNeg (p4 : Int32).toNatClampNeg) = g100 at hP hD
                    obtain ⟨hP, hD⟩ := X_s (ws' := [eO h0 8 [.ref jb, .ref ji, .ref jd, .ref je, .ref jg, .ref qpa, .int pcn, .int ipn, .ref jt, .ref jr, .ref j1, .ref j2, .ref qsa], eR qsa ksa 4 fsa, eO s0 6 [.int so0, .int sn0, .ref si0], eI si0 ksi0 60 fsi0, eI si1 ksi1 60 fsi1, eI si2 ksi2 60 g100, eO s3 6 [.int so3, .int sn3, .ref si3], eI si3 ksi3 60 fsi3, eO s1 6 [.int so1, .int sn1, .ref si1], eO s2 6 [.int so2, .int sn2, .ref si2]]) hP hD rfl
                    refine lv_iload hx hb dX9_copy_112 (lv_at hl 7 rfl) ?_
                    rw [hQ9]
                    exact W.iret (v := p4) hx hb hr (fun t ht hW => ⟨⟨p4, (), rfl, (by first | rfl | trivial), fsi0, fsi1, g100, fsi3, by rw [ht]; exact P_s hP [(0, 4), (8, 1), (4, 1), (9, 1), (5, 3)] rfl, va_K.moved hW.alike hK, D_s hD [(0, 4), (8, 1), (4, 1), (9, 1), (5, 3)] 10 rfl (by decide +kernel) rfl⟩, hS.F ht⟩) hS.2.2 dX9_copy_114
                  · subst e_r98
                    refine lv_if_ne (tgt := 94) hx hb dX9_copy_88 (by decide) (fun c101 => absurd (by decide) c101) (fun c101 => ?_)
                    refine lv_bipush (v := -12) hx hb dX9_copy_91 (by decide) ?_
                    rw [hQ9]
                    exact W.iret (v := (-12)) hx hb hr (fun t ht hW => ⟨⟨(-12), (), rfl, (by first | rfl | trivial), fsi0, fsi1, fsi2, fsi3, by rw [ht]; exact P_s hP [(0, 4), (8, 1), (4, 1), (9, 1), (5, 3)] rfl, va_K.moved hW.alike hK, D_s hD [(0, 4), (8, 1), (4, 1), (9, 1), (5, 3)] 10 rfl (by decide +kernel) rfl⟩, hS.F ht⟩) hS.2.2 dX9_copy_93
                · subst e_r96
                  refine lv_if_eq (tgt := 91) hx hb dX9_copy_76 (by decide) (fun c102 => ?_) (fun c102 => absurd (by decide) c102)
                  refine lv_bipush (v := -12) hx hb dX9_copy_91 (by decide) ?_
                  rw [hQ9]
                  exact W.iret (v := (-12)) hx hb hr (fun t ht hW => ⟨⟨(-12), (), rfl, (by first | rfl | trivial), fsi0, fsi1, fsi2, fsi3, by rw [ht]; exact P_s hP [(0, 4), (9, 1), (4, 1), (8, 1), (5, 3)] rfl, va_K.moved hW.alike hK, D_s hD [(0, 4), (9, 1), (4, 1), (8, 1), (5, 3)] 10 rfl (by decide +kernel) rfl⟩, hS.F ht⟩) hS.2.2 dX9_copy_93
              · skip
                have f_c95 := i_ne c95
                refine lv_bipush (v := -13) hx hb dX9_copy_65 (by decide) ?_
                rw [hQ9]
                exact W.iret (v := (-13)) hx hb hr (fun t ht hW => ⟨⟨(-13), (), rfl, (by first | rfl | trivial), fsi0, fsi1, fsi2, fsi3, by rw [ht]; exact P_s hP [(0, 4), (8, 1), (4, 1), (9, 1), (5, 3)] rfl, va_K.moved hW.alike hK, D_s hD [(0, 4), (8, 1), (4, 1), (9, 1), (5, 3)] 10 rfl (by decide +kernel) rfl⟩, hS.F ht⟩) hS.2.2 dX9_copy_67
        · rw [show va_rf (fsa p2.toNatClampNeg) = .ref s3 from by rw [i_nat j0, vsa3]; rfl]
          refine lv_astore (lv' := [(7, .ref s3), (6, .ref s1), (0, .ref h0), (1, .int p0), (2, .int p1), (3, .int p2), (4, .int p3), (5, .int p4)]) hx hb dX9_copy_31 hl (by decide) rfl (fun ls hl => ?_)
          refine lv_aload hx hb dX9_copy_33 (lv_at hl 1 rfl) ?_
          obtain ⟨hPc, hDc, hFc, hCm, hNw⟩ := C_s (wc := [eO s1 6 [.int so1, .int sn1, .ref si1]]) hP hD hS hA [(4, 1)] 10 rfl (by decide +kernel) rfl
          have hKc := K_s (tys' := []) hK [] rfl
          refine va_calli (va_runV (As := []) (rest := []) ⟨hx, hb, hml, hown, hts⟩ (c_X7_isMissing l dC dI s1 so1 sn1 si1 H.size) (cwV 0 hts gX9_copy_X7_isMissing rfl rfl rfl (by decide +kernel) ⟨Nat.le_of_ble_eq_true rfl, Nat.le_of_ble_eq_true rfl⟩) ⟨fun a U g mk q => by obtain ⟨q0, q1, qP, qK, qD⟩ := q; exact ⟨q0, q1, qP, va_K.moved (u := U) (U := U.calling g mk a) (Vm.Alike.refl U.vm) qK, qD⟩, va_recv (s := s) (q := (RX7, TX7, 3)) hKc hPc (ci := 6) (q0 := 0) rfl rfl, fun U hU hW => ⟨rfl, by rw [hU], by rw [hU]; exact hPc, va_K.moved hW.alike hKc, hDc.weaken (fun _ _ _ _ => trivial)⟩⟩ rfl rfl hl.1 rfl (lv_room (Nat.le_of_ble_eq_true rfl)) dX9_copy_35 ⟨Nat.le_of_ble_eq_true rfl, Nat.le_of_ble_eq_true rfl⟩) hS (fun q _ h => hFc q h) hFc (fun r103 u t H1 locs ht hvm hw hB hz1 hk1 hS => ?_)
          obtain ⟨hP1, hK1, hD1⟩ := hB
          rw [ht] at hP1
          have hK1 := va_K.moved hvm.symm hK1
          try dsimp only at hw
          obtain ⟨hP, hD⟩ := J_s (wL := [eO h0 8 [.ref jb, .ref ji, .ref jd, .ref je, .ref jg, .ref qpa, .int pcn, .int ipn, .ref jt, .ref jr, .ref j1, .ref j2, .ref qsa], eR qsa ksa 4 fsa, eO s0 6 [.int so0, .int sn0, .ref si0], eI si0 ksi0 60 fsi0, eI si1 ksi1 60 fsi1, eO s2 6 [.int so2, .int sn2, .ref si2], eI si2 ksi2 60 fsi2, eO s3 6 [.int so3, .int sn3, .ref si3], eI si3 ksi3 60 fsi3, eO s1 6 [.int so1, .int sn1, .ref si1]]) hP hD [(4, 1)] [(0, 4), (5, 5)] hCm hNw (by decide +kernel) hk1 hFc hP1 hD1 rfl
          have hK := KJ_s (tys' := [(ksa, .object "ClearingGates$Sheet"), (ksi0, .int), (ksi1, .int), (ksi2, .int), (ksi3, .int)]) hK hK1 [(0, 5)] rfl
          generalize H1 = H at hP hS ⊢
          rcases hw with ⟨e_r103, f_r103⟩ | ⟨e_r103, f_r103⟩
          · subst e_r103
            refine lv_if_ne (tgt := 49) hx hb dX9_copy_38 (by decide) (fun c104 => ?_) (fun c104 => absurd c104 (by decide))
            refine lv_bipush (v := -11) hx hb dX9_copy_49 (by decide) ?_
            rw [hQ9]
            exact W.iret (v := (-11)) hx hb hr (fun t ht hW => ⟨⟨(-11), (), rfl, (by first | rfl | trivial), fsi0, fsi1, fsi2, fsi3, by rw [ht]; exact P_s hP [(0, 4), (9, 1), (4, 5)] rfl, va_K.moved hW.alike hK, D_s hD [(0, 4), (9, 1), (4, 5)] 10 rfl (by decide +kernel) rfl⟩, hS.F ht⟩) hS.2.2 dX9_copy_51
          · subst e_r103
            refine lv_if_ne (tgt := 49) hx hb dX9_copy_38 (by decide) (fun c105 => absurd (by decide) c105) (fun c105 => ?_)
            refine lv_aload hx hb dX9_copy_41 (lv_at hl 0 rfl) ?_
            obtain ⟨hPc, hDc, hFc, hCm, hNw⟩ := C_s (wc := [eO s3 6 [.int so3, .int sn3, .ref si3]]) hP hD hS hA [(7, 1)] 10 rfl (by decide +kernel) rfl
            have hKc := K_s (tys' := []) hK [] rfl
            refine va_calli (va_runV (As := []) (rest := []) ⟨hx, hb, hml, hown, hts⟩ (c_X7_isMissing l dC dI s3 so3 sn3 si3 H.size) (cwV 0 hts gX9_copy_X7_isMissing rfl rfl rfl (by decide +kernel) ⟨Nat.le_of_ble_eq_true rfl, Nat.le_of_ble_eq_true rfl⟩) ⟨fun a U g mk q => by obtain ⟨q0, q1, qP, qK, qD⟩ := q; exact ⟨q0, q1, qP, va_K.moved (u := U) (U := U.calling g mk a) (Vm.Alike.refl U.vm) qK, qD⟩, va_recv (s := s) (q := (RX7, TX7, 3)) hKc hPc (ci := 6) (q0 := 0) rfl rfl, fun U hU hW => ⟨rfl, by rw [hU], by rw [hU]; exact hPc, va_K.moved hW.alike hKc, hDc.weaken (fun _ _ _ _ => trivial)⟩⟩ rfl rfl hl.1 rfl (lv_room (Nat.le_of_ble_eq_true rfl)) dX9_copy_43 ⟨Nat.le_of_ble_eq_true rfl, Nat.le_of_ble_eq_true rfl⟩) hS (fun q _ h => hFc q h) hFc (fun r106 u t H1 locs ht hvm hw hB hz1 hk1 hS => ?_)
            obtain ⟨hP1, hK1, hD1⟩ := hB
            rw [ht] at hP1
            have hK1 := va_K.moved hvm.symm hK1
            try dsimp only at hw
            obtain ⟨hP, hD⟩ := J_s (wL := [eO h0 8 [.ref jb, .ref ji, .ref jd, .ref je, .ref jg, .ref qpa, .int pcn, .int ipn, .ref jt, .ref jr, .ref j1, .ref j2, .ref qsa], eR qsa ksa 4 fsa, eO s0 6 [.int so0, .int sn0, .ref si0], eI si0 ksi0 60 fsi0, eI si1 ksi1 60 fsi1, eO s2 6 [.int so2, .int sn2, .ref si2], eI si2 ksi2 60 fsi2, eI si3 ksi3 60 fsi3, eO s1 6 [.int so1, .int sn1, .ref si1], eO s3 6 [.int so3, .int sn3, .ref si3]]) hP hD [(7, 1)] [(0, 7), (8, 2)] hCm hNw (by decide +kernel) hk1 hFc hP1 hD1 rfl
            have hK := KJ_s (tys' := [(ksa, .object "ClearingGates$Sheet"), (ksi0, .int), (ksi1, .int), (ksi2, .int), (ksi3, .int)]) hK hK1 [(0, 5)] rfl
            generalize H1 = H at hP hS ⊢
            rcases hw with ⟨e_r106, f_r106⟩ | ⟨e_r106, f_r106⟩
            · subst e_r106
              refine lv_if_eq (tgt := 52) hx hb dX9_copy_46 (by decide) (fun c107 => absurd c107 (by decide)) (fun c107 => ?_)
              refine lv_bipush (v := -11) hx hb dX9_copy_49 (by decide) ?_
              rw [hQ9]
              exact W.iret (v := (-11)) hx hb hr (fun t ht hW => ⟨⟨(-11), (), rfl, (by first | rfl | trivial), fsi0, fsi1, fsi2, fsi3, by rw [ht]; exact P_s hP [(0, 4), (8, 1), (4, 3), (9, 1), (7, 1)] rfl, va_K.moved hW.alike hK, D_s hD [(0, 4), (8, 1), (4, 3), (9, 1), (7, 1)] 10 rfl (by decide +kernel) rfl⟩, hS.F ht⟩) hS.2.2 dX9_copy_51
            · subst e_r106
              refine lv_if_eq (tgt := 52) hx hb dX9_copy_46 (by decide) (fun c108 => ?_) (fun c108 => absurd (by decide) c108)
              refine lv_aload hx hb dX9_copy_52 (lv_at hl 1 rfl) ?_
              refine va_get (D := (dC, dI)) (ci := 6) (v := .int so1) (C := RX7) (T := TX7) (N := 3) hx hb hts (fun w h => List.mem_cons_of_mem _ (inlX7 w h)) hown hK hP 8 rfl rfl 0 (by decide) (hts (.fieldLink RX9 270 "ClearingGates$Sheet" "sort" "I") (List.mem_cons_of_mem _ mw_203)) (fun _ h9 => h9) rfl dX9_copy_54 ?_
              refine lv_aload hx hb dX9_copy_57 (lv_at hl 0 rfl) ?_
              refine va_get (D := (dC, dI)) (ci := 6) (v := .int so3) (C := RX7) (T := TX7) (N := 3) hx hb hts (fun w h => List.mem_cons_of_mem _ (inlX7 w h)) hown hK hP 9 rfl rfl 0 (by decide) (hts (.fieldLink RX9 270 "ClearingGates$Sheet" "sort" "I") (List.mem_cons_of_mem _ mw_203)) (fun _ h9 => h9) rfl dX9_copy_59 ?_
              refine lv_icmp_eq (tgt := 68) hx hb dX9_copy_62 (by decide) (fun c109 => ?_) (fun c109 => ?_)
              · skip
                have f_c109 := i_eq c109
                refine lv_aload hx hb dX9_copy_68 (lv_at hl 1 rfl) ?_
                refine lv_iload_n hx hb dX9_copy_70 rfl (lv_at hl 4 rfl) ?_
                refine lv_iload hx hb dX9_copy_71 (lv_at hl 7 rfl) ?_
                obtain ⟨hPc, hDc, hFc, hCm, hNw⟩ := C_s (wc := [eO s1 6 [.int so1, .int sn1, .ref si1]]) hP hD hS hA [(8, 1)] 10 rfl (by decide +kernel) rfl
                have hKc := K_s (tys' := []) hK [] rfl
                refine va_calli (va_runV (As := [.int p1, .int p4]) (rest := []) ⟨hx, hb, hml, hown, hts⟩ (c_X7_hasStretch l dC dI s1 p1 p4 so1 sn1 si1 H.size vs1a vs1b) (cwV 2 hts gX9_copy_X7_hasStretch rfl rfl rfl (by decide +kernel) ⟨Nat.le_of_ble_eq_true rfl, Nat.le_of_ble_eq_true rfl⟩) ⟨fun a U g mk q => by obtain ⟨q0, q1, qP, qK, qD⟩ := q; exact ⟨q0, q1, qP, va_K.moved (u := U) (U := U.calling g mk a) (Vm.Alike.refl U.vm) qK, qD⟩, va_recv (s := s) (q := (RX7, TX7, 3)) hKc hPc (ci := 6) (q0 := 0) rfl rfl, fun U hU hW => ⟨rfl, by rw [hU], by rw [hU]; exact hPc, va_K.moved hW.alike hKc, hDc.weaken (fun _ _ _ _ => trivial)⟩⟩ rfl rfl hl.1 rfl (lv_room (Nat.le_of_ble_eq_true rfl)) dX9_copy_73 ⟨Nat.le_of_ble_eq_true rfl, Nat.le_of_ble_eq_true rfl⟩) hS (fun q _ h => hFc q h) hFc (fun r110 u t H1 locs ht hvm hw hB hz1 hk1 hS => ?_)
                obtain ⟨hP1, hK1, hD1⟩ := hB
                rw [ht] at hP1
                have hK1 := va_K.moved hvm.symm hK1
                try dsimp only at hw
                obtain ⟨hP, hD⟩ := J_s (wL := [eO h0 8 [.ref jb, .ref ji, .ref jd, .ref je, .ref jg, .ref qpa, .int pcn, .int ipn, .ref jt, .ref jr, .ref j1, .ref j2, .ref qsa], eR qsa ksa 4 fsa, eO s0 6 [.int so0, .int sn0, .ref si0], eI si0 ksi0 60 fsi0, eI si1 ksi1 60 fsi1, eO s2 6 [.int so2, .int sn2, .ref si2], eI si2 ksi2 60 fsi2, eI si3 ksi3 60 fsi3, eO s3 6 [.int so3, .int sn3, .ref si3], eO s1 6 [.int so1, .int sn1, .ref si1]]) hP hD [(8, 1)] [(0, 8), (9, 1)] hCm hNw (by decide +kernel) hk1 hFc hP1 hD1 rfl
                have hK := KJ_s (tys' := [(ksa, .object "ClearingGates$Sheet"), (ksi0, .int), (ksi1, .int), (ksi2, .int), (ksi3, .int)]) hK hK1 [(0, 5)] rfl
                generalize H1 = H at hP hS ⊢
                rcases hw with ⟨e_r110, f_r110⟩ | ⟨e_r110, f_r110⟩
                · subst e_r110
                  refine lv_if_eq (tgt := 91) hx hb dX9_copy_76 (by decide) (fun c111 => absurd c111 (by decide)) (fun c111 => ?_)
                  refine lv_aload hx hb dX9_copy_79 (lv_at hl 0 rfl) ?_
                  refine lv_iload hx hb dX9_copy_81 (lv_at hl 6 rfl) ?_
                  refine lv_iload hx hb dX9_copy_83 (lv_at hl 7 rfl) ?_
                  obtain ⟨hPc, hDc, hFc, hCm, hNw⟩ := C_s (wc := [eO s3 6 [.int so3, .int sn3, .ref si3]]) hP hD hS hA [(8, 1)] 10 rfl (by decide +kernel) rfl
                  have hKc := K_s (tys' := []) hK [] rfl
                  refine va_calli (va_runV (As := [.int p3, .int p4]) (rest := []) ⟨hx, hb, hml, hown, hts⟩ (c_X7_hasStretch l dC dI s3 p3 p4 so3 sn3 si3 H.size vs3a vs3b) (cwV 2 hts gX9_copy_X7_hasStretch rfl rfl rfl (by decide +kernel) ⟨Nat.le_of_ble_eq_true rfl, Nat.le_of_ble_eq_true rfl⟩) ⟨fun a U g mk q => by obtain ⟨q0, q1, qP, qK, qD⟩ := q; exact ⟨q0, q1, qP, va_K.moved (u := U) (U := U.calling g mk a) (Vm.Alike.refl U.vm) qK, qD⟩, va_recv (s := s) (q := (RX7, TX7, 3)) hKc hPc (ci := 6) (q0 := 0) rfl rfl, fun U hU hW => ⟨rfl, by rw [hU], by rw [hU]; exact hPc, va_K.moved hW.alike hKc, hDc.weaken (fun _ _ _ _ => trivial)⟩⟩ rfl rfl hl.1 rfl (lv_room (Nat.le_of_ble_eq_true rfl)) dX9_copy_85 ⟨Nat.le_of_ble_eq_true rfl, Nat.le_of_ble_eq_true rfl⟩) hS (fun q _ h => hFc q h) hFc (fun r112 u t H1 locs ht hvm hw hB hz1 hk1 hS => ?_)
                  obtain ⟨hP1, hK1, hD1⟩ := hB
                  rw [ht] at hP1
                  have hK1 := va_K.moved hvm.symm hK1
                  try dsimp only at hw
                  obtain ⟨hP, hD⟩ := J_s (wL := [eO h0 8 [.ref jb, .ref ji, .ref jd, .ref je, .ref jg, .ref qpa, .int pcn, .int ipn, .ref jt, .ref jr, .ref j1, .ref j2, .ref qsa], eR qsa ksa 4 fsa, eO s0 6 [.int so0, .int sn0, .ref si0], eI si0 ksi0 60 fsi0, eI si1 ksi1 60 fsi1, eO s2 6 [.int so2, .int sn2, .ref si2], eI si2 ksi2 60 fsi2, eI si3 ksi3 60 fsi3, eO s1 6 [.int so1, .int sn1, .ref si1], eO s3 6 [.int so3, .int sn3, .ref si3]]) hP hD [(8, 1)] [(0, 8), (9, 1)] hCm hNw (by decide +kernel) hk1 hFc hP1 hD1 rfl
                  have hK := KJ_s (tys' := [(ksa, .object "ClearingGates$Sheet"), (ksi0, .int), (ksi1, .int), (ksi2, .int), (ksi3, .int)]) hK hK1 [(0, 5)] rfl
                  generalize H1 = H at hP hS ⊢
                  rcases hw with ⟨e_r112, f_r112⟩ | ⟨e_r112, f_r112⟩
                  · subst e_r112
                    refine lv_if_ne (tgt := 94) hx hb dX9_copy_88 (by decide) (fun c113 => ?_) (fun c113 => absurd c113 (by decide))
                    refine lv_aload hx hb dX9_copy_94 (lv_at hl 1 rfl) ?_
                    refine va_get (D := (dC, dI)) (ci := 6) (v := .ref si1) (C := RX7) (T := TX7) (N := 3) hx hb hts (fun w h => List.mem_cons_of_mem _ (inlX7 w h)) hown hK hP 8 rfl rfl 2 (by decide) (hts (.fieldLink RX9 276 "ClearingGates$Sheet" "items" "[I") (List.mem_cons_of_mem _ mw_207)) (fun _ h9 => h9) rfl dX9_copy_96 ?_
                    refine lv_iload_n hx hb dX9_copy_99 rfl (lv_at hl 4 rfl) ?_
                    refine lv_aload hx hb dX9_copy_100 (lv_at hl 0 rfl) ?_
                    refine va_get (D := (dC, dI)) (ci := 6) (v := .ref si3) (C := RX7) (T := TX7) (N := 3) hx hb hts (fun w h => List.mem_cons_of_mem _ (inlX7 w h)) hown hK hP 9 rfl rfl 2 (by decide) (hts (.fieldLink RX9 276 "ClearingGates$Sheet" "items" "[I") (List.mem_cons_of_mem _ mw_207)) (fun _ h9 => h9) rfl dX9_copy_102 ?_
                    refine lv_iload hx hb dX9_copy_105 (lv_at hl 6 rfl) ?_
                    refine lv_iload hx hb dX9_copy_107 (lv_at hl 7 rfl) ?_
                    refine va_copyi (D := (dC, dI)) hx hb (hml.trans hl.1.symm) hown (hts (.methodLink RX9 279 arraycopyName) (List.mem_cons_of_mem _ mw_597)) (hts (.native arraycopyName) (List.mem_cons_of_mem _ mw_330)) (hts (.static arraycopyName) (List.mem_cons_of_mem _ mw_329)) (hts (.initialized "java/lang/System") (List.mem_cons_of_mem _ mw_80)) hK hP hD hS 4 7 2 4 rfl rfl rfl rfl rfl (fun q => by have := i_lt q; omega) (fun q => by have := i_lt q; omega) (fun q => by have := i_lt q; omega) (by have e1 := i_natZ (x := p1) (by omega); have e2 := i_natZ (x := p4) (by omega); omega) (by have e1 := i_natZ (x := p3) (by omega); have e2 := i_natZ (x := p4) (by omega); omega) (fun _ _ => rfl) (Nat.le_of_ble_eq_true rfl) (by decide) dX9_copy_109 (fun H locs hP hD hS => ?_)
                    generalize e_g114 : (va_cpy fsi1 fsi3 (p1 : Int32).toNatClampNeg (p3 : Int32).toNatClampNeg (p4 : Int32).toNatClampNeg) = g114 at hP hD
                    obtain ⟨hP, hD⟩ := X_s (ws' := [eO h0 8 [.ref jb, .ref ji, .ref jd, .ref je, .ref jg, .ref qpa, .int pcn, .int ipn, .ref jt, .ref jr, .ref j1, .ref j2, .ref qsa], eR qsa ksa 4 fsa, eO s0 6 [.int so0, .int sn0, .ref si0], eI si0 ksi0 60 fsi0, eI si1 ksi1 60 fsi1, eO s2 6 [.int so2, .int sn2, .ref si2], eI si2 ksi2 60 fsi2, eI si3 ksi3 60 g114, eO s1 6 [.int so1, .int sn1, .ref si1], eO s3 6 [.int so3, .int sn3, .ref si3]]) hP hD rfl
                    refine lv_iload hx hb dX9_copy_112 (lv_at hl 7 rfl) ?_
                    rw [hQ9]
                    exact W.iret (v := p4) hx hb hr (fun t ht hW => ⟨⟨p4, (), rfl, (by first | rfl | trivial), fsi0, fsi1, fsi2, g114, by rw [ht]; exact P_s hP [(0, 4), (8, 1), (4, 3), (9, 1), (7, 1)] rfl, va_K.moved hW.alike hK, D_s hD [(0, 4), (8, 1), (4, 3), (9, 1), (7, 1)] 10 rfl (by decide +kernel) rfl⟩, hS.F ht⟩) hS.2.2 dX9_copy_114
                  · subst e_r112
                    refine lv_if_ne (tgt := 94) hx hb dX9_copy_88 (by decide) (fun c115 => absurd (by decide) c115) (fun c115 => ?_)
                    refine lv_bipush (v := -12) hx hb dX9_copy_91 (by decide) ?_
                    rw [hQ9]
                    exact W.iret (v := (-12)) hx hb hr (fun t ht hW => ⟨⟨(-12), (), rfl, (by first | rfl | trivial), fsi0, fsi1, fsi2, fsi3, by rw [ht]; exact P_s hP [(0, 4), (8, 1), (4, 3), (9, 1), (7, 1)] rfl, va_K.moved hW.alike hK, D_s hD [(0, 4), (8, 1), (4, 3), (9, 1), (7, 1)] 10 rfl (by decide +kernel) rfl⟩, hS.F ht⟩) hS.2.2 dX9_copy_93
                · subst e_r110
                  refine lv_if_eq (tgt := 91) hx hb dX9_copy_76 (by decide) (fun c116 => ?_) (fun c116 => absurd (by decide) c116)
                  refine lv_bipush (v := -12) hx hb dX9_copy_91 (by decide) ?_
                  rw [hQ9]
                  exact W.iret (v := (-12)) hx hb hr (fun t ht hW => ⟨⟨(-12), (), rfl, (by first | rfl | trivial), fsi0, fsi1, fsi2, fsi3, by rw [ht]; exact P_s hP [(0, 4), (9, 1), (4, 3), (8, 1), (7, 1)] rfl, va_K.moved hW.alike hK, D_s hD [(0, 4), (9, 1), (4, 3), (8, 1), (7, 1)] 10 rfl (by decide +kernel) rfl⟩, hS.F ht⟩) hS.2.2 dX9_copy_93
              · skip
                have f_c109 := i_ne c109
                refine lv_bipush (v := -13) hx hb dX9_copy_65 (by decide) ?_
                rw [hQ9]
                exact W.iret (v := (-13)) hx hb hr (fun t ht hW => ⟨⟨(-13), (), rfl, (by first | rfl | trivial), fsi0, fsi1, fsi2, fsi3, by rw [ht]; exact P_s hP [(0, 4), (8, 1), (4, 3), (9, 1), (7, 1)] rfl, va_K.moved hW.alike hK, D_s hD [(0, 4), (8, 1), (4, 3), (9, 1), (7, 1)] 10 rfl (by decide +kernel) rfl⟩, hS.F ht⟩) hS.2.2 dX9_copy_67
      · rw [show va_rf (fsa p0.toNatClampNeg) = .ref s2 from by rw [i_nat j0, vsa2]; rfl]
        refine lv_astore (lv' := [(6, .ref s2), (0, .ref h0), (1, .int p0), (2, .int p1), (3, .int p2), (4, .int p3), (5, .int p4)]) hx hb dX9_copy_23 hl (by decide) rfl (fun ls hl => ?_)
        refine lv_aload_n hx hb dX9_copy_25 rfl (lv_at hl 1 rfl) ?_
        refine va_get (D := (dC, dI)) (ci := 8) (v := .ref qsa) (C := RX9) (T := TX9) (N := 13) hx hb hts (fun w h => List.mem_cons_of_mem _ (inlX9 w h)) hown hK hP 0 rfl rfl 12 (by decide) (hts (.fieldLink RX9 79 "ClearingGates" "sheets" "[LClearingGates$Sheet;") (List.mem_cons_of_mem _ mw_220)) (fun _ h9 => h9) rfl dX9_copy_26 ?_
        refine lv_iload_n hx hb dX9_copy_29 rfl (lv_at hl 4 rfl) ?_
        refine va_aldq (D := (dC, dI)) hx hb hK hP 1 0 rfl rfl (vp_in_iff.mpr ⟨by omega, by omega⟩) dX9_copy_30 ?_
        rcases i4 (x := p2) (by omega) (by omega) with j0 | j0 | j0 | j0
        · rw [show va_rf (fsa p2.toNatClampNeg) = .ref s0 from by rw [i_nat j0, vsa0]; rfl]
          refine lv_astore (lv' := [(7, .ref s0), (6, .ref s2), (0, .ref h0), (1, .int p0), (2, .int p1), (3, .int p2), (4, .int p3), (5, .int p4)]) hx hb dX9_copy_31 hl (by decide) rfl (fun ls hl => ?_)
          refine lv_aload hx hb dX9_copy_33 (lv_at hl 1 rfl) ?_
          obtain ⟨hPc, hDc, hFc, hCm, hNw⟩ := C_s (wc := [eO s2 6 [.int so2, .int sn2, .ref si2]]) hP hD hS hA [(6, 1)] 10 rfl (by decide +kernel) rfl
          have hKc := K_s (tys' := []) hK [] rfl
          refine va_calli (va_runV (As := []) (rest := []) ⟨hx, hb, hml, hown, hts⟩ (c_X7_isMissing l dC dI s2 so2 sn2 si2 H.size) (cwV 0 hts gX9_copy_X7_isMissing rfl rfl rfl (by decide +kernel) ⟨Nat.le_of_ble_eq_true rfl, Nat.le_of_ble_eq_true rfl⟩) ⟨fun a U g mk q => by obtain ⟨q0, q1, qP, qK, qD⟩ := q; exact ⟨q0, q1, qP, va_K.moved (u := U) (U := U.calling g mk a) (Vm.Alike.refl U.vm) qK, qD⟩, va_recv (s := s) (q := (RX7, TX7, 3)) hKc hPc (ci := 6) (q0 := 0) rfl rfl, fun U hU hW => ⟨rfl, by rw [hU], by rw [hU]; exact hPc, va_K.moved hW.alike hKc, hDc.weaken (fun _ _ _ _ => trivial)⟩⟩ rfl rfl hl.1 rfl (lv_room (Nat.le_of_ble_eq_true rfl)) dX9_copy_35 ⟨Nat.le_of_ble_eq_true rfl, Nat.le_of_ble_eq_true rfl⟩) hS (fun q _ h => hFc q h) hFc (fun r117 u t H1 locs ht hvm hw hB hz1 hk1 hS => ?_)
          obtain ⟨hP1, hK1, hD1⟩ := hB
          rw [ht] at hP1
          have hK1 := va_K.moved hvm.symm hK1
          try dsimp only at hw
          obtain ⟨hP, hD⟩ := J_s (wL := [eO h0 8 [.ref jb, .ref ji, .ref jd, .ref je, .ref jg, .ref qpa, .int pcn, .int ipn, .ref jt, .ref jr, .ref j1, .ref j2, .ref qsa], eR qsa ksa 4 fsa, eO s0 6 [.int so0, .int sn0, .ref si0], eI si0 ksi0 60 fsi0, eO s1 6 [.int so1, .int sn1, .ref si1], eI si1 ksi1 60 fsi1, eI si2 ksi2 60 fsi2, eO s3 6 [.int so3, .int sn3, .ref si3], eI si3 ksi3 60 fsi3, eO s2 6 [.int so2, .int sn2, .ref si2]]) hP hD [(6, 1)] [(0, 6), (7, 3)] hCm hNw (by decide +kernel) hk1 hFc hP1 hD1 rfl
          have hK := KJ_s (tys' := [(ksa, .object "ClearingGates$Sheet"), (ksi0, .int), (ksi1, .int), (ksi2, .int), (ksi3, .int)]) hK hK1 [(0, 5)] rfl
          generalize H1 = H at hP hS ⊢
          rcases hw with ⟨e_r117, f_r117⟩ | ⟨e_r117, f_r117⟩
          · subst e_r117
            refine lv_if_ne (tgt := 49) hx hb dX9_copy_38 (by decide) (fun c118 => ?_) (fun c118 => absurd c118 (by decide))
            refine lv_bipush (v := -11) hx hb dX9_copy_49 (by decide) ?_
            rw [hQ9]
            exact W.iret (v := (-11)) hx hb hr (fun t ht hW => ⟨⟨(-11), (), rfl, (by first | rfl | trivial), fsi0, fsi1, fsi2, fsi3, by rw [ht]; exact P_s hP [(0, 6), (9, 1), (6, 3)] rfl, va_K.moved hW.alike hK, D_s hD [(0, 6), (9, 1), (6, 3)] 10 rfl (by decide +kernel) rfl⟩, hS.F ht⟩) hS.2.2 dX9_copy_51
          · subst e_r117
            refine lv_if_ne (tgt := 49) hx hb dX9_copy_38 (by decide) (fun c119 => absurd (by decide) c119) (fun c119 => ?_)
            refine lv_aload hx hb dX9_copy_41 (lv_at hl 0 rfl) ?_
            obtain ⟨hPc, hDc, hFc, hCm, hNw⟩ := C_s (wc := [eO s0 6 [.int so0, .int sn0, .ref si0]]) hP hD hS hA [(2, 1)] 10 rfl (by decide +kernel) rfl
            have hKc := K_s (tys' := []) hK [] rfl
            refine va_calli (va_runV (As := []) (rest := []) ⟨hx, hb, hml, hown, hts⟩ (c_X7_isMissing l dC dI s0 so0 sn0 si0 H.size) (cwV 0 hts gX9_copy_X7_isMissing rfl rfl rfl (by decide +kernel) ⟨Nat.le_of_ble_eq_true rfl, Nat.le_of_ble_eq_true rfl⟩) ⟨fun a U g mk q => by obtain ⟨q0, q1, qP, qK, qD⟩ := q; exact ⟨q0, q1, qP, va_K.moved (u := U) (U := U.calling g mk a) (Vm.Alike.refl U.vm) qK, qD⟩, va_recv (s := s) (q := (RX7, TX7, 3)) hKc hPc (ci := 6) (q0 := 0) rfl rfl, fun U hU hW => ⟨rfl, by rw [hU], by rw [hU]; exact hPc, va_K.moved hW.alike hKc, hDc.weaken (fun _ _ _ _ => trivial)⟩⟩ rfl rfl hl.1 rfl (lv_room (Nat.le_of_ble_eq_true rfl)) dX9_copy_43 ⟨Nat.le_of_ble_eq_true rfl, Nat.le_of_ble_eq_true rfl⟩) hS (fun q _ h => hFc q h) hFc (fun r120 u t H1 locs ht hvm hw hB hz1 hk1 hS => ?_)
            obtain ⟨hP1, hK1, hD1⟩ := hB
            rw [ht] at hP1
            have hK1 := va_K.moved hvm.symm hK1
            try dsimp only at hw
            obtain ⟨hP, hD⟩ := J_s (wL := [eO h0 8 [.ref jb, .ref ji, .ref jd, .ref je, .ref jg, .ref qpa, .int pcn, .int ipn, .ref jt, .ref jr, .ref j1, .ref j2, .ref qsa], eR qsa ksa 4 fsa, eI si0 ksi0 60 fsi0, eO s1 6 [.int so1, .int sn1, .ref si1], eI si1 ksi1 60 fsi1, eI si2 ksi2 60 fsi2, eO s3 6 [.int so3, .int sn3, .ref si3], eI si3 ksi3 60 fsi3, eO s2 6 [.int so2, .int sn2, .ref si2], eO s0 6 [.int so0, .int sn0, .ref si0]]) hP hD [(2, 1)] [(0, 2), (3, 7)] hCm hNw (by decide +kernel) hk1 hFc hP1 hD1 rfl
            have hK := KJ_s (tys' := [(ksa, .object "ClearingGates$Sheet"), (ksi0, .int), (ksi1, .int), (ksi2, .int), (ksi3, .int)]) hK hK1 [(0, 5)] rfl
            generalize H1 = H at hP hS ⊢
            rcases hw with ⟨e_r120, f_r120⟩ | ⟨e_r120, f_r120⟩
            · subst e_r120
              refine lv_if_eq (tgt := 52) hx hb dX9_copy_46 (by decide) (fun c121 => absurd c121 (by decide)) (fun c121 => ?_)
              refine lv_bipush (v := -11) hx hb dX9_copy_49 (by decide) ?_
              rw [hQ9]
              exact W.iret (v := (-11)) hx hb hr (fun t ht hW => ⟨⟨(-11), (), rfl, (by first | rfl | trivial), fsi0, fsi1, fsi2, fsi3, by rw [ht]; exact P_s hP [(0, 2), (9, 1), (2, 3), (8, 1), (5, 3)] rfl, va_K.moved hW.alike hK, D_s hD [(0, 2), (9, 1), (2, 3), (8, 1), (5, 3)] 10 rfl (by decide +kernel) rfl⟩, hS.F ht⟩) hS.2.2 dX9_copy_51
            · subst e_r120
              refine lv_if_eq (tgt := 52) hx hb dX9_copy_46 (by decide) (fun c122 => ?_) (fun c122 => absurd (by decide) c122)
              refine lv_aload hx hb dX9_copy_52 (lv_at hl 1 rfl) ?_
              refine va_get (D := (dC, dI)) (ci := 6) (v := .int so2) (C := RX7) (T := TX7) (N := 3) hx hb hts (fun w h => List.mem_cons_of_mem _ (inlX7 w h)) hown hK hP 8 rfl rfl 0 (by decide) (hts (.fieldLink RX9 270 "ClearingGates$Sheet" "sort" "I") (List.mem_cons_of_mem _ mw_203)) (fun _ h9 => h9) rfl dX9_copy_54 ?_
              refine lv_aload hx hb dX9_copy_57 (lv_at hl 0 rfl) ?_
              refine va_get (D := (dC, dI)) (ci := 6) (v := .int so0) (C := RX7) (T := TX7) (N := 3) hx hb hts (fun w h => List.mem_cons_of_mem _ (inlX7 w h)) hown hK hP 9 rfl rfl 0 (by decide) (hts (.fieldLink RX9 270 "ClearingGates$Sheet" "sort" "I") (List.mem_cons_of_mem _ mw_203)) (fun _ h9 => h9) rfl dX9_copy_59 ?_
              refine lv_icmp_eq (tgt := 68) hx hb dX9_copy_62 (by decide) (fun c123 => ?_) (fun c123 => ?_)
              · skip
                have f_c123 := i_eq c123
                refine lv_aload hx hb dX9_copy_68 (lv_at hl 1 rfl) ?_
                refine lv_iload_n hx hb dX9_copy_70 rfl (lv_at hl 4 rfl) ?_
                refine lv_iload hx hb dX9_copy_71 (lv_at hl 7 rfl) ?_
                obtain ⟨hPc, hDc, hFc, hCm, hNw⟩ := C_s (wc := [eO s2 6 [.int so2, .int sn2, .ref si2]]) hP hD hS hA [(8, 1)] 10 rfl (by decide +kernel) rfl
                have hKc := K_s (tys' := []) hK [] rfl
                refine va_calli (va_runV (As := [.int p1, .int p4]) (rest := []) ⟨hx, hb, hml, hown, hts⟩ (c_X7_hasStretch l dC dI s2 p1 p4 so2 sn2 si2 H.size vs2a vs2b) (cwV 2 hts gX9_copy_X7_hasStretch rfl rfl rfl (by decide +kernel) ⟨Nat.le_of_ble_eq_true rfl, Nat.le_of_ble_eq_true rfl⟩) ⟨fun a U g mk q => by obtain ⟨q0, q1, qP, qK, qD⟩ := q; exact ⟨q0, q1, qP, va_K.moved (u := U) (U := U.calling g mk a) (Vm.Alike.refl U.vm) qK, qD⟩, va_recv (s := s) (q := (RX7, TX7, 3)) hKc hPc (ci := 6) (q0 := 0) rfl rfl, fun U hU hW => ⟨rfl, by rw [hU], by rw [hU]; exact hPc, va_K.moved hW.alike hKc, hDc.weaken (fun _ _ _ _ => trivial)⟩⟩ rfl rfl hl.1 rfl (lv_room (Nat.le_of_ble_eq_true rfl)) dX9_copy_73 ⟨Nat.le_of_ble_eq_true rfl, Nat.le_of_ble_eq_true rfl⟩) hS (fun q _ h => hFc q h) hFc (fun r124 u t H1 locs ht hvm hw hB hz1 hk1 hS => ?_)
                obtain ⟨hP1, hK1, hD1⟩ := hB
                rw [ht] at hP1
                have hK1 := va_K.moved hvm.symm hK1
                try dsimp only at hw
                obtain ⟨hP, hD⟩ := J_s (wL := [eO h0 8 [.ref jb, .ref ji, .ref jd, .ref je, .ref jg, .ref qpa, .int pcn, .int ipn, .ref jt, .ref jr, .ref j1, .ref j2, .ref qsa], eR qsa ksa 4 fsa, eI si0 ksi0 60 fsi0, eO s1 6 [.int so1, .int sn1, .ref si1], eI si1 ksi1 60 fsi1, eI si2 ksi2 60 fsi2, eO s3 6 [.int so3, .int sn3, .ref si3], eI si3 ksi3 60 fsi3, eO s0 6 [.int so0, .int sn0, .ref si0], eO s2 6 [.int so2, .int sn2, .ref si2]]) hP hD [(8, 1)] [(0, 8), (9, 1)] hCm hNw (by decide +kernel) hk1 hFc hP1 hD1 rfl
                have hK := KJ_s (tys' := [(ksa, .object "ClearingGates$Sheet"), (ksi0, .int), (ksi1, .int), (ksi2, .int), (ksi3, .int)]) hK hK1 [(0, 5)] rfl
                generalize H1 = H at hP hS ⊢
                rcases hw with ⟨e_r124, f_r124⟩ | ⟨e_r124, f_r124⟩
                · subst e_r124
                  refine lv_if_eq (tgt := 91) hx hb dX9_copy_76 (by decide) (fun c125 => absurd c125 (by decide)) (fun c125 => ?_)
                  refine lv_aload hx hb dX9_copy_79 (lv_at hl 0 rfl) ?_
                  refine lv_iload hx hb dX9_copy_81 (lv_at hl 6 rfl) ?_
                  refine lv_iload hx hb dX9_copy_83 (lv_at hl 7 rfl) ?_
                  obtain ⟨hPc, hDc, hFc, hCm, hNw⟩ := C_s (wc := [eO s0 6 [.int so0, .int sn0, .ref si0]]) hP hD hS hA [(8, 1)] 10 rfl (by decide +kernel) rfl
                  have hKc := K_s (tys' := []) hK [] rfl
                  refine va_calli (va_runV (As := [.int p3, .int p4]) (rest := []) ⟨hx, hb, hml, hown, hts⟩ (c_X7_hasStretch l dC dI s0 p3 p4 so0 sn0 si0 H.size vs0a vs0b) (cwV 2 hts gX9_copy_X7_hasStretch rfl rfl rfl (by decide +kernel) ⟨Nat.le_of_ble_eq_true rfl, Nat.le_of_ble_eq_true rfl⟩) ⟨fun a U g mk q => by obtain ⟨q0, q1, qP, qK, qD⟩ := q; exact ⟨q0, q1, qP, va_K.moved (u := U) (U := U.calling g mk a) (Vm.Alike.refl U.vm) qK, qD⟩, va_recv (s := s) (q := (RX7, TX7, 3)) hKc hPc (ci := 6) (q0 := 0) rfl rfl, fun U hU hW => ⟨rfl, by rw [hU], by rw [hU]; exact hPc, va_K.moved hW.alike hKc, hDc.weaken (fun _ _ _ _ => trivial)⟩⟩ rfl rfl hl.1 rfl (lv_room (Nat.le_of_ble_eq_true rfl)) dX9_copy_85 ⟨Nat.le_of_ble_eq_true rfl, Nat.le_of_ble_eq_true rfl⟩) hS (fun q _ h => hFc q h) hFc (fun r126 u t H1 locs ht hvm hw hB hz1 hk1 hS => ?_)
                  obtain ⟨hP1, hK1, hD1⟩ := hB
                  rw [ht] at hP1
                  have hK1 := va_K.moved hvm.symm hK1
                  try dsimp only at hw
                  obtain ⟨hP, hD⟩ := J_s (wL := [eO h0 8 [.ref jb, .ref ji, .ref jd, .ref je, .ref jg, .ref qpa, .int pcn, .int ipn, .ref jt, .ref jr, .ref j1, .ref j2, .ref qsa], eR qsa ksa 4 fsa, eI si0 ksi0 60 fsi0, eO s1 6 [.int so1, .int sn1, .ref si1], eI si1 ksi1 60 fsi1, eI si2 ksi2 60 fsi2, eO s3 6 [.int so3, .int sn3, .ref si3], eI si3 ksi3 60 fsi3, eO s2 6 [.int so2, .int sn2, .ref si2], eO s0 6 [.int so0, .int sn0, .ref si0]]) hP hD [(8, 1)] [(0, 8), (9, 1)] hCm hNw (by decide +kernel) hk1 hFc hP1 hD1 rfl
                  have hK := KJ_s (tys' := [(ksa, .object "ClearingGates$Sheet"), (ksi0, .int), (ksi1, .int), (ksi2, .int), (ksi3, .int)]) hK hK1 [(0, 5)] rfl
                  generalize H1 = H at hP hS ⊢
                  rcases hw with ⟨e_r126, f_r126⟩ | ⟨e_r126, f_r126⟩
                  · subst e_r126
                    refine lv_if_ne (tgt := 94) hx hb dX9_copy_88 (by decide) (fun c127 => ?_) (fun c127 => absurd c127 (by decide))
                    refine lv_aload hx hb dX9_copy_94 (lv_at hl 1 rfl) ?_
                    refine va_get (D := (dC, dI)) (ci := 6) (v := .ref si2) (C := RX7) (T := TX7) (N := 3) hx hb hts (fun w h => List.mem_cons_of_mem _ (inlX7 w h)) hown hK hP 8 rfl rfl 2 (by decide) (hts (.fieldLink RX9 276 "ClearingGates$Sheet" "items" "[I") (List.mem_cons_of_mem _ mw_207)) (fun _ h9 => h9) rfl dX9_copy_96 ?_
                    refine lv_iload_n hx hb dX9_copy_99 rfl (lv_at hl 4 rfl) ?_
                    refine lv_aload hx hb dX9_copy_100 (lv_at hl 0 rfl) ?_
                    refine va_get (D := (dC, dI)) (ci := 6) (v := .ref si0) (C := RX7) (T := TX7) (N := 3) hx hb hts (fun w h => List.mem_cons_of_mem _ (inlX7 w h)) hown hK hP 9 rfl rfl 2 (by decide) (hts (.fieldLink RX9 276 "ClearingGates$Sheet" "items" "[I") (List.mem_cons_of_mem _ mw_207)) (fun _ h9 => h9) rfl dX9_copy_102 ?_
                    refine lv_iload hx hb dX9_copy_105 (lv_at hl 6 rfl) ?_
                    refine lv_iload hx hb dX9_copy_107 (lv_at hl 7 rfl) ?_
                    refine va_copyi (D := (dC, dI)) hx hb (hml.trans hl.1.symm) hown (hts (.methodLink RX9 279 arraycopyName) (List.mem_cons_of_mem _ mw_597)) (hts (.native arraycopyName) (List.mem_cons_of_mem _ mw_330)) (hts (.static arraycopyName) (List.mem_cons_of_mem _ mw_329)) (hts (.initialized "java/lang/System") (List.mem_cons_of_mem _ mw_80)) hK hP hD hS 5 2 3 1 rfl rfl rfl rfl rfl (fun q => by have := i_lt q; omega) (fun q => by have := i_lt q; omega) (fun q => by have := i_lt q; omega) (by have e1 := i_natZ (x := p1) (by omega); have e2 := i_natZ (x := p4) (by omega); omega) (by have e1 := i_natZ (x := p3) (by omega); have e2 := i_natZ (x := p4) (by omega); omega) (fun _ _ => rfl) (Nat.le_of_ble_eq_true rfl) (by decide) dX9_copy_109 (fun H locs hP hD hS => ?_)
                    generalize e_g128 : (va_cpy fsi2 fsi0 (p1 : Int32).toNatClampNeg (p3 : Int32).toNatClampNeg (p4 : Int32).toNatClampNeg) = g128 at hP hD
                    obtain ⟨hP, hD⟩ := X_s (ws' := [eO h0 8 [.ref jb, .ref ji, .ref jd, .ref je, .ref jg, .ref qpa, .int pcn, .int ipn, .ref jt, .ref jr, .ref j1, .ref j2, .ref qsa], eR qsa ksa 4 fsa, eI si0 ksi0 60 g128, eO s1 6 [.int so1, .int sn1, .ref si1], eI si1 ksi1 60 fsi1, eI si2 ksi2 60 fsi2, eO s3 6 [.int so3, .int sn3, .ref si3], eI si3 ksi3 60 fsi3, eO s2 6 [.int so2, .int sn2, .ref si2], eO s0 6 [.int so0, .int sn0, .ref si0]]) hP hD rfl
                    refine lv_iload hx hb dX9_copy_112 (lv_at hl 7 rfl) ?_
                    rw [hQ9]
                    exact W.iret (v := p4) hx hb hr (fun t ht hW => ⟨⟨p4, (), rfl, (by first | rfl | trivial), g128, fsi1, fsi2, fsi3, by rw [ht]; exact P_s hP [(0, 2), (9, 1), (2, 3), (8, 1), (5, 3)] rfl, va_K.moved hW.alike hK, D_s hD [(0, 2), (9, 1), (2, 3), (8, 1), (5, 3)] 10 rfl (by decide +kernel) rfl⟩, hS.F ht⟩) hS.2.2 dX9_copy_114
                  · subst e_r126
                    refine lv_if_ne (tgt := 94) hx hb dX9_copy_88 (by decide) (fun c129 => absurd (by decide) c129) (fun c129 => ?_)
                    refine lv_bipush (v := -12) hx hb dX9_copy_91 (by decide) ?_
                    rw [hQ9]
                    exact W.iret (v := (-12)) hx hb hr (fun t ht hW => ⟨⟨(-12), (), rfl, (by first | rfl | trivial), fsi0, fsi1, fsi2, fsi3, by rw [ht]; exact P_s hP [(0, 2), (9, 1), (2, 3), (8, 1), (5, 3)] rfl, va_K.moved hW.alike hK, D_s hD [(0, 2), (9, 1), (2, 3), (8, 1), (5, 3)] 10 rfl (by decide +kernel) rfl⟩, hS.F ht⟩) hS.2.2 dX9_copy_93
                · subst e_r124
                  refine lv_if_eq (tgt := 91) hx hb dX9_copy_76 (by decide) (fun c130 => ?_) (fun c130 => absurd (by decide) c130)
                  refine lv_bipush (v := -12) hx hb dX9_copy_91 (by decide) ?_
                  rw [hQ9]
                  exact W.iret (v := (-12)) hx hb hr (fun t ht hW => ⟨⟨(-12), (), rfl, (by first | rfl | trivial), fsi0, fsi1, fsi2, fsi3, by rw [ht]; exact P_s hP [(0, 2), (8, 1), (2, 3), (9, 1), (5, 3)] rfl, va_K.moved hW.alike hK, D_s hD [(0, 2), (8, 1), (2, 3), (9, 1), (5, 3)] 10 rfl (by decide +kernel) rfl⟩, hS.F ht⟩) hS.2.2 dX9_copy_93
              · skip
                have f_c123 := i_ne c123
                refine lv_bipush (v := -13) hx hb dX9_copy_65 (by decide) ?_
                rw [hQ9]
                exact W.iret (v := (-13)) hx hb hr (fun t ht hW => ⟨⟨(-13), (), rfl, (by first | rfl | trivial), fsi0, fsi1, fsi2, fsi3, by rw [ht]; exact P_s hP [(0, 2), (9, 1), (2, 3), (8, 1), (5, 3)] rfl, va_K.moved hW.alike hK, D_s hD [(0, 2), (9, 1), (2, 3), (8, 1), (5, 3)] 10 rfl (by decide +kernel) rfl⟩, hS.F ht⟩) hS.2.2 dX9_copy_67
        · rw [show va_rf (fsa p2.toNatClampNeg) = .ref s1 from by rw [i_nat j0, vsa1]; rfl]
          refine lv_astore (lv' := [(7, .ref s1), (6, .ref s2), (0, .ref h0), (1, .int p0), (2, .int p1), (3, .int p2), (4, .int p3), (5, .int p4)]) hx hb dX9_copy_31 hl (by decide) rfl (fun ls hl => ?_)
          refine lv_aload hx hb dX9_copy_33 (lv_at hl 1 rfl) ?_
          obtain ⟨hPc, hDc, hFc, hCm, hNw⟩ := C_s (wc := [eO s2 6 [.int so2, .int sn2, .ref si2]]) hP hD hS hA [(6, 1)] 10 rfl (by decide +kernel) rfl
          have hKc := K_s (tys' := []) hK [] rfl
          refine va_calli (va_runV (As := []) (rest := []) ⟨hx, hb, hml, hown, hts⟩ (c_X7_isMissing l dC dI s2 so2 sn2 si2 H.size) (cwV 0 hts gX9_copy_X7_isMissing rfl rfl rfl (by decide +kernel) ⟨Nat.le_of_ble_eq_true rfl, Nat.le_of_ble_eq_true rfl⟩) ⟨fun a U g mk q => by obtain ⟨q0, q1, qP, qK, qD⟩ := q; exact ⟨q0, q1, qP, va_K.moved (u := U) (U := U.calling g mk a) (Vm.Alike.refl U.vm) qK, qD⟩, va_recv (s := s) (q := (RX7, TX7, 3)) hKc hPc (ci := 6) (q0 := 0) rfl rfl, fun U hU hW => ⟨rfl, by rw [hU], by rw [hU]; exact hPc, va_K.moved hW.alike hKc, hDc.weaken (fun _ _ _ _ => trivial)⟩⟩ rfl rfl hl.1 rfl (lv_room (Nat.le_of_ble_eq_true rfl)) dX9_copy_35 ⟨Nat.le_of_ble_eq_true rfl, Nat.le_of_ble_eq_true rfl⟩) hS (fun q _ h => hFc q h) hFc (fun r131 u t H1 locs ht hvm hw hB hz1 hk1 hS => ?_)
          obtain ⟨hP1, hK1, hD1⟩ := hB
          rw [ht] at hP1
          have hK1 := va_K.moved hvm.symm hK1
          try dsimp only at hw
          obtain ⟨hP, hD⟩ := J_s (wL := [eO h0 8 [.ref jb, .ref ji, .ref jd, .ref je, .ref jg, .ref qpa, .int pcn, .int ipn, .ref jt, .ref jr, .ref j1, .ref j2, .ref qsa], eR qsa ksa 4 fsa, eO s0 6 [.int so0, .int sn0, .ref si0], eI si0 ksi0 60 fsi0, eO s1 6 [.int so1, .int sn1, .ref si1], eI si1 ksi1 60 fsi1, eI si2 ksi2 60 fsi2, eO s3 6 [.int so3, .int sn3, .ref si3], eI si3 ksi3 60 fsi3, eO s2 6 [.int so2, .int sn2, .ref si2]]) hP hD [(6, 1)] [(0, 6), (7, 3)] hCm hNw (by decide +kernel) hk1 hFc hP1 hD1 rfl
          have hK := KJ_s (tys' := [(ksa, .object "ClearingGates$Sheet"), (ksi0, .int), (ksi1, .int), (ksi2, .int), (ksi3, .int)]) hK hK1 [(0, 5)] rfl
          generalize H1 = H at hP hS ⊢
          rcases hw with ⟨e_r131, f_r131⟩ | ⟨e_r131, f_r131⟩
          · subst e_r131
            refine lv_if_ne (tgt := 49) hx hb dX9_copy_38 (by decide) (fun c132 => ?_) (fun c132 => absurd c132 (by decide))
            refine lv_bipush (v := -11) hx hb dX9_copy_49 (by decide) ?_
            rw [hQ9]
            exact W.iret (v := (-11)) hx hb hr (fun t ht hW => ⟨⟨(-11), (), rfl, (by first | rfl | trivial), fsi0, fsi1, fsi2, fsi3, by rw [ht]; exact P_s hP [(0, 6), (9, 1), (6, 3)] rfl, va_K.moved hW.alike hK, D_s hD [(0, 6), (9, 1), (6, 3)] 10 rfl (by decide +kernel) rfl⟩, hS.F ht⟩) hS.2.2 dX9_copy_51
          · subst e_r131
            refine lv_if_ne (tgt := 49) hx hb dX9_copy_38 (by decide) (fun c133 => absurd (by decide) c133) (fun c133 => ?_)
            refine lv_aload hx hb dX9_copy_41 (lv_at hl 0 rfl) ?_
            obtain ⟨hPc, hDc, hFc, hCm, hNw⟩ := C_s (wc := [eO s1 6 [.int so1, .int sn1, .ref si1]]) hP hD hS hA [(4, 1)] 10 rfl (by decide +kernel) rfl
            have hKc := K_s (tys' := []) hK [] rfl
            refine va_calli (va_runV (As := []) (rest := []) ⟨hx, hb, hml, hown, hts⟩ (c_X7_isMissing l dC dI s1 so1 sn1 si1 H.size) (cwV 0 hts gX9_copy_X7_isMissing rfl rfl rfl (by decide +kernel) ⟨Nat.le_of_ble_eq_true rfl, Nat.le_of_ble_eq_true rfl⟩) ⟨fun a U g mk q => by obtain ⟨q0, q1, qP, qK, qD⟩ := q; exact ⟨q0, q1, qP, va_K.moved (u := U) (U := U.calling g mk a) (Vm.Alike.refl U.vm) qK, qD⟩, va_recv (s := s) (q := (RX7, TX7, 3)) hKc hPc (ci := 6) (q0 := 0) rfl rfl, fun U hU hW => ⟨rfl, by rw [hU], by rw [hU]; exact hPc, va_K.moved hW.alike hKc, hDc.weaken (fun _ _ _ _ => trivial)⟩⟩ rfl rfl hl.1 rfl (lv_room (Nat.le_of_ble_eq_true rfl)) dX9_copy_43 ⟨Nat.le_of_ble_eq_true rfl, Nat.le_of_ble_eq_true rfl⟩) hS (fun q _ h => hFc q h) hFc (fun r134 u t H1 locs ht hvm hw hB hz1 hk1 hS => ?_)
            obtain ⟨hP1, hK1, hD1⟩ := hB
            rw [ht] at hP1
            have hK1 := va_K.moved hvm.symm hK1
            try dsimp only at hw
            obtain ⟨hP, hD⟩ := J_s (wL := [eO h0 8 [.ref jb, .ref ji, .ref jd, .ref je, .ref jg, .ref qpa, .int pcn, .int ipn, .ref jt, .ref jr, .ref j1, .ref j2, .ref qsa], eR qsa ksa 4 fsa, eO s0 6 [.int so0, .int sn0, .ref si0], eI si0 ksi0 60 fsi0, eI si1 ksi1 60 fsi1, eI si2 ksi2 60 fsi2, eO s3 6 [.int so3, .int sn3, .ref si3], eI si3 ksi3 60 fsi3, eO s2 6 [.int so2, .int sn2, .ref si2], eO s1 6 [.int so1, .int sn1, .ref si1]]) hP hD [(4, 1)] [(0, 4), (5, 5)] hCm hNw (by decide +kernel) hk1 hFc hP1 hD1 rfl
            have hK := KJ_s (tys' := [(ksa, .object "ClearingGates$Sheet"), (ksi0, .int), (ksi1, .int), (ksi2, .int), (ksi3, .int)]) hK hK1 [(0, 5)] rfl
            generalize H1 = H at hP hS ⊢
            rcases hw with ⟨e_r134, f_r134⟩ | ⟨e_r134, f_r134⟩
            · subst e_r134
              refine lv_if_eq (tgt := 52) hx hb dX9_copy_46 (by decide) (fun c135 => absurd c135 (by decide)) (fun c135 => ?_)
              refine lv_bipush (v := -11) hx hb dX9_copy_49 (by decide) ?_
              rw [hQ9]
              exact W.iret (v := (-11)) hx hb hr (fun t ht hW => ⟨⟨(-11), (), rfl, (by first | rfl | trivial), fsi0, fsi1, fsi2, fsi3, by rw [ht]; exact P_s hP [(0, 4), (9, 1), (4, 1), (8, 1), (5, 3)] rfl, va_K.moved hW.alike hK, D_s hD [(0, 4), (9, 1), (4, 1), (8, 1), (5, 3)] 10 rfl (by decide +kernel) rfl⟩, hS.F ht⟩) hS.2.2 dX9_copy_51
            · subst e_r134
              refine lv_if_eq (tgt := 52) hx hb dX9_copy_46 (by decide) (fun c136 => ?_) (fun c136 => absurd (by decide) c136)
              refine lv_aload hx hb dX9_copy_52 (lv_at hl 1 rfl) ?_
              refine va_get (D := (dC, dI)) (ci := 6) (v := .int so2) (C := RX7) (T := TX7) (N := 3) hx hb hts (fun w h => List.mem_cons_of_mem _ (inlX7 w h)) hown hK hP 8 rfl rfl 0 (by decide) (hts (.fieldLink RX9 270 "ClearingGates$Sheet" "sort" "I") (List.mem_cons_of_mem _ mw_203)) (fun _ h9 => h9) rfl dX9_copy_54 ?_
              refine lv_aload hx hb dX9_copy_57 (lv_at hl 0 rfl) ?_
              refine va_get (D := (dC, dI)) (ci := 6) (v := .int so1) (C := RX7) (T := TX7) (N := 3) hx hb hts (fun w h => List.mem_cons_of_mem _ (inlX7 w h)) hown hK hP 9 rfl rfl 0 (by decide) (hts (.fieldLink RX9 270 "ClearingGates$Sheet" "sort" "I") (List.mem_cons_of_mem _ mw_203)) (fun _ h9 => h9) rfl dX9_copy_59 ?_
              refine lv_icmp_eq (tgt := 68) hx hb dX9_copy_62 (by decide) (fun c137 => ?_) (fun c137 => ?_)
              · skip
                have f_c137 := i_eq c137
                refine lv_aload hx hb dX9_copy_68 (lv_at hl 1 rfl) ?_
                refine lv_iload_n hx hb dX9_copy_70 rfl (lv_at hl 4 rfl) ?_
                refine lv_iload hx hb dX9_copy_71 (lv_at hl 7 rfl) ?_
                obtain ⟨hPc, hDc, hFc, hCm, hNw⟩ := C_s (wc := [eO s2 6 [.int so2, .int sn2, .ref si2]]) hP hD hS hA [(8, 1)] 10 rfl (by decide +kernel) rfl
                have hKc := K_s (tys' := []) hK [] rfl
                refine va_calli (va_runV (As := [.int p1, .int p4]) (rest := []) ⟨hx, hb, hml, hown, hts⟩ (c_X7_hasStretch l dC dI s2 p1 p4 so2 sn2 si2 H.size vs2a vs2b) (cwV 2 hts gX9_copy_X7_hasStretch rfl rfl rfl (by decide +kernel) ⟨Nat.le_of_ble_eq_true rfl, Nat.le_of_ble_eq_true rfl⟩) ⟨fun a U g mk q => by obtain ⟨q0, q1, qP, qK, qD⟩ := q; exact ⟨q0, q1, qP, va_K.moved (u := U) (U := U.calling g mk a) (Vm.Alike.refl U.vm) qK, qD⟩, va_recv (s := s) (q := (RX7, TX7, 3)) hKc hPc (ci := 6) (q0 := 0) rfl rfl, fun U hU hW => ⟨rfl, by rw [hU], by rw [hU]; exact hPc, va_K.moved hW.alike hKc, hDc.weaken (fun _ _ _ _ => trivial)⟩⟩ rfl rfl hl.1 rfl (lv_room (Nat.le_of_ble_eq_true rfl)) dX9_copy_73 ⟨Nat.le_of_ble_eq_true rfl, Nat.le_of_ble_eq_true rfl⟩) hS (fun q _ h => hFc q h) hFc (fun r138 u t H1 locs ht hvm hw hB hz1 hk1 hS => ?_)
                obtain ⟨hP1, hK1, hD1⟩ := hB
                rw [ht] at hP1
                have hK1 := va_K.moved hvm.symm hK1
                try dsimp only at hw
                obtain ⟨hP, hD⟩ := J_s (wL := [eO h0 8 [.ref jb, .ref ji, .ref jd, .ref je, .ref jg, .ref qpa, .int pcn, .int ipn, .ref jt, .ref jr, .ref j1, .ref j2, .ref qsa], eR qsa ksa 4 fsa, eO s0 6 [.int so0, .int sn0, .ref si0], eI si0 ksi0 60 fsi0, eI si1 ksi1 60 fsi1, eI si2 ksi2 60 fsi2, eO s3 6 [.int so3, .int sn3, .ref si3], eI si3 ksi3 60 fsi3, eO s1 6 [.int so1, .int sn1, .ref si1], eO s2 6 [.int so2, .int sn2, .ref si2]]) hP hD [(8, 1)] [(0, 8), (9, 1)] hCm hNw (by decide +kernel) hk1 hFc hP1 hD1 rfl
                have hK := KJ_s (tys' := [(ksa, .object "ClearingGates$Sheet"), (ksi0, .int), (ksi1, .int), (ksi2, .int), (ksi3, .int)]) hK hK1 [(0, 5)] rfl
                generalize H1 = H at hP hS ⊢
                rcases hw with ⟨e_r138, f_r138⟩ | ⟨e_r138, f_r138⟩
                · subst e_r138
                  refine lv_if_eq (tgt := 91) hx hb dX9_copy_76 (by decide) (fun c139 => absurd c139 (by decide)) (fun c139 => ?_)
                  refine lv_aload hx hb dX9_copy_79 (lv_at hl 0 rfl) ?_
                  refine lv_iload hx hb dX9_copy_81 (lv_at hl 6 rfl) ?_
                  refine lv_iload hx hb dX9_copy_83 (lv_at hl 7 rfl) ?_
                  obtain ⟨hPc, hDc, hFc, hCm, hNw⟩ := C_s (wc := [eO s1 6 [.int so1, .int sn1, .ref si1]]) hP hD hS hA [(8, 1)] 10 rfl (by decide +kernel) rfl
                  have hKc := K_s (tys' := []) hK [] rfl
                  refine va_calli (va_runV (As := [.int p3, .int p4]) (rest := []) ⟨hx, hb, hml, hown, hts⟩ (c_X7_hasStretch l dC dI s1 p3 p4 so1 sn1 si1 H.size vs1a vs1b) (cwV 2 hts gX9_copy_X7_hasStretch rfl rfl rfl (by decide +kernel) ⟨Nat.le_of_ble_eq_true rfl, Nat.le_of_ble_eq_true rfl⟩) ⟨fun a U g mk q => by obtain ⟨q0, q1, qP, qK, qD⟩ := q; exact ⟨q0, q1, qP, va_K.moved (u := U) (U := U.calling g mk a) (Vm.Alike.refl U.vm) qK, qD⟩, va_recv (s := s) (q := (RX7, TX7, 3)) hKc hPc (ci := 6) (q0 := 0) rfl rfl, fun U hU hW => ⟨rfl, by rw [hU], by rw [hU]; exact hPc, va_K.moved hW.alike hKc, hDc.weaken (fun _ _ _ _ => trivial)⟩⟩ rfl rfl hl.1 rfl (lv_room (Nat.le_of_ble_eq_true rfl)) dX9_copy_85 ⟨Nat.le_of_ble_eq_true rfl, Nat.le_of_ble_eq_true rfl⟩) hS (fun q _ h => hFc q h) hFc (fun r140 u t H1 locs ht hvm hw hB hz1 hk1 hS => ?_)
                  obtain ⟨hP1, hK1, hD1⟩ := hB
                  rw [ht] at hP1
                  have hK1 := va_K.moved hvm.symm hK1
                  try dsimp only at hw
                  obtain ⟨hP, hD⟩ := J_s (wL := [eO h0 8 [.ref jb, .ref ji, .ref jd, .ref je, .ref jg, .ref qpa, .int pcn, .int ipn, .ref jt, .ref jr, .ref j1, .ref j2, .ref qsa], eR qsa ksa 4 fsa, eO s0 6 [.int so0, .int sn0, .ref si0], eI si0 ksi0 60 fsi0, eI si1 ksi1 60 fsi1, eI si2 ksi2 60 fsi2, eO s3 6 [.int so3, .int sn3, .ref si3], eI si3 ksi3 60 fsi3, eO s2 6 [.int so2, .int sn2, .ref si2], eO s1 6 [.int so1, .int sn1, .ref si1]]) hP hD [(8, 1)] [(0, 8), (9, 1)] hCm hNw (by decide +kernel) hk1 hFc hP1 hD1 rfl
                  have hK := KJ_s (tys' := [(ksa, .object "ClearingGates$Sheet"), (ksi0, .int), (ksi1, .int), (ksi2, .int), (ksi3, .int)]) hK hK1 [(0, 5)] rfl
                  generalize H1 = H at hP hS ⊢
                  rcases hw with ⟨e_r140, f_r140⟩ | ⟨e_r140, f_r140⟩
                  · subst e_r140
                    refine lv_if_ne (tgt := 94) hx hb dX9_copy_88 (by decide) (fun c141 => ?_) (fun c141 => absurd c141 (by decide))
                    refine lv_aload hx hb dX9_copy_94 (lv_at hl 1 rfl) ?_
                    refine va_get (D := (dC, dI)) (ci := 6) (v := .ref si2) (C := RX7) (T := TX7) (N := 3) hx hb hts (fun w h => List.mem_cons_of_mem _ (inlX7 w h)) hown hK hP 8 rfl rfl 2 (by decide) (hts (.fieldLink RX9 276 "ClearingGates$Sheet" "items" "[I") (List.mem_cons_of_mem _ mw_207)) (fun _ h9 => h9) rfl dX9_copy_96 ?_
                    refine lv_iload_n hx hb dX9_copy_99 rfl (lv_at hl 4 rfl) ?_
                    refine lv_aload hx hb dX9_copy_100 (lv_at hl 0 rfl) ?_
                    refine va_get (D := (dC, dI)) (ci := 6) (v := .ref si1) (C := RX7) (T := TX7) (N := 3) hx hb hts (fun w h => List.mem_cons_of_mem _ (inlX7 w h)) hown hK hP 9 rfl rfl 2 (by decide) (hts (.fieldLink RX9 276 "ClearingGates$Sheet" "items" "[I") (List.mem_cons_of_mem _ mw_207)) (fun _ h9 => h9) rfl dX9_copy_102 ?_
                    refine lv_iload hx hb dX9_copy_105 (lv_at hl 6 rfl) ?_
                    refine lv_iload hx hb dX9_copy_107 (lv_at hl 7 rfl) ?_
                    refine va_copyi (D := (dC, dI)) hx hb (hml.trans hl.1.symm) hown (hts (.methodLink RX9 279 arraycopyName) (List.mem_cons_of_mem _ mw_597)) (hts (.native arraycopyName) (List.mem_cons_of_mem _ mw_330)) (hts (.static arraycopyName) (List.mem_cons_of_mem _ mw_329)) (hts (.initialized "java/lang/System") (List.mem_cons_of_mem _ mw_80)) hK hP hD hS 5 4 3 2 rfl rfl rfl rfl rfl (fun q => by have := i_lt q; omega) (fun q => by have := i_lt q; omega) (fun q => by have := i_lt q; omega) (by have e1 := i_natZ (x := p1) (by omega); have e2 := i_natZ (x := p4) (by omega); omega) (by have e1 := i_natZ (x := p3) (by omega); have e2 := i_natZ (x := p4) (by omega); omega) (fun _ _ => rfl) (Nat.le_of_ble_eq_true rfl) (by decide) dX9_copy_109 (fun H locs hP hD hS => ?_)
                    generalize e_g142 : (va_cpy fsi2 fsi1 (p1 : Int32).toNatClampNeg (p3 : Int32).toNatClampNeg (p4 : Int32).toNatClampNeg) = g142 at hP hD
                    obtain ⟨hP, hD⟩ := X_s (ws' := [eO h0 8 [.ref jb, .ref ji, .ref jd, .ref je, .ref jg, .ref qpa, .int pcn, .int ipn, .ref jt, .ref jr, .ref j1, .ref j2, .ref qsa], eR qsa ksa 4 fsa, eO s0 6 [.int so0, .int sn0, .ref si0], eI si0 ksi0 60 fsi0, eI si1 ksi1 60 g142, eI si2 ksi2 60 fsi2, eO s3 6 [.int so3, .int sn3, .ref si3], eI si3 ksi3 60 fsi3, eO s2 6 [.int so2, .int sn2, .ref si2], eO s1 6 [.int so1, .int sn1, .ref si1]]) hP hD rfl
                    refine lv_iload hx hb dX9_copy_112 (lv_at hl 7 rfl) ?_
                    rw [hQ9]
                    exact W.iret (v := p4) hx hb hr (fun t ht hW => ⟨⟨p4, (), rfl, (by first | rfl | trivial), fsi0, g142, fsi2, fsi3, by rw [ht]; exact P_s hP [(0, 4), (9, 1), (4, 1), (8, 1), (5, 3)] rfl, va_K.moved hW.alike hK, D_s hD [(0, 4), (9, 1), (4, 1), (8, 1), (5, 3)] 10 rfl (by decide +kernel) rfl⟩, hS.F ht⟩) hS.2.2 dX9_copy_114
                  · subst e_r140
                    refine lv_if_ne (tgt := 94) hx hb dX9_copy_88 (by decide) (fun c143 => absurd (by decide) c143) (fun c143 => ?_)
                    refine lv_bipush (v := -12) hx hb dX9_copy_91 (by decide) ?_
                    rw [hQ9]
                    exact W.iret (v := (-12)) hx hb hr (fun t ht hW => ⟨⟨(-12), (), rfl, (by first | rfl | trivial), fsi0, fsi1, fsi2, fsi3, by rw [ht]; exact P_s hP [(0, 4), (9, 1), (4, 1), (8, 1), (5, 3)] rfl, va_K.moved hW.alike hK, D_s hD [(0, 4), (9, 1), (4, 1), (8, 1), (5, 3)] 10 rfl (by decide +kernel) rfl⟩, hS.F ht⟩) hS.2.2 dX9_copy_93
                · subst e_r138
                  refine lv_if_eq (tgt := 91) hx hb dX9_copy_76 (by decide) (fun c144 => ?_) (fun c144 => absurd (by decide) c144)
                  refine lv_bipush (v := -12) hx hb dX9_copy_91 (by decide) ?_
                  rw [hQ9]
                  exact W.iret (v := (-12)) hx hb hr (fun t ht hW => ⟨⟨(-12), (), rfl, (by first | rfl | trivial), fsi0, fsi1, fsi2, fsi3, by rw [ht]; exact P_s hP [(0, 4), (8, 1), (4, 1), (9, 1), (5, 3)] rfl, va_K.moved hW.alike hK, D_s hD [(0, 4), (8, 1), (4, 1), (9, 1), (5, 3)] 10 rfl (by decide +kernel) rfl⟩, hS.F ht⟩) hS.2.2 dX9_copy_93
              · skip
                have f_c137 := i_ne c137
                refine lv_bipush (v := -13) hx hb dX9_copy_65 (by decide) ?_
                rw [hQ9]
                exact W.iret (v := (-13)) hx hb hr (fun t ht hW => ⟨⟨(-13), (), rfl, (by first | rfl | trivial), fsi0, fsi1, fsi2, fsi3, by rw [ht]; exact P_s hP [(0, 4), (9, 1), (4, 1), (8, 1), (5, 3)] rfl, va_K.moved hW.alike hK, D_s hD [(0, 4), (9, 1), (4, 1), (8, 1), (5, 3)] 10 rfl (by decide +kernel) rfl⟩, hS.F ht⟩) hS.2.2 dX9_copy_67
        · rw [show va_rf (fsa p2.toNatClampNeg) = .ref s2 from by rw [i_nat j0, vsa2]; rfl]
          refine lv_astore (lv' := [(7, .ref s2), (6, .ref s2), (0, .ref h0), (1, .int p0), (2, .int p1), (3, .int p2), (4, .int p3), (5, .int p4)]) hx hb dX9_copy_31 hl (by decide) rfl (fun ls hl => ?_)
          refine lv_aload hx hb dX9_copy_33 (lv_at hl 1 rfl) ?_
          obtain ⟨hPc, hDc, hFc, hCm, hNw⟩ := C_s (wc := [eO s2 6 [.int so2, .int sn2, .ref si2]]) hP hD hS hA [(6, 1)] 10 rfl (by decide +kernel) rfl
          have hKc := K_s (tys' := []) hK [] rfl
          refine va_calli (va_runV (As := []) (rest := []) ⟨hx, hb, hml, hown, hts⟩ (c_X7_isMissing l dC dI s2 so2 sn2 si2 H.size) (cwV 0 hts gX9_copy_X7_isMissing rfl rfl rfl (by decide +kernel) ⟨Nat.le_of_ble_eq_true rfl, Nat.le_of_ble_eq_true rfl⟩) ⟨fun a U g mk q => by obtain ⟨q0, q1, qP, qK, qD⟩ := q; exact ⟨q0, q1, qP, va_K.moved (u := U) (U := U.calling g mk a) (Vm.Alike.refl U.vm) qK, qD⟩, va_recv (s := s) (q := (RX7, TX7, 3)) hKc hPc (ci := 6) (q0 := 0) rfl rfl, fun U hU hW => ⟨rfl, by rw [hU], by rw [hU]; exact hPc, va_K.moved hW.alike hKc, hDc.weaken (fun _ _ _ _ => trivial)⟩⟩ rfl rfl hl.1 rfl (lv_room (Nat.le_of_ble_eq_true rfl)) dX9_copy_35 ⟨Nat.le_of_ble_eq_true rfl, Nat.le_of_ble_eq_true rfl⟩) hS (fun q _ h => hFc q h) hFc (fun r145 u t H1 locs ht hvm hw hB hz1 hk1 hS => ?_)
          obtain ⟨hP1, hK1, hD1⟩ := hB
          rw [ht] at hP1
          have hK1 := va_K.moved hvm.symm hK1
          try dsimp only at hw
          obtain ⟨hP, hD⟩ := J_s (wL := [eO h0 8 [.ref jb, .ref ji, .ref jd, .ref je, .ref jg, .ref qpa, .int pcn, .int ipn, .ref jt, .ref jr, .ref j1, .ref j2, .ref qsa], eR qsa ksa 4 fsa, eO s0 6 [.int so0, .int sn0, .ref si0], eI si0 ksi0 60 fsi0, eO s1 6 [.int so1, .int sn1, .ref si1], eI si1 ksi1 60 fsi1, eI si2 ksi2 60 fsi2, eO s3 6 [.int so3, .int sn3, .ref si3], eI si3 ksi3 60 fsi3, eO s2 6 [.int so2, .int sn2, .ref si2]]) hP hD [(6, 1)] [(0, 6), (7, 3)] hCm hNw (by decide +kernel) hk1 hFc hP1 hD1 rfl
          have hK := KJ_s (tys' := [(ksa, .object "ClearingGates$Sheet"), (ksi0, .int), (ksi1, .int), (ksi2, .int), (ksi3, .int)]) hK hK1 [(0, 5)] rfl
          generalize H1 = H at hP hS ⊢
          rcases hw with ⟨e_r145, f_r145⟩ | ⟨e_r145, f_r145⟩
          · subst e_r145
            refine lv_if_ne (tgt := 49) hx hb dX9_copy_38 (by decide) (fun c146 => ?_) (fun c146 => absurd c146 (by decide))
            refine lv_bipush (v := -11) hx hb dX9_copy_49 (by decide) ?_
            rw [hQ9]
            exact W.iret (v := (-11)) hx hb hr (fun t ht hW => ⟨⟨(-11), (), rfl, (by first | rfl | trivial), fsi0, fsi1, fsi2, fsi3, by rw [ht]; exact P_s hP [(0, 6), (9, 1), (6, 3)] rfl, va_K.moved hW.alike hK, D_s hD [(0, 6), (9, 1), (6, 3)] 10 rfl (by decide +kernel) rfl⟩, hS.F ht⟩) hS.2.2 dX9_copy_51
          · subst e_r145
            refine lv_if_ne (tgt := 49) hx hb dX9_copy_38 (by decide) (fun c147 => absurd (by decide) c147) (fun c147 => ?_)
            refine lv_aload hx hb dX9_copy_41 (lv_at hl 0 rfl) ?_
            obtain ⟨hPc, hDc, hFc, hCm, hNw⟩ := C_s (wc := [eO s2 6 [.int so2, .int sn2, .ref si2]]) hP hD hS hA [(9, 1)] 10 rfl (by decide +kernel) rfl
            have hKc := K_s (tys' := []) hK [] rfl
            refine va_calli (va_runV (As := []) (rest := []) ⟨hx, hb, hml, hown, hts⟩ (c_X7_isMissing l dC dI s2 so2 sn2 si2 H.size) (cwV 0 hts gX9_copy_X7_isMissing rfl rfl rfl (by decide +kernel) ⟨Nat.le_of_ble_eq_true rfl, Nat.le_of_ble_eq_true rfl⟩) ⟨fun a U g mk q => by obtain ⟨q0, q1, qP, qK, qD⟩ := q; exact ⟨q0, q1, qP, va_K.moved (u := U) (U := U.calling g mk a) (Vm.Alike.refl U.vm) qK, qD⟩, va_recv (s := s) (q := (RX7, TX7, 3)) hKc hPc (ci := 6) (q0 := 0) rfl rfl, fun U hU hW => ⟨rfl, by rw [hU], by rw [hU]; exact hPc, va_K.moved hW.alike hKc, hDc.weaken (fun _ _ _ _ => trivial)⟩⟩ rfl rfl hl.1 rfl (lv_room (Nat.le_of_ble_eq_true rfl)) dX9_copy_43 ⟨Nat.le_of_ble_eq_true rfl, Nat.le_of_ble_eq_true rfl⟩) hS (fun q _ h => hFc q h) hFc (fun r148 u t H1 locs ht hvm hw hB hz1 hk1 hS => ?_)
            obtain ⟨hP1, hK1, hD1⟩ := hB
            rw [ht] at hP1
            have hK1 := va_K.moved hvm.symm hK1
            try dsimp only at hw
            obtain ⟨hP, hD⟩ := J_s (wL := [eO h0 8 [.ref jb, .ref ji, .ref jd, .ref je, .ref jg, .ref qpa, .int pcn, .int ipn, .ref jt, .ref jr, .ref j1, .ref j2, .ref qsa], eR qsa ksa 4 fsa, eO s0 6 [.int so0, .int sn0, .ref si0], eI si0 ksi0 60 fsi0, eO s1 6 [.int so1, .int sn1, .ref si1], eI si1 ksi1 60 fsi1, eI si2 ksi2 60 fsi2, eO s3 6 [.int so3, .int sn3, .ref si3], eI si3 ksi3 60 fsi3, eO s2 6 [.int so2, .int sn2, .ref si2]]) hP hD [(9, 1)] [(0, 9)] hCm hNw (by decide +kernel) hk1 hFc hP1 hD1 rfl
            have hK := KJ_s (tys' := [(ksa, .object "ClearingGates$Sheet"), (ksi0, .int), (ksi1, .int), (ksi2, .int), (ksi3, .int)]) hK hK1 [(0, 5)] rfl
            generalize H1 = H at hP hS ⊢
            rcases hw with ⟨e_r148, f_r148⟩ | ⟨e_r148, f_r148⟩
            · subst e_r148
              refine lv_if_eq (tgt := 52) hx hb dX9_copy_46 (by decide) (fun c149 => absurd c149 (by decide)) (fun c149 => ?_)
              refine lv_bipush (v := -11) hx hb dX9_copy_49 (by decide) ?_
              rw [hQ9]
              exact W.iret (v := (-11)) hx hb hr (fun t ht hW => ⟨⟨(-11), (), rfl, (by first | rfl | trivial), fsi0, fsi1, fsi2, fsi3, by rw [ht]; exact P_s hP [(0, 6), (9, 1), (6, 3)] rfl, va_K.moved hW.alike hK, D_s hD [(0, 6), (9, 1), (6, 3)] 10 rfl (by decide +kernel) rfl⟩, hS.F ht⟩) hS.2.2 dX9_copy_51
            · subst e_r148
              refine lv_if_eq (tgt := 52) hx hb dX9_copy_46 (by decide) (fun c150 => ?_) (fun c150 => absurd (by decide) c150)
              refine lv_aload hx hb dX9_copy_52 (lv_at hl 1 rfl) ?_
              refine va_get (D := (dC, dI)) (ci := 6) (v := .int so2) (C := RX7) (T := TX7) (N := 3) hx hb hts (fun w h => List.mem_cons_of_mem _ (inlX7 w h)) hown hK hP 9 rfl rfl 0 (by decide) (hts (.fieldLink RX9 270 "ClearingGates$Sheet" "sort" "I") (List.mem_cons_of_mem _ mw_203)) (fun _ h9 => h9) rfl dX9_copy_54 ?_
              refine lv_aload hx hb dX9_copy_57 (lv_at hl 0 rfl) ?_
              refine va_get (D := (dC, dI)) (ci := 6) (v := .int so2) (C := RX7) (T := TX7) (N := 3) hx hb hts (fun w h => List.mem_cons_of_mem _ (inlX7 w h)) hown hK hP 9 rfl rfl 0 (by decide) (hts (.fieldLink RX9 270 "ClearingGates$Sheet" "sort" "I") (List.mem_cons_of_mem _ mw_203)) (fun _ h9 => h9) rfl dX9_copy_59 ?_
              refine lv_icmp_eq (tgt := 68) hx hb dX9_copy_62 (by decide) (fun c151 => ?_) (fun c151 => ?_)
              · skip
                have f_c151 := i_eq c151
                refine lv_aload hx hb dX9_copy_68 (lv_at hl 1 rfl) ?_
                refine lv_iload_n hx hb dX9_copy_70 rfl (lv_at hl 4 rfl) ?_
                refine lv_iload hx hb dX9_copy_71 (lv_at hl 7 rfl) ?_
                obtain ⟨hPc, hDc, hFc, hCm, hNw⟩ := C_s (wc := [eO s2 6 [.int so2, .int sn2, .ref si2]]) hP hD hS hA [(9, 1)] 10 rfl (by decide +kernel) rfl
                have hKc := K_s (tys' := []) hK [] rfl
                refine va_calli (va_runV (As := [.int p1, .int p4]) (rest := []) ⟨hx, hb, hml, hown, hts⟩ (c_X7_hasStretch l dC dI s2 p1 p4 so2 sn2 si2 H.size vs2a vs2b) (cwV 2 hts gX9_copy_X7_hasStretch rfl rfl rfl (by decide +kernel) ⟨Nat.le_of_ble_eq_true rfl, Nat.le_of_ble_eq_true rfl⟩) ⟨fun a U g mk q => by obtain ⟨q0, q1, qP, qK, qD⟩ := q; exact ⟨q0, q1, qP, va_K.moved (u := U) (U := U.calling g mk a) (Vm.Alike.refl U.vm) qK, qD⟩, va_recv (s := s) (q := (RX7, TX7, 3)) hKc hPc (ci := 6) (q0 := 0) rfl rfl, fun U hU hW => ⟨rfl, by rw [hU], by rw [hU]; exact hPc, va_K.moved hW.alike hKc, hDc.weaken (fun _ _ _ _ => trivial)⟩⟩ rfl rfl hl.1 rfl (lv_room (Nat.le_of_ble_eq_true rfl)) dX9_copy_73 ⟨Nat.le_of_ble_eq_true rfl, Nat.le_of_ble_eq_true rfl⟩) hS (fun q _ h => hFc q h) hFc (fun r152 u t H1 locs ht hvm hw hB hz1 hk1 hS => ?_)
                obtain ⟨hP1, hK1, hD1⟩ := hB
                rw [ht] at hP1
                have hK1 := va_K.moved hvm.symm hK1
                try dsimp only at hw
                obtain ⟨hP, hD⟩ := J_s (wL := [eO h0 8 [.ref jb, .ref ji, .ref jd, .ref je, .ref jg, .ref qpa, .int pcn, .int ipn, .ref jt, .ref jr, .ref j1, .ref j2, .ref qsa], eR qsa ksa 4 fsa, eO s0 6 [.int so0, .int sn0, .ref si0], eI si0 ksi0 60 fsi0, eO s1 6 [.int so1, .int sn1, .ref si1], eI si1 ksi1 60 fsi1, eI si2 ksi2 60 fsi2, eO s3 6 [.int so3, .int sn3, .ref si3], eI si3 ksi3 60 fsi3, eO s2 6 [.int so2, .int sn2, .ref si2]]) hP hD [(9, 1)] [(0, 9)] hCm hNw (by decide +kernel) hk1 hFc hP1 hD1 rfl
                have hK := KJ_s (tys' := [(ksa, .object "ClearingGates$Sheet"), (ksi0, .int), (ksi1, .int), (ksi2, .int), (ksi3, .int)]) hK hK1 [(0, 5)] rfl
                generalize H1 = H at hP hS ⊢
                rcases hw with ⟨e_r152, f_r152⟩ | ⟨e_r152, f_r152⟩
                · subst e_r152
                  refine lv_if_eq (tgt := 91) hx hb dX9_copy_76 (by decide) (fun c153 => absurd c153 (by decide)) (fun c153 => ?_)
                  refine lv_aload hx hb dX9_copy_79 (lv_at hl 0 rfl) ?_
                  refine lv_iload hx hb dX9_copy_81 (lv_at hl 6 rfl) ?_
                  refine lv_iload hx hb dX9_copy_83 (lv_at hl 7 rfl) ?_
                  obtain ⟨hPc, hDc, hFc, hCm, hNw⟩ := C_s (wc := [eO s2 6 [.int so2, .int sn2, .ref si2]]) hP hD hS hA [(9, 1)] 10 rfl (by decide +kernel) rfl
                  have hKc := K_s (tys' := []) hK [] rfl
                  refine va_calli (va_runV (As := [.int p3, .int p4]) (rest := []) ⟨hx, hb, hml, hown, hts⟩ (c_X7_hasStretch l dC dI s2 p3 p4 so2 sn2 si2 H.size vs2a vs2b) (cwV 2 hts gX9_copy_X7_hasStretch rfl rfl rfl (by decide +kernel) ⟨Nat.le_of_ble_eq_true rfl, Nat.le_of_ble_eq_true rfl⟩) ⟨fun a U g mk q => by obtain ⟨q0, q1, qP, qK, qD⟩ := q; exact ⟨q0, q1, qP, va_K.moved (u := U) (U := U.calling g mk a) (Vm.Alike.refl U.vm) qK, qD⟩, va_recv (s := s) (q := (RX7, TX7, 3)) hKc hPc (ci := 6) (q0 := 0) rfl rfl, fun U hU hW => ⟨rfl, by rw [hU], by rw [hU]; exact hPc, va_K.moved hW.alike hKc, hDc.weaken (fun _ _ _ _ => trivial)⟩⟩ rfl rfl hl.1 rfl (lv_room (Nat.le_of_ble_eq_true rfl)) dX9_copy_85 ⟨Nat.le_of_ble_eq_true rfl, Nat.le_of_ble_eq_true rfl⟩) hS (fun q _ h => hFc q h) hFc (fun r154 u t H1 locs ht hvm hw hB hz1 hk1 hS => ?_)
                  obtain ⟨hP1, hK1, hD1⟩ := hB
                  rw [ht] at hP1
                  have hK1 := va_K.moved hvm.symm hK1
                  try dsimp only at hw
                  obtain ⟨hP, hD⟩ := J_s (wL := [eO h0 8 [.ref jb, .ref ji, .ref jd, .ref je, .ref jg, .ref qpa, .int pcn, .int ipn, .ref jt, .ref jr, .ref j1, .ref j2, .ref qsa], eR qsa ksa 4 fsa, eO s0 6 [.int so0, .int sn0, .ref si0], eI si0 ksi0 60 fsi0, eO s1 6 [.int so1, .int sn1, .ref si1], eI si1 ksi1 60 fsi1, eI si2 ksi2 60 fsi2, eO s3 6 [.int so3, .int sn3, .ref si3], eI si3 ksi3 60 fsi3, eO s2 6 [.int so2, .int sn2, .ref si2]]) hP hD [(9, 1)] [(0, 9)] hCm hNw (by decide +kernel) hk1 hFc hP1 hD1 rfl
                  have hK := KJ_s (tys' := [(ksa, .object "ClearingGates$Sheet"), (ksi0, .int), (ksi1, .int), (ksi2, .int), (ksi3, .int)]) hK hK1 [(0, 5)] rfl
                  generalize H1 = H at hP hS ⊢
                  rcases hw with ⟨e_r154, f_r154⟩ | ⟨e_r154, f_r154⟩
                  · subst e_r154
                    refine lv_if_ne (tgt := 94) hx hb dX9_copy_88 (by decide) (fun c155 => ?_) (fun c155 => absurd c155 (by decide))
                    refine lv_aload hx hb dX9_copy_94 (lv_at hl 1 rfl) ?_
                    refine va_get (D := (dC, dI)) (ci := 6) (v := .ref si2) (C := RX7) (T := TX7) (N := 3) hx hb hts (fun w h => List.mem_cons_of_mem _ (inlX7 w h)) hown hK hP 9 rfl rfl 2 (by decide) (hts (.fieldLink RX9 276 "ClearingGates$Sheet" "items" "[I") (List.mem_cons_of_mem _ mw_207)) (fun _ h9 => h9) rfl dX9_copy_96 ?_
                    refine lv_iload_n hx hb dX9_copy_99 rfl (lv_at hl 4 rfl) ?_
                    refine lv_aload hx hb dX9_copy_100 (lv_at hl 0 rfl) ?_
                    refine va_get (D := (dC, dI)) (ci := 6) (v := .ref si2) (C := RX7) (T := TX7) (N := 3) hx hb hts (fun w h => List.mem_cons_of_mem _ (inlX7 w h)) hown hK hP 9 rfl rfl 2 (by decide) (hts (.fieldLink RX9 276 "ClearingGates$Sheet" "items" "[I") (List.mem_cons_of_mem _ mw_207)) (fun _ h9 => h9) rfl dX9_copy_102 ?_
                    refine lv_iload hx hb dX9_copy_105 (lv_at hl 6 rfl) ?_
                    refine lv_iload hx hb dX9_copy_107 (lv_at hl 7 rfl) ?_
                    refine va_copyi (D := (dC, dI)) hx hb (hml.trans hl.1.symm) hown (hts (.methodLink RX9 279 arraycopyName) (List.mem_cons_of_mem _ mw_597)) (hts (.native arraycopyName) (List.mem_cons_of_mem _ mw_330)) (hts (.static arraycopyName) (List.mem_cons_of_mem _ mw_329)) (hts (.initialized "java/lang/System") (List.mem_cons_of_mem _ mw_80)) hK hP hD hS 6 6 3 3 rfl rfl rfl rfl rfl (fun q => by have := i_lt q; omega) (fun q => by have := i_lt q; omega) (fun q => by have := i_lt q; omega) (by have e1 := i_natZ (x := p1) (by omega); have e2 := i_natZ (x := p4) (by omega); omega) (by have e1 := i_natZ (x := p3) (by omega); have e2 := i_natZ (x := p4) (by omega); omega) (fun _ _ => rfl) (Nat.le_of_ble_eq_true rfl) (by decide) dX9_copy_109 (fun H locs hP hD hS => ?_)
                    generalize e_g156 : (va_cpy fsi2 fsi2 (p1 : Int32).toNatClampNeg (p3 : Int32).toNatClampNeg (p4 : Int32).toNatClampNeg) = g156 at hP hD
                    obtain ⟨hP, hD⟩ := X_s (ws' := [eO h0 8 [.ref jb, .ref ji, .ref jd, .ref je, .ref jg, .ref qpa, .int pcn, .int ipn, .ref jt, .ref jr, .ref j1, .ref j2, .ref qsa], eR qsa ksa 4 fsa, eO s0 6 [.int so0, .int sn0, .ref si0], eI si0 ksi0 60 fsi0, eO s1 6 [.int so1, .int sn1, .ref si1], eI si1 ksi1 60 fsi1, eI si2 ksi2 60 g156, eO s3 6 [.int so3, .int sn3, .ref si3], eI si3 ksi3 60 fsi3, eO s2 6 [.int so2, .int sn2, .ref si2]]) hP hD rfl
                    refine lv_iload hx hb dX9_copy_112 (lv_at hl 7 rfl) ?_
                    rw [hQ9]
                    exact W.iret (v := p4) hx hb hr (fun t ht hW => ⟨⟨p4, (), rfl, (by first | rfl | trivial), fsi0, fsi1, g156, fsi3, by rw [ht]; exact P_s hP [(0, 6), (9, 1), (6, 3)] rfl, va_K.moved hW.alike hK, D_s hD [(0, 6), (9, 1), (6, 3)] 10 rfl (by decide +kernel) rfl⟩, hS.F ht⟩) hS.2.2 dX9_copy_114
                  · subst e_r154
                    refine lv_if_ne (tgt := 94) hx hb dX9_copy_88 (by decide) (fun c157 => absurd (by decide) c157) (fun c157 => ?_)
                    refine lv_bipush (v := -12) hx hb dX9_copy_91 (by decide) ?_
                    rw [hQ9]
                    exact W.iret (v := (-12)) hx hb hr (fun t ht hW => ⟨⟨(-12), (), rfl, (by first | rfl | trivial), fsi0, fsi1, fsi2, fsi3, by rw [ht]; exact P_s hP [(0, 6), (9, 1), (6, 3)] rfl, va_K.moved hW.alike hK, D_s hD [(0, 6), (9, 1), (6, 3)] 10 rfl (by decide +kernel) rfl⟩, hS.F ht⟩) hS.2.2 dX9_copy_93
                · subst e_r152
                  refine lv_if_eq (tgt := 91) hx hb dX9_copy_76 (by decide) (fun c158 => ?_) (fun c158 => absurd (by decide) c158)
                  refine lv_bipush (v := -12) hx hb dX9_copy_91 (by decide) ?_
                  rw [hQ9]
                  exact W.iret (v := (-12)) hx hb hr (fun t ht hW => ⟨⟨(-12), (), rfl, (by first | rfl | trivial), fsi0, fsi1, fsi2, fsi3, by rw [ht]; exact P_s hP [(0, 6), (9, 1), (6, 3)] rfl, va_K.moved hW.alike hK, D_s hD [(0, 6), (9, 1), (6, 3)] 10 rfl (by decide +kernel) rfl⟩, hS.F ht⟩) hS.2.2 dX9_copy_93
              · skip
                have f_c151 := i_ne c151
                refine lv_bipush (v := -13) hx hb dX9_copy_65 (by decide) ?_
                rw [hQ9]
                exact W.iret (v := (-13)) hx hb hr (fun t ht hW => ⟨⟨(-13), (), rfl, (by first | rfl | trivial), fsi0, fsi1, fsi2, fsi3, by rw [ht]; exact P_s hP [(0, 6), (9, 1), (6, 3)] rfl, va_K.moved hW.alike hK, D_s hD [(0, 6), (9, 1), (6, 3)] 10 rfl (by decide +kernel) rfl⟩, hS.F ht⟩) hS.2.2 dX9_copy_67
        · rw [show va_rf (fsa p2.toNatClampNeg) = .ref s3 from by rw [i_nat j0, vsa3]; rfl]
          refine lv_astore (lv' := [(7, .ref s3), (6, .ref s2), (0, .ref h0), (1, .int p0), (2, .int p1), (3, .int p2), (4, .int p3), (5, .int p4)]) hx hb dX9_copy_31 hl (by decide) rfl (fun ls hl => ?_)
          refine lv_aload hx hb dX9_copy_33 (lv_at hl 1 rfl) ?_
          obtain ⟨hPc, hDc, hFc, hCm, hNw⟩ := C_s (wc := [eO s2 6 [.int so2, .int sn2, .ref si2]]) hP hD hS hA [(6, 1)] 10 rfl (by decide +kernel) rfl
          have hKc := K_s (tys' := []) hK [] rfl
          refine va_calli (va_runV (As := []) (rest := []) ⟨hx, hb, hml, hown, hts⟩ (c_X7_isMissing l dC dI s2 so2 sn2 si2 H.size) (cwV 0 hts gX9_copy_X7_isMissing rfl rfl rfl (by decide +kernel) ⟨Nat.le_of_ble_eq_true rfl, Nat.le_of_ble_eq_true rfl⟩) ⟨fun a U g mk q => by obtain ⟨q0, q1, qP, qK, qD⟩ := q; exact ⟨q0, q1, qP, va_K.moved (u := U) (U := U.calling g mk a) (Vm.Alike.refl U.vm) qK, qD⟩, va_recv (s := s) (q := (RX7, TX7, 3)) hKc hPc (ci := 6) (q0 := 0) rfl rfl, fun U hU hW => ⟨rfl, by rw [hU], by rw [hU]; exact hPc, va_K.moved hW.alike hKc, hDc.weaken (fun _ _ _ _ => trivial)⟩⟩ rfl rfl hl.1 rfl (lv_room (Nat.le_of_ble_eq_true rfl)) dX9_copy_35 ⟨Nat.le_of_ble_eq_true rfl, Nat.le_of_ble_eq_true rfl⟩) hS (fun q _ h => hFc q h) hFc (fun r159 u t H1 locs ht hvm hw hB hz1 hk1 hS => ?_)
          obtain ⟨hP1, hK1, hD1⟩ := hB
          rw [ht] at hP1
          have hK1 := va_K.moved hvm.symm hK1
          try dsimp only at hw
          obtain ⟨hP, hD⟩ := J_s (wL := [eO h0 8 [.ref jb, .ref ji, .ref jd, .ref je, .ref jg, .ref qpa, .int pcn, .int ipn, .ref jt, .ref jr, .ref j1, .ref j2, .ref qsa], eR qsa ksa 4 fsa, eO s0 6 [.int so0, .int sn0, .ref si0], eI si0 ksi0 60 fsi0, eO s1 6 [.int so1, .int sn1, .ref si1], eI si1 ksi1 60 fsi1, eI si2 ksi2 60 fsi2, eO s3 6 [.int so3, .int sn3, .ref si3], eI si3 ksi3 60 fsi3, eO s2 6 [.int so2, .int sn2, .ref si2]]) hP hD [(6, 1)] [(0, 6), (7, 3)] hCm hNw (by decide +kernel) hk1 hFc hP1 hD1 rfl
          have hK := KJ_s (tys' := [(ksa, .object "ClearingGates$Sheet"), (ksi0, .int), (ksi1, .int), (ksi2, .int), (ksi3, .int)]) hK hK1 [(0, 5)] rfl
          generalize H1 = H at hP hS ⊢
          rcases hw with ⟨e_r159, f_r159⟩ | ⟨e_r159, f_r159⟩
          · subst e_r159
            refine lv_if_ne (tgt := 49) hx hb dX9_copy_38 (by decide) (fun c160 => ?_) (fun c160 => absurd c160 (by decide))
            refine lv_bipush (v := -11) hx hb dX9_copy_49 (by decide) ?_
            rw [hQ9]
            exact W.iret (v := (-11)) hx hb hr (fun t ht hW => ⟨⟨(-11), (), rfl, (by first | rfl | trivial), fsi0, fsi1, fsi2, fsi3, by rw [ht]; exact P_s hP [(0, 6), (9, 1), (6, 3)] rfl, va_K.moved hW.alike hK, D_s hD [(0, 6), (9, 1), (6, 3)] 10 rfl (by decide +kernel) rfl⟩, hS.F ht⟩) hS.2.2 dX9_copy_51
          · subst e_r159
            refine lv_if_ne (tgt := 49) hx hb dX9_copy_38 (by decide) (fun c161 => absurd (by decide) c161) (fun c161 => ?_)
            refine lv_aload hx hb dX9_copy_41 (lv_at hl 0 rfl) ?_
            obtain ⟨hPc, hDc, hFc, hCm, hNw⟩ := C_s (wc := [eO s3 6 [.int so3, .int sn3, .ref si3]]) hP hD hS hA [(7, 1)] 10 rfl (by decide +kernel) rfl
            have hKc := K_s (tys' := []) hK [] rfl
            refine va_calli (va_runV (As := []) (rest := []) ⟨hx, hb, hml, hown, hts⟩ (c_X7_isMissing l dC dI s3 so3 sn3 si3 H.size) (cwV 0 hts gX9_copy_X7_isMissing rfl rfl rfl (by decide +kernel) ⟨Nat.le_of_ble_eq_true rfl, Nat.le_of_ble_eq_true rfl⟩) ⟨fun a U g mk q => by obtain ⟨q0, q1, qP, qK, qD⟩ := q; exact ⟨q0, q1, qP, va_K.moved (u := U) (U := U.calling g mk a) (Vm.Alike.refl U.vm) qK, qD⟩, va_recv (s := s) (q := (RX7, TX7, 3)) hKc hPc (ci := 6) (q0 := 0) rfl rfl, fun U hU hW => ⟨rfl, by rw [hU], by rw [hU]; exact hPc, va_K.moved hW.alike hKc, hDc.weaken (fun _ _ _ _ => trivial)⟩⟩ rfl rfl hl.1 rfl (lv_room (Nat.le_of_ble_eq_true rfl)) dX9_copy_43 ⟨Nat.le_of_ble_eq_true rfl, Nat.le_of_ble_eq_true rfl⟩) hS (fun q _ h => hFc q h) hFc (fun r162 u t H1 locs ht hvm hw hB hz1 hk1 hS => ?_)
            obtain ⟨hP1, hK1, hD1⟩ := hB
            rw [ht] at hP1
            have hK1 := va_K.moved hvm.symm hK1
            try dsimp only at hw
            obtain ⟨hP, hD⟩ := J_s (wL := [eO h0 8 [.ref jb, .ref ji, .ref jd, .ref je, .ref jg, .ref qpa, .int pcn, .int ipn, .ref jt, .ref jr, .ref j1, .ref j2, .ref qsa], eR qsa ksa 4 fsa, eO s0 6 [.int so0, .int sn0, .ref si0], eI si0 ksi0 60 fsi0, eO s1 6 [.int so1, .int sn1, .ref si1], eI si1 ksi1 60 fsi1, eI si2 ksi2 60 fsi2, eI si3 ksi3 60 fsi3, eO s2 6 [.int so2, .int sn2, .ref si2], eO s3 6 [.int so3, .int sn3, .ref si3]]) hP hD [(7, 1)] [(0, 7), (8, 2)] hCm hNw (by decide +kernel) hk1 hFc hP1 hD1 rfl
            have hK := KJ_s (tys' := [(ksa, .object "ClearingGates$Sheet"), (ksi0, .int), (ksi1, .int), (ksi2, .int), (ksi3, .int)]) hK hK1 [(0, 5)] rfl
            generalize H1 = H at hP hS ⊢
            rcases hw with ⟨e_r162, f_r162⟩ | ⟨e_r162, f_r162⟩
            · subst e_r162
              refine lv_if_eq (tgt := 52) hx hb dX9_copy_46 (by decide) (fun c163 => absurd c163 (by decide)) (fun c163 => ?_)
              refine lv_bipush (v := -11) hx hb dX9_copy_49 (by decide) ?_
              rw [hQ9]
              exact W.iret (v := (-11)) hx hb hr (fun t ht hW => ⟨⟨(-11), (), rfl, (by first | rfl | trivial), fsi0, fsi1, fsi2, fsi3, by rw [ht]; exact P_s hP [(0, 6), (8, 1), (6, 1), (9, 1), (7, 1)] rfl, va_K.moved hW.alike hK, D_s hD [(0, 6), (8, 1), (6, 1), (9, 1), (7, 1)] 10 rfl (by decide +kernel) rfl⟩, hS.F ht⟩) hS.2.2 dX9_copy_51
            · subst e_r162
              refine lv_if_eq (tgt := 52) hx hb dX9_copy_46 (by decide) (fun c164 => ?_) (fun c164 => absurd (by decide) c164)
              refine lv_aload hx hb dX9_copy_52 (lv_at hl 1 rfl) ?_
              refine va_get (D := (dC, dI)) (ci := 6) (v := .int so2) (C := RX7) (T := TX7) (N := 3) hx hb hts (fun w h => List.mem_cons_of_mem _ (inlX7 w h)) hown hK hP 8 rfl rfl 0 (by decide) (hts (.fieldLink RX9 270 "ClearingGates$Sheet" "sort" "I") (List.mem_cons_of_mem _ mw_203)) (fun _ h9 => h9) rfl dX9_copy_54 ?_
              refine lv_aload hx hb dX9_copy_57 (lv_at hl 0 rfl) ?_
              refine va_get (D := (dC, dI)) (ci := 6) (v := .int so3) (C := RX7) (T := TX7) (N := 3) hx hb hts (fun w h => List.mem_cons_of_mem _ (inlX7 w h)) hown hK hP 9 rfl rfl 0 (by decide) (hts (.fieldLink RX9 270 "ClearingGates$Sheet" "sort" "I") (List.mem_cons_of_mem _ mw_203)) (fun _ h9 => h9) rfl dX9_copy_59 ?_
              refine lv_icmp_eq (tgt := 68) hx hb dX9_copy_62 (by decide) (fun c165 => ?_) (fun c165 => ?_)
              · skip
                have f_c165 := i_eq c165
                refine lv_aload hx hb dX9_copy_68 (lv_at hl 1 rfl) ?_
                refine lv_iload_n hx hb dX9_copy_70 rfl (lv_at hl 4 rfl) ?_
                refine lv_iload hx hb dX9_copy_71 (lv_at hl 7 rfl) ?_
                obtain ⟨hPc, hDc, hFc, hCm, hNw⟩ := C_s (wc := [eO s2 6 [.int so2, .int sn2, .ref si2]]) hP hD hS hA [(8, 1)] 10 rfl (by decide +kernel) rfl
                have hKc := K_s (tys' := []) hK [] rfl
                refine va_calli (va_runV (As := [.int p1, .int p4]) (rest := []) ⟨hx, hb, hml, hown, hts⟩ (c_X7_hasStretch l dC dI s2 p1 p4 so2 sn2 si2 H.size vs2a vs2b) (cwV 2 hts gX9_copy_X7_hasStretch rfl rfl rfl (by decide +kernel) ⟨Nat.le_of_ble_eq_true rfl, Nat.le_of_ble_eq_true rfl⟩) ⟨fun a U g mk q => by obtain ⟨q0, q1, qP, qK, qD⟩ := q; exact ⟨q0, q1, qP, va_K.moved (u := U) (U := U.calling g mk a) (Vm.Alike.refl U.vm) qK, qD⟩, va_recv (s := s) (q := (RX7, TX7, 3)) hKc hPc (ci := 6) (q0 := 0) rfl rfl, fun U hU hW => ⟨rfl, by rw [hU], by rw [hU]; exact hPc, va_K.moved hW.alike hKc, hDc.weaken (fun _ _ _ _ => trivial)⟩⟩ rfl rfl hl.1 rfl (lv_room (Nat.le_of_ble_eq_true rfl)) dX9_copy_73 ⟨Nat.le_of_ble_eq_true rfl, Nat.le_of_ble_eq_true rfl⟩) hS (fun q _ h => hFc q h) hFc (fun r166 u t H1 locs ht hvm hw hB hz1 hk1 hS => ?_)
                obtain ⟨hP1, hK1, hD1⟩ := hB
                rw [ht] at hP1
                have hK1 := va_K.moved hvm.symm hK1
                try dsimp only at hw
                obtain ⟨hP, hD⟩ := J_s (wL := [eO h0 8 [.ref jb, .ref ji, .ref jd, .ref je, .ref jg, .ref qpa, .int pcn, .int ipn, .ref jt, .ref jr, .ref j1, .ref j2, .ref qsa], eR qsa ksa 4 fsa, eO s0 6 [.int so0, .int sn0, .ref si0], eI si0 ksi0 60 fsi0, eO s1 6 [.int so1, .int sn1, .ref si1], eI si1 ksi1 60 fsi1, eI si2 ksi2 60 fsi2, eI si3 ksi3 60 fsi3, eO s3 6 [.int so3, .int sn3, .ref si3], eO s2 6 [.int so2, .int sn2, .ref si2]]) hP hD [(8, 1)] [(0, 8), (9, 1)] hCm hNw (by decide +kernel) hk1 hFc hP1 hD1 rfl
                have hK := KJ_s (tys' := [(ksa, .object "ClearingGates$Sheet"), (ksi0, .int), (ksi1, .int), (ksi2, .int), (ksi3, .int)]) hK hK1 [(0, 5)] rfl
                generalize H1 = H at hP hS ⊢
                rcases hw with ⟨e_r166, f_r166⟩ | ⟨e_r166, f_r166⟩
                · subst e_r166
                  refine lv_if_eq (tgt := 91) hx hb dX9_copy_76 (by decide) (fun c167 => absurd c167 (by decide)) (fun c167 => ?_)
                  refine lv_aload hx hb dX9_copy_79 (lv_at hl 0 rfl) ?_
                  refine lv_iload hx hb dX9_copy_81 (lv_at hl 6 rfl) ?_
                  refine lv_iload hx hb dX9_copy_83 (lv_at hl 7 rfl) ?_
                  obtain ⟨hPc, hDc, hFc, hCm, hNw⟩ := C_s (wc := [eO s3 6 [.int so3, .int sn3, .ref si3]]) hP hD hS hA [(8, 1)] 10 rfl (by decide +kernel) rfl
                  have hKc := K_s (tys' := []) hK [] rfl
                  refine va_calli (va_runV (As := [.int p3, .int p4]) (rest := []) ⟨hx, hb, hml, hown, hts⟩ (c_X7_hasStretch l dC dI s3 p3 p4 so3 sn3 si3 H.size vs3a vs3b) (cwV 2 hts gX9_copy_X7_hasStretch rfl rfl rfl (by decide +kernel) ⟨Nat.le_of_ble_eq_true rfl, Nat.le_of_ble_eq_true rfl⟩) ⟨fun a U g mk q => by obtain ⟨q0, q1, qP, qK, qD⟩ := q; exact ⟨q0, q1, qP, va_K.moved (u := U) (U := U.calling g mk a) (Vm.Alike.refl U.vm) qK, qD⟩, va_recv (s := s) (q := (RX7, TX7, 3)) hKc hPc (ci := 6) (q0 := 0) rfl rfl, fun U hU hW => ⟨rfl, by rw [hU], by rw [hU]; exact hPc, va_K.moved hW.alike hKc, hDc.weaken (fun _ _ _ _ => trivial)⟩⟩ rfl rfl hl.1 rfl (lv_room (Nat.le_of_ble_eq_true rfl)) dX9_copy_85 ⟨Nat.le_of_ble_eq_true rfl, Nat.le_of_ble_eq_true rfl⟩) hS (fun q _ h => hFc q h) hFc (fun r168 u t H1 locs ht hvm hw hB hz1 hk1 hS => ?_)
                  obtain ⟨hP1, hK1, hD1⟩ := hB
                  rw [ht] at hP1
                  have hK1 := va_K.moved hvm.symm hK1
                  try dsimp only at hw
                  obtain ⟨hP, hD⟩ := J_s (wL := [eO h0 8 [.ref jb, .ref ji, .ref jd, .ref je, .ref jg, .ref qpa, .int pcn, .int ipn, .ref jt, .ref jr, .ref j1, .ref j2, .ref qsa], eR qsa ksa 4 fsa, eO s0 6 [.int so0, .int sn0, .ref si0], eI si0 ksi0 60 fsi0, eO s1 6 [.int so1, .int sn1, .ref si1], eI si1 ksi1 60 fsi1, eI si2 ksi2 60 fsi2, eI si3 ksi3 60 fsi3, eO s2 6 [.int so2, .int sn2, .ref si2], eO s3 6 [.int so3, .int sn3, .ref si3]]) hP hD [(8, 1)] [(0, 8), (9, 1)] hCm hNw (by decide +kernel) hk1 hFc hP1 hD1 rfl
                  have hK := KJ_s (tys' := [(ksa, .object "ClearingGates$Sheet"), (ksi0, .int), (ksi1, .int), (ksi2, .int), (ksi3, .int)]) hK hK1 [(0, 5)] rfl
                  generalize H1 = H at hP hS ⊢
                  rcases hw with ⟨e_r168, f_r168⟩ | ⟨e_r168, f_r168⟩
                  · subst e_r168
                    refine lv_if_ne (tgt := 94) hx hb dX9_copy_88 (by decide) (fun c169 => ?_) (fun c169 => absurd c169 (by decide))
                    refine lv_aload hx hb dX9_copy_94 (lv_at hl 1 rfl) ?_
                    refine va_get (D := (dC, dI)) (ci := 6) (v := .ref si2) (C := RX7) (T := TX7) (N := 3) hx hb hts (fun w h => List.mem_cons_of_mem _ (inlX7 w h)) hown hK hP 8 rfl rfl 2 (by decide) (hts (.fieldLink RX9 276 "ClearingGates$Sheet" "items" "[I") (List.mem_cons_of_mem _ mw_207)) (fun _ h9 => h9) rfl dX9_copy_96 ?_
                    refine lv_iload_n hx hb dX9_copy_99 rfl (lv_at hl 4 rfl) ?_
                    refine lv_aload hx hb dX9_copy_100 (lv_at hl 0 rfl) ?_
                    refine va_get (D := (dC, dI)) (ci := 6) (v := .ref si3) (C := RX7) (T := TX7) (N := 3) hx hb hts (fun w h => List.mem_cons_of_mem _ (inlX7 w h)) hown hK hP 9 rfl rfl 2 (by decide) (hts (.fieldLink RX9 276 "ClearingGates$Sheet" "items" "[I") (List.mem_cons_of_mem _ mw_207)) (fun _ h9 => h9) rfl dX9_copy_102 ?_
                    refine lv_iload hx hb dX9_copy_105 (lv_at hl 6 rfl) ?_
                    refine lv_iload hx hb dX9_copy_107 (lv_at hl 7 rfl) ?_
                    refine va_copyi (D := (dC, dI)) hx hb (hml.trans hl.1.symm) hown (hts (.methodLink RX9 279 arraycopyName) (List.mem_cons_of_mem _ mw_597)) (hts (.native arraycopyName) (List.mem_cons_of_mem _ mw_330)) (hts (.static arraycopyName) (List.mem_cons_of_mem _ mw_329)) (hts (.initialized "java/lang/System") (List.mem_cons_of_mem _ mw_80)) hK hP hD hS 6 7 3 4 rfl rfl rfl rfl rfl (fun q => by have := i_lt q; omega) (fun q => by have := i_lt q; omega) (fun q => by have := i_lt q; omega) (by have e1 := i_natZ (x := p1) (by omega); have e2 := i_natZ (x := p4) (by omega); omega) (by have e1 := i_natZ (x := p3) (by omega); have e2 := i_natZ (x := p4) (by omega); omega) (fun _ _ => rfl) (Nat.le_of_ble_eq_true rfl) (by decide) dX9_copy_109 (fun H locs hP hD hS => ?_)
                    generalize e_g170 : (va_cpy fsi2 fsi3 (p1 : Int32).toNatClampNeg (p3 : Int32).toNatClampNeg (p4 : Int32).toNatClampNeg) = g170 at hP hD
                    obtain ⟨hP, hD⟩ := X_s (ws' := [eO h0 8 [.ref jb, .ref ji, .ref jd, .ref je, .ref jg, .ref qpa, .int pcn, .int ipn, .ref jt, .ref jr, .ref j1, .ref j2, .ref qsa], eR qsa ksa 4 fsa, eO s0 6 [.int so0, .int sn0, .ref si0], eI si0 ksi0 60 fsi0, eO s1 6 [.int so1, .int sn1, .ref si1], eI si1 ksi1 60 fsi1, eI si2 ksi2 60 fsi2, eI si3 ksi3 60 g170, eO s2 6 [.int so2, .int sn2, .ref si2], eO s3 6 [.int so3, .int sn3, .ref si3]]) hP hD rfl
                    refine lv_iload hx hb dX9_copy_112 (lv_at hl 7 rfl) ?_
                    rw [hQ9]
                    exact W.iret (v := p4) hx hb hr (fun t ht hW => ⟨⟨p4, (), rfl, (by first | rfl | trivial), fsi0, fsi1, fsi2, g170, by rw [ht]; exact P_s hP [(0, 6), (8, 1), (6, 1), (9, 1), (7, 1)] rfl, va_K.moved hW.alike hK, D_s hD [(0, 6), (8, 1), (6, 1), (9, 1), (7, 1)] 10 rfl (by decide +kernel) rfl⟩, hS.F ht⟩) hS.2.2 dX9_copy_114
                  · subst e_r168
                    refine lv_if_ne (tgt := 94) hx hb dX9_copy_88 (by decide) (fun c171 => absurd (by decide) c171) (fun c171 => ?_)
                    refine lv_bipush (v := -12) hx hb dX9_copy_91 (by decide) ?_
                    rw [hQ9]
                    exact W.iret (v := (-12)) hx hb hr (fun t ht hW => ⟨⟨(-12), (), rfl, (by first | rfl | trivial), fsi0, fsi1, fsi2, fsi3, by rw [ht]; exact P_s hP [(0, 6), (8, 1), (6, 1), (9, 1), (7, 1)] rfl, va_K.moved hW.alike hK, D_s hD [(0, 6), (8, 1), (6, 1), (9, 1), (7, 1)] 10 rfl (by decide +kernel) rfl⟩, hS.F ht⟩) hS.2.2 dX9_copy_93
                · subst e_r166
                  refine lv_if_eq (tgt := 91) hx hb dX9_copy_76 (by decide) (fun c172 => ?_) (fun c172 => absurd (by decide) c172)
                  refine lv_bipush (v := -12) hx hb dX9_copy_91 (by decide) ?_
                  rw [hQ9]
                  exact W.iret (v := (-12)) hx hb hr (fun t ht hW => ⟨⟨(-12), (), rfl, (by first | rfl | trivial), fsi0, fsi1, fsi2, fsi3, by rw [ht]; exact P_s hP [(0, 6), (9, 1), (6, 1), (8, 1), (7, 1)] rfl, va_K.moved hW.alike hK, D_s hD [(0, 6), (9, 1), (6, 1), (8, 1), (7, 1)] 10 rfl (by decide +kernel) rfl⟩, hS.F ht⟩) hS.2.2 dX9_copy_93
              · skip
                have f_c165 := i_ne c165
                refine lv_bipush (v := -13) hx hb dX9_copy_65 (by decide) ?_
                rw [hQ9]
                exact W.iret (v := (-13)) hx hb hr (fun t ht hW => ⟨⟨(-13), (), rfl, (by first | rfl | trivial), fsi0, fsi1, fsi2, fsi3, by rw [ht]; exact P_s hP [(0, 6), (8, 1), (6, 1), (9, 1), (7, 1)] rfl, va_K.moved hW.alike hK, D_s hD [(0, 6), (8, 1), (6, 1), (9, 1), (7, 1)] 10 rfl (by decide +kernel) rfl⟩, hS.F ht⟩) hS.2.2 dX9_copy_67
      · rw [show va_rf (fsa p0.toNatClampNeg) = .ref s3 from by rw [i_nat j0, vsa3]; rfl]
        refine lv_astore (lv' := [(6, .ref s3), (0, .ref h0), (1, .int p0), (2, .int p1), (3, .int p2), (4, .int p3), (5, .int p4)]) hx hb dX9_copy_23 hl (by decide) rfl (fun ls hl => ?_)
        refine lv_aload_n hx hb dX9_copy_25 rfl (lv_at hl 1 rfl) ?_
        refine va_get (D := (dC, dI)) (ci := 8) (v := .ref qsa) (C := RX9) (T := TX9) (N := 13) hx hb hts (fun w h => List.mem_cons_of_mem _ (inlX9 w h)) hown hK hP 0 rfl rfl 12 (by decide) (hts (.fieldLink RX9 79 "ClearingGates" "sheets" "[LClearingGates$Sheet;") (List.mem_cons_of_mem _ mw_220)) (fun _ h9 => h9) rfl dX9_copy_26 ?_
        refine lv_iload_n hx hb dX9_copy_29 rfl (lv_at hl 4 rfl) ?_
        refine va_aldq (D := (dC, dI)) hx hb hK hP 1 0 rfl rfl (vp_in_iff.mpr ⟨by omega, by omega⟩) dX9_copy_30 ?_
        rcases i4 (x := p2) (by omega) (by omega) with j0 | j0 | j0 | j0
        · rw [show va_rf (fsa p2.toNatClampNeg) = .ref s0 from by rw [i_nat j0, vsa0]; rfl]
          refine lv_astore (lv' := [(7, .ref s0), (6, .ref s3), (0, .ref h0), (1, .int p0), (2, .int p1), (3, .int p2), (4, .int p3), (5, .int p4)]) hx hb dX9_copy_31 hl (by decide) rfl (fun ls hl => ?_)
          refine lv_aload hx hb dX9_copy_33 (lv_at hl 1 rfl) ?_
          obtain ⟨hPc, hDc, hFc, hCm, hNw⟩ := C_s (wc := [eO s3 6 [.int so3, .int sn3, .ref si3]]) hP hD hS hA [(8, 1)] 10 rfl (by decide +kernel) rfl
          have hKc := K_s (tys' := []) hK [] rfl
          refine va_calli (va_runV (As := []) (rest := []) ⟨hx, hb, hml, hown, hts⟩ (c_X7_isMissing l dC dI s3 so3 sn3 si3 H.size) (cwV 0 hts gX9_copy_X7_isMissing rfl rfl rfl (by decide +kernel) ⟨Nat.le_of_ble_eq_true rfl, Nat.le_of_ble_eq_true rfl⟩) ⟨fun a U g mk q => by obtain ⟨q0, q1, qP, qK, qD⟩ := q; exact ⟨q0, q1, qP, va_K.moved (u := U) (U := U.calling g mk a) (Vm.Alike.refl U.vm) qK, qD⟩, va_recv (s := s) (q := (RX7, TX7, 3)) hKc hPc (ci := 6) (q0 := 0) rfl rfl, fun U hU hW => ⟨rfl, by rw [hU], by rw [hU]; exact hPc, va_K.moved hW.alike hKc, hDc.weaken (fun _ _ _ _ => trivial)⟩⟩ rfl rfl hl.1 rfl (lv_room (Nat.le_of_ble_eq_true rfl)) dX9_copy_35 ⟨Nat.le_of_ble_eq_true rfl, Nat.le_of_ble_eq_true rfl⟩) hS (fun q _ h => hFc q h) hFc (fun r173 u t H1 locs ht hvm hw hB hz1 hk1 hS => ?_)
          obtain ⟨hP1, hK1, hD1⟩ := hB
          rw [ht] at hP1
          have hK1 := va_K.moved hvm.symm hK1
          try dsimp only at hw
          obtain ⟨hP, hD⟩ := J_s (wL := [eO h0 8 [.ref jb, .ref ji, .ref jd, .ref je, .ref jg, .ref qpa, .int pcn, .int ipn, .ref jt, .ref jr, .ref j1, .ref j2, .ref qsa], eR qsa ksa 4 fsa, eO s0 6 [.int so0, .int sn0, .ref si0], eI si0 ksi0 60 fsi0, eO s1 6 [.int so1, .int sn1, .ref si1], eI si1 ksi1 60 fsi1, eO s2 6 [.int so2, .int sn2, .ref si2], eI si2 ksi2 60 fsi2, eI si3 ksi3 60 fsi3, eO s3 6 [.int so3, .int sn3, .ref si3]]) hP hD [(8, 1)] [(0, 8), (9, 1)] hCm hNw (by decide +kernel) hk1 hFc hP1 hD1 rfl
          have hK := KJ_s (tys' := [(ksa, .object "ClearingGates$Sheet"), (ksi0, .int), (ksi1, .int), (ksi2, .int), (ksi3, .int)]) hK hK1 [(0, 5)] rfl
          generalize H1 = H at hP hS ⊢
          rcases hw with ⟨e_r173, f_r173⟩ | ⟨e_r173, f_r173⟩
          · subst e_r173
            refine lv_if_ne (tgt := 49) hx hb dX9_copy_38 (by decide) (fun c174 => ?_) (fun c174 => absurd c174 (by decide))
            refine lv_bipush (v := -11) hx hb dX9_copy_49 (by decide) ?_
            rw [hQ9]
            exact W.iret (v := (-11)) hx hb hr (fun t ht hW => ⟨⟨(-11), (), rfl, (by first | rfl | trivial), fsi0, fsi1, fsi2, fsi3, by rw [ht]; exact P_s hP [(0, 8), (9, 1), (8, 1)] rfl, va_K.moved hW.alike hK, D_s hD [(0, 8), (9, 1), (8, 1)] 10 rfl (by decide +kernel) rfl⟩, hS.F ht⟩) hS.2.2 dX9_copy_51
          · subst e_r173
            refine lv_if_ne (tgt := 49) hx hb dX9_copy_38 (by decide) (fun c175 => absurd (by decide) c175) (fun c175 => ?_)
            refine lv_aload hx hb dX9_copy_41 (lv_at hl 0 rfl) ?_
            obtain ⟨hPc, hDc, hFc, hCm, hNw⟩ := C_s (wc := [eO s0 6 [.int so0, .int sn0, .ref si0]]) hP hD hS hA [(2, 1)] 10 rfl (by decide +kernel) rfl
            have hKc := K_s (tys' := []) hK [] rfl
            refine va_calli (va_runV (As := []) (rest := []) ⟨hx, hb, hml, hown, hts⟩ (c_X7_isMissing l dC dI s0 so0 sn0 si0 H.size) (cwV 0 hts gX9_copy_X7_isMissing rfl rfl rfl (by decide +kernel) ⟨Nat.le_of_ble_eq_true rfl, Nat.le_of_ble_eq_true rfl⟩) ⟨fun a U g mk q => by obtain ⟨q0, q1, qP, qK, qD⟩ := q; exact ⟨q0, q1, qP, va_K.moved (u := U) (U := U.calling g mk a) (Vm.Alike.refl U.vm) qK, qD⟩, va_recv (s := s) (q := (RX7, TX7, 3)) hKc hPc (ci := 6) (q0 := 0) rfl rfl, fun U hU hW => ⟨rfl, by rw [hU], by rw [hU]; exact hPc, va_K.moved hW.alike hKc, hDc.weaken (fun _ _ _ _ => trivial)⟩⟩ rfl rfl hl.1 rfl (lv_room (Nat.le_of_ble_eq_true rfl)) dX9_copy_43 ⟨Nat.le_of_ble_eq_true rfl, Nat.le_of_ble_eq_true rfl⟩) hS (fun q _ h => hFc q h) hFc (fun r176 u t H1 locs ht hvm hw hB hz1 hk1 hS => ?_)
            obtain ⟨hP1, hK1, hD1⟩ := hB
            rw [ht] at hP1
            have hK1 := va_K.moved hvm.symm hK1
            try dsimp only at hw
            obtain ⟨hP, hD⟩ := J_s (wL := [eO h0 8 [.ref jb, .ref ji, .ref jd, .ref je, .ref jg, .ref qpa, .int pcn, .int ipn, .ref jt, .ref jr, .ref j1, .ref j2, .ref qsa], eR qsa ksa 4 fsa, eI si0 ksi0 60 fsi0, eO s1 6 [.int so1, .int sn1, .ref si1], eI si1 ksi1 60 fsi1, eO s2 6 [.int so2, .int sn2, .ref si2], eI si2 ksi2 60 fsi2, eI si3 ksi3 60 fsi3, eO s3 6 [.int so3, .int sn3, .ref si3], eO s0 6 [.int so0, .int sn0, .ref si0]]) hP hD [(2, 1)] [(0, 2), (3, 7)] hCm hNw (by decide +kernel) hk1 hFc hP1 hD1 rfl
            have hK := KJ_s (tys' := [(ksa, .object "ClearingGates$Sheet"), (ksi0, .int), (ksi1, .int), (ksi2, .int), (ksi3, .int)]) hK hK1 [(0, 5)] rfl
            generalize H1 = H at hP hS ⊢
            rcases hw with ⟨e_r176, f_r176⟩ | ⟨e_r176, f_r176⟩
            · subst e_r176
              refine lv_if_eq (tgt := 52) hx hb dX9_copy_46 (by decide) (fun c177 => absurd c177 (by decide)) (fun c177 => ?_)
              refine lv_bipush (v := -11) hx hb dX9_copy_49 (by decide) ?_
              rw [hQ9]
              exact W.iret (v := (-11)) hx hb hr (fun t ht hW => ⟨⟨(-11), (), rfl, (by first | rfl | trivial), fsi0, fsi1, fsi2, fsi3, by rw [ht]; exact P_s hP [(0, 2), (9, 1), (2, 5), (8, 1), (7, 1)] rfl, va_K.moved hW.alike hK, D_s hD [(0, 2), (9, 1), (2, 5), (8, 1), (7, 1)] 10 rfl (by decide +kernel) rfl⟩, hS.F ht⟩) hS.2.2 dX9_copy_51
            · subst e_r176
              refine lv_if_eq (tgt := 52) hx hb dX9_copy_46 (by decide) (fun c178 => ?_) (fun c178 => absurd (by decide) c178)
              refine lv_aload hx hb dX9_copy_52 (lv_at hl 1 rfl) ?_
              refine va_get (D := (dC, dI)) (ci := 6) (v := .int so3) (C := RX7) (T := TX7) (N := 3) hx hb hts (fun w h => List.mem_cons_of_mem _ (inlX7 w h)) hown hK hP 8 rfl rfl 0 (by decide) (hts (.fieldLink RX9 270 "ClearingGates$Sheet" "sort" "I") (List.mem_cons_of_mem _ mw_203)) (fun _ h9 => h9) rfl dX9_copy_54 ?_
              refine lv_aload hx hb dX9_copy_57 (lv_at hl 0 rfl) ?_
              refine va_get (D := (dC, dI)) (ci := 6) (v := .int so0) (C := RX7) (T := TX7) (N := 3) hx hb hts (fun w h => List.mem_cons_of_mem _ (inlX7 w h)) hown hK hP 9 rfl rfl 0 (by decide) (hts (.fieldLink RX9 270 "ClearingGates$Sheet" "sort" "I") (List.mem_cons_of_mem _ mw_203)) (fun _ h9 => h9) rfl dX9_copy_59 ?_
              refine lv_icmp_eq (tgt := 68) hx hb dX9_copy_62 (by decide) (fun c179 => ?_) (fun c179 => ?_)
              · skip
                have f_c179 := i_eq c179
                refine lv_aload hx hb dX9_copy_68 (lv_at hl 1 rfl) ?_
                refine lv_iload_n hx hb dX9_copy_70 rfl (lv_at hl 4 rfl) ?_
                refine lv_iload hx hb dX9_copy_71 (lv_at hl 7 rfl) ?_
                obtain ⟨hPc, hDc, hFc, hCm, hNw⟩ := C_s (wc := [eO s3 6 [.int so3, .int sn3, .ref si3]]) hP hD hS hA [(8, 1)] 10 rfl (by decide +kernel) rfl
                have hKc := K_s (tys' := []) hK [] rfl
                refine va_calli (va_runV (As := [.int p1, .int p4]) (rest := []) ⟨hx, hb, hml, hown, hts⟩ (c_X7_hasStretch l dC dI s3 p1 p4 so3 sn3 si3 H.size vs3a vs3b) (cwV 2 hts gX9_copy_X7_hasStretch rfl rfl rfl (by decide +kernel) ⟨Nat.le_of_ble_eq_true rfl, Nat.le_of_ble_eq_true rfl⟩) ⟨fun a U g mk q => by obtain ⟨q0, q1, qP, qK, qD⟩ := q; exact ⟨q0, q1, qP, va_K.moved (u := U) (U := U.calling g mk a) (Vm.Alike.refl U.vm) qK, qD⟩, va_recv (s := s) (q := (RX7, TX7, 3)) hKc hPc (ci := 6) (q0 := 0) rfl rfl, fun U hU hW => ⟨rfl, by rw [hU], by rw [hU]; exact hPc, va_K.moved hW.alike hKc, hDc.weaken (fun _ _ _ _ => trivial)⟩⟩ rfl rfl hl.1 rfl (lv_room (Nat.le_of_ble_eq_true rfl)) dX9_copy_73 ⟨Nat.le_of_ble_eq_true rfl, Nat.le_of_ble_eq_true rfl⟩) hS (fun q _ h => hFc q h) hFc (fun r180 u t H1 locs ht hvm hw hB hz1 hk1 hS => ?_)
                obtain ⟨hP1, hK1, hD1⟩ := hB
                rw [ht] at hP1
                have hK1 := va_K.moved hvm.symm hK1
                try dsimp only at hw
                obtain ⟨hP, hD⟩ := J_s (wL := [eO h0 8 [.ref jb, .ref ji, .ref jd, .ref je, .ref jg, .ref qpa, .int pcn, .int ipn, .ref jt, .ref jr, .ref j1, .ref j2, .ref qsa], eR qsa ksa 4 fsa, eI si0 ksi0 60 fsi0, eO s1 6 [.int so1, .int sn1, .ref si1], eI si1 ksi1 60 fsi1, eO s2 6 [.int so2, .int sn2, .ref si2], eI si2 ksi2 60 fsi2, eI si3 ksi3 60 fsi3, eO s0 6 [.int so0, .int sn0, .ref si0], eO s3 6 [.int so3, .int sn3, .ref si3]]) hP hD [(8, 1)] [(0, 8), (9, 1)] hCm hNw (by decide +kernel) hk1 hFc hP1 hD1 rfl
                have hK := KJ_s (tys' := [(ksa, .object "ClearingGates$Sheet"), (ksi0, .int), (ksi1, .int), (ksi2, .int), (ksi3, .int)]) hK hK1 [(0, 5)] rfl
                generalize H1 = H at hP hS ⊢
                rcases hw with ⟨e_r180, f_r180⟩ | ⟨e_r180, f_r180⟩
                · subst e_r180
                  refine lv_if_eq (tgt := 91) hx hb dX9_copy_76 (by decide) (fun c181 => absurd c181 (by decide)) (fun c181 => ?_)
                  refine lv_aload hx hb dX9_copy_79 (lv_at hl 0 rfl) ?_
                  refine lv_iload hx hb dX9_copy_81 (lv_at hl 6 rfl) ?_
                  refine lv_iload hx hb dX9_copy_83 (lv_at hl 7 rfl) ?_
                  obtain ⟨hPc, hDc, hFc, hCm, hNw⟩ := C_s (wc := [eO s0 6 [.int so0, .int sn0, .ref si0]]) hP hD hS hA [(8, 1)] 10 rfl (by decide +kernel) rfl
                  have hKc := K_s (tys' := []) hK [] rfl
                  refine va_calli (va_runV (As := [.int p3, .int p4]) (rest := []) ⟨hx, hb, hml, hown, hts⟩ (c_X7_hasStretch l dC dI s0 p3 p4 so0 sn0 si0 H.size vs0a vs0b) (cwV 2 hts gX9_copy_X7_hasStretch rfl rfl rfl (by decide +kernel) ⟨Nat.le_of_ble_eq_true rfl, Nat.le_of_ble_eq_true rfl⟩) ⟨fun a U g mk q => by obtain ⟨q0, q1, qP, qK, qD⟩ := q; exact ⟨q0, q1, qP, va_K.moved (u := U) (U := U.calling g mk a) (Vm.Alike.refl U.vm) qK, qD⟩, va_recv (s := s) (q := (RX7, TX7, 3)) hKc hPc (ci := 6) (q0 := 0) rfl rfl, fun U hU hW => ⟨rfl, by rw [hU], by rw [hU]; exact hPc, va_K.moved hW.alike hKc, hDc.weaken (fun _ _ _ _ => trivial)⟩⟩ rfl rfl hl.1 rfl (lv_room (Nat.le_of_ble_eq_true rfl)) dX9_copy_85 ⟨Nat.le_of_ble_eq_true rfl, Nat.le_of_ble_eq_true rfl⟩) hS (fun q _ h => hFc q h) hFc (fun r182 u t H1 locs ht hvm hw hB hz1 hk1 hS => ?_)
                  obtain ⟨hP1, hK1, hD1⟩ := hB
                  rw [ht] at hP1
                  have hK1 := va_K.moved hvm.symm hK1
                  try dsimp only at hw
                  obtain ⟨hP, hD⟩ := J_s (wL := [eO h0 8 [.ref jb, .ref ji, .ref jd, .ref je, .ref jg, .ref qpa, .int pcn, .int ipn, .ref jt, .ref jr, .ref j1, .ref j2, .ref qsa], eR qsa ksa 4 fsa, eI si0 ksi0 60 fsi0, eO s1 6 [.int so1, .int sn1, .ref si1], eI si1 ksi1 60 fsi1, eO s2 6 [.int so2, .int sn2, .ref si2], eI si2 ksi2 60 fsi2, eI si3 ksi3 60 fsi3, eO s3 6 [.int so3, .int sn3, .ref si3], eO s0 6 [.int so0, .int sn0, .ref si0]]) hP hD [(8, 1)] [(0, 8), (9, 1)] hCm hNw (by decide +kernel) hk1 hFc hP1 hD1 rfl
                  have hK := KJ_s (tys' := [(ksa, .object "ClearingGates$Sheet"), (ksi0, .int), (ksi1, .int), (ksi2, .int), (ksi3, .int)]) hK hK1 [(0, 5)] rfl
                  generalize H1 = H at hP hS ⊢
                  rcases hw with ⟨e_r182, f_r182⟩ | ⟨e_r182, f_r182⟩
                  · subst e_r182
                    refine lv_if_ne (tgt := 94) hx hb dX9_copy_88 (by decide) (fun c183 => ?_) (fun c183 => absurd c183 (by decide))
                    refine lv_aload hx hb dX9_copy_94 (lv_at hl 1 rfl) ?_
                    refine va_get (D := (dC, dI)) (ci := 6) (v := .ref si3) (C := RX7) (T := TX7) (N := 3) hx hb hts (fun w h => List.mem_cons_of_mem _ (inlX7 w h)) hown hK hP 8 rfl rfl 2 (by decide) (hts (.fieldLink RX9 276 "ClearingGates$Sheet" "items" "[I") (List.mem_cons_of_mem _ mw_207)) (fun _ h9 => h9) rfl dX9_copy_96 ?_
                    refine lv_iload_n hx hb dX9_copy_99 rfl (lv_at hl 4 rfl) ?_
                    refine lv_aload hx hb dX9_copy_100 (lv_at hl 0 rfl) ?_
                    refine va_get (D := (dC, dI)) (ci := 6) (v := .ref si0) (C := RX7) (T := TX7) (N := 3) hx hb hts (fun w h => List.mem_cons_of_mem _ (inlX7 w h)) hown hK hP 9 rfl rfl 2 (by decide) (hts (.fieldLink RX9 276 "ClearingGates$Sheet" "items" "[I") (List.mem_cons_of_mem _ mw_207)) (fun _ h9 => h9) rfl dX9_copy_102 ?_
                    refine lv_iload hx hb dX9_copy_105 (lv_at hl 6 rfl) ?_
                    refine lv_iload hx hb dX9_copy_107 (lv_at hl 7 rfl) ?_
                    refine va_copyi (D := (dC, dI)) hx hb (hml.trans hl.1.symm) hown (hts (.methodLink RX9 279 arraycopyName) (List.mem_cons_of_mem _ mw_597)) (hts (.native arraycopyName) (List.mem_cons_of_mem _ mw_330)) (hts (.static arraycopyName) (List.mem_cons_of_mem _ mw_329)) (hts (.initialized "java/lang/System") (List.mem_cons_of_mem _ mw_80)) hK hP hD hS 7 2 4 1 rfl rfl rfl rfl rfl (fun q => by have := i_lt q; omega) (fun q => by have := i_lt q; omega) (fun q => by have := i_lt q; omega) (by have e1 := i_natZ (x := p1) (by omega); have e2 := i_natZ (x := p4) (by omega); omega) (by have e1 := i_natZ (x := p3) (by omega); have e2 := i_natZ (x := p4) (by omega); omega) (fun _ _ => rfl) (Nat.le_of_ble_eq_true rfl) (by decide) dX9_copy_109 (fun H locs hP hD hS => ?_)
                    generalize e_g184 : (va_cpy fsi3 fsi0 (p1 : Int32).toNatClampNeg (p3 : Int32).toNatClampNeg (p4 : Int32).toNatClampNeg) = g184 at hP hD
                    obtain ⟨hP, hD⟩ := X_s (ws' := [eO h0 8 [.ref jb, .ref ji, .ref jd, .ref je, .ref jg, .ref qpa, .int pcn, .int ipn, .ref jt, .ref jr, .ref j1, .ref j2, .ref qsa], eR qsa ksa 4 fsa, eI si0 ksi0 60 g184, eO s1 6 [.int so1, .int sn1, .ref si1], eI si1 ksi1 60 fsi1, eO s2 6 [.int so2, .int sn2, .ref si2], eI si2 ksi2 60 fsi2, eI si3 ksi3 60 fsi3, eO s3 6 [.int so3, .int sn3, .ref si3], eO s0 6 [.int so0, .int sn0, .ref si0]]) hP hD rfl
                    refine lv_iload hx hb dX9_copy_112 (lv_at hl 7 rfl) ?_
                    rw [hQ9]
                    exact W.iret (v := p4) hx hb hr (fun t ht hW => ⟨⟨p4, (), rfl, (by first | rfl | trivial), g184, fsi1, fsi2, fsi3, by rw [ht]; exact P_s hP [(0, 2), (9, 1), (2, 5), (8, 1), (7, 1)] rfl, va_K.moved hW.alike hK, D_s hD [(0, 2), (9, 1), (2, 5), (8, 1), (7, 1)] 10 rfl (by decide +kernel) rfl⟩, hS.F ht⟩) hS.2.2 dX9_copy_114
                  · subst e_r182
                    refine lv_if_ne (tgt := 94) hx hb dX9_copy_88 (by decide) (fun c185 => absurd (by decide) c185) (fun c185 => ?_)
                    refine lv_bipush (v := -12) hx hb dX9_copy_91 (by decide) ?_
                    rw [hQ9]
                    exact W.iret (v := (-12)) hx hb hr (fun t ht hW => ⟨⟨(-12), (), rfl, (by first | rfl | trivial), fsi0, fsi1, fsi2, fsi3, by rw [ht]; exact P_s hP [(0, 2), (9, 1), (2, 5), (8, 1), (7, 1)] rfl, va_K.moved hW.alike hK, D_s hD [(0, 2), (9, 1), (2, 5), (8, 1), (7, 1)] 10 rfl (by decide +kernel) rfl⟩, hS.F ht⟩) hS.2.2 dX9_copy_93
                · subst e_r180
                  refine lv_if_eq (tgt := 91) hx hb dX9_copy_76 (by decide) (fun c186 => ?_) (fun c186 => absurd (by decide) c186)
                  refine lv_bipush (v := -12) hx hb dX9_copy_91 (by decide) ?_
                  rw [hQ9]
                  exact W.iret (v := (-12)) hx hb hr (fun t ht hW => ⟨⟨(-12), (), rfl, (by first | rfl | trivial), fsi0, fsi1, fsi2, fsi3, by rw [ht]; exact P_s hP [(0, 2), (8, 1), (2, 5), (9, 1), (7, 1)] rfl, va_K.moved hW.alike hK, D_s hD [(0, 2), (8, 1), (2, 5), (9, 1), (7, 1)] 10 rfl (by decide +kernel) rfl⟩, hS.F ht⟩) hS.2.2 dX9_copy_93
              · skip
                have f_c179 := i_ne c179
                refine lv_bipush (v := -13) hx hb dX9_copy_65 (by decide) ?_
                rw [hQ9]
                exact W.iret (v := (-13)) hx hb hr (fun t ht hW => ⟨⟨(-13), (), rfl, (by first | rfl | trivial), fsi0, fsi1, fsi2, fsi3, by rw [ht]; exact P_s hP [(0, 2), (9, 1), (2, 5), (8, 1), (7, 1)] rfl, va_K.moved hW.alike hK, D_s hD [(0, 2), (9, 1), (2, 5), (8, 1), (7, 1)] 10 rfl (by decide +kernel) rfl⟩, hS.F ht⟩) hS.2.2 dX9_copy_67
        · rw [show va_rf (fsa p2.toNatClampNeg) = .ref s1 from by rw [i_nat j0, vsa1]; rfl]
          refine lv_astore (lv' := [(7, .ref s1), (6, .ref s3), (0, .ref h0), (1, .int p0), (2, .int p1), (3, .int p2), (4, .int p3), (5, .int p4)]) hx hb dX9_copy_31 hl (by decide) rfl (fun ls hl => ?_)
          refine lv_aload hx hb dX9_copy_33 (lv_at hl 1 rfl) ?_
          obtain ⟨hPc, hDc, hFc, hCm, hNw⟩ := C_s (wc := [eO s3 6 [.int so3, .int sn3, .ref si3]]) hP hD hS hA [(8, 1)] 10 rfl (by decide +kernel) rfl
          have hKc := K_s (tys' := []) hK [] rfl
          refine va_calli (va_runV (As := []) (rest := []) ⟨hx, hb, hml, hown, hts⟩ (c_X7_isMissing l dC dI s3 so3 sn3 si3 H.size) (cwV 0 hts gX9_copy_X7_isMissing rfl rfl rfl (by decide +kernel) ⟨Nat.le_of_ble_eq_true rfl, Nat.le_of_ble_eq_true rfl⟩) ⟨fun a U g mk q => by obtain ⟨q0, q1, qP, qK, qD⟩ := q; exact ⟨q0, q1, qP, va_K.moved (u := U) (U := U.calling g mk a) (Vm.Alike.refl U.vm) qK, qD⟩, va_recv (s := s) (q := (RX7, TX7, 3)) hKc hPc (ci := 6) (q0 := 0) rfl rfl, fun U hU hW => ⟨rfl, by rw [hU], by rw [hU]; exact hPc, va_K.moved hW.alike hKc, hDc.weaken (fun _ _ _ _ => trivial)⟩⟩ rfl rfl hl.1 rfl (lv_room (Nat.le_of_ble_eq_true rfl)) dX9_copy_35 ⟨Nat.le_of_ble_eq_true rfl, Nat.le_of_ble_eq_true rfl⟩) hS (fun q _ h => hFc q h) hFc (fun r187 u t H1 locs ht hvm hw hB hz1 hk1 hS => ?_)
          obtain ⟨hP1, hK1, hD1⟩ := hB
          rw [ht] at hP1
          have hK1 := va_K.moved hvm.symm hK1
          try dsimp only at hw
          obtain ⟨hP, hD⟩ := J_s (wL := [eO h0 8 [.ref jb, .ref ji, .ref jd, .ref je, .ref jg, .ref qpa, .int pcn, .int ipn, .ref jt, .ref jr, .ref j1, .ref j2, .ref qsa], eR qsa ksa 4 fsa, eO s0 6 [.int so0, .int sn0, .ref si0], eI si0 ksi0 60 fsi0, eO s1 6 [.int so1, .int sn1, .ref si1], eI si1 ksi1 60 fsi1, eO s2 6 [.int so2, .int sn2, .ref si2], eI si2 ksi2 60 fsi2, eI si3 ksi3 60 fsi3, eO s3 6 [.int so3, .int sn3, .ref si3]]) hP hD [(8, 1)] [(0, 8), (9, 1)] hCm hNw (by decide +kernel) hk1 hFc hP1 hD1 rfl
          have hK := KJ_s (tys' := [(ksa, .object "ClearingGates$Sheet"), (ksi0, .int), (ksi1, .int), (ksi2, .int), (ksi3, .int)]) hK hK1 [(0, 5)] rfl
          generalize H1 = H at hP hS ⊢
          rcases hw with ⟨e_r187, f_r187⟩ | ⟨e_r187, f_r187⟩
          · subst e_r187
            refine lv_if_ne (tgt := 49) hx hb dX9_copy_38 (by decide) (fun c188 => ?_) (fun c188 => absurd c188 (by decide))
            refine lv_bipush (v := -11) hx hb dX9_copy_49 (by decide) ?_
            rw [hQ9]
            exact W.iret (v := (-11)) hx hb hr (fun t ht hW => ⟨⟨(-11), (), rfl, (by first | rfl | trivial), fsi0, fsi1, fsi2, fsi3, by rw [ht]; exact P_s hP [(0, 8), (9, 1), (8, 1)] rfl, va_K.moved hW.alike hK, D_s hD [(0, 8), (9, 1), (8, 1)] 10 rfl (by decide +kernel) rfl⟩, hS.F ht⟩) hS.2.2 dX9_copy_51
          · subst e_r187
            refine lv_if_ne (tgt := 49) hx hb dX9_copy_38 (by decide) (fun c189 => absurd (by decide) c189) (fun c189 => ?_)
            refine lv_aload hx hb dX9_copy_41 (lv_at hl 0 rfl) ?_
            obtain ⟨hPc, hDc, hFc, hCm, hNw⟩ := C_s (wc := [eO s1 6 [.int so1, .int sn1, .ref si1]]) hP hD hS hA [(4, 1)] 10 rfl (by decide +kernel) rfl
            have hKc := K_s (tys' := []) hK [] rfl
            refine va_calli (va_runV (As := []) (rest := []) ⟨hx, hb, hml, hown, hts⟩ (c_X7_isMissing l dC dI s1 so1 sn1 si1 H.size) (cwV 0 hts gX9_copy_X7_isMissing rfl rfl rfl (by decide +kernel) ⟨Nat.le_of_ble_eq_true rfl, Nat.le_of_ble_eq_true rfl⟩) ⟨fun a U g mk q => by obtain ⟨q0, q1, qP, qK, qD⟩ := q; exact ⟨q0, q1, qP, va_K.moved (u := U) (U := U.calling g mk a) (Vm.Alike.refl U.vm) qK, qD⟩, va_recv (s := s) (q := (RX7, TX7, 3)) hKc hPc (ci := 6) (q0 := 0) rfl rfl, fun U hU hW => ⟨rfl, by rw [hU], by rw [hU]; exact hPc, va_K.moved hW.alike hKc, hDc.weaken (fun _ _ _ _ => trivial)⟩⟩ rfl rfl hl.1 rfl (lv_room (Nat.le_of_ble_eq_true rfl)) dX9_copy_43 ⟨Nat.le_of_ble_eq_true rfl, Nat.le_of_ble_eq_true rfl⟩) hS (fun q _ h => hFc q h) hFc (fun r190 u t H1 locs ht hvm hw hB hz1 hk1 hS => ?_)
            obtain ⟨hP1, hK1, hD1⟩ := hB
            rw [ht] at hP1
            have hK1 := va_K.moved hvm.symm hK1
            try dsimp only at hw
            obtain ⟨hP, hD⟩ := J_s (wL := [eO h0 8 [.ref jb, .ref ji, .ref jd, .ref je, .ref jg, .ref qpa, .int pcn, .int ipn, .ref jt, .ref jr, .ref j1, .ref j2, .ref qsa], eR qsa ksa 4 fsa, eO s0 6 [.int so0, .int sn0, .ref si0], eI si0 ksi0 60 fsi0, eI si1 ksi1 60 fsi1, eO s2 6 [.int so2, .int sn2, .ref si2], eI si2 ksi2 60 fsi2, eI si3 ksi3 60 fsi3, eO s3 6 [.int so3, .int sn3, .ref si3], eO s1 6 [.int so1, .int sn1, .ref si1]]) hP hD [(4, 1)] [(0, 4), (5, 5)] hCm hNw (by decide +kernel) hk1 hFc hP1 hD1 rfl
            have hK := KJ_s (tys' := [(ksa, .object "ClearingGates$Sheet"), (ksi0, .int), (ksi1, .int), (ksi2, .int), (ksi3, .int)]) hK hK1 [(0, 5)] rfl
            generalize H1 = H at hP hS ⊢
            rcases hw with ⟨e_r190, f_r190⟩ | ⟨e_r190, f_r190⟩
            · subst e_r190
              refine lv_if_eq (tgt := 52) hx hb dX9_copy_46 (by decide) (fun c191 => absurd c191 (by decide)) (fun c191 => ?_)
              refine lv_bipush (v := -11) hx hb dX9_copy_49 (by decide) ?_
              rw [hQ9]
              exact W.iret (v := (-11)) hx hb hr (fun t ht hW => ⟨⟨(-11), (), rfl, (by first | rfl | trivial), fsi0, fsi1, fsi2, fsi3, by rw [ht]; exact P_s hP [(0, 4), (9, 1), (4, 3), (8, 1), (7, 1)] rfl, va_K.moved hW.alike hK, D_s hD [(0, 4), (9, 1), (4, 3), (8, 1), (7, 1)] 10 rfl (by decide +kernel) rfl⟩, hS.F ht⟩) hS.2.2 dX9_copy_51
            · subst e_r190
              refine lv_if_eq (tgt := 52) hx hb dX9_copy_46 (by decide) (fun c192 => ?_) (fun c192 => absurd (by decide) c192)
              refine lv_aload hx hb dX9_copy_52 (lv_at hl 1 rfl) ?_
              refine va_get (D := (dC, dI)) (ci := 6) (v := .int so3) (C := RX7) (T := TX7) (N := 3) hx hb hts (fun w h => List.mem_cons_of_mem _ (inlX7 w h)) hown hK hP 8 rfl rfl 0 (by decide) (hts (.fieldLink RX9 270 "ClearingGates$Sheet" "sort" "I") (List.mem_cons_of_mem _ mw_203)) (fun _ h9 => h9) rfl dX9_copy_54 ?_
              refine lv_aload hx hb dX9_copy_57 (lv_at hl 0 rfl) ?_
              refine va_get (D := (dC, dI)) (ci := 6) (v := .int so1) (C := RX7) (T := TX7) (N := 3) hx hb hts (fun w h => List.mem_cons_of_mem _ (inlX7 w h)) hown hK hP 9 rfl rfl 0 (by decide) (hts (.fieldLink RX9 270 "ClearingGates$Sheet" "sort" "I") (List.mem_cons_of_mem _ mw_203)) (fun _ h9 => h9) rfl dX9_copy_59 ?_
              refine lv_icmp_eq (tgt := 68) hx hb dX9_copy_62 (by decide) (fun c193 => ?_) (fun c193 => ?_)
              · skip
                have f_c193 := i_eq c193
                refine lv_aload hx hb dX9_copy_68 (lv_at hl 1 rfl) ?_
                refine lv_iload_n hx hb dX9_copy_70 rfl (lv_at hl 4 rfl) ?_
                refine lv_iload hx hb dX9_copy_71 (lv_at hl 7 rfl) ?_
                obtain ⟨hPc, hDc, hFc, hCm, hNw⟩ := C_s (wc := [eO s3 6 [.int so3, .int sn3, .ref si3]]) hP hD hS hA [(8, 1)] 10 rfl (by decide +kernel) rfl
                have hKc := K_s (tys' := []) hK [] rfl
                refine va_calli (va_runV (As := [.int p1, .int p4]) (rest := []) ⟨hx, hb, hml, hown, hts⟩ (c_X7_hasStretch l dC dI s3 p1 p4 so3 sn3 si3 H.size vs3a vs3b) (cwV 2 hts gX9_copy_X7_hasStretch rfl rfl rfl (by decide +kernel) ⟨Nat.le_of_ble_eq_true rfl, Nat.le_of_ble_eq_true rfl⟩) ⟨fun a U g mk q => by obtain ⟨q0, q1, qP, qK, qD⟩ := q; exact ⟨q0, q1, qP, va_K.moved (u := U) (U := U.calling g mk a) (Vm.Alike.refl U.vm) qK, qD⟩, va_recv (s := s) (q := (RX7, TX7, 3)) hKc hPc (ci := 6) (q0 := 0) rfl rfl, fun U hU hW => ⟨rfl, by rw [hU], by rw [hU]; exact hPc, va_K.moved hW.alike hKc, hDc.weaken (fun _ _ _ _ => trivial)⟩⟩ rfl rfl hl.1 rfl (lv_room (Nat.le_of_ble_eq_true rfl)) dX9_copy_73 ⟨Nat.le_of_ble_eq_true rfl, Nat.le_of_ble_eq_true rfl⟩) hS (fun q _ h => hFc q h) hFc (fun r194 u t H1 locs ht hvm hw hB hz1 hk1 hS => ?_)
                obtain ⟨hP1, hK1, hD1⟩ := hB
                rw [ht] at hP1
                have hK1 := va_K.moved hvm.symm hK1
                try dsimp only at hw
                obtain ⟨hP, hD⟩ := J_s (wL := [eO h0 8 [.ref jb, .ref ji, .ref jd, .ref je, .ref jg, .ref qpa, .int pcn, .int ipn, .ref jt, .ref jr, .ref j1, .ref j2, .ref qsa], eR qsa ksa 4 fsa, eO s0 6 [.int so0, .int sn0, .ref si0], eI si0 ksi0 60 fsi0, eI si1 ksi1 60 fsi1, eO s2 6 [.int so2, .int sn2, .ref si2], eI si2 ksi2 60 fsi2, eI si3 ksi3 60 fsi3, eO s1 6 [.int so1, .int sn1, .ref si1], eO s3 6 [.int so3, .int sn3, .ref si3]]) hP hD [(8, 1)] [(0, 8), (9, 1)] hCm hNw (by decide +kernel) hk1 hFc hP1 hD1 rfl
                have hK := KJ_s (tys' := [(ksa, .object "ClearingGates$Sheet"), (ksi0, .int), (ksi1, .int), (ksi2, .int), (ksi3, .int)]) hK hK1 [(0, 5)] rfl
                generalize H1 = H at hP hS ⊢
                rcases hw with ⟨e_r194, f_r194⟩ | ⟨e_r194, f_r194⟩
                · subst e_r194
                  refine lv_if_eq (tgt := 91) hx hb dX9_copy_76 (by decide) (fun c195 => absurd c195 (by decide)) (fun c195 => ?_)
                  refine lv_aload hx hb dX9_copy_79 (lv_at hl 0 rfl) ?_
                  refine lv_iload hx hb dX9_copy_81 (lv_at hl 6 rfl) ?_
                  refine lv_iload hx hb dX9_copy_83 (lv_at hl 7 rfl) ?_
                  obtain ⟨hPc, hDc, hFc, hCm, hNw⟩ := C_s (wc := [eO s1 6 [.int so1, .int sn1, .ref si1]]) hP hD hS hA [(8, 1)] 10 rfl (by decide +kernel) rfl
                  have hKc := K_s (tys' := []) hK [] rfl
                  refine va_calli (va_runV (As := [.int p3, .int p4]) (rest := []) ⟨hx, hb, hml, hown, hts⟩ (c_X7_hasStretch l dC dI s1 p3 p4 so1 sn1 si1 H.size vs1a vs1b) (cwV 2 hts gX9_copy_X7_hasStretch rfl rfl rfl (by decide +kernel) ⟨Nat.le_of_ble_eq_true rfl, Nat.le_of_ble_eq_true rfl⟩) ⟨fun a U g mk q => by obtain ⟨q0, q1, qP, qK, qD⟩ := q; exact ⟨q0, q1, qP, va_K.moved (u := U) (U := U.calling g mk a) (Vm.Alike.refl U.vm) qK, qD⟩, va_recv (s := s) (q := (RX7, TX7, 3)) hKc hPc (ci := 6) (q0 := 0) rfl rfl, fun U hU hW => ⟨rfl, by rw [hU], by rw [hU]; exact hPc, va_K.moved hW.alike hKc, hDc.weaken (fun _ _ _ _ => trivial)⟩⟩ rfl rfl hl.1 rfl (lv_room (Nat.le_of_ble_eq_true rfl)) dX9_copy_85 ⟨Nat.le_of_ble_eq_true rfl, Nat.le_of_ble_eq_true rfl⟩) hS (fun q _ h => hFc q h) hFc (fun r196 u t H1 locs ht hvm hw hB hz1 hk1 hS => ?_)
                  obtain ⟨hP1, hK1, hD1⟩ := hB
                  rw [ht] at hP1
                  have hK1 := va_K.moved hvm.symm hK1
                  try dsimp only at hw
                  obtain ⟨hP, hD⟩ := J_s (wL := [eO h0 8 [.ref jb, .ref ji, .ref jd, .ref je, .ref jg, .ref qpa, .int pcn, .int ipn, .ref jt, .ref jr, .ref j1, .ref j2, .ref qsa], eR qsa ksa 4 fsa, eO s0 6 [.int so0, .int sn0, .ref si0], eI si0 ksi0 60 fsi0, eI si1 ksi1 60 fsi1, eO s2 6 [.int so2, .int sn2, .ref si2], eI si2 ksi2 60 fsi2, eI si3 ksi3 60 fsi3, eO s3 6 [.int so3, .int sn3, .ref si3], eO s1 6 [.int so1, .int sn1, .ref si1]]) hP hD [(8, 1)] [(0, 8), (9, 1)] hCm hNw (by decide +kernel) hk1 hFc hP1 hD1 rfl
                  have hK := KJ_s (tys' := [(ksa, .object "ClearingGates$Sheet"), (ksi0, .int), (ksi1, .int), (ksi2, .int), (ksi3, .int)]) hK hK1 [(0, 5)] rfl
                  generalize H1 = H at hP hS ⊢
                  rcases hw with ⟨e_r196, f_r196⟩ | ⟨e_r196, f_r196⟩
                  · subst e_r196
                    refine lv_if_ne (tgt := 94) hx hb dX9_copy_88 (by decide) (fun c197 => ?_) (fun c197 => absurd c197 (by decide))
                    refine lv_aload hx hb dX9_copy_94 (lv_at hl 1 rfl) ?_
                    refine va_get (D := (dC, dI)) (ci := 6) (v := .ref si3) (C := RX7) (T := TX7) (N := 3) hx hb hts (fun w h => List.mem_cons_of_mem _ (inlX7 w h)) hown hK hP 8 rfl rfl 2 (by decide) (hts (.fieldLink RX9 276 "ClearingGates$Sheet" "items" "[I") (List.mem_cons_of_mem _ mw_207)) (fun _ h9 => h9) rfl dX9_copy_96 ?_
                    refine lv_iload_n hx hb dX9_copy_99 rfl (lv_at hl 4 rfl) ?_
                    refine lv_aload hx hb dX9_copy_100 (lv_at hl 0 rfl) ?_
                    refine va_get (D := (dC, dI)) (ci := 6) (v := .ref si1) (C := RX7) (T := TX7) (N := 3) hx hb hts (fun w h => List.mem_cons_of_mem _ (inlX7 w h)) hown hK hP 9 rfl rfl 2 (by decide) (hts (.fieldLink RX9 276 "ClearingGates$Sheet" "items" "[I") (List.mem_cons_of_mem _ mw_207)) (fun _ h9 => h9) rfl dX9_copy_102 ?_
                    refine lv_iload hx hb dX9_copy_105 (lv_at hl 6 rfl) ?_
                    refine lv_iload hx hb dX9_copy_107 (lv_at hl 7 rfl) ?_
                    refine va_copyi (D := (dC, dI)) hx hb (hml.trans hl.1.symm) hown (hts (.methodLink RX9 279 arraycopyName) (List.mem_cons_of_mem _ mw_597)) (hts (.native arraycopyName) (List.mem_cons_of_mem _ mw_330)) (hts (.static arraycopyName) (List.mem_cons_of_mem _ mw_329)) (hts (.initialized "java/lang/System") (List.mem_cons_of_mem _ mw_80)) hK hP hD hS 7 4 4 2 rfl rfl rfl rfl rfl (fun q => by have := i_lt q; omega) (fun q => by have := i_lt q; omega) (fun q => by have := i_lt q; omega) (by have e1 := i_natZ (x := p1) (by omega); have e2 := i_natZ (x := p4) (by omega); omega) (by have e1 := i_natZ (x := p3) (by omega); have e2 := i_natZ (x := p4) (by omega); omega) (fun _ _ => rfl) (Nat.le_of_ble_eq_true rfl) (by decide) dX9_copy_109 (fun H locs hP hD hS => ?_)
                    generalize e_g198 : (va_cpy fsi3 fsi1 (p1 : Int32).toNatClampNeg (p3 : Int32).toNatClampNeg (p4 : Int32).toNatClampNeg) = g198 at hP hD
                    obtain ⟨hP, hD⟩ := X_s (ws' := [eO h0 8 [.ref jb, .ref ji, .ref jd, .ref je, .ref jg, .ref qpa, .int pcn, .int ipn, .ref jt, .ref jr, .ref j1, .ref j2, .ref qsa], eR qsa ksa 4 fsa, eO s0 6 [.int so0, .int sn0, .ref si0], eI si0 ksi0 60 fsi0, eI si1 ksi1 60 g198, eO s2 6 [.int so2, .int sn2, .ref si2], eI si2 ksi2 60 fsi2, eI si3 ksi3 60 fsi3, eO s3 6 [.int so3, .int sn3, .ref si3], eO s1 6 [.int so1, .int sn1, .ref si1]]) hP hD rfl
                    refine lv_iload hx hb dX9_copy_112 (lv_at hl 7 rfl) ?_
                    rw [hQ9]
                    exact W.iret (v := p4) hx hb hr (fun t ht hW => ⟨⟨p4, (), rfl, (by first | rfl | trivial), fsi0, g198, fsi2, fsi3, by rw [ht]; exact P_s hP [(0, 4), (9, 1), (4, 3), (8, 1), (7, 1)] rfl, va_K.moved hW.alike hK, D_s hD [(0, 4), (9, 1), (4, 3), (8, 1), (7, 1)] 10 rfl (by decide +kernel) rfl⟩, hS.F ht⟩) hS.2.2 dX9_copy_114
                  · subst e_r196
                    refine lv_if_ne (tgt := 94) hx hb dX9_copy_88 (by decide) (fun c199 => absurd (by decide) c199) (fun c199 => ?_)
                    refine lv_bipush (v := -12) hx hb dX9_copy_91 (by decide) ?_
                    rw [hQ9]
                    exact W.iret (v := (-12)) hx hb hr (fun t ht hW => ⟨⟨(-12), (), rfl, (by first | rfl | trivial), fsi0, fsi1, fsi2, fsi3, by rw [ht]; exact P_s hP [(0, 4), (9, 1), (4, 3), (8, 1), (7, 1)] rfl, va_K.moved hW.alike hK, D_s hD [(0, 4), (9, 1), (4, 3), (8, 1), (7, 1)] 10 rfl (by decide +kernel) rfl⟩, hS.F ht⟩) hS.2.2 dX9_copy_93
                · subst e_r194
                  refine lv_if_eq (tgt := 91) hx hb dX9_copy_76 (by decide) (fun c200 => ?_) (fun c200 => absurd (by decide) c200)
                  refine lv_bipush (v := -12) hx hb dX9_copy_91 (by decide) ?_
                  rw [hQ9]
                  exact W.iret (v := (-12)) hx hb hr (fun t ht hW => ⟨⟨(-12), (), rfl, (by first | rfl | trivial), fsi0, fsi1, fsi2, fsi3, by rw [ht]; exact P_s hP [(0, 4), (8, 1), (4, 3), (9, 1), (7, 1)] rfl, va_K.moved hW.alike hK, D_s hD [(0, 4), (8, 1), (4, 3), (9, 1), (7, 1)] 10 rfl (by decide +kernel) rfl⟩, hS.F ht⟩) hS.2.2 dX9_copy_93
              · skip
                have f_c193 := i_ne c193
                refine lv_bipush (v := -13) hx hb dX9_copy_65 (by decide) ?_
                rw [hQ9]
                exact W.iret (v := (-13)) hx hb hr (fun t ht hW => ⟨⟨(-13), (), rfl, (by first | rfl | trivial), fsi0, fsi1, fsi2, fsi3, by rw [ht]; exact P_s hP [(0, 4), (9, 1), (4, 3), (8, 1), (7, 1)] rfl, va_K.moved hW.alike hK, D_s hD [(0, 4), (9, 1), (4, 3), (8, 1), (7, 1)] 10 rfl (by decide +kernel) rfl⟩, hS.F ht⟩) hS.2.2 dX9_copy_67
        · rw [show va_rf (fsa p2.toNatClampNeg) = .ref s2 from by rw [i_nat j0, vsa2]; rfl]
          refine lv_astore (lv' := [(7, .ref s2), (6, .ref s3), (0, .ref h0), (1, .int p0), (2, .int p1), (3, .int p2), (4, .int p3), (5, .int p4)]) hx hb dX9_copy_31 hl (by decide) rfl (fun ls hl => ?_)
          refine lv_aload hx hb dX9_copy_33 (lv_at hl 1 rfl) ?_
          obtain ⟨hPc, hDc, hFc, hCm, hNw⟩ := C_s (wc := [eO s3 6 [.int so3, .int sn3, .ref si3]]) hP hD hS hA [(8, 1)] 10 rfl (by decide +kernel) rfl
          have hKc := K_s (tys' := []) hK [] rfl
          refine va_calli (va_runV (As := []) (rest := []) ⟨hx, hb, hml, hown, hts⟩ (c_X7_isMissing l dC dI s3 so3 sn3 si3 H.size) (cwV 0 hts gX9_copy_X7_isMissing rfl rfl rfl (by decide +kernel) ⟨Nat.le_of_ble_eq_true rfl, Nat.le_of_ble_eq_true rfl⟩) ⟨fun a U g mk q => by obtain ⟨q0, q1, qP, qK, qD⟩ := q; exact ⟨q0, q1, qP, va_K.moved (u := U) (U := U.calling g mk a) (Vm.Alike.refl U.vm) qK, qD⟩, va_recv (s := s) (q := (RX7, TX7, 3)) hKc hPc (ci := 6) (q0 := 0) rfl rfl, fun U hU hW => ⟨rfl, by rw [hU], by rw [hU]; exact hPc, va_K.moved hW.alike hKc, hDc.weaken (fun _ _ _ _ => trivial)⟩⟩ rfl rfl hl.1 rfl (lv_room (Nat.le_of_ble_eq_true rfl)) dX9_copy_35 ⟨Nat.le_of_ble_eq_true rfl, Nat.le_of_ble_eq_true rfl⟩) hS (fun q _ h => hFc q h) hFc (fun r201 u t H1 locs ht hvm hw hB hz1 hk1 hS => ?_)
          obtain ⟨hP1, hK1, hD1⟩ := hB
          rw [ht] at hP1
          have hK1 := va_K.moved hvm.symm hK1
          try dsimp only at hw
          obtain ⟨hP, hD⟩ := J_s (wL := [eO h0 8 [.ref jb, .ref ji, .ref jd, .ref je, .ref jg, .ref qpa, .int pcn, .int ipn, .ref jt, .ref jr, .ref j1, .ref j2, .ref qsa], eR qsa ksa 4 fsa, eO s0 6 [.int so0, .int sn0, .ref si0], eI si0 ksi0 60 fsi0, eO s1 6 [.int so1, .int sn1, .ref si1], eI si1 ksi1 60 fsi1, eO s2 6 [.int so2, .int sn2, .ref si2], eI si2 ksi2 60 fsi2, eI si3 ksi3 60 fsi3, eO s3 6 [.int so3, .int sn3, .ref si3]]) hP hD [(8, 1)] [(0, 8), (9, 1)] hCm hNw (by decide +kernel) hk1 hFc hP1 hD1 rfl
          have hK := KJ_s (tys' := [(ksa, .object "ClearingGates$Sheet"), (ksi0, .int), (ksi1, .int), (ksi2, .int), (ksi3, .int)]) hK hK1 [(0, 5)] rfl
          generalize H1 = H at hP hS ⊢
          rcases hw with ⟨e_r201, f_r201⟩ | ⟨e_r201, f_r201⟩
          · subst e_r201
            refine lv_if_ne (tgt := 49) hx hb dX9_copy_38 (by decide) (fun c202 => ?_) (fun c202 => absurd c202 (by decide))
            refine lv_bipush (v := -11) hx hb dX9_copy_49 (by decide) ?_
            rw [hQ9]
            exact W.iret (v := (-11)) hx hb hr (fun t ht hW => ⟨⟨(-11), (), rfl, (by first | rfl | trivial), fsi0, fsi1, fsi2, fsi3, by rw [ht]; exact P_s hP [(0, 8), (9, 1), (8, 1)] rfl, va_K.moved hW.alike hK, D_s hD [(0, 8), (9, 1), (8, 1)] 10 rfl (by decide +kernel) rfl⟩, hS.F ht⟩) hS.2.2 dX9_copy_51
          · subst e_r201
            refine lv_if_ne (tgt := 49) hx hb dX9_copy_38 (by decide) (fun c203 => absurd (by decide) c203) (fun c203 => ?_)
            refine lv_aload hx hb dX9_copy_41 (lv_at hl 0 rfl) ?_
            obtain ⟨hPc, hDc, hFc, hCm, hNw⟩ := C_s (wc := [eO s2 6 [.int so2, .int sn2, .ref si2]]) hP hD hS hA [(6, 1)] 10 rfl (by decide +kernel) rfl
            have hKc := K_s (tys' := []) hK [] rfl
            refine va_calli (va_runV (As := []) (rest := []) ⟨hx, hb, hml, hown, hts⟩ (c_X7_isMissing l dC dI s2 so2 sn2 si2 H.size) (cwV 0 hts gX9_copy_X7_isMissing rfl rfl rfl (by decide +kernel) ⟨Nat.le_of_ble_eq_true rfl, Nat.le_of_ble_eq_true rfl⟩) ⟨fun a U g mk q => by obtain ⟨q0, q1, qP, qK, qD⟩ := q; exact ⟨q0, q1, qP, va_K.moved (u := U) (U := U.calling g mk a) (Vm.Alike.refl U.vm) qK, qD⟩, va_recv (s := s) (q := (RX7, TX7, 3)) hKc hPc (ci := 6) (q0 := 0) rfl rfl, fun U hU hW => ⟨rfl, by rw [hU], by rw [hU]; exact hPc, va_K.moved hW.alike hKc, hDc.weaken (fun _ _ _ _ => trivial)⟩⟩ rfl rfl hl.1 rfl (lv_room (Nat.le_of_ble_eq_true rfl)) dX9_copy_43 ⟨Nat.le_of_ble_eq_true rfl, Nat.le_of_ble_eq_true rfl⟩) hS (fun q _ h => hFc q h) hFc (fun r204 u t H1 locs ht hvm hw hB hz1 hk1 hS => ?_)
            obtain ⟨hP1, hK1, hD1⟩ := hB
            rw [ht] at hP1
            have hK1 := va_K.moved hvm.symm hK1
            try dsimp only at hw
            obtain ⟨hP, hD⟩ := J_s (wL := [eO h0 8 [.ref jb, .ref ji, .ref jd, .ref je, .ref jg, .ref qpa, .int pcn, .int ipn, .ref jt, .ref jr, .ref j1, .ref j2, .ref qsa], eR qsa ksa 4 fsa, eO s0 6 [.int so0, .int sn0, .ref si0], eI si0 ksi0 60 fsi0, eO s1 6 [.int so1, .int sn1, .ref si1], eI si1 ksi1 60 fsi1, eI si2 ksi2 60 fsi2, eI si3 ksi3 60 fsi3, eO s3 6 [.int so3, .int sn3, .ref si3], eO s2 6 [.int so2, .int sn2, .ref si2]]) hP hD [(6, 1)] [(0, 6), (7, 3)] hCm hNw (by decide +kernel) hk1 hFc hP1 hD1 rfl
            have hK := KJ_s (tys' := [(ksa, .object "ClearingGates$Sheet"), (ksi0, .int), (ksi1, .int), (ksi2, .int), (ksi3, .int)]) hK hK1 [(0, 5)] rfl
            generalize H1 = H at hP hS ⊢
            rcases hw with ⟨e_r204, f_r204⟩ | ⟨e_r204, f_r204⟩
            · subst e_r204
              refine lv_if_eq (tgt := 52) hx hb dX9_copy_46 (by decide) (fun c205 => absurd c205 (by decide)) (fun c205 => ?_)
              refine lv_bipush (v := -11) hx hb dX9_copy_49 (by decide) ?_
              rw [hQ9]
              exact W.iret (v := (-11)) hx hb hr (fun t ht hW => ⟨⟨(-11), (), rfl, (by first | rfl | trivial), fsi0, fsi1, fsi2, fsi3, by rw [ht]; exact P_s hP [(0, 6), (9, 1), (6, 1), (8, 1), (7, 1)] rfl, va_K.moved hW.alike hK, D_s hD [(0, 6), (9, 1), (6, 1), (8, 1), (7, 1)] 10 rfl (by decide +kernel) rfl⟩, hS.F ht⟩) hS.2.2 dX9_copy_51
            · subst e_r204
              refine lv_if_eq (tgt := 52) hx hb dX9_copy_46 (by decide) (fun c206 => ?_) (fun c206 => absurd (by decide) c206)
              refine lv_aload hx hb dX9_copy_52 (lv_at hl 1 rfl) ?_
              refine va_get (D := (dC, dI)) (ci := 6) (v := .int so3) (C := RX7) (T := TX7) (N := 3) hx hb hts (fun w h => List.mem_cons_of_mem _ (inlX7 w h)) hown hK hP 8 rfl rfl 0 (by decide) (hts (.fieldLink RX9 270 "ClearingGates$Sheet" "sort" "I") (List.mem_cons_of_mem _ mw_203)) (fun _ h9 => h9) rfl dX9_copy_54 ?_
              refine lv_aload hx hb dX9_copy_57 (lv_at hl 0 rfl) ?_
              refine va_get (D := (dC, dI)) (ci := 6) (v := .int so2) (C := RX7) (T := TX7) (N := 3) hx hb hts (fun w h => List.mem_cons_of_mem _ (inlX7 w h)) hown hK hP 9 rfl rfl 0 (by decide) (hts (.fieldLink RX9 270 "ClearingGates$Sheet" "sort" "I") (List.mem_cons_of_mem _ mw_203)) (fun _ h9 => h9) rfl dX9_copy_59 ?_
              refine lv_icmp_eq (tgt := 68) hx hb dX9_copy_62 (by decide) (fun c207 => ?_) (fun c207 => ?_)
              · skip
                have f_c207 := i_eq c207
                refine lv_aload hx hb dX9_copy_68 (lv_at hl 1 rfl) ?_
                refine lv_iload_n hx hb dX9_copy_70 rfl (lv_at hl 4 rfl) ?_
                refine lv_iload hx hb dX9_copy_71 (lv_at hl 7 rfl) ?_
                obtain ⟨hPc, hDc, hFc, hCm, hNw⟩ := C_s (wc := [eO s3 6 [.int so3, .int sn3, .ref si3]]) hP hD hS hA [(8, 1)] 10 rfl (by decide +kernel) rfl
                have hKc := K_s (tys' := []) hK [] rfl
                refine va_calli (va_runV (As := [.int p1, .int p4]) (rest := []) ⟨hx, hb, hml, hown, hts⟩ (c_X7_hasStretch l dC dI s3 p1 p4 so3 sn3 si3 H.size vs3a vs3b) (cwV 2 hts gX9_copy_X7_hasStretch rfl rfl rfl (by decide +kernel) ⟨Nat.le_of_ble_eq_true rfl, Nat.le_of_ble_eq_true rfl⟩) ⟨fun a U g mk q => by obtain ⟨q0, q1, qP, qK, qD⟩ := q; exact ⟨q0, q1, qP, va_K.moved (u := U) (U := U.calling g mk a) (Vm.Alike.refl U.vm) qK, qD⟩, va_recv (s := s) (q := (RX7, TX7, 3)) hKc hPc (ci := 6) (q0 := 0) rfl rfl, fun U hU hW => ⟨rfl, by rw [hU], by rw [hU]; exact hPc, va_K.moved hW.alike hKc, hDc.weaken (fun _ _ _ _ => trivial)⟩⟩ rfl rfl hl.1 rfl (lv_room (Nat.le_of_ble_eq_true rfl)) dX9_copy_73 ⟨Nat.le_of_ble_eq_true rfl, Nat.le_of_ble_eq_true rfl⟩) hS (fun q _ h => hFc q h) hFc (fun r208 u t H1 locs ht hvm hw hB hz1 hk1 hS => ?_)
                obtain ⟨hP1, hK1, hD1⟩ := hB
                rw [ht] at hP1
                have hK1 := va_K.moved hvm.symm hK1
                try dsimp only at hw
                obtain ⟨hP, hD⟩ := J_s (wL := [eO h0 8 [.ref jb, .ref ji, .ref jd, .ref je, .ref jg, .ref qpa, .int pcn, .int ipn, .ref jt, .ref jr, .ref j1, .ref j2, .ref qsa], eR qsa ksa 4 fsa, eO s0 6 [.int so0, .int sn0, .ref si0], eI si0 ksi0 60 fsi0, eO s1 6 [.int so1, .int sn1, .ref si1], eI si1 ksi1 60 fsi1, eI si2 ksi2 60 fsi2, eI si3 ksi3 60 fsi3, eO s2 6 [.int so2, .int sn2, .ref si2], eO s3 6 [.int so3, .int sn3, .ref si3]]) hP hD [(8, 1)] [(0, 8), (9, 1)] hCm hNw (by decide +kernel) hk1 hFc hP1 hD1 rfl
                have hK := KJ_s (tys' := [(ksa, .object "ClearingGates$Sheet"), (ksi0, .int), (ksi1, .int), (ksi2, .int), (ksi3, .int)]) hK hK1 [(0, 5)] rfl
                generalize H1 = H at hP hS ⊢
                rcases hw with ⟨e_r208, f_r208⟩ | ⟨e_r208, f_r208⟩
                · subst e_r208
                  refine lv_if_eq (tgt := 91) hx hb dX9_copy_76 (by decide) (fun c209 => absurd c209 (by decide)) (fun c209 => ?_)
                  refine lv_aload hx hb dX9_copy_79 (lv_at hl 0 rfl) ?_
                  refine lv_iload hx hb dX9_copy_81 (lv_at hl 6 rfl) ?_
                  refine lv_iload hx hb dX9_copy_83 (lv_at hl 7 rfl) ?_
                  obtain ⟨hPc, hDc, hFc, hCm, hNw⟩ := C_s (wc := [eO s2 6 [.int so2, .int sn2, .ref si2]]) hP hD hS hA [(8, 1)] 10 rfl (by decide +kernel) rfl
                  have hKc := K_s (tys' := []) hK [] rfl
                  refine va_calli (va_runV (As := [.int p3, .int p4]) (rest := []) ⟨hx, hb, hml, hown, hts⟩ (c_X7_hasStretch l dC dI s2 p3 p4 so2 sn2 si2 H.size vs2a vs2b) (cwV 2 hts gX9_copy_X7_hasStretch rfl rfl rfl (by decide +kernel) ⟨Nat.le_of_ble_eq_true rfl, Nat.le_of_ble_eq_true rfl⟩) ⟨fun a U g mk q => by obtain ⟨q0, q1, qP, qK, qD⟩ := q; exact ⟨q0, q1, qP, va_K.moved (u := U) (U := U.calling g mk a) (Vm.Alike.refl U.vm) qK, qD⟩, va_recv (s := s) (q := (RX7, TX7, 3)) hKc hPc (ci := 6) (q0 := 0) rfl rfl, fun U hU hW => ⟨rfl, by rw [hU], by rw [hU]; exact hPc, va_K.moved hW.alike hKc, hDc.weaken (fun _ _ _ _ => trivial)⟩⟩ rfl rfl hl.1 rfl (lv_room (Nat.le_of_ble_eq_true rfl)) dX9_copy_85 ⟨Nat.le_of_ble_eq_true rfl, Nat.le_of_ble_eq_true rfl⟩) hS (fun q _ h => hFc q h) hFc (fun r210 u t H1 locs ht hvm hw hB hz1 hk1 hS => ?_)
                  obtain ⟨hP1, hK1, hD1⟩ := hB
                  rw [ht] at hP1
                  have hK1 := va_K.moved hvm.symm hK1
                  try dsimp only at hw
                  obtain ⟨hP, hD⟩ := J_s (wL := [eO h0 8 [.ref jb, .ref ji, .ref jd, .ref je, .ref jg, .ref qpa, .int pcn, .int ipn, .ref jt, .ref jr, .ref j1, .ref j2, .ref qsa], eR qsa ksa 4 fsa, eO s0 6 [.int so0, .int sn0, .ref si0], eI si0 ksi0 60 fsi0, eO s1 6 [.int so1, .int sn1, .ref si1], eI si1 ksi1 60 fsi1, eI si2 ksi2 60 fsi2, eI si3 ksi3 60 fsi3, eO s3 6 [.int so3, .int sn3, .ref si3], eO s2 6 [.int so2, .int sn2, .ref si2]]) hP hD [(8, 1)] [(0, 8), (9, 1)] hCm hNw (by decide +kernel) hk1 hFc hP1 hD1 rfl
                  have hK := KJ_s (tys' := [(ksa, .object "ClearingGates$Sheet"), (ksi0, .int), (ksi1, .int), (ksi2, .int), (ksi3, .int)]) hK hK1 [(0, 5)] rfl
                  generalize H1 = H at hP hS ⊢
                  rcases hw with ⟨e_r210, f_r210⟩ | ⟨e_r210, f_r210⟩
                  · subst e_r210
                    refine lv_if_ne (tgt := 94) hx hb dX9_copy_88 (by decide) (fun c211 => ?_) (fun c211 => absurd c211 (by decide))
                    refine lv_aload hx hb dX9_copy_94 (lv_at hl 1 rfl) ?_
                    refine va_get (D := (dC, dI)) (ci := 6) (v := .ref si3) (C := RX7) (T := TX7) (N := 3) hx hb hts (fun w h => List.mem_cons_of_mem _ (inlX7 w h)) hown hK hP 8 rfl rfl 2 (by decide) (hts (.fieldLink RX9 276 "ClearingGates$Sheet" "items" "[I") (List.mem_cons_of_mem _ mw_207)) (fun _ h9 => h9) rfl dX9_copy_96 ?_
                    refine lv_iload_n hx hb dX9_copy_99 rfl (lv_at hl 4 rfl) ?_
                    refine lv_aload hx hb dX9_copy_100 (lv_at hl 0 rfl) ?_
                    refine va_get (D := (dC, dI)) (ci := 6) (v := .ref si2) (C := RX7) (T := TX7) (N := 3) hx hb hts (fun w h => List.mem_cons_of_mem _ (inlX7 w h)) hown hK hP 9 rfl rfl 2 (by decide) (hts (.fieldLink RX9 276 "ClearingGates$Sheet" "items" "[I") (List.mem_cons_of_mem _ mw_207)) (fun _ h9 => h9) rfl dX9_copy_102 ?_
                    refine lv_iload hx hb dX9_copy_105 (lv_at hl 6 rfl) ?_
                    refine lv_iload hx hb dX9_copy_107 (lv_at hl 7 rfl) ?_
                    refine va_copyi (D := (dC, dI)) hx hb (hml.trans hl.1.symm) hown (hts (.methodLink RX9 279 arraycopyName) (List.mem_cons_of_mem _ mw_597)) (hts (.native arraycopyName) (List.mem_cons_of_mem _ mw_330)) (hts (.static arraycopyName) (List.mem_cons_of_mem _ mw_329)) (hts (.initialized "java/lang/System") (List.mem_cons_of_mem _ mw_80)) hK hP hD hS 7 6 4 3 rfl rfl rfl rfl rfl (fun q => by have := i_lt q; omega) (fun q => by have := i_lt q; omega) (fun q => by have := i_lt q; omega) (by have e1 := i_natZ (x := p1) (by omega); have e2 := i_natZ (x := p4) (by omega); omega) (by have e1 := i_natZ (x := p3) (by omega); have e2 := i_natZ (x := p4) (by omega); omega) (fun _ _ => rfl) (Nat.le_of_ble_eq_true rfl) (by decide) dX9_copy_109 (fun H locs hP hD hS => ?_)
                    generalize e_g212 : (va_cpy fsi3 fsi2 (p1 : Int32).toNatClampNeg (p3 : Int32).toNatClampNeg (p4 : Int32).toNatClampNeg) = g212 at hP hD
                    obtain ⟨hP, hD⟩ := X_s (ws' := [eO h0 8 [.ref jb, .ref ji, .ref jd, .ref je, .ref jg, .ref qpa, .int pcn, .int ipn, .ref jt, .ref jr, .ref j1, .ref j2, .ref qsa], eR qsa ksa 4 fsa, eO s0 6 [.int so0, .int sn0, .ref si0], eI si0 ksi0 60 fsi0, eO s1 6 [.int so1, .int sn1, .ref si1], eI si1 ksi1 60 fsi1, eI si2 ksi2 60 g212, eI si3 ksi3 60 fsi3, eO s3 6 [.int so3, .int sn3, .ref si3], eO s2 6 [.int so2, .int sn2, .ref si2]]) hP hD rfl
                    refine lv_iload hx hb dX9_copy_112 (lv_at hl 7 rfl) ?_
                    rw [hQ9]
                    exact W.iret (v := p4) hx hb hr (fun t ht hW => ⟨⟨p4, (), rfl, (by first | rfl | trivial), fsi0, fsi1, g212, fsi3, by rw [ht]; exact P_s hP [(0, 6), (9, 1), (6, 1), (8, 1), (7, 1)] rfl, va_K.moved hW.alike hK, D_s hD [(0, 6), (9, 1), (6, 1), (8, 1), (7, 1)] 10 rfl (by decide +kernel) rfl⟩, hS.F ht⟩) hS.2.2 dX9_copy_114
                  · subst e_r210
                    refine lv_if_ne (tgt := 94) hx hb dX9_copy_88 (by decide) (fun c213 => absurd (by decide) c213) (fun c213 => ?_)
                    refine lv_bipush (v := -12) hx hb dX9_copy_91 (by decide) ?_
                    rw [hQ9]
                    exact W.iret (v := (-12)) hx hb hr (fun t ht hW => ⟨⟨(-12), (), rfl, (by first | rfl | trivial), fsi0, fsi1, fsi2, fsi3, by rw [ht]; exact P_s hP [(0, 6), (9, 1), (6, 1), (8, 1), (7, 1)] rfl, va_K.moved hW.alike hK, D_s hD [(0, 6), (9, 1), (6, 1), (8, 1), (7, 1)] 10 rfl (by decide +kernel) rfl⟩, hS.F ht⟩) hS.2.2 dX9_copy_93
                · subst e_r208
                  refine lv_if_eq (tgt := 91) hx hb dX9_copy_76 (by decide) (fun c214 => ?_) (fun c214 => absurd (by decide) c214)
                  refine lv_bipush (v := -12) hx hb dX9_copy_91 (by decide) ?_
                  rw [hQ9]
                  exact W.iret (v := (-12)) hx hb hr (fun t ht hW => ⟨⟨(-12), (), rfl, (by first | rfl | trivial), fsi0, fsi1, fsi2, fsi3, by rw [ht]; exact P_s hP [(0, 6), (8, 1), (6, 1), (9, 1), (7, 1)] rfl, va_K.moved hW.alike hK, D_s hD [(0, 6), (8, 1), (6, 1), (9, 1), (7, 1)] 10 rfl (by decide +kernel) rfl⟩, hS.F ht⟩) hS.2.2 dX9_copy_93
              · skip
                have f_c207 := i_ne c207
                refine lv_bipush (v := -13) hx hb dX9_copy_65 (by decide) ?_
                rw [hQ9]
                exact W.iret (v := (-13)) hx hb hr (fun t ht hW => ⟨⟨(-13), (), rfl, (by first | rfl | trivial), fsi0, fsi1, fsi2, fsi3, by rw [ht]; exact P_s hP [(0, 6), (9, 1), (6, 1), (8, 1), (7, 1)] rfl, va_K.moved hW.alike hK, D_s hD [(0, 6), (9, 1), (6, 1), (8, 1), (7, 1)] 10 rfl (by decide +kernel) rfl⟩, hS.F ht⟩) hS.2.2 dX9_copy_67
        · rw [show va_rf (fsa p2.toNatClampNeg) = .ref s3 from by rw [i_nat j0, vsa3]; rfl]
          refine lv_astore (lv' := [(7, .ref s3), (6, .ref s3), (0, .ref h0), (1, .int p0), (2, .int p1), (3, .int p2), (4, .int p3), (5, .int p4)]) hx hb dX9_copy_31 hl (by decide) rfl (fun ls hl => ?_)
          refine lv_aload hx hb dX9_copy_33 (lv_at hl 1 rfl) ?_
          obtain ⟨hPc, hDc, hFc, hCm, hNw⟩ := C_s (wc := [eO s3 6 [.int so3, .int sn3, .ref si3]]) hP hD hS hA [(8, 1)] 10 rfl (by decide +kernel) rfl
          have hKc := K_s (tys' := []) hK [] rfl
          refine va_calli (va_runV (As := []) (rest := []) ⟨hx, hb, hml, hown, hts⟩ (c_X7_isMissing l dC dI s3 so3 sn3 si3 H.size) (cwV 0 hts gX9_copy_X7_isMissing rfl rfl rfl (by decide +kernel) ⟨Nat.le_of_ble_eq_true rfl, Nat.le_of_ble_eq_true rfl⟩) ⟨fun a U g mk q => by obtain ⟨q0, q1, qP, qK, qD⟩ := q; exact ⟨q0, q1, qP, va_K.moved (u := U) (U := U.calling g mk a) (Vm.Alike.refl U.vm) qK, qD⟩, va_recv (s := s) (q := (RX7, TX7, 3)) hKc hPc (ci := 6) (q0 := 0) rfl rfl, fun U hU hW => ⟨rfl, by rw [hU], by rw [hU]; exact hPc, va_K.moved hW.alike hKc, hDc.weaken (fun _ _ _ _ => trivial)⟩⟩ rfl rfl hl.1 rfl (lv_room (Nat.le_of_ble_eq_true rfl)) dX9_copy_35 ⟨Nat.le_of_ble_eq_true rfl, Nat.le_of_ble_eq_true rfl⟩) hS (fun q _ h => hFc q h) hFc (fun r215 u t H1 locs ht hvm hw hB hz1 hk1 hS => ?_)
          obtain ⟨hP1, hK1, hD1⟩ := hB
          rw [ht] at hP1
          have hK1 := va_K.moved hvm.symm hK1
          try dsimp only at hw
          obtain ⟨hP, hD⟩ := J_s (wL := [eO h0 8 [.ref jb, .ref ji, .ref jd, .ref je, .ref jg, .ref qpa, .int pcn, .int ipn, .ref jt, .ref jr, .ref j1, .ref j2, .ref qsa], eR qsa ksa 4 fsa, eO s0 6 [.int so0, .int sn0, .ref si0], eI si0 ksi0 60 fsi0, eO s1 6 [.int so1, .int sn1, .ref si1], eI si1 ksi1 60 fsi1, eO s2 6 [.int so2, .int sn2, .ref si2], eI si2 ksi2 60 fsi2, eI si3 ksi3 60 fsi3, eO s3 6 [.int so3, .int sn3, .ref si3]]) hP hD [(8, 1)] [(0, 8), (9, 1)] hCm hNw (by decide +kernel) hk1 hFc hP1 hD1 rfl
          have hK := KJ_s (tys' := [(ksa, .object "ClearingGates$Sheet"), (ksi0, .int), (ksi1, .int), (ksi2, .int), (ksi3, .int)]) hK hK1 [(0, 5)] rfl
          generalize H1 = H at hP hS ⊢
          rcases hw with ⟨e_r215, f_r215⟩ | ⟨e_r215, f_r215⟩
          · subst e_r215
            refine lv_if_ne (tgt := 49) hx hb dX9_copy_38 (by decide) (fun c216 => ?_) (fun c216 => absurd c216 (by decide))
            refine lv_bipush (v := -11) hx hb dX9_copy_49 (by decide) ?_
            rw [hQ9]
            exact W.iret (v := (-11)) hx hb hr (fun t ht hW => ⟨⟨(-11), (), rfl, (by first | rfl | trivial), fsi0, fsi1, fsi2, fsi3, by rw [ht]; exact P_s hP [(0, 8), (9, 1), (8, 1)] rfl, va_K.moved hW.alike hK, D_s hD [(0, 8), (9, 1), (8, 1)] 10 rfl (by decide +kernel) rfl⟩, hS.F ht⟩) hS.2.2 dX9_copy_51
          · subst e_r215
            refine lv_if_ne (tgt := 49) hx hb dX9_copy_38 (by decide) (fun c217 => absurd (by decide) c217) (fun c217 => ?_)
            refine lv_aload hx hb dX9_copy_41 (lv_at hl 0 rfl) ?_
            obtain ⟨hPc, hDc, hFc, hCm, hNw⟩ := C_s (wc := [eO s3 6 [.int so3, .int sn3, .ref si3]]) hP hD hS hA [(9, 1)] 10 rfl (by decide +kernel) rfl
            have hKc := K_s (tys' := []) hK [] rfl
            refine va_calli (va_runV (As := []) (rest := []) ⟨hx, hb, hml, hown, hts⟩ (c_X7_isMissing l dC dI s3 so3 sn3 si3 H.size) (cwV 0 hts gX9_copy_X7_isMissing rfl rfl rfl (by decide +kernel) ⟨Nat.le_of_ble_eq_true rfl, Nat.le_of_ble_eq_true rfl⟩) ⟨fun a U g mk q => by obtain ⟨q0, q1, qP, qK, qD⟩ := q; exact ⟨q0, q1, qP, va_K.moved (u := U) (U := U.calling g mk a) (Vm.Alike.refl U.vm) qK, qD⟩, va_recv (s := s) (q := (RX7, TX7, 3)) hKc hPc (ci := 6) (q0 := 0) rfl rfl, fun U hU hW => ⟨rfl, by rw [hU], by rw [hU]; exact hPc, va_K.moved hW.alike hKc, hDc.weaken (fun _ _ _ _ => trivial)⟩⟩ rfl rfl hl.1 rfl (lv_room (Nat.le_of_ble_eq_true rfl)) dX9_copy_43 ⟨Nat.le_of_ble_eq_true rfl, Nat.le_of_ble_eq_true rfl⟩) hS (fun q _ h => hFc q h) hFc (fun r218 u t H1 locs ht hvm hw hB hz1 hk1 hS => ?_)
            obtain ⟨hP1, hK1, hD1⟩ := hB
            rw [ht] at hP1
            have hK1 := va_K.moved hvm.symm hK1
            try dsimp only at hw
            obtain ⟨hP, hD⟩ := J_s (wL := [eO h0 8 [.ref jb, .ref ji, .ref jd, .ref je, .ref jg, .ref qpa, .int pcn, .int ipn, .ref jt, .ref jr, .ref j1, .ref j2, .ref qsa], eR qsa ksa 4 fsa, eO s0 6 [.int so0, .int sn0, .ref si0], eI si0 ksi0 60 fsi0, eO s1 6 [.int so1, .int sn1, .ref si1], eI si1 ksi1 60 fsi1, eO s2 6 [.int so2, .int sn2, .ref si2], eI si2 ksi2 60 fsi2, eI si3 ksi3 60 fsi3, eO s3 6 [.int so3, .int sn3, .ref si3]]) hP hD [(9, 1)] [(0, 9)] hCm hNw (by decide +kernel) hk1 hFc hP1 hD1 rfl
            have hK := KJ_s (tys' := [(ksa, .object "ClearingGates$Sheet"), (ksi0, .int), (ksi1, .int), (ksi2, .int), (ksi3, .int)]) hK hK1 [(0, 5)] rfl
            generalize H1 = H at hP hS ⊢
            rcases hw with ⟨e_r218, f_r218⟩ | ⟨e_r218, f_r218⟩
            · subst e_r218
              refine lv_if_eq (tgt := 52) hx hb dX9_copy_46 (by decide) (fun c219 => absurd c219 (by decide)) (fun c219 => ?_)
              refine lv_bipush (v := -11) hx hb dX9_copy_49 (by decide) ?_
              rw [hQ9]
              exact W.iret (v := (-11)) hx hb hr (fun t ht hW => ⟨⟨(-11), (), rfl, (by first | rfl | trivial), fsi0, fsi1, fsi2, fsi3, by rw [ht]; exact P_s hP [(0, 8), (9, 1), (8, 1)] rfl, va_K.moved hW.alike hK, D_s hD [(0, 8), (9, 1), (8, 1)] 10 rfl (by decide +kernel) rfl⟩, hS.F ht⟩) hS.2.2 dX9_copy_51
            · subst e_r218
              refine lv_if_eq (tgt := 52) hx hb dX9_copy_46 (by decide) (fun c220 => ?_) (fun c220 => absurd (by decide) c220)
              refine lv_aload hx hb dX9_copy_52 (lv_at hl 1 rfl) ?_
              refine va_get (D := (dC, dI)) (ci := 6) (v := .int so3) (C := RX7) (T := TX7) (N := 3) hx hb hts (fun w h => List.mem_cons_of_mem _ (inlX7 w h)) hown hK hP 9 rfl rfl 0 (by decide) (hts (.fieldLink RX9 270 "ClearingGates$Sheet" "sort" "I") (List.mem_cons_of_mem _ mw_203)) (fun _ h9 => h9) rfl dX9_copy_54 ?_
              refine lv_aload hx hb dX9_copy_57 (lv_at hl 0 rfl) ?_
              refine va_get (D := (dC, dI)) (ci := 6) (v := .int so3) (C := RX7) (T := TX7) (N := 3) hx hb hts (fun w h => List.mem_cons_of_mem _ (inlX7 w h)) hown hK hP 9 rfl rfl 0 (by decide) (hts (.fieldLink RX9 270 "ClearingGates$Sheet" "sort" "I") (List.mem_cons_of_mem _ mw_203)) (fun _ h9 => h9) rfl dX9_copy_59 ?_
              refine lv_icmp_eq (tgt := 68) hx hb dX9_copy_62 (by decide) (fun c221 => ?_) (fun c221 => ?_)
              · skip
                have f_c221 := i_eq c221
                refine lv_aload hx hb dX9_copy_68 (lv_at hl 1 rfl) ?_
                refine lv_iload_n hx hb dX9_copy_70 rfl (lv_at hl 4 rfl) ?_
                refine lv_iload hx hb dX9_copy_71 (lv_at hl 7 rfl) ?_
                obtain ⟨hPc, hDc, hFc, hCm, hNw⟩ := C_s (wc := [eO s3 6 [.int so3, .int sn3, .ref si3]]) hP hD hS hA [(9, 1)] 10 rfl (by decide +kernel) rfl
                have hKc := K_s (tys' := []) hK [] rfl
                refine va_calli (va_runV (As := [.int p1, .int p4]) (rest := []) ⟨hx, hb, hml, hown, hts⟩ (c_X7_hasStretch l dC dI s3 p1 p4 so3 sn3 si3 H.size vs3a vs3b) (cwV 2 hts gX9_copy_X7_hasStretch rfl rfl rfl (by decide +kernel) ⟨Nat.le_of_ble_eq_true rfl, Nat.le_of_ble_eq_true rfl⟩) ⟨fun a U g mk q => by obtain ⟨q0, q1, qP, qK, qD⟩ := q; exact ⟨q0, q1, qP, va_K.moved (u := U) (U := U.calling g mk a) (Vm.Alike.refl U.vm) qK, qD⟩, va_recv (s := s) (q := (RX7, TX7, 3)) hKc hPc (ci := 6) (q0 := 0) rfl rfl, fun U hU hW => ⟨rfl, by rw [hU], by rw [hU]; exact hPc, va_K.moved hW.alike hKc, hDc.weaken (fun _ _ _ _ => trivial)⟩⟩ rfl rfl hl.1 rfl (lv_room (Nat.le_of_ble_eq_true rfl)) dX9_copy_73 ⟨Nat.le_of_ble_eq_true rfl, Nat.le_of_ble_eq_true rfl⟩) hS (fun q _ h => hFc q h) hFc (fun r222 u t H1 locs ht hvm hw hB hz1 hk1 hS => ?_)
                obtain ⟨hP1, hK1, hD1⟩ := hB
                rw [ht] at hP1
                have hK1 := va_K.moved hvm.symm hK1
                try dsimp only at hw
                obtain ⟨hP, hD⟩ := J_s (wL := [eO h0 8 [.ref jb, .ref ji, .ref jd, .ref je, .ref jg, .ref qpa, .int pcn, .int ipn, .ref jt, .ref jr, .ref j1, .ref j2, .ref qsa], eR qsa ksa 4 fsa, eO s0 6 [.int so0, .int sn0, .ref si0], eI si0 ksi0 60 fsi0, eO s1 6 [.int so1, .int sn1, .ref si1], eI si1 ksi1 60 fsi1, eO s2 6 [.int so2, .int sn2, .ref si2], eI si2 ksi2 60 fsi2, eI si3 ksi3 60 fsi3, eO s3 6 [.int so3, .int sn3, .ref si3]]) hP hD [(9, 1)] [(0, 9)] hCm hNw (by decide +kernel) hk1 hFc hP1 hD1 rfl
                have hK := KJ_s (tys' := [(ksa, .object "ClearingGates$Sheet"), (ksi0, .int), (ksi1, .int), (ksi2, .int), (ksi3, .int)]) hK hK1 [(0, 5)] rfl
                generalize H1 = H at hP hS ⊢
                rcases hw with ⟨e_r222, f_r222⟩ | ⟨e_r222, f_r222⟩
                · subst e_r222
                  refine lv_if_eq (tgt := 91) hx hb dX9_copy_76 (by decide) (fun c223 => absurd c223 (by decide)) (fun c223 => ?_)
                  refine lv_aload hx hb dX9_copy_79 (lv_at hl 0 rfl) ?_
                  refine lv_iload hx hb dX9_copy_81 (lv_at hl 6 rfl) ?_
                  refine lv_iload hx hb dX9_copy_83 (lv_at hl 7 rfl) ?_
                  obtain ⟨hPc, hDc, hFc, hCm, hNw⟩ := C_s (wc := [eO s3 6 [.int so3, .int sn3, .ref si3]]) hP hD hS hA [(9, 1)] 10 rfl (by decide +kernel) rfl
                  have hKc := K_s (tys' := []) hK [] rfl
                  refine va_calli (va_runV (As := [.int p3, .int p4]) (rest := []) ⟨hx, hb, hml, hown, hts⟩ (c_X7_hasStretch l dC dI s3 p3 p4 so3 sn3 si3 H.size vs3a vs3b) (cwV 2 hts gX9_copy_X7_hasStretch rfl rfl rfl (by decide +kernel) ⟨Nat.le_of_ble_eq_true rfl, Nat.le_of_ble_eq_true rfl⟩) ⟨fun a U g mk q => by obtain ⟨q0, q1, qP, qK, qD⟩ := q; exact ⟨q0, q1, qP, va_K.moved (u := U) (U := U.calling g mk a) (Vm.Alike.refl U.vm) qK, qD⟩, va_recv (s := s) (q := (RX7, TX7, 3)) hKc hPc (ci := 6) (q0 := 0) rfl rfl, fun U hU hW => ⟨rfl, by rw [hU], by rw [hU]; exact hPc, va_K.moved hW.alike hKc, hDc.weaken (fun _ _ _ _ => trivial)⟩⟩ rfl rfl hl.1 rfl (lv_room (Nat.le_of_ble_eq_true rfl)) dX9_copy_85 ⟨Nat.le_of_ble_eq_true rfl, Nat.le_of_ble_eq_true rfl⟩) hS (fun q _ h => hFc q h) hFc (fun r224 u t H1 locs ht hvm hw hB hz1 hk1 hS => ?_)
                  obtain ⟨hP1, hK1, hD1⟩ := hB
                  rw [ht] at hP1
                  have hK1 := va_K.moved hvm.symm hK1
                  try dsimp only at hw
                  obtain ⟨hP, hD⟩ := J_s (wL := [eO h0 8 [.ref jb, .ref ji, .ref jd, .ref je, .ref jg, .ref qpa, .int pcn, .int ipn, .ref jt, .ref jr, .ref j1, .ref j2, .ref qsa], eR qsa ksa 4 fsa, eO s0 6 [.int so0, .int sn0, .ref si0], eI si0 ksi0 60 fsi0, eO s1 6 [.int so1, .int sn1, .ref si1], eI si1 ksi1 60 fsi1, eO s2 6 [.int so2, .int sn2, .ref si2], eI si2 ksi2 60 fsi2, eI si3 ksi3 60 fsi3, eO s3 6 [.int so3, .int sn3, .ref si3]]) hP hD [(9, 1)] [(0, 9)] hCm hNw (by decide +kernel) hk1 hFc hP1 hD1 rfl
                  have hK := KJ_s (tys' := [(ksa, .object "ClearingGates$Sheet"), (ksi0, .int), (ksi1, .int), (ksi2, .int), (ksi3, .int)]) hK hK1 [(0, 5)] rfl
                  generalize H1 = H at hP hS ⊢
                  rcases hw with ⟨e_r224, f_r224⟩ | ⟨e_r224, f_r224⟩
                  · subst e_r224
                    refine lv_if_ne (tgt := 94) hx hb dX9_copy_88 (by decide) (fun c225 => ?_) (fun c225 => absurd c225 (by decide))
                    refine lv_aload hx hb dX9_copy_94 (lv_at hl 1 rfl) ?_
                    refine va_get (D := (dC, dI)) (ci := 6) (v := .ref si3) (C := RX7) (T := TX7) (N := 3) hx hb hts (fun w h => List.mem_cons_of_mem _ (inlX7 w h)) hown hK hP 9 rfl rfl 2 (by decide) (hts (.fieldLink RX9 276 "ClearingGates$Sheet" "items" "[I") (List.mem_cons_of_mem _ mw_207)) (fun _ h9 => h9) rfl dX9_copy_96 ?_
                    refine lv_iload_n hx hb dX9_copy_99 rfl (lv_at hl 4 rfl) ?_
                    refine lv_aload hx hb dX9_copy_100 (lv_at hl 0 rfl) ?_
                    refine va_get (D := (dC, dI)) (ci := 6) (v := .ref si3) (C := RX7) (T := TX7) (N := 3) hx hb hts (fun w h => List.mem_cons_of_mem _ (inlX7 w h)) hown hK hP 9 rfl rfl 2 (by decide) (hts (.fieldLink RX9 276 "ClearingGates$Sheet" "items" "[I") (List.mem_cons_of_mem _ mw_207)) (fun _ h9 => h9) rfl dX9_copy_102 ?_
                    refine lv_iload hx hb dX9_copy_105 (lv_at hl 6 rfl) ?_
                    refine lv_iload hx hb dX9_copy_107 (lv_at hl 7 rfl) ?_
                    refine va_copyi (D := (dC, dI)) hx hb (hml.trans hl.1.symm) hown (hts (.methodLink RX9 279 arraycopyName) (List.mem_cons_of_mem _ mw_597)) (hts (.native arraycopyName) (List.mem_cons_of_mem _ mw_330)) (hts (.static arraycopyName) (List.mem_cons_of_mem _ mw_329)) (hts (.initialized "java/lang/System") (List.mem_cons_of_mem _ mw_80)) hK hP hD hS 8 8 4 4 rfl rfl rfl rfl rfl (fun q => by have := i_lt q; omega) (fun q => by have := i_lt q; omega) (fun q => by have := i_lt q; omega) (by have e1 := i_natZ (x := p1) (by omega); have e2 := i_natZ (x := p4) (by omega); omega) (by have e1 := i_natZ (x := p3) (by omega); have e2 := i_natZ (x := p4) (by omega); omega) (fun _ _ => rfl) (Nat.le_of_ble_eq_true rfl) (by decide) dX9_copy_109 (fun H locs hP hD hS => ?_)
                    generalize e_g226 : (va_cpy fsi3 fsi3 (p1 : Int32).toNatClampNeg (p3 : Int32).toNatClampNeg (p4 : Int32).toNatClampNeg) = g226 at hP hD
                    obtain ⟨hP, hD⟩ := X_s (ws' := [eO h0 8 [.ref jb, .ref ji, .ref jd, .ref je, .ref jg, .ref qpa, .int pcn, .int ipn, .ref jt, .ref jr, .ref j1, .ref j2, .ref qsa], eR qsa ksa 4 fsa, eO s0 6 [.int so0, .int sn0, .ref si0], eI si0 ksi0 60 fsi0, eO s1 6 [.int so1, .int sn1, .ref si1], eI si1 ksi1 60 fsi1, eO s2 6 [.int so2, .int sn2, .ref si2], eI si2 ksi2 60 fsi2, eI si3 ksi3 60 g226, eO s3 6 [.int so3, .int sn3, .ref si3]]) hP hD rfl
                    refine lv_iload hx hb dX9_copy_112 (lv_at hl 7 rfl) ?_
                    rw [hQ9]
                    exact W.iret (v := p4) hx hb hr (fun t ht hW => ⟨⟨p4, (), rfl, (by first | rfl | trivial), fsi0, fsi1, fsi2, g226, by rw [ht]; exact P_s hP [(0, 8), (9, 1), (8, 1)] rfl, va_K.moved hW.alike hK, D_s hD [(0, 8), (9, 1), (8, 1)] 10 rfl (by decide +kernel) rfl⟩, hS.F ht⟩) hS.2.2 dX9_copy_114
                  · subst e_r224
                    refine lv_if_ne (tgt := 94) hx hb dX9_copy_88 (by decide) (fun c227 => absurd (by decide) c227) (fun c227 => ?_)
                    refine lv_bipush (v := -12) hx hb dX9_copy_91 (by decide) ?_
                    rw [hQ9]
                    exact W.iret (v := (-12)) hx hb hr (fun t ht hW => ⟨⟨(-12), (), rfl, (by first | rfl | trivial), fsi0, fsi1, fsi2, fsi3, by rw [ht]; exact P_s hP [(0, 8), (9, 1), (8, 1)] rfl, va_K.moved hW.alike hK, D_s hD [(0, 8), (9, 1), (8, 1)] 10 rfl (by decide +kernel) rfl⟩, hS.F ht⟩) hS.2.2 dX9_copy_93
                · subst e_r222
                  refine lv_if_eq (tgt := 91) hx hb dX9_copy_76 (by decide) (fun c228 => ?_) (fun c228 => absurd (by decide) c228)
                  refine lv_bipush (v := -12) hx hb dX9_copy_91 (by decide) ?_
                  rw [hQ9]
                  exact W.iret (v := (-12)) hx hb hr (fun t ht hW => ⟨⟨(-12), (), rfl, (by first | rfl | trivial), fsi0, fsi1, fsi2, fsi3, by rw [ht]; exact P_s hP [(0, 8), (9, 1), (8, 1)] rfl, va_K.moved hW.alike hK, D_s hD [(0, 8), (9, 1), (8, 1)] 10 rfl (by decide +kernel) rfl⟩, hS.F ht⟩) hS.2.2 dX9_copy_93
              · skip
                have f_c221 := i_ne c221
                refine lv_bipush (v := -13) hx hb dX9_copy_65 (by decide) ?_
                rw [hQ9]
                exact W.iret (v := (-13)) hx hb hr (fun t ht hW => ⟨⟨(-13), (), rfl, (by first | rfl | trivial), fsi0, fsi1, fsi2, fsi3, by rw [ht]; exact P_s hP [(0, 8), (9, 1), (8, 1)] rfl, va_K.moved hW.alike hK, D_s hD [(0, 8), (9, 1), (8, 1)] 10 rfl (by decide +kernel) rfl⟩, hS.F ht⟩) hS.2.2 dX9_copy_67
    · subst e_r3
      refine lv_if_ne (tgt := 17) hx hb dX9_copy_11 (by decide) (fun c229 => absurd (by decide) c229) (fun c229 => ?_)
      refine lv_bipush (v := -2) hx hb dX9_copy_14 (by decide) ?_
      rw [hQ9]
      exact W.iret (v := (-2)) hx hb hr (fun t ht hW => ⟨⟨(-2), (), rfl, (by first | rfl | trivial), fsi0, fsi1, fsi2, fsi3, by rw [ht]; exact hP, va_K.moved hW.alike hK, hD⟩, hS.F ht⟩) hS.2.2 dX9_copy_16
  · subst e_r1
    refine lv_if_eq (tgt := 14) hx hb dX9_copy_4 (by decide) (fun c230 => ?_) (fun c230 => absurd (by decide) c230)
    refine lv_bipush (v := -2) hx hb dX9_copy_14 (by decide) ?_
    rw [hQ9]
    exact W.iret (v := (-2)) hx hb hr (fun t ht hW => ⟨⟨(-2), (), rfl, (by first | rfl | trivial), fsi0, fsi1, fsi2, fsi3, by rw [ht]; exact hP, va_K.moved hW.alike hK, hD⟩, hS.F ht⟩) hS.2.2 dX9_copy_16

set_option maxRecDepth 100000 in
set_option maxHeartbeats 4000000 in
/-- load -/
theorem c_X9_load (l : Launch) (dC : Nat → ClassId) (dI : Nat → Nat → Nat) (h0 : Nat) (p0 : Int32) (p1 : Int32) (p2 : Int32) (p3 : Int32) (jb : Nat) (ji : Nat) (jd : Nat) (je : Nat) (jg : Nat) (qpa : Nat) (pcn : Int32) (ipn : Int32) (jt : Nat) (jr : Nat) (j1 : Nat) (j2 : Nat) (qsa : Nat) (ksa : ClassId) (fsa : Nat → Option Nat) (s0 : Nat) (so0 : Int32) (sn0 : Int32) (si0 : Nat) (ksi0 : ClassId) (fsi0 : Nat → Int32) (s1 : Nat) (so1 : Int32) (sn1 : Int32) (si1 : Nat) (ksi1 : ClassId) (fsi1 : Nat → Int32) (s2 : Nat) (so2 : Int32) (sn2 : Int32) (si2 : Nat) (ksi2 : ClassId) (fsi2 : Nat → Int32) (s3 : Nat) (so3 : Int32) (sn3 : Int32) (si3 : Nat) (ksi3 : ClassId) (fsi3 : Nat → Int32) (aq0 : Nat) (aq1 : Nat) (aq2 : Nat) (aq3 : Nat) (aq4 : Nat) (aq5 : Nat) (aq6 : Nat) (aacc : Int32) (afees : Int64) (amis : Int32) (abel : Int32) (aref : Int32) (acau : Int32) (dq : Nat) (kd : ClassId) (fd : Nat → Int32) (sz : Nat) (vsa0 : fsa 0 = some s0) (vsa1 : fsa 1 = some s1) (vsa2 : fsa 2 = some s2) (vsa3 : fsa 3 = some s3) (vs0a : 0 ≤ sn0.toInt) (vs0b : sn0.toInt ≤ 60) (vs1a : 0 ≤ sn1.toInt) (vs1b : sn1.toInt ≤ 60) (vs2a : 0 ≤ sn2.toInt) (vs2b : sn2.toInt ≤ 60) (vs3a : 0 ≤ sn3.toInt) (vs3b : sn3.toInt ≤ 60) (va1 : 0 ≤ aacc.toInt) (va2 : aacc.toInt ≤ 8) : Met l yX9_load wsX9_load ({ frames := 3, cells := 0, slots := 0, locals := 67 }) (va_Pc [.ref h0, .int p0, .int p1, .int p2, .int p3] (fun U => U.heap.size = sz ∧ va_P (dC, dI) vwCl [eO h0 8 [.ref jb, .ref ji, .ref jd, .ref je, .ref jg, .ref qpa, .int pcn, .int ipn, .ref jt, .ref jr, .ref j1, .ref j2, .ref qsa], eR qsa ksa 4 fsa, eO s0 6 [.int so0, .int sn0, .ref si0], eI si0 ksi0 60 fsi0, eO s1 6 [.int so1, .int sn1, .ref si1], eI si1 ksi1 60 fsi1, eO s2 6 [.int so2, .int sn2, .ref si2], eI si2 ksi2 60 fsi2, eO s3 6 [.int so3, .int sn3, .ref si3], eI si3 ksi3 60 fsi3, eO jb 0 [.ref aq0, .ref aq1, .ref aq2, .ref aq3, .ref aq4, .ref aq5, .ref aq6, .int aacc, .long afees, .int amis, .int abel, .int aref, .int acau], eO jd 1 [.ref dq], eI dq kd 64 fd] U.heap ∧ va_K (dC, dI) vwCl [(ksa, .object "ClearingGates$Sheet"), (ksi0, .int), (ksi1, .int), (ksi2, .int), (ksi3, .int), (kd, .int)] U ∧ va_D (fun _ => True) [eO h0 8 [.ref jb, .ref ji, .ref jd, .ref je, .ref jg, .ref qpa, .int pcn, .int ipn, .ref jt, .ref jr, .ref j1, .ref j2, .ref qsa], eR qsa ksa 4 fsa, eO s0 6 [.int so0, .int sn0, .ref si0], eI si0 ksi0 60 fsi0, eO s1 6 [.int so1, .int sn1, .ref si1], eI si1 ksi1 60 fsi1, eO s2 6 [.int so2, .int sn2, .ref si2], eI si2 ksi2 60 fsi2, eO s3 6 [.int so3, .int sn3, .ref si3], eI si3 ksi3 60 fsi3, eO jb 0 [.ref aq0, .ref aq1, .ref aq2, .ref aq3, .ref aq4, .ref aq5, .ref aq6, .int aacc, .long afees, .int amis, .int abel, .int aref, .int acau], eO jd 1 [.ref dq], eI dq kd 64 fd])) (va_Qi (fun (r : Int32) (_ : Unit) => True) (fun (_ : Unit) (t : State) => ∃ (fd' : Nat → Int32), va_P (dC, dI) vwCl [eO h0 8 [.ref jb, .ref ji, .ref jd, .ref je, .ref jg, .ref qpa, .int pcn, .int ipn, .ref jt, .ref jr, .ref j1, .ref j2, .ref qsa], eR qsa ksa 4 fsa, eO s0 6 [.int so0, .int sn0, .ref si0], eI si0 ksi0 60 fsi0, eO s1 6 [.int so1, .int sn1, .ref si1], eI si1 ksi1 60 fsi1, eO s2 6 [.int so2, .int sn2, .ref si2], eI si2 ksi2 60 fsi2, eO s3 6 [.int so3, .int sn3, .ref si3], eI si3 ksi3 60 fsi3, eO jb 0 [.ref aq0, .ref aq1, .ref aq2, .ref aq3, .ref aq4, .ref aq5, .ref aq6, .int aacc, .long afees, .int amis, .int abel, .int aref, .int acau], eO jd 1 [.ref dq], eI dq kd 64 (fd')] t.heap ∧ va_K (dC, dI) vwCl [(ksa, .object "ClearingGates$Sheet"), (ksi0, .int), (ksi1, .int), (ksi2, .int), (ksi3, .int), (kd, .int)] t ∧ va_D (va_A [eO h0 8 [.ref jb, .ref ji, .ref jd, .ref je, .ref jg, .ref qpa, .int pcn, .int ipn, .ref jt, .ref jr, .ref j1, .ref j2, .ref qsa], eR qsa ksa 4 fsa, eO s0 6 [.int so0, .int sn0, .ref si0], eI si0 ksi0 60 fsi0, eO s1 6 [.int so1, .int sn1, .ref si1], eI si1 ksi1 60 fsi1, eO s2 6 [.int so2, .int sn2, .ref si2], eI si2 ksi2 60 fsi2, eO s3 6 [.int so3, .int sn3, .ref si3], eI si3 ksi3 60 fsi3, eO jb 0 [.ref aq0, .ref aq1, .ref aq2, .ref aq3, .ref aq4, .ref aq5, .ref aq6, .int aacc, .long afees, .int amis, .int abel, .int aref, .int acau], eO jd 1 [.ref dq], eI dq kd 64 fd] sz) [eO h0 8 [.ref jb, .ref ji, .ref jd, .ref je, .ref jg, .ref qpa, .int pcn, .int ipn, .ref jt, .ref jr, .ref j1, .ref j2, .ref qsa], eR qsa ksa 4 fsa, eO s0 6 [.int so0, .int sn0, .ref si0], eI si0 ksi0 60 fsi0, eO s1 6 [.int so1, .int sn1, .ref si1], eI si1 ksi1 60 fsi1, eO s2 6 [.int so2, .int sn2, .ref si2], eI si2 ksi2 60 fsi2, eO s3 6 [.int so3, .int sn3, .ref si3], eI si3 ksi3 60 fsi3, eO jb 0 [.ref aq0, .ref aq1, .ref aq2, .ref aq3, .ref aq4, .ref aq5, .ref aq6, .int aacc, .long afees, .int amis, .int abel, .int aref, .int acau], eO jd 1 [.ref dq], eI dq kd 64 (fd')]) (va_A [eO h0 8 [.ref jb, .ref ji, .ref jd, .ref je, .ref jg, .ref qpa, .int pcn, .int ipn, .ref jt, .ref jr, .ref j1, .ref j2, .ref qsa], eR qsa ksa 4 fsa, eO s0 6 [.int so0, .int sn0, .ref si0], eI si0 ksi0 60 fsi0, eO s1 6 [.int so1, .int sn1, .ref si1], eI si1 ksi1 60 fsi1, eO s2 6 [.int so2, .int sn2, .ref si2], eI si2 ksi2 60 fsi2, eO s3 6 [.int so3, .int sn3, .ref si3], eI si3 ksi3 60 fsi3, eO jb 0 [.ref aq0, .ref aq1, .ref aq2, .ref aq3, .ref aq4, .ref aq5, .ref aq6, .int aacc, .long afees, .int amis, .int abel, .int aref, .int acau], eO jd 1 [.ref dq], eI dq kd 64 fd] sz)) 0 0 (va_A [eO h0 8 [.ref jb, .ref ji, .ref jd, .ref je, .ref jg, .ref qpa, .int pcn, .int ipn, .ref jt, .ref jr, .ref j1, .ref j2, .ref qsa], eR qsa ksa 4 fsa, eO s0 6 [.int so0, .int sn0, .ref si0], eI si0 ksi0 60 fsi0, eO s1 6 [.int so1, .int sn1, .ref si1], eI si1 ksi1 60 fsi1, eO s2 6 [.int so2, .int sn2, .ref si2], eI si2 ksi2 60 fsi2, eO s3 6 [.int so3, .int sn3, .ref si3], eI si3 ksi3 60 fsi3, eO jb 0 [.ref aq0, .ref aq1, .ref aq2, .ref aq3, .ref aq4, .ref aq5, .ref aq6, .int aacc, .long afees, .int amis, .int abel, .int aref, .int acau], eO jd 1 [.ref dq], eI dq kd 64 fd] sz) := by
  refine Met.ofW (cc := cX9_load) (maxL := 9) (ret := (some .int)) (by decide) rfl ?_
  intro p e s m args below meth c s₁ B hml hv
  obtain ⟨rfl, hsz, hP, hK, hD0⟩ := hv
  have hx := B.exec
  have hb := B.bytes
  have hr := B.returns
  have hts := atoms_spec (ws := wsX9_load) B.pre
  have hown : s.vm.findClass RX9 = some m.cls := findClass_of_methodNamed B.named
  have hlocks := B.notSynchronized
  subst hsz
  have hD := hD0.self (sz := s.heap.size)
  generalize hAe : va_A [eO h0 8 [.ref jb, .ref ji, .ref jd, .ref je, .ref jg, .ref qpa, .int pcn, .int ipn, .ref jt, .ref jr, .ref j1, .ref j2, .ref qsa], eR qsa ksa 4 fsa, eO s0 6 [.int so0, .int sn0, .ref si0], eI si0 ksi0 60 fsi0, eO s1 6 [.int so1, .int sn1, .ref si1], eI si1 ksi1 60 fsi1, eO s2 6 [.int so2, .int sn2, .ref si2], eI si2 ksi2 60 fsi2, eO s3 6 [.int so3, .int sn3, .ref si3], eI si3 ksi3 60 fsi3, eO jb 0 [.ref aq0, .ref aq1, .ref aq2, .ref aq3, .ref aq4, .ref aq5, .ref aq6, .int aacc, .long afees, .int amis, .int abel, .int aref, .int acau], eO jd 1 [.ref dq], eI dq kd 64 fd] s.heap.size = A at hD ⊢
  have hA : ∀ q : Nat, s.heap.size ≤ q → A q := fun q h => by rw [← hAe]; exact Or.inr h
  have hS : va_S A s.heap s.heap [] := va_S.rf
  have hP : va_P (dC, dI) vwCl [eO h0 8 [.ref jb, .ref ji, .ref jd, .ref je, .ref jg, .ref qpa, .int pcn, .int ipn, .ref jt, .ref jr, .ref j1, .ref j2, .ref qsa], eR qsa ksa 4 fsa, eO s0 6 [.int so0, .int sn0, .ref si0], eI si0 ksi0 60 fsi0, eO s1 6 [.int so1, .int sn1, .ref si1], eI si1 ksi1 60 fsi1, eO s2 6 [.int so2, .int sn2, .ref si2], eI si2 ksi2 60 fsi2, eO s3 6 [.int so3, .int sn3, .ref si3], eI si3 ksi3 60 fsi3, eO jb 0 [.ref aq0, .ref aq1, .ref aq2, .ref aq3, .ref aq4, .ref aq5, .ref aq6, .int aacc, .long afees, .int amis, .int abel, .int aref, .int acau], eO jd 1 [.ref dq], eI dq kd 64 fd] s.heap := hP
  have hl := lv_entry ([.ref h0, .int p0, .int p1, .int p2, .int p3]) (n := 9) (Nat.le_of_ble_eq_true rfl)
  rw [lg_entry_eq]
  generalize (lg_sl ([.ref h0, .int p0, .int p1, .int p2, .int p3]) ++ List.replicate (9 - (lg_sl ([.ref h0, .int p0, .int p1, .int p2, .int p3])).length) Slot.unset).toArray = ls at hl ⊢
  have hl : lv_has ls 9 [(0, .ref h0), (1, .int p0), (2, .int p1), (3, .int p2), (4, .int p3)] := hl
  suffices key9 : ∀ Q9 : State → Prop, Q9 = (MQ below (va_Qi (fun (r : Int32) (_ : Unit) => True) (fun (_ : Unit) (t : State) => ∃ (fd' : Nat → Int32), va_P (dC, dI) vwCl [eO h0 8 [.ref jb, .ref ji, .ref jd, .ref je, .ref jg, .ref qpa, .int pcn, .int ipn, .ref jt, .ref jr, .ref j1, .ref j2, .ref qsa], eR qsa ksa 4 fsa, eO s0 6 [.int so0, .int sn0, .ref si0], eI si0 ksi0 60 fsi0, eO s1 6 [.int so1, .int sn1, .ref si1], eI si1 ksi1 60 fsi1, eO s2 6 [.int so2, .int sn2, .ref si2], eI si2 ksi2 60 fsi2, eO s3 6 [.int so3, .int sn3, .ref si3], eI si3 ksi3 60 fsi3, eO jb 0 [.ref aq0, .ref aq1, .ref aq2, .ref aq3, .ref aq4, .ref aq5, .ref aq6, .int aacc, .long afees, .int amis, .int abel, .int aref, .int acau], eO jd 1 [.ref dq], eI dq kd 64 (fd')] t.heap ∧ va_K (dC, dI) vwCl [(ksa, .object "ClearingGates$Sheet"), (ksi0, .int), (ksi1, .int), (ksi2, .int), (ksi3, .int), (kd, .int)] t ∧ va_D A [eO h0 8 [.ref jb, .ref ji, .ref jd, .ref je, .ref jg, .ref qpa, .int pcn, .int ipn, .ref jt, .ref jr, .ref j1, .ref j2, .ref qsa], eR qsa ksa 4 fsa, eO s0 6 [.int so0, .int sn0, .ref si0], eI si0 ksi0 60 fsi0, eO s1 6 [.int so1, .int sn1, .ref si1], eI si1 ksi1 60 fsi1, eO s2 6 [.int so2, .int sn2, .ref si2], eI si2 ksi2 60 fsi2, eO s3 6 [.int so3, .int sn3, .ref si3], eI si3 ksi3 60 fsi3, eO jb 0 [.ref aq0, .ref aq1, .ref aq2, .ref aq3, .ref aq4, .ref aq5, .ref aq6, .int aacc, .long afees, .int amis, .int abel, .int aref, .int acau], eO jd 1 [.ref dq], eI dq kd 64 (fd')]) A) (([.ref h0, .int p0, .int p1, .int p2, .int p3] : List Value).toArray) s 0 0 A) → W p l e ({ frames := 3, cells := 0, slots := 0, locals := 67 }) s m (([.ref h0, .int p0, .int p1, .int p2, .int p3] : List Value).toArray) below meth c s.heap [] 0 0 Q9 (F0 m 0 ls []) from key9 _ rfl
  intro Q9 hQ9
  have k_m13 : ((-13) : Int32).toInt = (-13) := by decide
  have k_m12 : ((-12) : Int32).toInt = (-12) := by decide
  have k_m11 : ((-11) : Int32).toInt = (-11) := by decide
  have k_m2 : ((-2) : Int32).toInt = (-2) := by decide
  have k_0 : (0 : Int32).toInt = 0 := by decide
  have k_1 : (1 : Int32).toInt = 1 := by decide
  have k_2 : (2 : Int32).toInt = 2 := by decide
  have k_3 : (3 : Int32).toInt = 3 := by decide
  have k_20 : (20 : Int32).toInt = 20 := by decide
  refine lv_iload_n hx hb dX9_load_0 rfl (lv_at hl 1 rfl) ?_
  obtain ⟨hPc, hDc, hFc, hCm, hNw⟩ := C_s (wc := []) hP hD hS hA [] 13 rfl (by decide +kernel) rfl
  have hKc := K_s (tys' := []) hK [] rfl
  refine va_calli (va_runS (As := [.int p0]) (rest := []) ⟨hx, hb, hml, hown, hts⟩ (c_X9_isSheet l dC dI p0 s.heap.size) (va_cwS 1 hts gX9_load_X9_isSheet rfl rfl rfl (by decide +kernel) ⟨Nat.le_of_ble_eq_true rfl, Nat.le_of_ble_eq_true rfl⟩) ⟨fun a U g mk q => by obtain ⟨q0, q1, qP, qK, qD⟩ := q; exact ⟨q0, q1, qP, va_K.moved (u := U) (U := U.calling g mk a) (Vm.Alike.refl U.vm) qK, qD⟩, fun U hU hW => ⟨rfl, by rw [hU], by rw [hU]; exact hPc, va_K.moved hW.alike hKc, hDc.weaken (fun _ _ _ _ => trivial)⟩⟩ rfl rfl hl.1 rfl (lv_room (Nat.le_of_ble_eq_true rfl)) dX9_load_1 ⟨Nat.le_of_ble_eq_true rfl, Nat.le_of_ble_eq_true rfl⟩) hS (fun q _ h => hFc q h) hFc (fun r1 u t H1 locs ht hvm hw hB hz1 hk1 hS => ?_)
  obtain ⟨hP1, hK1, hD1⟩ := hB
  rw [ht] at hP1
  have hK1 := va_K.moved hvm.symm hK1
  try dsimp only at hw
  obtain ⟨hP, hD⟩ := J_s (wL := [eO h0 8 [.ref jb, .ref ji, .ref jd, .ref je, .ref jg, .ref qpa, .int pcn, .int ipn, .ref jt, .ref jr, .ref j1, .ref j2, .ref qsa], eR qsa ksa 4 fsa, eO s0 6 [.int so0, .int sn0, .ref si0], eI si0 ksi0 60 fsi0, eO s1 6 [.int so1, .int sn1, .ref si1], eI si1 ksi1 60 fsi1, eO s2 6 [.int so2, .int sn2, .ref si2], eI si2 ksi2 60 fsi2, eO s3 6 [.int so3, .int sn3, .ref si3], eI si3 ksi3 60 fsi3, eO jb 0 [.ref aq0, .ref aq1, .ref aq2, .ref aq3, .ref aq4, .ref aq5, .ref aq6, .int aacc, .long afees, .int amis, .int abel, .int aref, .int acau], eO jd 1 [.ref dq], eI dq kd 64 fd]) hP hD [] [(0, 13)] hCm hNw (by decide +kernel) hk1 hFc hP1 hD1 rfl
  have hK := KJ_s (tys' := [(ksa, .object "ClearingGates$Sheet"), (ksi0, .int), (ksi1, .int), (ksi2, .int), (ksi3, .int), (kd, .int)]) hK hK1 [(0, 6)] rfl
  generalize H1 = H at hP hS ⊢
  rcases hw with ⟨e_r1, f_r1⟩ | ⟨e_r1, f_r1⟩
  · subst e_r1
    refine lv_if_eq (tgt := 26) hx hb dX9_load_4 (by decide) (fun c2 => absurd c2 (by decide)) (fun c2 => ?_)
    refine lv_iload_n hx hb dX9_load_7 rfl (lv_at hl 2 rfl) ?_
    refine lv_if_lt (tgt := 26) hx hb dX9_load_8 (by decide) (fun c3 => ?_) (fun c3 => ?_)
    · skip
      have f_c3 := i_lt c3
      refine lv_bipush (v := -2) hx hb dX9_load_26 (by decide) ?_
      rw [hQ9]
      exact W.iret (v := (-2)) hx hb hr (fun t ht hW => ⟨⟨(-2), (), rfl, (by first | rfl | trivial), fd, by rw [ht]; exact hP, va_K.moved hW.alike hK, hD⟩, hS.F ht⟩) hS.2.2 dX9_load_28
    · skip
      have f_c3 := i_nlt c3
      refine lv_iload_n hx hb dX9_load_11 rfl (lv_at hl 2 rfl) ?_
      refine lv_iconst (v := 1) hx hb dX9_load_12 (by decide) ?_
      refine lv_icmp_gt (tgt := 26) hx hb dX9_load_13 (by decide) (fun c4 => ?_) (fun c4 => ?_)
      · skip
        have f_c4 := i_lt c4
        refine lv_bipush (v := -2) hx hb dX9_load_26 (by decide) ?_
        rw [hQ9]
        exact W.iret (v := (-2)) hx hb hr (fun t ht hW => ⟨⟨(-2), (), rfl, (by first | rfl | trivial), fd, by rw [ht]; exact hP, va_K.moved hW.alike hK, hD⟩, hS.F ht⟩) hS.2.2 dX9_load_28
      · skip
        have f_c4 := i_nlt c4
        refine lv_iload hx hb dX9_load_16 (lv_at hl 4 rfl) ?_
        refine lv_bipush (v := 20) hx hb dX9_load_18 (by decide) ?_
        obtain ⟨hPc, hDc, hFc, hCm, hNw⟩ := C_s (wc := []) hP hD hS hA [] 13 rfl (by decide +kernel) rfl
        have hKc := K_s (tys' := []) hK [] rfl
        refine va_calli (va_runS (As := [.int p3, .int 20]) (rest := []) ⟨hx, hb, hml, hown, hts⟩ (c_X9_isWithin l dC dI p3 20 H.size) (va_cwS 2 hts gX9_load_X9_isWithin rfl rfl rfl (by decide +kernel) ⟨Nat.le_of_ble_eq_true rfl, Nat.le_of_ble_eq_true rfl⟩) ⟨fun a U g mk q => by obtain ⟨q0, q1, qP, qK, qD⟩ := q; exact ⟨q0, q1, qP, va_K.moved (u := U) (U := U.calling g mk a) (Vm.Alike.refl U.vm) qK, qD⟩, fun U hU hW => ⟨rfl, by rw [hU], by rw [hU]; exact hPc, va_K.moved hW.alike hKc, hDc.weaken (fun _ _ _ _ => trivial)⟩⟩ rfl rfl hl.1 rfl (lv_room (Nat.le_of_ble_eq_true rfl)) dX9_load_20 ⟨Nat.le_of_ble_eq_true rfl, Nat.le_of_ble_eq_true rfl⟩) hS (fun q _ h => hFc q h) hFc (fun r5 u t H1 locs ht hvm hw hB hz1 hk1 hS => ?_)
        obtain ⟨hP1, hK1, hD1⟩ := hB
        rw [ht] at hP1
        have hK1 := va_K.moved hvm.symm hK1
        try dsimp only at hw
        obtain ⟨hP, hD⟩ := J_s (wL := [eO h0 8 [.ref jb, .ref ji, .ref jd, .ref je, .ref jg, .ref qpa, .int pcn, .int ipn, .ref jt, .ref jr, .ref j1, .ref j2, .ref qsa], eR qsa ksa 4 fsa, eO s0 6 [.int so0, .int sn0, .ref si0], eI si0 ksi0 60 fsi0, eO s1 6 [.int so1, .int sn1, .ref si1], eI si1 ksi1 60 fsi1, eO s2 6 [.int so2, .int sn2, .ref si2], eI si2 ksi2 60 fsi2, eO s3 6 [.int so3, .int sn3, .ref si3], eI si3 ksi3 60 fsi3, eO jb 0 [.ref aq0, .ref aq1, .ref aq2, .ref aq3, .ref aq4, .ref aq5, .ref aq6, .int aacc, .long afees, .int amis, .int abel, .int aref, .int acau], eO jd 1 [.ref dq], eI dq kd 64 fd]) hP hD [] [(0, 13)] hCm hNw (by decide +kernel) hk1 hFc hP1 hD1 rfl
        have hK := KJ_s (tys' := [(ksa, .object "ClearingGates$Sheet"), (ksi0, .int), (ksi1, .int), (ksi2, .int), (ksi3, .int), (kd, .int)]) hK hK1 [(0, 6)] rfl
        generalize H1 = H at hP hS ⊢
        rcases hw with ⟨e_r5, f_r5⟩ | ⟨e_r5, f_r5⟩
        · subst e_r5
          refine lv_if_ne (tgt := 29) hx hb dX9_load_23 (by decide) (fun c6 => ?_) (fun c6 => absurd c6 (by decide))
          refine lv_aload_n hx hb dX9_load_29 rfl (lv_at hl 0 rfl) ?_
          refine va_get (D := (dC, dI)) (ci := 8) (v := .ref qsa) (C := RX9) (T := TX9) (N := 13) hx hb hts (fun w h => List.mem_cons_of_mem _ (inlX9 w h)) hown hK hP 0 rfl rfl 12 (by decide) (hts (.fieldLink RX9 79 "ClearingGates" "sheets" "[LClearingGates$Sheet;") (List.mem_cons_of_mem _ mw_220)) (fun _ h9 => h9) rfl dX9_load_30 ?_
          refine lv_iload_n hx hb dX9_load_33 rfl (lv_at hl 1 rfl) ?_
          refine va_aldq (D := (dC, dI)) hx hb hK hP 1 0 rfl rfl (vp_in_iff.mpr ⟨by omega, by omega⟩) dX9_load_34 ?_
          rcases i4 (x := p0) (by omega) (by omega) with j0 | j0 | j0 | j0
          · rw [show va_rf (fsa p0.toNatClampNeg) = .ref s0 from by rw [i_nat j0, vsa0]; rfl]
            refine lv_astore (lv' := [(5, .ref s0), (0, .ref h0), (1, .int p0), (2, .int p1), (3, .int p2), (4, .int p3)]) hx hb dX9_load_35 hl (by decide) rfl (fun ls hl => ?_)
            refine lv_aload hx hb dX9_load_37 (lv_at hl 0 rfl) ?_
            obtain ⟨hPc, hDc, hFc, hCm, hNw⟩ := C_s (wc := [eO s0 6 [.int so0, .int sn0, .ref si0]]) hP hD hS hA [(2, 1)] 13 rfl (by decide +kernel) rfl
            have hKc := K_s (tys' := []) hK [] rfl
            refine va_calli (va_runV (As := []) (rest := []) ⟨hx, hb, hml, hown, hts⟩ (c_X7_isMissing l dC dI s0 so0 sn0 si0 H.size) (cwV 0 hts gX9_load_X7_isMissing rfl rfl rfl (by decide +kernel) ⟨Nat.le_of_ble_eq_true rfl, Nat.le_of_ble_eq_true rfl⟩) ⟨fun a U g mk q => by obtain ⟨q0, q1, qP, qK, qD⟩ := q; exact ⟨q0, q1, qP, va_K.moved (u := U) (U := U.calling g mk a) (Vm.Alike.refl U.vm) qK, qD⟩, va_recv (s := s) (q := (RX7, TX7, 3)) hKc hPc (ci := 6) (q0 := 0) rfl rfl, fun U hU hW => ⟨rfl, by rw [hU], by rw [hU]; exact hPc, va_K.moved hW.alike hKc, hDc.weaken (fun _ _ _ _ => trivial)⟩⟩ rfl rfl hl.1 rfl (lv_room (Nat.le_of_ble_eq_true rfl)) dX9_load_39 ⟨Nat.le_of_ble_eq_true rfl, Nat.le_of_ble_eq_true rfl⟩) hS (fun q _ h => hFc q h) hFc (fun r7 u t H1 locs ht hvm hw hB hz1 hk1 hS => ?_)
            obtain ⟨hP1, hK1, hD1⟩ := hB
            rw [ht] at hP1
            have hK1 := va_K.moved hvm.symm hK1
            try dsimp only at hw
            obtain ⟨hP, hD⟩ := J_s (wL := [eO h0 8 [.ref jb, .ref ji, .ref jd, .ref je, .ref jg, .ref qpa, .int pcn, .int ipn, .ref jt, .ref jr, .ref j1, .ref j2, .ref qsa], eR qsa ksa 4 fsa, eI si0 ksi0 60 fsi0, eO s1 6 [.int so1, .int sn1, .ref si1], eI si1 ksi1 60 fsi1, eO s2 6 [.int so2, .int sn2, .ref si2], eI si2 ksi2 60 fsi2, eO s3 6 [.int so3, .int sn3, .ref si3], eI si3 ksi3 60 fsi3, eO jb 0 [.ref aq0, .ref aq1, .ref aq2, .ref aq3, .ref aq4, .ref aq5, .ref aq6, .int aacc, .long afees, .int amis, .int abel, .int aref, .int acau], eO jd 1 [.ref dq], eI dq kd 64 fd, eO s0 6 [.int so0, .int sn0, .ref si0]]) hP hD [(2, 1)] [(0, 2), (3, 10)] hCm hNw (by decide +kernel) hk1 hFc hP1 hD1 rfl
            have hK := KJ_s (tys' := [(ksa, .object "ClearingGates$Sheet"), (ksi0, .int), (ksi1, .int), (ksi2, .int), (ksi3, .int), (kd, .int)]) hK hK1 [(0, 6)] rfl
            generalize H1 = H at hP hS ⊢
            rcases hw with ⟨e_r7, f_r7⟩ | ⟨e_r7, f_r7⟩
            · subst e_r7
              refine lv_if_eq (tgt := 48) hx hb dX9_load_42 (by decide) (fun c8 => absurd c8 (by decide)) (fun c8 => ?_)
              refine lv_bipush (v := -11) hx hb dX9_load_45 (by decide) ?_
              rw [hQ9]
              exact W.iret (v := (-11)) hx hb hr (fun t ht hW => ⟨⟨(-11), (), rfl, (by first | rfl | trivial), fd, by rw [ht]; exact P_s hP [(0, 2), (12, 1), (2, 10)] rfl, va_K.moved hW.alike hK, D_s hD [(0, 2), (12, 1), (2, 10)] 13 rfl (by decide +kernel) rfl⟩, hS.F ht⟩) hS.2.2 dX9_load_47
            · subst e_r7
              refine lv_if_eq (tgt := 48) hx hb dX9_load_42 (by decide) (fun c9 => ?_) (fun c9 => absurd (by decide) c9)
              refine lv_aload hx hb dX9_load_48 (lv_at hl 0 rfl) ?_
              refine va_get (D := (dC, dI)) (ci := 6) (v := .int so0) (C := RX7) (T := TX7) (N := 3) hx hb hts (fun w h => List.mem_cons_of_mem _ (inlX7 w h)) hown hK hP 12 rfl rfl 0 (by decide) (hts (.fieldLink RX9 270 "ClearingGates$Sheet" "sort" "I") (List.mem_cons_of_mem _ mw_203)) (fun _ h9 => h9) rfl dX9_load_50 ?_
              refine lv_iload_n hx hb dX9_load_53 rfl (lv_at hl 3 rfl) ?_
              refine lv_icmp_eq (tgt := 60) hx hb dX9_load_54 (by decide) (fun c10 => ?_) (fun c10 => ?_)
              · skip
                have f_c10 := i_eq c10
                refine lv_iconst (v := 0) hx hb dX9_load_60 (by decide) ?_
                refine lv_istore (lv' := [(6, .int 0), (5, .ref s0), (0, .ref h0), (1, .int p0), (2, .int p1), (3, .int p2), (4, .int p3)]) hx hb dX9_load_61 hl (by decide) rfl (fun ls hl => ?_)
                refine lv_iconst (v := 0) hx hb dX9_load_63 (by decide) ?_
                refine lv_istore (lv' := [(7, .int 0), (6, .int 0), (5, .ref s0), (0, .ref h0), (1, .int p0), (2, .int p1), (3, .int p2), (4, .int p3)]) hx hb dX9_load_64 hl (by decide) rfl (fun ls hl => ?_)
                have loop_66 : ∀ (n : Nat) (cm : Int32) (x : Int32) (fdL : Nat → Int32), (0 ≤ x.toInt) → (x.toInt ≤ 20) → (0 ≤ cm.toInt) → (cm.toInt ≤ x.toInt) → (20 - x.toInt) < (n : Int) → ∀ (H : Heap) (locs : List Loc), va_K (dC, dI) vwCl [(ksa, .object "ClearingGates$Sheet"), (ksi0, .int), (ksi1, .int), (ksi2, .int), (ksi3, .int), (kd, .int)] s → va_P (dC, dI) vwCl [eO h0 8 [.ref jb, .ref ji, .ref jd, .ref je, .ref jg, .ref qpa, .int pcn, .int ipn, .ref jt, .ref jr, .ref j1, .ref j2, .ref qsa], eR qsa ksa 4 fsa, eI si0 ksi0 60 fsi0, eO s1 6 [.int so1, .int sn1, .ref si1], eI si1 ksi1 60 fsi1, eO s2 6 [.int so2, .int sn2, .ref si2], eI si2 ksi2 60 fsi2, eO s3 6 [.int so3, .int sn3, .ref si3], eI si3 ksi3 60 fsi3, eO jb 0 [.ref aq0, .ref aq1, .ref aq2, .ref aq3, .ref aq4, .ref aq5, .ref aq6, .int aacc, .long afees, .int amis, .int abel, .int aref, .int acau], eO jd 1 [.ref dq], eI dq kd 64 fdL, eO s0 6 [.int so0, .int sn0, .ref si0]] H → va_D A [eO h0 8 [.ref jb, .ref ji, .ref jd, .ref je, .ref jg, .ref qpa, .int pcn, .int ipn, .ref jt, .ref jr, .ref j1, .ref j2, .ref qsa], eR qsa ksa 4 fsa, eI si0 ksi0 60 fsi0, eO s1 6 [.int so1, .int sn1, .ref si1], eI si1 ksi1 60 fsi1, eO s2 6 [.int so2, .int sn2, .ref si2], eI si2 ksi2 60 fsi2, eO s3 6 [.int so3, .int sn3, .ref si3], eI si3 ksi3 60 fsi3, eO jb 0 [.ref aq0, .ref aq1, .ref aq2, .ref aq3, .ref aq4, .ref aq5, .ref aq6, .int aacc, .long afees, .int amis, .int abel, .int aref, .int acau], eO jd 1 [.ref dq], eI dq kd 64 fdL, eO s0 6 [.int so0, .int sn0, .ref si0]] → va_S A s.heap H locs → ∀ (ls : Array Slot), lv_has ls 9 [(7, .int x), (6, .int cm), (5, .ref s0), (0, .ref h0), (1, .int p0), (2, .int p1), (3, .int p2), (4, .int p3)] → W p l e ({ frames := 3, cells := 0, slots := 0, locals := 67 }) s m (([.ref h0, .int p0, .int p1, .int p2, .int p3] : List Value).toArray) below meth c H locs 0 0 Q9 (F0 m 66 ls []) := by
                  intro n
                  induction n with
                  | zero => intro cm x fdL i1 i2 i3 i4 hM_66; exfalso; omega
                  | succ n ih_66 =>
                    intro cm x fdL i1 i2 i3 i4 hM_66 H locs hK hP hD hS ls hl
                    refine lv_iload hx hb dX9_load_66 (lv_at hl 0 rfl) ?_
                    refine lv_iload hx hb dX9_load_68 (lv_at hl 7 rfl) ?_
                    refine lv_icmp_ge (tgt := 141) hx hb dX9_load_70 (by decide) (fun c11 => ?_) (fun c11 => ?_)
                    · skip
                      have f_c11 := i_le c11
                      refine lv_iload hx hb dX9_load_141 (lv_at hl 1 rfl) ?_
                      rw [hQ9]
                      exact W.iret (v := cm) hx hb hr (fun t ht hW => ⟨⟨cm, (), rfl, (by first | rfl | trivial), fdL, by rw [ht]; exact P_s hP [(0, 2), (12, 1), (2, 10)] rfl, va_K.moved hW.alike hK, D_s hD [(0, 2), (12, 1), (2, 10)] 13 rfl (by decide +kernel) rfl⟩, hS.F ht⟩) hS.2.2 dX9_load_143
                    · skip
                      have f_c11 := i_nle c11
                      refine lv_iload_n hx hb dX9_load_73 rfl (lv_at hl 6 rfl) ?_
                      refine lv_iconst (v := 3) hx hb dX9_load_74 (by decide) ?_
                      refine lv_iload hx hb dX9_load_75 (lv_at hl 0 rfl) ?_
                      refine lv_imul hx hb dX9_load_77 ?_
                      refine lv_topi (fun z12 e_z12 => ?_)
                      refine lv_iadd hx hb dX9_load_78 ?_
                      refine lv_topi (fun z13 e_z13 => ?_)
                      (first | have t_z13 := i_add e_z13 (by omega) (by omega) | skip)
                      refine lv_istore (lv' := [(8, .int z13), (7, .int x), (6, .int cm), (5, .ref s0), (0, .ref h0), (1, .int p0), (2, .int p1), (3, .int p2), (4, .int p3)]) hx hb dX9_load_79 hl (by decide) rfl (fun ls hl => ?_)
                      refine lv_aload hx hb dX9_load_81 (lv_at hl 3 rfl) ?_
                      refine lv_iload hx hb dX9_load_83 (lv_at hl 0 rfl) ?_
                      refine lv_iconst (v := 3) hx hb dX9_load_85 (by decide) ?_
                      obtain ⟨hPc, hDc, hFc, hCm, hNw⟩ := C_s (wc := [eO s0 6 [.int so0, .int sn0, .ref si0]]) hP hD hS hA [(12, 1)] 13 rfl (by decide +kernel) rfl
                      have hKc := K_s (tys' := []) hK [] rfl
                      refine va_calli (va_runV (As := [.int z13, .int 3]) (rest := []) ⟨hx, hb, hml, hown, hts⟩ (c_X7_hasStretch l dC dI s0 z13 3 so0 sn0 si0 H.size vs0a vs0b) (cwV 2 hts gX9_load_X7_hasStretch rfl rfl rfl (by decide +kernel) ⟨Nat.le_of_ble_eq_true rfl, Nat.le_of_ble_eq_true rfl⟩) ⟨fun a U g mk q => by obtain ⟨q0, q1, qP, qK, qD⟩ := q; exact ⟨q0, q1, qP, va_K.moved (u := U) (U := U.calling g mk a) (Vm.Alike.refl U.vm) qK, qD⟩, va_recv (s := s) (q := (RX7, TX7, 3)) hKc hPc (ci := 6) (q0 := 0) rfl rfl, fun U hU hW => ⟨rfl, by rw [hU], by rw [hU]; exact hPc, va_K.moved hW.alike hKc, hDc.weaken (fun _ _ _ _ => trivial)⟩⟩ rfl rfl hl.1 rfl (lv_room (Nat.le_of_ble_eq_true rfl)) dX9_load_86 ⟨Nat.le_of_ble_eq_true rfl, Nat.le_of_ble_eq_true rfl⟩) hS (fun q _ h => hFc q h) hFc (fun r14 u t H1 locs ht hvm hw hB hz1 hk1 hS => ?_)
                      obtain ⟨hP1, hK1, hD1⟩ := hB
                      rw [ht] at hP1
                      have hK1 := va_K.moved hvm.symm hK1
                      try dsimp only at hw
                      obtain ⟨hP, hD⟩ := J_s (wL := [eO h0 8 [.ref jb, .ref ji, .ref jd, .ref je, .ref jg, .ref qpa, .int pcn, .int ipn, .ref jt, .ref jr, .ref j1, .ref j2, .ref qsa], eR qsa ksa 4 fsa, eI si0 ksi0 60 fsi0, eO s1 6 [.int so1, .int sn1, .ref si1], eI si1 ksi1 60 fsi1, eO s2 6 [.int so2, .int sn2, .ref si2], eI si2 ksi2 60 fsi2, eO s3 6 [.int so3, .int sn3, .ref si3], eI si3 ksi3 60 fsi3, eO jb 0 [.ref aq0, .ref aq1, .ref aq2, .ref aq3, .ref aq4, .ref aq5, .ref aq6, .int aacc, .long afees, .int amis, .int abel, .int aref, .int acau], eO jd 1 [.ref dq], eI dq kd 64 fdL, eO s0 6 [.int so0, .int sn0, .ref si0]]) hP hD [(12, 1)] [(0, 12)] hCm hNw (by decide +kernel) hk1 hFc hP1 hD1 rfl
                      have hK := KJ_s (tys' := [(ksa, .object "ClearingGates$Sheet"), (ksi0, .int), (ksi1, .int), (ksi2, .int), (ksi3, .int), (kd, .int)]) hK hK1 [(0, 6)] rfl
                      generalize H1 = H at hP hS ⊢
                      rcases hw with ⟨e_r14, f_r14⟩ | ⟨e_r14, f_r14⟩
                      · subst e_r14
                        refine lv_if_ne (tgt := 95) hx hb dX9_load_89 (by decide) (fun c15 => ?_) (fun c15 => absurd c15 (by decide))
                        refine lv_aload_n hx hb dX9_load_95 rfl (lv_at hl 4 rfl) ?_
                        refine lv_aload hx hb dX9_load_96 (lv_at hl 3 rfl) ?_
                        refine va_get (D := (dC, dI)) (ci := 6) (v := .ref si0) (C := RX7) (T := TX7) (N := 3) hx hb hts (fun w h => List.mem_cons_of_mem _ (inlX7 w h)) hown hK hP 12 rfl rfl 2 (by decide) (hts (.fieldLink RX9 276 "ClearingGates$Sheet" "items" "[I") (List.mem_cons_of_mem _ mw_207)) (fun _ h9 => h9) rfl dX9_load_98 ?_
                        refine lv_iload hx hb dX9_load_101 (lv_at hl 0 rfl) ?_
                        refine va_iald (D := (dC, dI)) hx hb hK hP 2 1 rfl rfl (vp_in_iff.mpr ⟨by omega, by omega⟩) dX9_load_103 ?_
                        refine lv_topi (fun z16 e_z16 => ?_)
                        refine lv_aload hx hb dX9_load_104 (lv_at hl 3 rfl) ?_
                        refine va_get (D := (dC, dI)) (ci := 6) (v := .ref si0) (C := RX7) (T := TX7) (N := 3) hx hb hts (fun w h => List.mem_cons_of_mem _ (inlX7 w h)) hown hK hP 12 rfl rfl 2 (by decide) (hts (.fieldLink RX9 276 "ClearingGates$Sheet" "items" "[I") (List.mem_cons_of_mem _ mw_207)) (fun _ h9 => h9) rfl dX9_load_106 ?_
                        refine lv_iload hx hb dX9_load_109 (lv_at hl 0 rfl) ?_
                        refine lv_iconst (v := 1) hx hb dX9_load_111 (by decide) ?_
                        refine lv_iadd hx hb dX9_load_112 ?_
                        refine lv_topi (fun z17 e_z17 => ?_)
                        (first | have t_z17 := i_add e_z17 (by omega) (by omega) | skip)
                        refine va_iald (D := (dC, dI)) hx hb hK hP 2 1 rfl rfl (vp_in_iff.mpr ⟨by omega, by omega⟩) dX9_load_113 ?_
                        refine lv_topi (fun z18 e_z18 => ?_)
                        refine lv_aload hx hb dX9_load_114 (lv_at hl 3 rfl) ?_
                        refine va_get (D := (dC, dI)) (ci := 6) (v := .ref si0) (C := RX7) (T := TX7) (N := 3) hx hb hts (fun w h => List.mem_cons_of_mem _ (inlX7 w h)) hown hK hP 12 rfl rfl 2 (by decide) (hts (.fieldLink RX9 276 "ClearingGates$Sheet" "items" "[I") (List.mem_cons_of_mem _ mw_207)) (fun _ h9 => h9) rfl dX9_load_116 ?_
                        refine lv_iload hx hb dX9_load_119 (lv_at hl 0 rfl) ?_
                        refine lv_iconst (v := 2) hx hb dX9_load_121 (by decide) ?_
                        refine lv_iadd hx hb dX9_load_122 ?_
                        refine lv_topi (fun z19 e_z19 => ?_)
                        (first | have t_z19 := i_add e_z19 (by omega) (by omega) | skip)
                        refine va_iald (D := (dC, dI)) hx hb hK hP 2 1 rfl rfl (vp_in_iff.mpr ⟨by omega, by omega⟩) dX9_load_123 ?_
                        refine lv_topi (fun z20 e_z20 => ?_)
                        obtain ⟨hPc, hDc, hFc, hCm, hNw⟩ := C_s (wc := [eO h0 8 [.ref jb, .ref ji, .ref jd, .ref je, .ref jg, .ref qpa, .int pcn, .int ipn, .ref jt, .ref jr, .ref j1, .ref j2, .ref qsa], eO jb 0 [.ref aq0, .ref aq1, .ref aq2, .ref aq3, .ref aq4, .ref aq5, .ref aq6, .int aacc, .long afees, .int amis, .int abel, .int aref, .int acau], eO jd 1 [.ref dq], eI dq kd 64 fdL]) hP hD hS hA [(0, 1), (9, 3)] 13 rfl (by decide +kernel) rfl
                        have hKc := K_s (tys' := [(kd, .int)]) hK [(5, 1)] rfl
                        refine va_calli (va_runV (As := [.int z16, .int z18, .int z20]) (rest := []) ⟨hx, hb, hml, hown, hts⟩ (c_X9_owe l dC dI h0 z16 z18 z20 jb ji jd je jg qpa pcn ipn jt jr j1 j2 qsa aq0 aq1 aq2 aq3 aq4 aq5 aq6 aacc afees amis abel aref acau dq kd fdL H.size va1 va2) (cwV 3 hts gX9_load_X9_owe rfl rfl rfl (by decide +kernel) ⟨Nat.le_of_ble_eq_true rfl, Nat.le_of_ble_eq_true rfl⟩) ⟨fun a U g mk q => by obtain ⟨q0, q1, qP, qK, qD⟩ := q; exact ⟨q0, q1, qP, va_K.moved (u := U) (U := U.calling g mk a) (Vm.Alike.refl U.vm) qK, qD⟩, va_recv (s := s) (q := (RX9, TX9, 13)) hKc hPc (ci := 8) (q0 := 0) rfl rfl, fun U hU hW => ⟨rfl, by rw [hU], by rw [hU]; exact hPc, va_K.moved hW.alike hKc, hDc.weaken (fun _ _ _ _ => trivial)⟩⟩ rfl rfl hl.1 rfl (lv_room (Nat.le_of_ble_eq_true rfl)) dX9_load_124 ⟨Nat.le_of_ble_eq_true rfl, Nat.le_of_ble_eq_true rfl⟩) hS (fun q _ h => hFc q h) hFc (fun r21 u t H1 locs ht hvm hw hB hz1 hk1 hS => ?_)
                        obtain ⟨q22, hP1, hK1, hD1⟩ := hB
                        rw [ht] at hP1
                        have hK1 := va_K.moved hvm.symm hK1
                        try dsimp only at hw
                        obtain ⟨hP, hD⟩ := J_s (wL := [eR qsa ksa 4 fsa, eI si0 ksi0 60 fsi0, eO s1 6 [.int so1, .int sn1, .ref si1], eI si1 ksi1 60 fsi1, eO s2 6 [.int so2, .int sn2, .ref si2], eI si2 ksi2 60 fsi2, eO s3 6 [.int so3, .int sn3, .ref si3], eI si3 ksi3 60 fsi3, eO s0 6 [.int so0, .int sn0, .ref si0], eO h0 8 [.ref jb, .ref ji, .ref jd, .ref je, .ref jg, .ref qpa, .int pcn, .int ipn, .ref jt, .ref jr, .ref j1, .ref j2, .ref qsa], eO jb 0 [.ref aq0, .ref aq1, .ref aq2, .ref aq3, .ref aq4, .ref aq5, .ref aq6, .int aacc, .long afees, .int amis, .int abel, .int aref, .int acau], eO jd 1 [.ref dq], eI dq kd 64 q22]) hP hD [(0, 1), (9, 3)] [(1, 8), (12, 1)] hCm hNw (by decide +kernel) hk1 hFc hP1 hD1 rfl
                        have hK := KJ_s (tys' := [(ksa, .object "ClearingGates$Sheet"), (ksi0, .int), (ksi1, .int), (ksi2, .int), (ksi3, .int), (kd, .int)]) hK hK1 [(0, 5)] rfl
                        generalize H1 = H at hP hS ⊢
                        refine lv_bipush (v := -2) hx hb dX9_load_127 (by decide) ?_
                        refine lv_icmp_eq (tgt := 135) hx hb dX9_load_129 (by decide) (fun c23 => ?_) (fun c23 => ?_)
                        · skip
                          have f_c23 := i_eq c23
                          obtain ⟨x24, e_x24⟩ : ∃ yy : Int32, yy = x + 1 := ⟨_, rfl⟩
                          refine lv_iinc (v := x24) (lv' := [(7, .int x24), (8, .int z13), (6, .int cm), (5, .ref s0), (0, .ref h0), (1, .int p0), (2, .int p1), (3, .int p2), (4, .int p3)]) hx hb dX9_load_135 hl (k := 1) rfl (by rw [e_x24]; rfl) (by decide) rfl (fun ls hl => ?_)
                          (first | have t_x24 := i_add e_x24 (by omega) (by omega) | skip)
                          refine lv_goto (tgt := 66) hx hb dX9_load_138 (by decide) ?_
                          exact ih_66 cm x24 q22 (by first | assumption | omega) (by first | assumption | omega) (by first | assumption | omega) (by first | assumption | omega) (by omega) _ _ (K_s hK [(0, 6)] rfl) (P_s hP [(9, 1), (0, 8), (10, 3), (8, 1)] rfl) (D_s hD [(9, 1), (0, 8), (10, 3), (8, 1)] 13 rfl (by decide +kernel) rfl) hS ls (lv_sub hl [0, 2, 3, 4, 5, 6, 7, 8] rfl)
                        · skip
                          have f_c23 := i_ne c23
                          obtain ⟨x25, e_x25⟩ : ∃ yy : Int32, yy = cm + 1 := ⟨_, rfl⟩
                          refine lv_iinc (v := x25) (lv' := [(6, .int x25), (8, .int z13), (7, .int x), (5, .ref s0), (0, .ref h0), (1, .int p0), (2, .int p1), (3, .int p2), (4, .int p3)]) hx hb dX9_load_132 hl (k := 2) rfl (by rw [e_x25]; rfl) (by decide) rfl (fun ls hl => ?_)
                          (first | have t_x25 := i_add e_x25 (by omega) (by omega) | skip)
                          obtain ⟨x26, e_x26⟩ : ∃ yy : Int32, yy = x + 1 := ⟨_, rfl⟩
                          refine lv_iinc (v := x26) (lv' := [(7, .int x26), (6, .int x25), (8, .int z13), (5, .ref s0), (0, .ref h0), (1, .int p0), (2, .int p1), (3, .int p2), (4, .int p3)]) hx hb dX9_load_135 hl (k := 2) rfl (by rw [e_x26]; rfl) (by decide) rfl (fun ls hl => ?_)
                          (first | have t_x26 := i_add e_x26 (by omega) (by omega) | skip)
                          refine lv_goto (tgt := 66) hx hb dX9_load_138 (by decide) ?_
                          exact ih_66 x25 x26 q22 (by first | assumption | omega) (by first | assumption | omega) (by first | assumption | omega) (by first | assumption | omega) (by omega) _ _ (K_s hK [(0, 6)] rfl) (P_s hP [(9, 1), (0, 8), (10, 3), (8, 1)] rfl) (D_s hD [(9, 1), (0, 8), (10, 3), (8, 1)] 13 rfl (by decide +kernel) rfl) hS ls (lv_sub hl [0, 1, 3, 4, 5, 6, 7, 8] rfl)
                      · subst e_r14
                        refine lv_if_ne (tgt := 95) hx hb dX9_load_89 (by decide) (fun c27 => absurd (by decide) c27) (fun c27 => ?_)
                        refine lv_bipush (v := -12) hx hb dX9_load_92 (by decide) ?_
                        rw [hQ9]
                        exact W.iret (v := (-12)) hx hb hr (fun t ht hW => ⟨⟨(-12), (), rfl, (by first | rfl | trivial), fdL, by rw [ht]; exact P_s hP [(0, 2), (12, 1), (2, 10)] rfl, va_K.moved hW.alike hK, D_s hD [(0, 2), (12, 1), (2, 10)] 13 rfl (by decide +kernel) rfl⟩, hS.F ht⟩) hS.2.2 dX9_load_94
                exact loop_66 (1000) 0 0 fd (by first | assumption | omega) (by first | assumption | omega) (by first | assumption | omega) (by first | assumption | omega) (by omega) _ _ hK hP hD hS ls (lv_sub hl [0, 1, 2, 3, 4, 5, 6, 7] rfl)
              · skip
                have f_c10 := i_ne c10
                refine lv_bipush (v := -13) hx hb dX9_load_57 (by decide) ?_
                rw [hQ9]
                exact W.iret (v := (-13)) hx hb hr (fun t ht hW => ⟨⟨(-13), (), rfl, (by first | rfl | trivial), fd, by rw [ht]; exact P_s hP [(0, 2), (12, 1), (2, 10)] rfl, va_K.moved hW.alike hK, D_s hD [(0, 2), (12, 1), (2, 10)] 13 rfl (by decide +kernel) rfl⟩, hS.F ht⟩) hS.2.2 dX9_load_59
          · rw [show va_rf (fsa p0.toNatClampNeg) = .ref s1 from by rw [i_nat j0, vsa1]; rfl]
            refine lv_astore (lv' := [(5, .ref s1), (0, .ref h0), (1, .int p0), (2, .int p1), (3, .int p2), (4, .int p3)]) hx hb dX9_load_35 hl (by decide) rfl (fun ls hl => ?_)
            refine lv_aload hx hb dX9_load_37 (lv_at hl 0 rfl) ?_
            obtain ⟨hPc, hDc, hFc, hCm, hNw⟩ := C_s (wc := [eO s1 6 [.int so1, .int sn1, .ref si1]]) hP hD hS hA [(4, 1)] 13 rfl (by decide +kernel) rfl
            have hKc := K_s (tys' := []) hK [] rfl
            refine va_calli (va_runV (As := []) (rest := []) ⟨hx, hb, hml, hown, hts⟩ (c_X7_isMissing l dC dI s1 so1 sn1 si1 H.size) (cwV 0 hts gX9_load_X7_isMissing rfl rfl rfl (by decide +kernel) ⟨Nat.le_of_ble_eq_true rfl, Nat.le_of_ble_eq_true rfl⟩) ⟨fun a U g mk q => by obtain ⟨q0, q1, qP, qK, qD⟩ := q; exact ⟨q0, q1, qP, va_K.moved (u := U) (U := U.calling g mk a) (Vm.Alike.refl U.vm) qK, qD⟩, va_recv (s := s) (q := (RX7, TX7, 3)) hKc hPc (ci := 6) (q0 := 0) rfl rfl, fun U hU hW => ⟨rfl, by rw [hU], by rw [hU]; exact hPc, va_K.moved hW.alike hKc, hDc.weaken (fun _ _ _ _ => trivial)⟩⟩ rfl rfl hl.1 rfl (lv_room (Nat.le_of_ble_eq_true rfl)) dX9_load_39 ⟨Nat.le_of_ble_eq_true rfl, Nat.le_of_ble_eq_true rfl⟩) hS (fun q _ h => hFc q h) hFc (fun r28 u t H1 locs ht hvm hw hB hz1 hk1 hS => ?_)
            obtain ⟨hP1, hK1, hD1⟩ := hB
            rw [ht] at hP1
            have hK1 := va_K.moved hvm.symm hK1
            try dsimp only at hw
            obtain ⟨hP, hD⟩ := J_s (wL := [eO h0 8 [.ref jb, .ref ji, .ref jd, .ref je, .ref jg, .ref qpa, .int pcn, .int ipn, .ref jt, .ref jr, .ref j1, .ref j2, .ref qsa], eR qsa ksa 4 fsa, eO s0 6 [.int so0, .int sn0, .ref si0], eI si0 ksi0 60 fsi0, eI si1 ksi1 60 fsi1, eO s2 6 [.int so2, .int sn2, .ref si2], eI si2 ksi2 60 fsi2, eO s3 6 [.int so3, .int sn3, .ref si3], eI si3 ksi3 60 fsi3, eO jb 0 [.ref aq0, .ref aq1, .ref aq2, .ref aq3, .ref aq4, .ref aq5, .ref aq6, .int aacc, .long afees, .int amis, .int abel, .int aref, .int acau], eO jd 1 [.ref dq], eI dq kd 64 fd, eO s1 6 [.int so1, .int sn1, .ref si1]]) hP hD [(4, 1)] [(0, 4), (5, 8)] hCm hNw (by decide +kernel) hk1 hFc hP1 hD1 rfl
            have hK := KJ_s (tys' := [(ksa, .object "ClearingGates$Sheet"), (ksi0, .int), (ksi1, .int), (ksi2, .int), (ksi3, .int), (kd, .int)]) hK hK1 [(0, 6)] rfl
            generalize H1 = H at hP hS ⊢
            rcases hw with ⟨e_r28, f_r28⟩ | ⟨e_r28, f_r28⟩
            · subst e_r28
              refine lv_if_eq (tgt := 48) hx hb dX9_load_42 (by decide) (fun c29 => absurd c29 (by decide)) (fun c29 => ?_)
              refine lv_bipush (v := -11) hx hb dX9_load_45 (by decide) ?_
              rw [hQ9]
              exact W.iret (v := (-11)) hx hb hr (fun t ht hW => ⟨⟨(-11), (), rfl, (by first | rfl | trivial), fd, by rw [ht]; exact P_s hP [(0, 4), (12, 1), (4, 8)] rfl, va_K.moved hW.alike hK, D_s hD [(0, 4), (12, 1), (4, 8)] 13 rfl (by decide +kernel) rfl⟩, hS.F ht⟩) hS.2.2 dX9_load_47
            · subst e_r28
              refine lv_if_eq (tgt := 48) hx hb dX9_load_42 (by decide) (fun c30 => ?_) (fun c30 => absurd (by decide) c30)
              refine lv_aload hx hb dX9_load_48 (lv_at hl 0 rfl) ?_
              refine va_get (D := (dC, dI)) (ci := 6) (v := .int so1) (C := RX7) (T := TX7) (N := 3) hx hb hts (fun w h => List.mem_cons_of_mem _ (inlX7 w h)) hown hK hP 12 rfl rfl 0 (by decide) (hts (.fieldLink RX9 270 "ClearingGates$Sheet" "sort" "I") (List.mem_cons_of_mem _ mw_203)) (fun _ h9 => h9) rfl dX9_load_50 ?_
              refine lv_iload_n hx hb dX9_load_53 rfl (lv_at hl 3 rfl) ?_
              refine lv_icmp_eq (tgt := 60) hx hb dX9_load_54 (by decide) (fun c31 => ?_) (fun c31 => ?_)
              · skip
                have f_c31 := i_eq c31
                refine lv_iconst (v := 0) hx hb dX9_load_60 (by decide) ?_
                refine lv_istore (lv' := [(6, .int 0), (5, .ref s1), (0, .ref h0), (1, .int p0), (2, .int p1), (3, .int p2), (4, .int p3)]) hx hb dX9_load_61 hl (by decide) rfl (fun ls hl => ?_)
                refine lv_iconst (v := 0) hx hb dX9_load_63 (by decide) ?_
                refine lv_istore (lv' := [(7, .int 0), (6, .int 0), (5, .ref s1), (0, .ref h0), (1, .int p0), (2, .int p1), (3, .int p2), (4, .int p3)]) hx hb dX9_load_64 hl (by decide) rfl (fun ls hl => ?_)
                have loop_66 : ∀ (n : Nat) (cm : Int32) (x : Int32) (fdL : Nat → Int32), (0 ≤ x.toInt) → (x.toInt ≤ 20) → (0 ≤ cm.toInt) → (cm.toInt ≤ x.toInt) → (20 - x.toInt) < (n : Int) → ∀ (H : Heap) (locs : List Loc), va_K (dC, dI) vwCl [(ksa, .object "ClearingGates$Sheet"), (ksi0, .int), (ksi1, .int), (ksi2, .int), (ksi3, .int), (kd, .int)] s → va_P (dC, dI) vwCl [eO h0 8 [.ref jb, .ref ji, .ref jd, .ref je, .ref jg, .ref qpa, .int pcn, .int ipn, .ref jt, .ref jr, .ref j1, .ref j2, .ref qsa], eR qsa ksa 4 fsa, eO s0 6 [.int so0, .int sn0, .ref si0], eI si0 ksi0 60 fsi0, eI si1 ksi1 60 fsi1, eO s2 6 [.int so2, .int sn2, .ref si2], eI si2 ksi2 60 fsi2, eO s3 6 [.int so3, .int sn3, .ref si3], eI si3 ksi3 60 fsi3, eO jb 0 [.ref aq0, .ref aq1, .ref aq2, .ref aq3, .ref aq4, .ref aq5, .ref aq6, .int aacc, .long afees, .int amis, .int abel, .int aref, .int acau], eO jd 1 [.ref dq], eI dq kd 64 fdL, eO s1 6 [.int so1, .int sn1, .ref si1]] H → va_D A [eO h0 8 [.ref jb, .ref ji, .ref jd, .ref je, .ref jg, .ref qpa, .int pcn, .int ipn, .ref jt, .ref jr, .ref j1, .ref j2, .ref qsa], eR qsa ksa 4 fsa, eO s0 6 [.int so0, .int sn0, .ref si0], eI si0 ksi0 60 fsi0, eI si1 ksi1 60 fsi1, eO s2 6 [.int so2, .int sn2, .ref si2], eI si2 ksi2 60 fsi2, eO s3 6 [.int so3, .int sn3, .ref si3], eI si3 ksi3 60 fsi3, eO jb 0 [.ref aq0, .ref aq1, .ref aq2, .ref aq3, .ref aq4, .ref aq5, .ref aq6, .int aacc, .long afees, .int amis, .int abel, .int aref, .int acau], eO jd 1 [.ref dq], eI dq kd 64 fdL, eO s1 6 [.int so1, .int sn1, .ref si1]] → va_S A s.heap H locs → ∀ (ls : Array Slot), lv_has ls 9 [(7, .int x), (6, .int cm), (5, .ref s1), (0, .ref h0), (1, .int p0), (2, .int p1), (3, .int p2), (4, .int p3)] → W p l e ({ frames := 3, cells := 0, slots := 0, locals := 67 }) s m (([.ref h0, .int p0, .int p1, .int p2, .int p3] : List Value).toArray) below meth c H locs 0 0 Q9 (F0 m 66 ls []) := by
                  intro n
                  induction n with
                  | zero => intro cm x fdL i1 i2 i3 i4 hM_66; exfalso; omega
                  | succ n ih_66 =>
                    intro cm x fdL i1 i2 i3 i4 hM_66 H locs hK hP hD hS ls hl
                    refine lv_iload hx hb dX9_load_66 (lv_at hl 0 rfl) ?_
                    refine lv_iload hx hb dX9_load_68 (lv_at hl 7 rfl) ?_
                    refine lv_icmp_ge (tgt := 141) hx hb dX9_load_70 (by decide) (fun c32 => ?_) (fun c32 => ?_)
                    · skip
                      have f_c32 := i_le c32
                      refine lv_iload hx hb dX9_load_141 (lv_at hl 1 rfl) ?_
                      rw [hQ9]
                      exact W.iret (v := cm) hx hb hr (fun t ht hW => ⟨⟨cm, (), rfl, (by first | rfl | trivial), fdL, by rw [ht]; exact P_s hP [(0, 4), (12, 1), (4, 8)] rfl, va_K.moved hW.alike hK, D_s hD [(0, 4), (12, 1), (4, 8)] 13 rfl (by decide +kernel) rfl⟩, hS.F ht⟩) hS.2.2 dX9_load_143
                    · skip
                      have f_c32 := i_nle c32
                      refine lv_iload_n hx hb dX9_load_73 rfl (lv_at hl 6 rfl) ?_
                      refine lv_iconst (v := 3) hx hb dX9_load_74 (by decide) ?_
                      refine lv_iload hx hb dX9_load_75 (lv_at hl 0 rfl) ?_
                      refine lv_imul hx hb dX9_load_77 ?_
                      refine lv_topi (fun z33 e_z33 => ?_)
                      refine lv_iadd hx hb dX9_load_78 ?_
                      refine lv_topi (fun z34 e_z34 => ?_)
                      (first | have t_z34 := i_add e_z34 (by omega) (by omega) | skip)
                      refine lv_istore (lv' := [(8, .int z34), (7, .int x), (6, .int cm), (5, .ref s1), (0, .ref h0), (1, .int p0), (2, .int p1), (3, .int p2), (4, .int p3)]) hx hb dX9_load_79 hl (by decide) rfl (fun ls hl => ?_)
                      refine lv_aload hx hb dX9_load_81 (lv_at hl 3 rfl) ?_
                      refine lv_iload hx hb dX9_load_83 (lv_at hl 0 rfl) ?_
                      refine lv_iconst (v := 3) hx hb dX9_load_85 (by decide) ?_
                      obtain ⟨hPc, hDc, hFc, hCm, hNw⟩ := C_s (wc := [eO s1 6 [.int so1, .int sn1, .ref si1]]) hP hD hS hA [(12, 1)] 13 rfl (by decide +kernel) rfl
                      have hKc := K_s (tys' := []) hK [] rfl
                      refine va_calli (va_runV (As := [.int z34, .int 3]) (rest := []) ⟨hx, hb, hml, hown, hts⟩ (c_X7_hasStretch l dC dI s1 z34 3 so1 sn1 si1 H.size vs1a vs1b) (cwV 2 hts gX9_load_X7_hasStretch rfl rfl rfl (by decide +kernel) ⟨Nat.le_of_ble_eq_true rfl, Nat.le_of_ble_eq_true rfl⟩) ⟨fun a U g mk q => by obtain ⟨q0, q1, qP, qK, qD⟩ := q; exact ⟨q0, q1, qP, va_K.moved (u := U) (U := U.calling g mk a) (Vm.Alike.refl U.vm) qK, qD⟩, va_recv (s := s) (q := (RX7, TX7, 3)) hKc hPc (ci := 6) (q0 := 0) rfl rfl, fun U hU hW => ⟨rfl, by rw [hU], by rw [hU]; exact hPc, va_K.moved hW.alike hKc, hDc.weaken (fun _ _ _ _ => trivial)⟩⟩ rfl rfl hl.1 rfl (lv_room (Nat.le_of_ble_eq_true rfl)) dX9_load_86 ⟨Nat.le_of_ble_eq_true rfl, Nat.le_of_ble_eq_true rfl⟩) hS (fun q _ h => hFc q h) hFc (fun r35 u t H1 locs ht hvm hw hB hz1 hk1 hS => ?_)
                      obtain ⟨hP1, hK1, hD1⟩ := hB
                      rw [ht] at hP1
                      have hK1 := va_K.moved hvm.symm hK1
                      try dsimp only at hw
                      obtain ⟨hP, hD⟩ := J_s (wL := [eO h0 8 [.ref jb, .ref ji, .ref jd, .ref je, .ref jg, .ref qpa, .int pcn, .int ipn, .ref jt, .ref jr, .ref j1, .ref j2, .ref qsa], eR qsa ksa 4 fsa, eO s0 6 [.int so0, .int sn0, .ref si0], eI si0 ksi0 60 fsi0, eI si1 ksi1 60 fsi1, eO s2 6 [.int so2, .int sn2, .ref si2], eI si2 ksi2 60 fsi2, eO s3 6 [.int so3, .int sn3, .ref si3], eI si3 ksi3 60 fsi3, eO jb 0 [.ref aq0, .ref aq1, .ref aq2, .ref aq3, .ref aq4, .ref aq5, .ref aq6, .int aacc, .long afees, .int amis, .int abel, .int aref, .int acau], eO jd 1 [.ref dq], eI dq kd 64 fdL, eO s1 6 [.int so1, .int sn1, .ref si1]]) hP hD [(12, 1)] [(0, 12)] hCm hNw (by decide +kernel) hk1 hFc hP1 hD1 rfl
                      have hK := KJ_s (tys' := [(ksa, .object "ClearingGates$Sheet"), (ksi0, .int), (ksi1, .int), (ksi2, .int), (ksi3, .int), (kd, .int)]) hK hK1 [(0, 6)] rfl
                      generalize H1 = H at hP hS ⊢
                      rcases hw with ⟨e_r35, f_r35⟩ | ⟨e_r35, f_r35⟩
                      · subst e_r35
                        refine lv_if_ne (tgt := 95) hx hb dX9_load_89 (by decide) (fun c36 => ?_) (fun c36 => absurd c36 (by decide))
                        refine lv_aload_n hx hb dX9_load_95 rfl (lv_at hl 4 rfl) ?_
                        refine lv_aload hx hb dX9_load_96 (lv_at hl 3 rfl) ?_
                        refine va_get (D := (dC, dI)) (ci := 6) (v := .ref si1) (C := RX7) (T := TX7) (N := 3) hx hb hts (fun w h => List.mem_cons_of_mem _ (inlX7 w h)) hown hK hP 12 rfl rfl 2 (by decide) (hts (.fieldLink RX9 276 "ClearingGates$Sheet" "items" "[I") (List.mem_cons_of_mem _ mw_207)) (fun _ h9 => h9) rfl dX9_load_98 ?_
                        refine lv_iload hx hb dX9_load_101 (lv_at hl 0 rfl) ?_
                        refine va_iald (D := (dC, dI)) hx hb hK hP 4 2 rfl rfl (vp_in_iff.mpr ⟨by omega, by omega⟩) dX9_load_103 ?_
                        refine lv_topi (fun z37 e_z37 => ?_)
                        refine lv_aload hx hb dX9_load_104 (lv_at hl 3 rfl) ?_
                        refine va_get (D := (dC, dI)) (ci := 6) (v := .ref si1) (C := RX7) (T := TX7) (N := 3) hx hb hts (fun w h => List.mem_cons_of_mem _ (inlX7 w h)) hown hK hP 12 rfl rfl 2 (by decide) (hts (.fieldLink RX9 276 "ClearingGates$Sheet" "items" "[I") (List.mem_cons_of_mem _ mw_207)) (fun _ h9 => h9) rfl dX9_load_106 ?_
                        refine lv_iload hx hb dX9_load_109 (lv_at hl 0 rfl) ?_
                        refine lv_iconst (v := 1) hx hb dX9_load_111 (by decide) ?_
                        refine lv_iadd hx hb dX9_load_112 ?_
                        refine lv_topi (fun z38 e_z38 => ?_)
                        (first | have t_z38 := i_add e_z38 (by omega) (by omega) | skip)
                        refine va_iald (D := (dC, dI)) hx hb hK hP 4 2 rfl rfl (vp_in_iff.mpr ⟨by omega, by omega⟩) dX9_load_113 ?_
                        refine lv_topi (fun z39 e_z39 => ?_)
                        refine lv_aload hx hb dX9_load_114 (lv_at hl 3 rfl) ?_
                        refine va_get (D := (dC, dI)) (ci := 6) (v := .ref si1) (C := RX7) (T := TX7) (N := 3) hx hb hts (fun w h => List.mem_cons_of_mem _ (inlX7 w h)) hown hK hP 12 rfl rfl 2 (by decide) (hts (.fieldLink RX9 276 "ClearingGates$Sheet" "items" "[I") (List.mem_cons_of_mem _ mw_207)) (fun _ h9 => h9) rfl dX9_load_116 ?_
                        refine lv_iload hx hb dX9_load_119 (lv_at hl 0 rfl) ?_
                        refine lv_iconst (v := 2) hx hb dX9_load_121 (by decide) ?_
                        refine lv_iadd hx hb dX9_load_122 ?_
                        refine lv_topi (fun z40 e_z40 => ?_)
                        (first | have t_z40 := i_add e_z40 (by omega) (by omega) | skip)
                        refine va_iald (D := (dC, dI)) hx hb hK hP 4 2 rfl rfl (vp_in_iff.mpr ⟨by omega, by omega⟩) dX9_load_123 ?_
                        refine lv_topi (fun z41 e_z41 => ?_)
                        obtain ⟨hPc, hDc, hFc, hCm, hNw⟩ := C_s (wc := [eO h0 8 [.ref jb, .ref ji, .ref jd, .ref je, .ref jg, .ref qpa, .int pcn, .int ipn, .ref jt, .ref jr, .ref j1, .ref j2, .ref qsa], eO jb 0 [.ref aq0, .ref aq1, .ref aq2, .ref aq3, .ref aq4, .ref aq5, .ref aq6, .int aacc, .long afees, .int amis, .int abel, .int aref, .int acau], eO jd 1 [.ref dq], eI dq kd 64 fdL]) hP hD hS hA [(0, 1), (9, 3)] 13 rfl (by decide +kernel) rfl
                        have hKc := K_s (tys' := [(kd, .int)]) hK [(5, 1)] rfl
                        refine va_calli (va_runV (As := [.int z37, .int z39, .int z41]) (rest := []) ⟨hx, hb, hml, hown, hts⟩ (c_X9_owe l dC dI h0 z37 z39 z41 jb ji jd je jg qpa pcn ipn jt jr j1 j2 qsa aq0 aq1 aq2 aq3 aq4 aq5 aq6 aacc afees amis abel aref acau dq kd fdL H.size va1 va2) (cwV 3 hts gX9_load_X9_owe rfl rfl rfl (by decide +kernel) ⟨Nat.le_of_ble_eq_true rfl, Nat.le_of_ble_eq_true rfl⟩) ⟨fun a U g mk q => by obtain ⟨q0, q1, qP, qK, qD⟩ := q; exact ⟨q0, q1, qP, va_K.moved (u := U) (U := U.calling g mk a) (Vm.Alike.refl U.vm) qK, qD⟩, va_recv (s := s) (q := (RX9, TX9, 13)) hKc hPc (ci := 8) (q0 := 0) rfl rfl, fun U hU hW => ⟨rfl, by rw [hU], by rw [hU]; exact hPc, va_K.moved hW.alike hKc, hDc.weaken (fun _ _ _ _ => trivial)⟩⟩ rfl rfl hl.1 rfl (lv_room (Nat.le_of_ble_eq_true rfl)) dX9_load_124 ⟨Nat.le_of_ble_eq_true rfl, Nat.le_of_ble_eq_true rfl⟩) hS (fun q _ h => hFc q h) hFc (fun r42 u t H1 locs ht hvm hw hB hz1 hk1 hS => ?_)
                        obtain ⟨q43, hP1, hK1, hD1⟩ := hB
                        rw [ht] at hP1
                        have hK1 := va_K.moved hvm.symm hK1
                        try dsimp only at hw
                        obtain ⟨hP, hD⟩ := J_s (wL := [eR qsa ksa 4 fsa, eO s0 6 [.int so0, .int sn0, .ref si0], eI si0 ksi0 60 fsi0, eI si1 ksi1 60 fsi1, eO s2 6 [.int so2, .int sn2, .ref si2], eI si2 ksi2 60 fsi2, eO s3 6 [.int so3, .int sn3, .ref si3], eI si3 ksi3 60 fsi3, eO s1 6 [.int so1, .int sn1, .ref si1], eO h0 8 [.ref jb, .ref ji, .ref jd, .ref je, .ref jg, .ref qpa, .int pcn, .int ipn, .ref jt, .ref jr, .ref j1, .ref j2, .ref qsa], eO jb 0 [.ref aq0, .ref aq1, .ref aq2, .ref aq3, .ref aq4, .ref aq5, .ref aq6, .int aacc, .long afees, .int amis, .int abel, .int aref, .int acau], eO jd 1 [.ref dq], eI dq kd 64 q43]) hP hD [(0, 1), (9, 3)] [(1, 8), (12, 1)] hCm hNw (by decide +kernel) hk1 hFc hP1 hD1 rfl
                        have hK := KJ_s (tys' := [(ksa, .object "ClearingGates$Sheet"), (ksi0, .int), (ksi1, .int), (ksi2, .int), (ksi3, .int), (kd, .int)]) hK hK1 [(0, 5)] rfl
                        generalize H1 = H at hP hS ⊢
                        refine lv_bipush (v := -2) hx hb dX9_load_127 (by decide) ?_
                        refine lv_icmp_eq (tgt := 135) hx hb dX9_load_129 (by decide) (fun c44 => ?_) (fun c44 => ?_)
                        · skip
                          have f_c44 := i_eq c44
                          obtain ⟨x45, e_x45⟩ : ∃ yy : Int32, yy = x + 1 := ⟨_, rfl⟩
                          refine lv_iinc (v := x45) (lv' := [(7, .int x45), (8, .int z34), (6, .int cm), (5, .ref s1), (0, .ref h0), (1, .int p0), (2, .int p1), (3, .int p2), (4, .int p3)]) hx hb dX9_load_135 hl (k := 1) rfl (by rw [e_x45]; rfl) (by decide) rfl (fun ls hl => ?_)
                          (first | have t_x45 := i_add e_x45 (by omega) (by omega) | skip)
                          refine lv_goto (tgt := 66) hx hb dX9_load_138 (by decide) ?_
                          exact ih_66 cm x45 q43 (by first | assumption | omega) (by first | assumption | omega) (by first | assumption | omega) (by first | assumption | omega) (by omega) _ _ (K_s hK [(0, 6)] rfl) (P_s hP [(9, 1), (0, 8), (10, 3), (8, 1)] rfl) (D_s hD [(9, 1), (0, 8), (10, 3), (8, 1)] 13 rfl (by decide +kernel) rfl) hS ls (lv_sub hl [0, 2, 3, 4, 5, 6, 7, 8] rfl)
                        · skip
                          have f_c44 := i_ne c44
                          obtain ⟨x46, e_x46⟩ : ∃ yy : Int32, yy = cm + 1 := ⟨_, rfl⟩
                          refine lv_iinc (v := x46) (lv' := [(6, .int x46), (8, .int z34), (7, .int x), (5, .ref s1), (0, .ref h0), (1, .int p0), (2, .int p1), (3, .int p2), (4, .int p3)]) hx hb dX9_load_132 hl (k := 2) rfl (by rw [e_x46]; rfl) (by decide) rfl (fun ls hl => ?_)
                          (first | have t_x46 := i_add e_x46 (by omega) (by omega) | skip)
                          obtain ⟨x47, e_x47⟩ : ∃ yy : Int32, yy = x + 1 := ⟨_, rfl⟩
                          refine lv_iinc (v := x47) (lv' := [(7, .int x47), (6, .int x46), (8, .int z34), (5, .ref s1), (0, .ref h0), (1, .int p0), (2, .int p1), (3, .int p2), (4, .int p3)]) hx hb dX9_load_135 hl (k := 2) rfl (by rw [e_x47]; rfl) (by decide) rfl (fun ls hl => ?_)
                          (first | have t_x47 := i_add e_x47 (by omega) (by omega) | skip)
                          refine lv_goto (tgt := 66) hx hb dX9_load_138 (by decide) ?_
                          exact ih_66 x46 x47 q43 (by first | assumption | omega) (by first | assumption | omega) (by first | assumption | omega) (by first | assumption | omega) (by omega) _ _ (K_s hK [(0, 6)] rfl) (P_s hP [(9, 1), (0, 8), (10, 3), (8, 1)] rfl) (D_s hD [(9, 1), (0, 8), (10, 3), (8, 1)] 13 rfl (by decide +kernel) rfl) hS ls (lv_sub hl [0, 1, 3, 4, 5, 6, 7, 8] rfl)
                      · subst e_r35
                        refine lv_if_ne (tgt := 95) hx hb dX9_load_89 (by decide) (fun c48 => absurd (by decide) c48) (fun c48 => ?_)
                        refine lv_bipush (v := -12) hx hb dX9_load_92 (by decide) ?_
                        rw [hQ9]
                        exact W.iret (v := (-12)) hx hb hr (fun t ht hW => ⟨⟨(-12), (), rfl, (by first | rfl | trivial), fdL, by rw [ht]; exact P_s hP [(0, 4), (12, 1), (4, 8)] rfl, va_K.moved hW.alike hK, D_s hD [(0, 4), (12, 1), (4, 8)] 13 rfl (by decide +kernel) rfl⟩, hS.F ht⟩) hS.2.2 dX9_load_94
                exact loop_66 (1000) 0 0 fd (by first | assumption | omega) (by first | assumption | omega) (by first | assumption | omega) (by first | assumption | omega) (by omega) _ _ hK hP hD hS ls (lv_sub hl [0, 1, 2, 3, 4, 5, 6, 7] rfl)
              · skip
                have f_c31 := i_ne c31
                refine lv_bipush (v := -13) hx hb dX9_load_57 (by decide) ?_
                rw [hQ9]
                exact W.iret (v := (-13)) hx hb hr (fun t ht hW => ⟨⟨(-13), (), rfl, (by first | rfl | trivial), fd, by rw [ht]; exact P_s hP [(0, 4), (12, 1), (4, 8)] rfl, va_K.moved hW.alike hK, D_s hD [(0, 4), (12, 1), (4, 8)] 13 rfl (by decide +kernel) rfl⟩, hS.F ht⟩) hS.2.2 dX9_load_59
          · rw [show va_rf (fsa p0.toNatClampNeg) = .ref s2 from by rw [i_nat j0, vsa2]; rfl]
            refine lv_astore (lv' := [(5, .ref s2), (0, .ref h0), (1, .int p0), (2, .int p1), (3, .int p2), (4, .int p3)]) hx hb dX9_load_35 hl (by decide) rfl (fun ls hl => ?_)
            refine lv_aload hx hb dX9_load_37 (lv_at hl 0 rfl) ?_
            obtain ⟨hPc, hDc, hFc, hCm, hNw⟩ := C_s (wc := [eO s2 6 [.int so2, .int sn2, .ref si2]]) hP hD hS hA [(6, 1)] 13 rfl (by decide +kernel) rfl
            have hKc := K_s (tys' := []) hK [] rfl
            refine va_calli (va_runV (As := []) (rest := []) ⟨hx, hb, hml, hown, hts⟩ (c_X7_isMissing l dC dI s2 so2 sn2 si2 H.size) (cwV 0 hts gX9_load_X7_isMissing rfl rfl rfl (by decide +kernel) ⟨Nat.le_of_ble_eq_true rfl, Nat.le_of_ble_eq_true rfl⟩) ⟨fun a U g mk q => by obtain ⟨q0, q1, qP, qK, qD⟩ := q; exact ⟨q0, q1, qP, va_K.moved (u := U) (U := U.calling g mk a) (Vm.Alike.refl U.vm) qK, qD⟩, va_recv (s := s) (q := (RX7, TX7, 3)) hKc hPc (ci := 6) (q0 := 0) rfl rfl, fun U hU hW => ⟨rfl, by rw [hU], by rw [hU]; exact hPc, va_K.moved hW.alike hKc, hDc.weaken (fun _ _ _ _ => trivial)⟩⟩ rfl rfl hl.1 rfl (lv_room (Nat.le_of_ble_eq_true rfl)) dX9_load_39 ⟨Nat.le_of_ble_eq_true rfl, Nat.le_of_ble_eq_true rfl⟩) hS (fun q _ h => hFc q h) hFc (fun r49 u t H1 locs ht hvm hw hB hz1 hk1 hS => ?_)
            obtain ⟨hP1, hK1, hD1⟩ := hB
            rw [ht] at hP1
            have hK1 := va_K.moved hvm.symm hK1
            try dsimp only at hw
            obtain ⟨hP, hD⟩ := J_s (wL := [eO h0 8 [.ref jb, .ref ji, .ref jd, .ref je, .ref jg, .ref qpa, .int pcn, .int ipn, .ref jt, .ref jr, .ref j1, .ref j2, .ref qsa], eR qsa ksa 4 fsa, eO s0 6 [.int so0, .int sn0, .ref si0], eI si0 ksi0 60 fsi0, eO s1 6 [.int so1, .int sn1, .ref si1], eI si1 ksi1 60 fsi1, eI si2 ksi2 60 fsi2, eO s3 6 [.int so3, .int sn3, .ref si3], eI si3 ksi3 60 fsi3, eO jb 0 [.ref aq0, .ref aq1, .ref aq2, .ref aq3, .ref aq4, .ref aq5, .ref aq6, .int aacc, .long afees, .int amis, .int abel, .int aref, .int acau], eO jd 1 [.ref dq], eI dq kd 64 fd, eO s2 6 [.int so2, .int sn2, .ref si2]]) hP hD [(6, 1)] [(0, 6), (7, 6)] hCm hNw (by decide +kernel) hk1 hFc hP1 hD1 rfl
            have hK := KJ_s (tys' := [(ksa, .object "ClearingGates$Sheet"), (ksi0, .int), (ksi1, .int), (ksi2, .int), (ksi3, .int), (kd, .int)]) hK hK1 [(0, 6)] rfl
            generalize H1 = H at hP hS ⊢
            rcases hw with ⟨e_r49, f_r49⟩ | ⟨e_r49, f_r49⟩
            · subst e_r49
              refine lv_if_eq (tgt := 48) hx hb dX9_load_42 (by decide) (fun c50 => absurd c50 (by decide)) (fun c50 => ?_)
              refine lv_bipush (v := -11) hx hb dX9_load_45 (by decide) ?_
              rw [hQ9]
              exact W.iret (v := (-11)) hx hb hr (fun t ht hW => ⟨⟨(-11), (), rfl, (by first | rfl | trivial), fd, by rw [ht]; exact P_s hP [(0, 6), (12, 1), (6, 6)] rfl, va_K.moved hW.alike hK, D_s hD [(0, 6), (12, 1), (6, 6)] 13 rfl (by decide +kernel) rfl⟩, hS.F ht⟩) hS.2.2 dX9_load_47
            · subst e_r49
              refine lv_if_eq (tgt := 48) hx hb dX9_load_42 (by decide) (fun c51 => ?_) (fun c51 => absurd (by decide) c51)
              refine lv_aload hx hb dX9_load_48 (lv_at hl 0 rfl) ?_
              refine va_get (D := (dC, dI)) (ci := 6) (v := .int so2) (C := RX7) (T := TX7) (N := 3) hx hb hts (fun w h => List.mem_cons_of_mem _ (inlX7 w h)) hown hK hP 12 rfl rfl 0 (by decide) (hts (.fieldLink RX9 270 "ClearingGates$Sheet" "sort" "I") (List.mem_cons_of_mem _ mw_203)) (fun _ h9 => h9) rfl dX9_load_50 ?_
              refine lv_iload_n hx hb dX9_load_53 rfl (lv_at hl 3 rfl) ?_
              refine lv_icmp_eq (tgt := 60) hx hb dX9_load_54 (by decide) (fun c52 => ?_) (fun c52 => ?_)
              · skip
                have f_c52 := i_eq c52
                refine lv_iconst (v := 0) hx hb dX9_load_60 (by decide) ?_
                refine lv_istore (lv' := [(6, .int 0), (5, .ref s2), (0, .ref h0), (1, .int p0), (2, .int p1), (3, .int p2), (4, .int p3)]) hx hb dX9_load_61 hl (by decide) rfl (fun ls hl => ?_)
                refine lv_iconst (v := 0) hx hb dX9_load_63 (by decide) ?_
                refine lv_istore (lv' := [(7, .int 0), (6, .int 0), (5, .ref s2), (0, .ref h0), (1, .int p0), (2, .int p1), (3, .int p2), (4, .int p3)]) hx hb dX9_load_64 hl (by decide) rfl (fun ls hl => ?_)
                have loop_66 : ∀ (n : Nat) (cm : Int32) (x : Int32) (fdL : Nat → Int32), (0 ≤ x.toInt) → (x.toInt ≤ 20) → (0 ≤ cm.toInt) → (cm.toInt ≤ x.toInt) → (20 - x.toInt) < (n : Int) → ∀ (H : Heap) (locs : List Loc), va_K (dC, dI) vwCl [(ksa, .object "ClearingGates$Sheet"), (ksi0, .int), (ksi1, .int), (ksi2, .int), (ksi3, .int), (kd, .int)] s → va_P (dC, dI) vwCl [eO h0 8 [.ref jb, .ref ji, .ref jd, .ref je, .ref jg, .ref qpa, .int pcn, .int ipn, .ref jt, .ref jr, .ref j1, .ref j2, .ref qsa], eR qsa ksa 4 fsa, eO s0 6 [.int so0, .int sn0, .ref si0], eI si0 ksi0 60 fsi0, eO s1 6 [.int so1, .int sn1, .ref si1], eI si1 ksi1 60 fsi1, eI si2 ksi2 60 fsi2, eO s3 6 [.int so3, .int sn3, .ref si3], eI si3 ksi3 60 fsi3, eO jb 0 [.ref aq0, .ref aq1, .ref aq2, .ref aq3, .ref aq4, .ref aq5, .ref aq6, .int aacc, .long afees, .int amis, .int abel, .int aref, .int acau], eO jd 1 [.ref dq], eI dq kd 64 fdL, eO s2 6 [.int so2, .int sn2, .ref si2]] H → va_D A [eO h0 8 [.ref jb, .ref ji, .ref jd, .ref je, .ref jg, .ref qpa, .int pcn, .int ipn, .ref jt, .ref jr, .ref j1, .ref j2, .ref qsa], eR qsa ksa 4 fsa, eO s0 6 [.int so0, .int sn0, .ref si0], eI si0 ksi0 60 fsi0, eO s1 6 [.int so1, .int sn1, .ref si1], eI si1 ksi1 60 fsi1, eI si2 ksi2 60 fsi2, eO s3 6 [.int so3, .int sn3, .ref si3], eI si3 ksi3 60 fsi3, eO jb 0 [.ref aq0, .ref aq1, .ref aq2, .ref aq3, .ref aq4, .ref aq5, .ref aq6, .int aacc, .long afees, .int amis, .int abel, .int aref, .int acau], eO jd 1 [.ref dq], eI dq kd 64 fdL, eO s2 6 [.int so2, .int sn2, .ref si2]] → va_S A s.heap H locs → ∀ (ls : Array Slot), lv_has ls 9 [(7, .int x), (6, .int cm), (5, .ref s2), (0, .ref h0), (1, .int p0), (2, .int p1), (3, .int p2), (4, .int p3)] → W p l e ({ frames := 3, cells := 0, slots := 0, locals := 67 }) s m (([.ref h0, .int p0, .int p1, .int p2, .int p3] : List Value).toArray) below meth c H locs 0 0 Q9 (F0 m 66 ls []) := by
                  intro n
                  induction n with
                  | zero => intro cm x fdL i1 i2 i3 i4 hM_66; exfalso; omega
                  | succ n ih_66 =>
                    intro cm x fdL i1 i2 i3 i4 hM_66 H locs hK hP hD hS ls hl
                    refine lv_iload hx hb dX9_load_66 (lv_at hl 0 rfl) ?_
                    refine lv_iload hx hb dX9_load_68 (lv_at hl 7 rfl) ?_
                    refine lv_icmp_ge (tgt := 141) hx hb dX9_load_70 (by decide) (fun c53 => ?_) (fun c53 => ?_)
                    · skip
                      have f_c53 := i_le c53
                      refine lv_iload hx hb dX9_load_141 (lv_at hl 1 rfl) ?_
                      rw [hQ9]
                      exact W.iret (v := cm) hx hb hr (fun t ht hW => ⟨⟨cm, (), rfl, (by first | rfl | trivial), fdL, by rw [ht]; exact P_s hP [(0, 6), (12, 1), (6, 6)] rfl, va_K.moved hW.alike hK, D_s hD [(0, 6), (12, 1), (6, 6)] 13 rfl (by decide +kernel) rfl⟩, hS.F ht⟩) hS.2.2 dX9_load_143
                    · skip
                      have f_c53 := i_nle c53
                      refine lv_iload_n hx hb dX9_load_73 rfl (lv_at hl 6 rfl) ?_
                      refine lv_iconst (v := 3) hx hb dX9_load_74 (by decide) ?_
                      refine lv_iload hx hb dX9_load_75 (lv_at hl 0 rfl) ?_
                      refine lv_imul hx hb dX9_load_77 ?_
                      refine lv_topi (fun z54 e_z54 => ?_)
                      refine lv_iadd hx hb dX9_load_78 ?_
                      refine lv_topi (fun z55 e_z55 => ?_)
                      (first | have t_z55 := i_add e_z55 (by omega) (by omega) | skip)
                      refine lv_istore (lv' := [(8, .int z55), (7, .int x), (6, .int cm), (5, .ref s2), (0, .ref h0), (1, .int p0), (2, .int p1), (3, .int p2), (4, .int p3)]) hx hb dX9_load_79 hl (by decide) rfl (fun ls hl => ?_)
                      refine lv_aload hx hb dX9_load_81 (lv_at hl 3 rfl) ?_
                      refine lv_iload hx hb dX9_load_83 (lv_at hl 0 rfl) ?_
                      refine lv_iconst (v := 3) hx hb dX9_load_85 (by decide) ?_
                      obtain ⟨hPc, hDc, hFc, hCm, hNw⟩ := C_s (wc := [eO s2 6 [.int so2, .int sn2, .ref si2]]) hP hD hS hA [(12, 1)] 13 rfl (by decide +kernel) rfl
                      have hKc := K_s (tys' := []) hK [] rfl
                      refine va_calli (va_runV (As := [.int z55, .int 3]) (rest := []) ⟨hx, hb, hml, hown, hts⟩ (c_X7_hasStretch l dC dI s2 z55 3 so2 sn2 si2 H.size vs2a vs2b) (cwV 2 hts gX9_load_X7_hasStretch rfl rfl rfl (by decide +kernel) ⟨Nat.le_of_ble_eq_true rfl, Nat.le_of_ble_eq_true rfl⟩) ⟨fun a U g mk q => by obtain ⟨q0, q1, qP, qK, qD⟩ := q; exact ⟨q0, q1, qP, va_K.moved (u := U) (U := U.calling g mk a) (Vm.Alike.refl U.vm) qK, qD⟩, va_recv (s := s) (q := (RX7, TX7, 3)) hKc hPc (ci := 6) (q0 := 0) rfl rfl, fun U hU hW => ⟨rfl, by rw [hU], by rw [hU]; exact hPc, va_K.moved hW.alike hKc, hDc.weaken (fun _ _ _ _ => trivial)⟩⟩ rfl rfl hl.1 rfl (lv_room (Nat.le_of_ble_eq_true rfl)) dX9_load_86 ⟨Nat.le_of_ble_eq_true rfl, Nat.le_of_ble_eq_true rfl⟩) hS (fun q _ h => hFc q h) hFc (fun r56 u t H1 locs ht hvm hw hB hz1 hk1 hS => ?_)
                      obtain ⟨hP1, hK1, hD1⟩ := hB
                      rw [ht] at hP1
                      have hK1 := va_K.moved hvm.symm hK1
                      try dsimp only at hw
                      obtain ⟨hP, hD⟩ := J_s (wL := [eO h0 8 [.ref jb, .ref ji, .ref jd, .ref je, .ref jg, .ref qpa, .int pcn, .int ipn, .ref jt, .ref jr, .ref j1, .ref j2, .ref qsa], eR qsa ksa 4 fsa, eO s0 6 [.int so0, .int sn0, .ref si0], eI si0 ksi0 60 fsi0, eO s1 6 [.int so1, .int sn1, .ref si1], eI si1 ksi1 60 fsi1, eI si2 ksi2 60 fsi2, eO s3 6 [.int so3, .int sn3, .ref si3], eI si3 ksi3 60 fsi3, eO jb 0 [.ref aq0, .ref aq1, .ref aq2, .ref aq3, .ref aq4, .ref aq5, .ref aq6, .int aacc, .long afees, .int amis, .int abel, .int aref, .int acau], eO jd 1 [.ref dq], eI dq kd 64 fdL, eO s2 6 [.int so2, .int sn2, .ref si2]]) hP hD [(12, 1)] [(0, 12)] hCm hNw (by decide +kernel) hk1 hFc hP1 hD1 rfl
                      have hK := KJ_s (tys' := [(ksa, .object "ClearingGates$Sheet"), (ksi0, .int), (ksi1, .int), (ksi2, .int), (ksi3, .int), (kd, .int)]) hK hK1 [(0, 6)] rfl
                      generalize H1 = H at hP hS ⊢
                      rcases hw with ⟨e_r56, f_r56⟩ | ⟨e_r56, f_r56⟩
                      · subst e_r56
                        refine lv_if_ne (tgt := 95) hx hb dX9_load_89 (by decide) (fun c57 => ?_) (fun c57 => absurd c57 (by decide))
                        refine lv_aload_n hx hb dX9_load_95 rfl (lv_at hl 4 rfl) ?_
                        refine lv_aload hx hb dX9_load_96 (lv_at hl 3 rfl) ?_
                        refine va_get (D := (dC, dI)) (ci := 6) (v := .ref si2) (C := RX7) (T := TX7) (N := 3) hx hb hts (fun w h => List.mem_cons_of_mem _ (inlX7 w h)) hown hK hP 12 rfl rfl 2 (by decide) (hts (.fieldLink RX9 276 "ClearingGates$Sheet" "items" "[I") (List.mem_cons_of_mem _ mw_207)) (fun _ h9 => h9) rfl dX9_load_98 ?_
                        refine lv_iload hx hb dX9_load_101 (lv_at hl 0 rfl) ?_
                        refine va_iald (D := (dC, dI)) hx hb hK hP 6 3 rfl rfl (vp_in_iff.mpr ⟨by omega, by omega⟩) dX9_load_103 ?_
                        refine lv_topi (fun z58 e_z58 => ?_)
                        refine lv_aload hx hb dX9_load_104 (lv_at hl 3 rfl) ?_
                        refine va_get (D := (dC, dI)) (ci := 6) (v := .ref si2) (C := RX7) (T := TX7) (N := 3) hx hb hts (fun w h => List.mem_cons_of_mem _ (inlX7 w h)) hown hK hP 12 rfl rfl 2 (by decide) (hts (.fieldLink RX9 276 "ClearingGates$Sheet" "items" "[I") (List.mem_cons_of_mem _ mw_207)) (fun _ h9 => h9) rfl dX9_load_106 ?_
                        refine lv_iload hx hb dX9_load_109 (lv_at hl 0 rfl) ?_
                        refine lv_iconst (v := 1) hx hb dX9_load_111 (by decide) ?_
                        refine lv_iadd hx hb dX9_load_112 ?_
                        refine lv_topi (fun z59 e_z59 => ?_)
                        (first | have t_z59 := i_add e_z59 (by omega) (by omega) | skip)
                        refine va_iald (D := (dC, dI)) hx hb hK hP 6 3 rfl rfl (vp_in_iff.mpr ⟨by omega, by omega⟩) dX9_load_113 ?_
                        refine lv_topi (fun z60 e_z60 => ?_)
                        refine lv_aload hx hb dX9_load_114 (lv_at hl 3 rfl) ?_
                        refine va_get (D := (dC, dI)) (ci := 6) (v := .ref si2) (C := RX7) (T := TX7) (N := 3) hx hb hts (fun w h => List.mem_cons_of_mem _ (inlX7 w h)) hown hK hP 12 rfl rfl 2 (by decide) (hts (.fieldLink RX9 276 "ClearingGates$Sheet" "items" "[I") (List.mem_cons_of_mem _ mw_207)) (fun _ h9 => h9) rfl dX9_load_116 ?_
                        refine lv_iload hx hb dX9_load_119 (lv_at hl 0 rfl) ?_
                        refine lv_iconst (v := 2) hx hb dX9_load_121 (by decide) ?_
                        refine lv_iadd hx hb dX9_load_122 ?_
                        refine lv_topi (fun z61 e_z61 => ?_)
                        (first | have t_z61 := i_add e_z61 (by omega) (by omega) | skip)
                        refine va_iald (D := (dC, dI)) hx hb hK hP 6 3 rfl rfl (vp_in_iff.mpr ⟨by omega, by omega⟩) dX9_load_123 ?_
                        refine lv_topi (fun z62 e_z62 => ?_)
                        obtain ⟨hPc, hDc, hFc, hCm, hNw⟩ := C_s (wc := [eO h0 8 [.ref jb, .ref ji, .ref jd, .ref je, .ref jg, .ref qpa, .int pcn, .int ipn, .ref jt, .ref jr, .ref j1, .ref j2, .ref qsa], eO jb 0 [.ref aq0, .ref aq1, .ref aq2, .ref aq3, .ref aq4, .ref aq5, .ref aq6, .int aacc, .long afees, .int amis, .int abel, .int aref, .int acau], eO jd 1 [.ref dq], eI dq kd 64 fdL]) hP hD hS hA [(0, 1), (9, 3)] 13 rfl (by decide +kernel) rfl
                        have hKc := K_s (tys' := [(kd, .int)]) hK [(5, 1)] rfl
                        refine va_calli (va_runV (As := [.int z58, .int z60, .int z62]) (rest := []) ⟨hx, hb, hml, hown, hts⟩ (c_X9_owe l dC dI h0 z58 z60 z62 jb ji jd je jg qpa pcn ipn jt jr j1 j2 qsa aq0 aq1 aq2 aq3 aq4 aq5 aq6 aacc afees amis abel aref acau dq kd fdL H.size va1 va2) (cwV 3 hts gX9_load_X9_owe rfl rfl rfl (by decide +kernel) ⟨Nat.le_of_ble_eq_true rfl, Nat.le_of_ble_eq_true rfl⟩) ⟨fun a U g mk q => by obtain ⟨q0, q1, qP, qK, qD⟩ := q; exact ⟨q0, q1, qP, va_K.moved (u := U) (U := U.calling g mk a) (Vm.Alike.refl U.vm) qK, qD⟩, va_recv (s := s) (q := (RX9, TX9, 13)) hKc hPc (ci := 8) (q0 := 0) rfl rfl, fun U hU hW => ⟨rfl, by rw [hU], by rw [hU]; exact hPc, va_K.moved hW.alike hKc, hDc.weaken (fun _ _ _ _ => trivial)⟩⟩ rfl rfl hl.1 rfl (lv_room (Nat.le_of_ble_eq_true rfl)) dX9_load_124 ⟨Nat.le_of_ble_eq_true rfl, Nat.le_of_ble_eq_true rfl⟩) hS (fun q _ h => hFc q h) hFc (fun r63 u t H1 locs ht hvm hw hB hz1 hk1 hS => ?_)
                        obtain ⟨q64, hP1, hK1, hD1⟩ := hB
                        rw [ht] at hP1
                        have hK1 := va_K.moved hvm.symm hK1
                        try dsimp only at hw
                        obtain ⟨hP, hD⟩ := J_s (wL := [eR qsa ksa 4 fsa, eO s0 6 [.int so0, .int sn0, .ref si0], eI si0 ksi0 60 fsi0, eO s1 6 [.int so1, .int sn1, .ref si1], eI si1 ksi1 60 fsi1, eI si2 ksi2 60 fsi2, eO s3 6 [.int so3, .int sn3, .ref si3], eI si3 ksi3 60 fsi3, eO s2 6 [.int so2, .int sn2, .ref si2], eO h0 8 [.ref jb, .ref ji, .ref jd, .ref je, .ref jg, .ref qpa, .int pcn, .int ipn, .ref jt, .ref jr, .ref j1, .ref j2, .ref qsa], eO jb 0 [.ref aq0, .ref aq1, .ref aq2, .ref aq3, .ref aq4, .ref aq5, .ref aq6, .int aacc, .long afees, .int amis, .int abel, .int aref, .int acau], eO jd 1 [.ref dq], eI dq kd 64 q64]) hP hD [(0, 1), (9, 3)] [(1, 8), (12, 1)] hCm hNw (by decide +kernel) hk1 hFc hP1 hD1 rfl
                        have hK := KJ_s (tys' := [(ksa, .object "ClearingGates$Sheet"), (ksi0, .int), (ksi1, .int), (ksi2, .int), (ksi3, .int), (kd, .int)]) hK hK1 [(0, 5)] rfl
                        generalize H1 = H at hP hS ⊢
                        refine lv_bipush (v := -2) hx hb dX9_load_127 (by decide) ?_
                        refine lv_icmp_eq (tgt := 135) hx hb dX9_load_129 (by decide) (fun c65 => ?_) (fun c65 => ?_)
                        · skip
                          have f_c65 := i_eq c65
                          obtain ⟨x66, e_x66⟩ : ∃ yy : Int32, yy = x + 1 := ⟨_, rfl⟩
                          refine lv_iinc (v := x66) (lv' := [(7, .int x66), (8, .int z55), (6, .int cm), (5, .ref s2), (0, .ref h0), (1, .int p0), (2, .int p1), (3, .int p2), (4, .int p3)]) hx hb dX9_load_135 hl (k := 1) rfl (by rw [e_x66]; rfl) (by decide) rfl (fun ls hl => ?_)
                          (first | have t_x66 := i_add e_x66 (by omega) (by omega) | skip)
                          refine lv_goto (tgt := 66) hx hb dX9_load_138 (by decide) ?_
                          exact ih_66 cm x66 q64 (by first | assumption | omega) (by first | assumption | omega) (by first | assumption | omega) (by first | assumption | omega) (by omega) _ _ (K_s hK [(0, 6)] rfl) (P_s hP [(9, 1), (0, 8), (10, 3), (8, 1)] rfl) (D_s hD [(9, 1), (0, 8), (10, 3), (8, 1)] 13 rfl (by decide +kernel) rfl) hS ls (lv_sub hl [0, 2, 3, 4, 5, 6, 7, 8] rfl)
                        · skip
                          have f_c65 := i_ne c65
                          obtain ⟨x67, e_x67⟩ : ∃ yy : Int32, yy = cm + 1 := ⟨_, rfl⟩
                          refine lv_iinc (v := x67) (lv' := [(6, .int x67), (8, .int z55), (7, .int x), (5, .ref s2), (0, .ref h0), (1, .int p0), (2, .int p1), (3, .int p2), (4, .int p3)]) hx hb dX9_load_132 hl (k := 2) rfl (by rw [e_x67]; rfl) (by decide) rfl (fun ls hl => ?_)
                          (first | have t_x67 := i_add e_x67 (by omega) (by omega) | skip)
                          obtain ⟨x68, e_x68⟩ : ∃ yy : Int32, yy = x + 1 := ⟨_, rfl⟩
                          refine lv_iinc (v := x68) (lv' := [(7, .int x68), (6, .int x67), (8, .int z55), (5, .ref s2), (0, .ref h0), (1, .int p0), (2, .int p1), (3, .int p2), (4, .int p3)]) hx hb dX9_load_135 hl (k := 2) rfl (by rw [e_x68]; rfl) (by decide) rfl (fun ls hl => ?_)
                          (first | have t_x68 := i_add e_x68 (by omega) (by omega) | skip)
                          refine lv_goto (tgt := 66) hx hb dX9_load_138 (by decide) ?_
                          exact ih_66 x67 x68 q64 (by first | assumption | omega) (by first | assumption | omega) (by first | assumption | omega) (by first | assumption | omega) (by omega) _ _ (K_s hK [(0, 6)] rfl) (P_s hP [(9, 1), (0, 8), (10, 3), (8, 1)] rfl) (D_s hD [(9, 1), (0, 8), (10, 3), (8, 1)] 13 rfl (by decide +kernel) rfl) hS ls (lv_sub hl [0, 1, 3, 4, 5, 6, 7, 8] rfl)
                      · subst e_r56
                        refine lv_if_ne (tgt := 95) hx hb dX9_load_89 (by decide) (fun c69 => absurd (by decide) c69) (fun c69 => ?_)
                        refine lv_bipush (v := -12) hx hb dX9_load_92 (by decide) ?_
                        rw [hQ9]
                        exact W.iret (v := (-12)) hx hb hr (fun t ht hW => ⟨⟨(-12), (), rfl, (by first | rfl | trivial), fdL, by rw [ht]; exact P_s hP [(0, 6), (12, 1), (6, 6)] rfl, va_K.moved hW.alike hK, D_s hD [(0, 6), (12, 1), (6, 6)] 13 rfl (by decide +kernel) rfl⟩, hS.F ht⟩) hS.2.2 dX9_load_94
                exact loop_66 (1000) 0 0 fd (by first | assumption | omega) (by first | assumption | omega) (by first | assumption | omega) (by first | assumption | omega) (by omega) _ _ hK hP hD hS ls (lv_sub hl [0, 1, 2, 3, 4, 5, 6, 7] rfl)
              · skip
                have f_c52 := i_ne c52
                refine lv_bipush (v := -13) hx hb dX9_load_57 (by decide) ?_
                rw [hQ9]
                exact W.iret (v := (-13)) hx hb hr (fun t ht hW => ⟨⟨(-13), (), rfl, (by first | rfl | trivial), fd, by rw [ht]; exact P_s hP [(0, 6), (12, 1), (6, 6)] rfl, va_K.moved hW.alike hK, D_s hD [(0, 6), (12, 1), (6, 6)] 13 rfl (by decide +kernel) rfl⟩, hS.F ht⟩) hS.2.2 dX9_load_59
          · rw [show va_rf (fsa p0.toNatClampNeg) = .ref s3 from by rw [i_nat j0, vsa3]; rfl]
            refine lv_astore (lv' := [(5, .ref s3), (0, .ref h0), (1, .int p0), (2, .int p1), (3, .int p2), (4, .int p3)]) hx hb dX9_load_35 hl (by decide) rfl (fun ls hl => ?_)
            refine lv_aload hx hb dX9_load_37 (lv_at hl 0 rfl) ?_
            obtain ⟨hPc, hDc, hFc, hCm, hNw⟩ := C_s (wc := [eO s3 6 [.int so3, .int sn3, .ref si3]]) hP hD hS hA [(8, 1)] 13 rfl (by decide +kernel) rfl
            have hKc := K_s (tys' := []) hK [] rfl
            refine va_calli (va_runV (As := []) (rest := []) ⟨hx, hb, hml, hown, hts⟩ (c_X7_isMissing l dC dI s3 so3 sn3 si3 H.size) (cwV 0 hts gX9_load_X7_isMissing rfl rfl rfl (by decide +kernel) ⟨Nat.le_of_ble_eq_true rfl, Nat.le_of_ble_eq_true rfl⟩) ⟨fun a U g mk q => by obtain ⟨q0, q1, qP, qK, qD⟩ := q; exact ⟨q0, q1, qP, va_K.moved (u := U) (U := U.calling g mk a) (Vm.Alike.refl U.vm) qK, qD⟩, va_recv (s := s) (q := (RX7, TX7, 3)) hKc hPc (ci := 6) (q0 := 0) rfl rfl, fun U hU hW => ⟨rfl, by rw [hU], by rw [hU]; exact hPc, va_K.moved hW.alike hKc, hDc.weaken (fun _ _ _ _ => trivial)⟩⟩ rfl rfl hl.1 rfl (lv_room (Nat.le_of_ble_eq_true rfl)) dX9_load_39 ⟨Nat.le_of_ble_eq_true rfl, Nat.le_of_ble_eq_true rfl⟩) hS (fun q _ h => hFc q h) hFc (fun r70 u t H1 locs ht hvm hw hB hz1 hk1 hS => ?_)
            obtain ⟨hP1, hK1, hD1⟩ := hB
            rw [ht] at hP1
            have hK1 := va_K.moved hvm.symm hK1
            try dsimp only at hw
            obtain ⟨hP, hD⟩ := J_s (wL := [eO h0 8 [.ref jb, .ref ji, .ref jd, .ref je, .ref jg, .ref qpa, .int pcn, .int ipn, .ref jt, .ref jr, .ref j1, .ref j2, .ref qsa], eR qsa ksa 4 fsa, eO s0 6 [.int so0, .int sn0, .ref si0], eI si0 ksi0 60 fsi0, eO s1 6 [.int so1, .int sn1, .ref si1], eI si1 ksi1 60 fsi1, eO s2 6 [.int so2, .int sn2, .ref si2], eI si2 ksi2 60 fsi2, eI si3 ksi3 60 fsi3, eO jb 0 [.ref aq0, .ref aq1, .ref aq2, .ref aq3, .ref aq4, .ref aq5, .ref aq6, .int aacc, .long afees, .int amis, .int abel, .int aref, .int acau], eO jd 1 [.ref dq], eI dq kd 64 fd, eO s3 6 [.int so3, .int sn3, .ref si3]]) hP hD [(8, 1)] [(0, 8), (9, 4)] hCm hNw (by decide +kernel) hk1 hFc hP1 hD1 rfl
            have hK := KJ_s (tys' := [(ksa, .object "ClearingGates$Sheet"), (ksi0, .int), (ksi1, .int), (ksi2, .int), (ksi3, .int), (kd, .int)]) hK hK1 [(0, 6)] rfl
            generalize H1 = H at hP hS ⊢
            rcases hw with ⟨e_r70, f_r70⟩ | ⟨e_r70, f_r70⟩
            · subst e_r70
              refine lv_if_eq (tgt := 48) hx hb dX9_load_42 (by decide) (fun c71 => absurd c71 (by decide)) (fun c71 => ?_)
              refine lv_bipush (v := -11) hx hb dX9_load_45 (by decide) ?_
              rw [hQ9]
              exact W.iret (v := (-11)) hx hb hr (fun t ht hW => ⟨⟨(-11), (), rfl, (by first | rfl | trivial), fd, by rw [ht]; exact P_s hP [(0, 8), (12, 1), (8, 4)] rfl, va_K.moved hW.alike hK, D_s hD [(0, 8), (12, 1), (8, 4)] 13 rfl (by decide +kernel) rfl⟩, hS.F ht⟩) hS.2.2 dX9_load_47
            · subst e_r70
              refine lv_if_eq (tgt := 48) hx hb dX9_load_42 (by decide) (fun c72 => ?_) (fun c72 => absurd (by decide) c72)
              refine lv_aload hx hb dX9_load_48 (lv_at hl 0 rfl) ?_
              refine va_get (D := (dC, dI)) (ci := 6) (v := .int so3) (C := RX7) (T := TX7) (N := 3) hx hb hts (fun w h => List.mem_cons_of_mem _ (inlX7 w h)) hown hK hP 12 rfl rfl 0 (by decide) (hts (.fieldLink RX9 270 "ClearingGates$Sheet" "sort" "I") (List.mem_cons_of_mem _ mw_203)) (fun _ h9 => h9) rfl dX9_load_50 ?_
              refine lv_iload_n hx hb dX9_load_53 rfl (lv_at hl 3 rfl) ?_
              refine lv_icmp_eq (tgt := 60) hx hb dX9_load_54 (by decide) (fun c73 => ?_) (fun c73 => ?_)
              · skip
                have f_c73 := i_eq c73
                refine lv_iconst (v := 0) hx hb dX9_load_60 (by decide) ?_
                refine lv_istore (lv' := [(6, .int 0), (5, .ref s3), (0, .ref h0), (1, .int p0), (2, .int p1), (3, .int p2), (4, .int p3)]) hx hb dX9_load_61 hl (by decide) rfl (fun ls hl => ?_)
                refine lv_iconst (v := 0) hx hb dX9_load_63 (by decide) ?_
                refine lv_istore (lv' := [(7, .int 0), (6, .int 0), (5, .ref s3), (0, .ref h0), (1, .int p0), (2, .int p1), (3, .int p2), (4, .int p3)]) hx hb dX9_load_64 hl (by decide) rfl (fun ls hl => ?_)
                have loop_66 : ∀ (n : Nat) (cm : Int32) (x : Int32) (fdL : Nat → Int32), (0 ≤ x.toInt) → (x.toInt ≤ 20) → (0 ≤ cm.toInt) → (cm.toInt ≤ x.toInt) → (20 - x.toInt) < (n : Int) → ∀ (H : Heap) (locs : List Loc), va_K (dC, dI) vwCl [(ksa, .object "ClearingGates$Sheet"), (ksi0, .int), (ksi1, .int), (ksi2, .int), (ksi3, .int), (kd, .int)] s → va_P (dC, dI) vwCl [eO h0 8 [.ref jb, .ref ji, .ref jd, .ref je, .ref jg, .ref qpa, .int pcn, .int ipn, .ref jt, .ref jr, .ref j1, .ref j2, .ref qsa], eR qsa ksa 4 fsa, eO s0 6 [.int so0, .int sn0, .ref si0], eI si0 ksi0 60 fsi0, eO s1 6 [.int so1, .int sn1, .ref si1], eI si1 ksi1 60 fsi1, eO s2 6 [.int so2, .int sn2, .ref si2], eI si2 ksi2 60 fsi2, eI si3 ksi3 60 fsi3, eO jb 0 [.ref aq0, .ref aq1, .ref aq2, .ref aq3, .ref aq4, .ref aq5, .ref aq6, .int aacc, .long afees, .int amis, .int abel, .int aref, .int acau], eO jd 1 [.ref dq], eI dq kd 64 fdL, eO s3 6 [.int so3, .int sn3, .ref si3]] H → va_D A [eO h0 8 [.ref jb, .ref ji, .ref jd, .ref je, .ref jg, .ref qpa, .int pcn, .int ipn, .ref jt, .ref jr, .ref j1, .ref j2, .ref qsa], eR qsa ksa 4 fsa, eO s0 6 [.int so0, .int sn0, .ref si0], eI si0 ksi0 60 fsi0, eO s1 6 [.int so1, .int sn1, .ref si1], eI si1 ksi1 60 fsi1, eO s2 6 [.int so2, .int sn2, .ref si2], eI si2 ksi2 60 fsi2, eI si3 ksi3 60 fsi3, eO jb 0 [.ref aq0, .ref aq1, .ref aq2, .ref aq3, .ref aq4, .ref aq5, .ref aq6, .int aacc, .long afees, .int amis, .int abel, .int aref, .int acau], eO jd 1 [.ref dq], eI dq kd 64 fdL, eO s3 6 [.int so3, .int sn3, .ref si3]] → va_S A s.heap H locs → ∀ (ls : Array Slot), lv_has ls 9 [(7, .int x), (6, .int cm), (5, .ref s3), (0, .ref h0), (1, .int p0), (2, .int p1), (3, .int p2), (4, .int p3)] → W p l e ({ frames := 3, cells := 0, slots := 0, locals := 67 }) s m (([.ref h0, .int p0, .int p1, .int p2, .int p3] : List Value).toArray) below meth c H locs 0 0 Q9 (F0 m 66 ls []) := by
                  intro n
                  induction n with
                  | zero => intro cm x fdL i1 i2 i3 i4 hM_66; exfalso; omega
                  | succ n ih_66 =>
                    intro cm x fdL i1 i2 i3 i4 hM_66 H locs hK hP hD hS ls hl
                    refine lv_iload hx hb dX9_load_66 (lv_at hl 0 rfl) ?_
                    refine lv_iload hx hb dX9_load_68 (lv_at hl 7 rfl) ?_
                    refine lv_icmp_ge (tgt := 141) hx hb dX9_load_70 (by decide) (fun c74 => ?_) (fun c74 => ?_)
                    · skip
                      have f_c74 := i_le c74
                      refine lv_iload hx hb dX9_load_141 (lv_at hl 1 rfl) ?_
                      rw [hQ9]
                      exact W.iret (v := cm) hx hb hr (fun t ht hW => ⟨⟨cm, (), rfl, (by first | rfl | trivial), fdL, by rw [ht]; exact P_s hP [(0, 8), (12, 1), (8, 4)] rfl, va_K.moved hW.alike hK, D_s hD [(0, 8), (12, 1), (8, 4)] 13 rfl (by decide +kernel) rfl⟩, hS.F ht⟩) hS.2.2 dX9_load_143
                    · skip
                      have f_c74 := i_nle c74
                      refine lv_iload_n hx hb dX9_load_73 rfl (lv_at hl 6 rfl) ?_
                      refine lv_iconst (v := 3) hx hb dX9_load_74 (by decide) ?_
                      refine lv_iload hx hb dX9_load_75 (lv_at hl 0 rfl) ?_
                      refine lv_imul hx hb dX9_load_77 ?_
                      refine lv_topi (fun z75 e_z75 => ?_)
                      refine lv_iadd hx hb dX9_load_78 ?_
                      refine lv_topi (fun z76 e_z76 => ?_)
                      (first | have t_z76 := i_add e_z76 (by omega) (by omega) | skip)
                      refine lv_istore (lv' := [(8, .int z76), (7, .int x), (6, .int cm), (5, .ref s3), (0, .ref h0), (1, .int p0), (2, .int p1), (3, .int p2), (4, .int p3)]) hx hb dX9_load_79 hl (by decide) rfl (fun ls hl => ?_)
                      refine lv_aload hx hb dX9_load_81 (lv_at hl 3 rfl) ?_
                      refine lv_iload hx hb dX9_load_83 (lv_at hl 0 rfl) ?_
                      refine lv_iconst (v := 3) hx hb dX9_load_85 (by decide) ?_
                      obtain ⟨hPc, hDc, hFc, hCm, hNw⟩ := C_s (wc := [eO s3 6 [.int so3, .int sn3, .ref si3]]) hP hD hS hA [(12, 1)] 13 rfl (by decide +kernel) rfl
                      have hKc := K_s (tys' := []) hK [] rfl
                      refine va_calli (va_runV (As := [.int z76, .int 3]) (rest := []) ⟨hx, hb, hml, hown, hts⟩ (c_X7_hasStretch l dC dI s3 z76 3 so3 sn3 si3 H.size vs3a vs3b) (cwV 2 hts gX9_load_X7_hasStretch rfl rfl rfl (by decide +kernel) ⟨Nat.le_of_ble_eq_true rfl, Nat.le_of_ble_eq_true rfl⟩) ⟨fun a U g mk q => by obtain ⟨q0, q1, qP, qK, qD⟩ := q; exact ⟨q0, q1, qP, va_K.moved (u := U) (U := U.calling g mk a) (Vm.Alike.refl U.vm) qK, qD⟩, va_recv (s := s) (q := (RX7, TX7, 3)) hKc hPc (ci := 6) (q0 := 0) rfl rfl, fun U hU hW => ⟨rfl, by rw [hU], by rw [hU]; exact hPc, va_K.moved hW.alike hKc, hDc.weaken (fun _ _ _ _ => trivial)⟩⟩ rfl rfl hl.1 rfl (lv_room (Nat.le_of_ble_eq_true rfl)) dX9_load_86 ⟨Nat.le_of_ble_eq_true rfl, Nat.le_of_ble_eq_true rfl⟩) hS (fun q _ h => hFc q h) hFc (fun r77 u t H1 locs ht hvm hw hB hz1 hk1 hS => ?_)
                      obtain ⟨hP1, hK1, hD1⟩ := hB
                      rw [ht] at hP1
                      have hK1 := va_K.moved hvm.symm hK1
                      try dsimp only at hw
                      obtain ⟨hP, hD⟩ := J_s (wL := [eO h0 8 [.ref jb, .ref ji, .ref jd, .ref je, .ref jg, .ref qpa, .int pcn, .int ipn, .ref jt, .ref jr, .ref j1, .ref j2, .ref qsa], eR qsa ksa 4 fsa, eO s0 6 [.int so0, .int sn0, .ref si0], eI si0 ksi0 60 fsi0, eO s1 6 [.int so1, .int sn1, .ref si1], eI si1 ksi1 60 fsi1, eO s2 6 [.int so2, .int sn2, .ref si2], eI si2 ksi2 60 fsi2, eI si3 ksi3 60 fsi3, eO jb 0 [.ref aq0, .ref aq1, .ref aq2, .ref aq3, .ref aq4, .ref aq5, .ref aq6, .int aacc, .long afees, .int amis, .int abel, .int aref, .int acau], eO jd 1 [.ref dq], eI dq kd 64 fdL, eO s3 6 [.int so3, .int sn3, .ref si3]]) hP hD [(12, 1)] [(0, 12)] hCm hNw (by decide +kernel) hk1 hFc hP1 hD1 rfl
                      have hK := KJ_s (tys' := [(ksa, .object "ClearingGates$Sheet"), (ksi0, .int), (ksi1, .int), (ksi2, .int), (ksi3, .int), (kd, .int)]) hK hK1 [(0, 6)] rfl
                      generalize H1 = H at hP hS ⊢
                      rcases hw with ⟨e_r77, f_r77⟩ | ⟨e_r77, f_r77⟩
                      · subst e_r77
                        refine lv_if_ne (tgt := 95) hx hb dX9_load_89 (by decide) (fun c78 => ?_) (fun c78 => absurd c78 (by decide))
                        refine lv_aload_n hx hb dX9_load_95 rfl (lv_at hl 4 rfl) ?_
                        refine lv_aload hx hb dX9_load_96 (lv_at hl 3 rfl) ?_
                        refine va_get (D := (dC, dI)) (ci := 6) (v := .ref si3) (C := RX7) (T := TX7) (N := 3) hx hb hts (fun w h => List.mem_cons_of_mem _ (inlX7 w h)) hown hK hP 12 rfl rfl 2 (by decide) (hts (.fieldLink RX9 276 "ClearingGates$Sheet" "items" "[I") (List.mem_cons_of_mem _ mw_207)) (fun _ h9 => h9) rfl dX9_load_98 ?_
                        refine lv_iload hx hb dX9_load_101 (lv_at hl 0 rfl) ?_
                        refine va_iald (D := (dC, dI)) hx hb hK hP 8 4 rfl rfl (vp_in_iff.mpr ⟨by omega, by omega⟩) dX9_load_103 ?_
                        refine lv_topi (fun z79 e_z79 => ?_)
                        refine lv_aload hx hb dX9_load_104 (lv_at hl 3 rfl) ?_
                        refine va_get (D := (dC, dI)) (ci := 6) (v := .ref si3) (C := RX7) (T := TX7) (N := 3) hx hb hts (fun w h => List.mem_cons_of_mem _ (inlX7 w h)) hown hK hP 12 rfl rfl 2 (by decide) (hts (.fieldLink RX9 276 "ClearingGates$Sheet" "items" "[I") (List.mem_cons_of_mem _ mw_207)) (fun _ h9 => h9) rfl dX9_load_106 ?_
                        refine lv_iload hx hb dX9_load_109 (lv_at hl 0 rfl) ?_
                        refine lv_iconst (v := 1) hx hb dX9_load_111 (by decide) ?_
                        refine lv_iadd hx hb dX9_load_112 ?_
                        refine lv_topi (fun z80 e_z80 => ?_)
                        (first | have t_z80 := i_add e_z80 (by omega) (by omega) | skip)
                        refine va_iald (D := (dC, dI)) hx hb hK hP 8 4 rfl rfl (vp_in_iff.mpr ⟨by omega, by omega⟩) dX9_load_113 ?_
                        refine lv_topi (fun z81 e_z81 => ?_)
                        refine lv_aload hx hb dX9_load_114 (lv_at hl 3 rfl) ?_
                        refine va_get (D := (dC, dI)) (ci := 6) (v := .ref si3) (C := RX7) (T := TX7) (N := 3) hx hb hts (fun w h => List.mem_cons_of_mem _ (inlX7 w h)) hown hK hP 12 rfl rfl 2 (by decide) (hts (.fieldLink RX9 276 "ClearingGates$Sheet" "items" "[I") (List.mem_cons_of_mem _ mw_207)) (fun _ h9 => h9) rfl dX9_load_116 ?_
                        refine lv_iload hx hb dX9_load_119 (lv_at hl 0 rfl) ?_
                        refine lv_iconst (v := 2) hx hb dX9_load_121 (by decide) ?_
                        refine lv_iadd hx hb dX9_load_122 ?_
                        refine lv_topi (fun z82 e_z82 => ?_)
                        (first | have t_z82 := i_add e_z82 (by omega) (by omega) | skip)
                        refine va_iald (D := (dC, dI)) hx hb hK hP 8 4 rfl rfl (vp_in_iff.mpr ⟨by omega, by omega⟩) dX9_load_123 ?_
                        refine lv_topi (fun z83 e_z83 => ?_)
                        obtain ⟨hPc, hDc, hFc, hCm, hNw⟩ := C_s (wc := [eO h0 8 [.ref jb, .ref ji, .ref jd, .ref je, .ref jg, .ref qpa, .int pcn, .int ipn, .ref jt, .ref jr, .ref j1, .ref j2, .ref qsa], eO jb 0 [.ref aq0, .ref aq1, .ref aq2, .ref aq3, .ref aq4, .ref aq5, .ref aq6, .int aacc, .long afees, .int amis, .int abel, .int aref, .int acau], eO jd 1 [.ref dq], eI dq kd 64 fdL]) hP hD hS hA [(0, 1), (9, 3)] 13 rfl (by decide +kernel) rfl
                        have hKc := K_s (tys' := [(kd, .int)]) hK [(5, 1)] rfl
                        refine va_calli (va_runV (As := [.int z79, .int z81, .int z83]) (rest := []) ⟨hx, hb, hml, hown, hts⟩ (c_X9_owe l dC dI h0 z79 z81 z83 jb ji jd je jg qpa pcn ipn jt jr j1 j2 qsa aq0 aq1 aq2 aq3 aq4 aq5 aq6 aacc afees amis abel aref acau dq kd fdL H.size va1 va2) (cwV 3 hts gX9_load_X9_owe rfl rfl rfl (by decide +kernel) ⟨Nat.le_of_ble_eq_true rfl, Nat.le_of_ble_eq_true rfl⟩) ⟨fun a U g mk q => by obtain ⟨q0, q1, qP, qK, qD⟩ := q; exact ⟨q0, q1, qP, va_K.moved (u := U) (U := U.calling g mk a) (Vm.Alike.refl U.vm) qK, qD⟩, va_recv (s := s) (q := (RX9, TX9, 13)) hKc hPc (ci := 8) (q0 := 0) rfl rfl, fun U hU hW => ⟨rfl, by rw [hU], by rw [hU]; exact hPc, va_K.moved hW.alike hKc, hDc.weaken (fun _ _ _ _ => trivial)⟩⟩ rfl rfl hl.1 rfl (lv_room (Nat.le_of_ble_eq_true rfl)) dX9_load_124 ⟨Nat.le_of_ble_eq_true rfl, Nat.le_of_ble_eq_true rfl⟩) hS (fun q _ h => hFc q h) hFc (fun r84 u t H1 locs ht hvm hw hB hz1 hk1 hS => ?_)
                        obtain ⟨q85, hP1, hK1, hD1⟩ := hB
                        rw [ht] at hP1
                        have hK1 := va_K.moved hvm.symm hK1
                        try dsimp only at hw
                        obtain ⟨hP, hD⟩ := J_s (wL := [eR qsa ksa 4 fsa, eO s0 6 [.int so0, .int sn0, .ref si0], eI si0 ksi0 60 fsi0, eO s1 6 [.int so1, .int sn1, .ref si1], eI si1 ksi1 60 fsi1, eO s2 6 [.int so2, .int sn2, .ref si2], eI si2 ksi2 60 fsi2, eI si3 ksi3 60 fsi3, eO s3 6 [.int so3, .int sn3, .ref si3], eO h0 8 [.ref jb, .ref ji, .ref jd, .ref je, .ref jg, .ref qpa, .int pcn, .int ipn, .ref jt, .ref jr, .ref j1, .ref j2, .ref qsa], eO jb 0 [.ref aq0, .ref aq1, .ref aq2, .ref aq3, .ref aq4, .ref aq5, .ref aq6, .int aacc, .long afees, .int amis, .int abel, .int aref, .int acau], eO jd 1 [.ref dq], eI dq kd 64 q85]) hP hD [(0, 1), (9, 3)] [(1, 8), (12, 1)] hCm hNw (by decide +kernel) hk1 hFc hP1 hD1 rfl
                        have hK := KJ_s (tys' := [(ksa, .object "ClearingGates$Sheet"), (ksi0, .int), (ksi1, .int), (ksi2, .int), (ksi3, .int), (kd, .int)]) hK hK1 [(0, 5)] rfl
                        generalize H1 = H at hP hS ⊢
                        refine lv_bipush (v := -2) hx hb dX9_load_127 (by decide) ?_
                        refine lv_icmp_eq (tgt := 135) hx hb dX9_load_129 (by decide) (fun c86 => ?_) (fun c86 => ?_)
                        · skip
                          have f_c86 := i_eq c86
                          obtain ⟨x87, e_x87⟩ : ∃ yy : Int32, yy = x + 1 := ⟨_, rfl⟩
                          refine lv_iinc (v := x87) (lv' := [(7, .int x87), (8, .int z76), (6, .int cm), (5, .ref s3), (0, .ref h0), (1, .int p0), (2, .int p1), (3, .int p2), (4, .int p3)]) hx hb dX9_load_135 hl (k := 1) rfl (by rw [e_x87]; rfl) (by decide) rfl (fun ls hl => ?_)
                          (first | have t_x87 := i_add e_x87 (by omega) (by omega) | skip)
                          refine lv_goto (tgt := 66) hx hb dX9_load_138 (by decide) ?_
                          exact ih_66 cm x87 q85 (by first | assumption | omega) (by first | assumption | omega) (by first | assumption | omega) (by first | assumption | omega) (by omega) _ _ (K_s hK [(0, 6)] rfl) (P_s hP [(9, 1), (0, 8), (10, 3), (8, 1)] rfl) (D_s hD [(9, 1), (0, 8), (10, 3), (8, 1)] 13 rfl (by decide +kernel) rfl) hS ls (lv_sub hl [0, 2, 3, 4, 5, 6, 7, 8] rfl)
                        · skip
                          have f_c86 := i_ne c86
                          obtain ⟨x88, e_x88⟩ : ∃ yy : Int32, yy = cm + 1 := ⟨_, rfl⟩
                          refine lv_iinc (v := x88) (lv' := [(6, .int x88), (8, .int z76), (7, .int x), (5, .ref s3), (0, .ref h0), (1, .int p0), (2, .int p1), (3, .int p2), (4, .int p3)]) hx hb dX9_load_132 hl (k := 2) rfl (by rw [e_x88]; rfl) (by decide) rfl (fun ls hl => ?_)
                          (first | have t_x88 := i_add e_x88 (by omega) (by omega) | skip)
                          obtain ⟨x89, e_x89⟩ : ∃ yy : Int32, yy = x + 1 := ⟨_, rfl⟩
                          refine lv_iinc (v := x89) (lv' := [(7, .int x89), (6, .int x88), (8, .int z76), (5, .ref s3), (0, .ref h0), (1, .int p0), (2, .int p1), (3, .int p2), (4, .int p3)]) hx hb dX9_load_135 hl (k := 2) rfl (by rw [e_x89]; rfl) (by decide) rfl (fun ls hl => ?_)
                          (first | have t_x89 := i_add e_x89 (by omega) (by omega) | skip)
                          refine lv_goto (tgt := 66) hx hb dX9_load_138 (by decide) ?_
                          exact ih_66 x88 x89 q85 (by first | assumption | omega) (by first | assumption | omega) (by first | assumption | omega) (by first | assumption | omega) (by omega) _ _ (K_s hK [(0, 6)] rfl) (P_s hP [(9, 1), (0, 8), (10, 3), (8, 1)] rfl) (D_s hD [(9, 1), (0, 8), (10, 3), (8, 1)] 13 rfl (by decide +kernel) rfl) hS ls (lv_sub hl [0, 1, 3, 4, 5, 6, 7, 8] rfl)
                      · subst e_r77
                        refine lv_if_ne (tgt := 95) hx hb dX9_load_89 (by decide) (fun c90 => absurd (by decide) c90) (fun c90 => ?_)
                        refine lv_bipush (v := -12) hx hb dX9_load_92 (by decide) ?_
                        rw [hQ9]
                        exact W.iret (v := (-12)) hx hb hr (fun t ht hW => ⟨⟨(-12), (), rfl, (by first | rfl | trivial), fdL, by rw [ht]; exact P_s hP [(0, 8), (12, 1), (8, 4)] rfl, va_K.moved hW.alike hK, D_s hD [(0, 8), (12, 1), (8, 4)] 13 rfl (by decide +kernel) rfl⟩, hS.F ht⟩) hS.2.2 dX9_load_94
                exact loop_66 (1000) 0 0 fd (by first | assumption | omega) (by first | assumption | omega) (by first | assumption | omega) (by first | assumption | omega) (by omega) _ _ hK hP hD hS ls (lv_sub hl [0, 1, 2, 3, 4, 5, 6, 7] rfl)
              · skip
                have f_c73 := i_ne c73
                refine lv_bipush (v := -13) hx hb dX9_load_57 (by decide) ?_
                rw [hQ9]
                exact W.iret (v := (-13)) hx hb hr (fun t ht hW => ⟨⟨(-13), (), rfl, (by first | rfl | trivial), fd, by rw [ht]; exact P_s hP [(0, 8), (12, 1), (8, 4)] rfl, va_K.moved hW.alike hK, D_s hD [(0, 8), (12, 1), (8, 4)] 13 rfl (by decide +kernel) rfl⟩, hS.F ht⟩) hS.2.2 dX9_load_59
        · subst e_r5
          refine lv_if_ne (tgt := 29) hx hb dX9_load_23 (by decide) (fun c91 => absurd (by decide) c91) (fun c91 => ?_)
          refine lv_bipush (v := -2) hx hb dX9_load_26 (by decide) ?_
          rw [hQ9]
          exact W.iret (v := (-2)) hx hb hr (fun t ht hW => ⟨⟨(-2), (), rfl, (by first | rfl | trivial), fd, by rw [ht]; exact hP, va_K.moved hW.alike hK, hD⟩, hS.F ht⟩) hS.2.2 dX9_load_28
  · subst e_r1
    refine lv_if_eq (tgt := 26) hx hb dX9_load_4 (by decide) (fun c92 => ?_) (fun c92 => absurd (by decide) c92)
    refine lv_bipush (v := -2) hx hb dX9_load_26 (by decide) ?_
    rw [hQ9]
    exact W.iret (v := (-2)) hx hb hr (fun t ht hW => ⟨⟨(-2), (), rfl, (by first | rfl | trivial), fd, by rw [ht]; exact hP, va_K.moved hW.alike hK, hD⟩, hS.F ht⟩) hS.2.2 dX9_load_28
