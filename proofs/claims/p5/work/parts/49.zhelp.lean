-- the law's head: what both sides hold
def TRq (mc tr : Int32) (m t : Nat → Int32) : Prop := ((mc.toInt ≤ 60 ∧ tr.toInt = mc.toInt) ∨ (60 < mc.toInt ∧ tr.toInt = 60)) ∧ ∀ j : Nat, (j : Int) < tr.toInt → m j = t j
def RIm (ipn pcn : Int32) (it tx iz tz : Nat → Int32) : Prop := ipn.toInt ≠ -1 → ipn.toInt ≤ pcn.toInt ∧ ∀ k : Nat, (k : Int) < ipn.toInt → iz k = tz k ∧ ∀ j : Nat, j < 80 → it (80 * k + j) = tx (80 * k + j)
theorem cgs_pacc {f f2 g g2 : Nat → Int32} {a b : Int32} (hf : f2 = pacc f a b) (hg : g2 = pacc g a b) (h : Cg f g) (h8 : (f 60).toInt ≤ 8) : Cg f2 g2 := by
  subst hf hg
  by_cases c : cac f a b
  · have c2 : cac g a b := by
      unfold cac at c ⊢
      rw [← h 60 (by omega)]
      exact c
    rw [pacc_p c, pacc_p c2, ← h 60 (by omega)]
    exact up_cg (up_cg (up_cg (up_cg (up_cg h rfl) rfl) rfl) rfl) rfl
  · have c2 : ¬ cac g a b := by
      intro q
      apply c
      unfold cac at q ⊢
      rw [h 60 (by omega)]
      exact q
    rw [pacc_n c, pacc_n c2]
    exact h
theorem cgs_pset {f f2 g g2 : Nat → Int32} {a w v : Int32} (hf : f2 = pset f a w v) (hg : g2 = pset g a w v) (h : Cg f g) (h8 : (f 60).toInt ≤ 8) : Cg f2 g2 := by
  subst hf hg
  have e : ∀ k m, cse f a w v k m ↔ cse g a w v k m := by
    intro k m
    unfold cse
    rw [h 60 (by omega)]
  by_cases c0 : cse f a w v 0 1000000000
  · rw [pset_0 c0, pset_0 ((e _ _).mp c0)]; exact up_cg h rfl
  · by_cases c1 : cse f a w v 1 9999
    · rw [pset_1 c1, pset_1 ((e _ _).mp c1)]; exact up_cg h rfl
    · rw [pset_n c0 c1, pset_n (fun q => c0 ((e _ _).mpr q)) (fun q => c1 ((e _ _).mpr q))]; exact h
theorem cgs_pgate {f f2 g g2 : Nat → Int32} {a v : Int32} (hf : f2 = pgate f a v) (hg : g2 = pgate g a v) (h : Cg f g) (h8 : (f 60).toInt ≤ 8) : Cg f2 g2 := by
  subst hf hg
  have e := h 60 (by omega)
  by_cases c : 0 ≤ a.toInt ∧ a.toInt < (f 60).toInt
  · rw [pgate_p c, pgate_p (by rw [← e]; exact c)]; exact up_cg h rfl
  · rw [pgate_n c, pgate_n (by rw [← e]; exact c)]; exact h
theorem e0s_pacc {f f2 : Nat → Int32} {a b : Int32} (hf : f2 = pacc f a b) (h : E0 f) (h8 : 0 ≤ (f 60).toInt) : E0 f2 := by
  subst hf
  by_cases c : cac f a b
  · rw [pacc_p c]
    have e1 : (1 : Int32).toInt = 1 := by decide
    obtain ⟨c1, c2, c3, c4, c5⟩ := c
    have e : (f 60 + 1).toInt = (f 60).toInt + 1 := by rw [i_add (x := f 60) (y := 1) rfl (by omega) (by omega), e1]
    intro j hj hn
    rw [ux_i, e] at hn
    obtain ⟨q1, q2, q3⟩ := h j hj (by omega)
    refine ⟨?_, ?_, ?_⟩
    · rw [ux_n (by omega), ux_n (by omega), ux_n (by omega), ux_n (by omega), ux_n (by omega)]; exact q1
    · rw [ux_n (by omega), ux_n (by omega), ux_n (by omega), ux_n (by omega), ux_n (by omega)]; exact q2
    · rw [ux_n (by omega), ux_n (by omega), ux_n (by omega), ux_n (by omega), ux_n (by omega)]; exact q3
  · rw [pacc_n c]; exact h
theorem e0s_pset {f f2 : Nat → Int32} {a w v : Int32} (hf : f2 = pset f a w v) (h : E0 f) (h8 : (f 60).toInt ≤ 8) : E0 f2 := by
  subst hf
  by_cases c0 : cse f a w v 0 1000000000
  · rw [pset_0 c0]; unfold cse at c0; exact e0_up h (by omega)
  · by_cases c1 : cse f a w v 1 9999
    · rw [pset_1 c1]; unfold cse at c1; exact e0_up h (by omega)
    · rw [pset_n c0 c1]; exact h
theorem e0s_pgate {f f2 : Nat → Int32} {a v : Int32} (hf : f2 = pgate f a v) (h : E0 f) (h8 : (f 60).toInt ≤ 8) : E0 f2 := by
  subst hf
  by_cases c : 0 ≤ a.toInt ∧ a.toInt < (f 60).toInt
  · rw [pgate_p c]; exact e0_up h (by omega)
  · rw [pgate_n c]; exact h
theorem bbs_pacc {f f2 : Nat → Int32} {a b : Int32} (hf : f2 = pacc f a b) (h : BB f) (h0 : 0 ≤ (f 60).toInt) : BB f2 := by
  subst hf
  exact bb_acc h h0
theorem bbs_pset {f f2 : Nat → Int32} {a w v : Int32} (hf : f2 = pset f a w v) (h : BB f) (h8 : (f 60).toInt ≤ 8) : BB f2 := by
  subst hf
  exact bb_set h h8
theorem bbs_pgate {f f2 : Nat → Int32} {a v : Int32} (hf : f2 = pgate f a v) (h : BB f) (h8 : (f 60).toInt ≤ 8) : BB f2 := by
  subst hf
  by_cases c : 0 ≤ a.toInt ∧ a.toInt < (f 60).toInt
  · rw [pgate_p c]; exact bb_up h (by omega)
  · rw [pgate_n c]; exact h
theorem runs_eq {tx tz f f2 g g2 m m2 k t t2 k2 : Nat → Int32} {p0 pcn pcn' r r' mc mc2 c2 tr tr2 b2 b2' : Int32} {fe fe2 fe' fe2' : Int64}
    (x : (¬ (0 ≤ p0.toInt ∧ p0.toInt < pcn.toInt) ∧ r.toInt = -2 ∧ f2 = f ∧ fe2 = fe ∧ m2 = m ∧ mc2 = mc) ∨ ((0 ≤ p0.toInt ∧ p0.toInt < pcn.toInt) ∧ prun tx tz p0.toInt.toNat f fe m = (r, f2, fe2, m2, mc2, b2)))
    (y : (¬ (0 ≤ p0.toInt ∧ p0.toInt < pcn'.toInt) ∧ r'.toInt = -2 ∧ g2 = g ∧ fe2' = fe' ∧ tr2 = tr ∧ t2 = t) ∨ ((0 ≤ p0.toInt ∧ p0.toInt < pcn'.toInt) ∧ prun tx tz p0.toInt.toNat g fe' k = (r', g2, fe2', k2, c2, b2') ∧ ((c2.toInt ≤ 60 ∧ tr2.toInt = c2.toInt) ∨ (60 < c2.toInt ∧ tr2.toInt = 60)) ∧ ∀ j : Nat, (j : Int) < tr2.toInt → t2 j = k2 j))
    (h : Cg f g) (h0 : E0 f) (hfe : fe = fe') (ht : TRq mc tr m t) (hp : pcn.toInt = pcn'.toInt) (h8 : (f 60).toInt ≤ 8) : r.toInt = r'.toInt ∧ Cg f2 g2 ∧ E0 f2 ∧ fe2 = fe2' ∧ TRq mc2 tr2 m2 t2 := by
  rcases x with ⟨x1, x2, x3, x4, x5, x6⟩ | ⟨x1, x2⟩
  · rcases y with ⟨y1, y2, y3, y4, y5, y6⟩ | ⟨y1, -⟩
    · rw [x3, x4, x5, x6, y3, y4, y5, y6]
      exact ⟨by omega, h, h0, hfe, ht⟩
    · exfalso; omega
  · rcases y with ⟨y1, -⟩ | ⟨y1, y2, y3, y4⟩
    · exfalso; omega
    · rw [← hfe] at y2
      obtain ⟨q1, q2, q3, q4, q5, q6, -⟩ := run_eq h h8 h0 x2 y2
      refine ⟨by rw [q1], q2, q3, q4, by rw [q6]; exact y3, fun j hj => ?_⟩
      rw [y4 j hj]
      have e := congrArg Int32.toInt q6
      exact q5 j (by omega) (by omega)
theorem pg_s {f : Nat → Int32} {t p r t2 p2 : Int32} (h : PGp f t p r t2 p2) : p2.toInt = p.toInt ∨ p2.toInt = p.toInt + 1 := by
  rcases h with ⟨a1, a2, a3, a4⟩ | ⟨a1, a2, x, a3, a4⟩ <;> omega
theorem rim_pg {ipn pcn pcn2 n p p2 : Int32} {it tx tx2 iz tz tz2 t : Nat → Int32} (h : RIm ipn pcn it tx iz tz) (y : TXp tx tz t n p tx2 tz2 p2) (ep : pcn.toInt = p.toInt) (ep2 : pcn2.toInt = p2.toInt) (hp : 0 ≤ pcn.toInt) (hs : pcn2.toInt = pcn.toInt ∨ pcn2.toInt = pcn.toInt + 1) : RIm ipn pcn2 it tx2 iz tz2 := by
  intro q
  obtain ⟨a, b⟩ := h q
  obtain ⟨y1, y2, -⟩ := y
  refine ⟨by omega, fun k hk => ?_⟩
  obtain ⟨b1, b2⟩ := b k hk
  refine ⟨by rw [y2 k (by omega)]; exact b1, fun j hj => ?_⟩
  rw [y1 (80 * k + j) (by omega)]
  exact b2 j hj
theorem nets_eq {f f2 g g2 : Nat → Int32} {n : Nat} (x : (pag f ∧ Cg f2 (Pn f n)) ∨ (¬ pag f ∧ f2 = f)) (y : (pag g ∧ Cg g2 (Pn g (g 60).toInt.toNat)) ∨ (¬ pag g ∧ g2 = g)) (h : Cg f g) (h0 : E0 f) (hn : (f 60).toInt.toNat = n) (ha : 0 ≤ (g 60).toInt) (hb : (g 60).toInt ≤ 8) : Cg f2 g2 ∧ E0 f2 := by
  have e := h 60 (by omega)
  have h8 : (f 60).toInt ≤ 8 := by rw [e]; exact hb
  have hz : 0 ≤ (f 60).toInt := by rw [e]; exact ha
  rcases x with ⟨x1, x2⟩ | ⟨x1, x2⟩
  · rcases y with ⟨y1, y2⟩ | ⟨y1, y2⟩
    · rw [← e, hn] at y2
      refine ⟨cg_tr x2 (cg_tr (pn_cg h) (cg_sy y2)), ?_⟩
      have q : E0 (Pn f n) := e0_pn h0 (by omega) (by omega)
      intro j hj hl
      rw [x2 60 (by omega)] at hl
      rw [x2 (32 + j) (by omega), x2 (40 + j) (by omega), x2 (48 + j) (by omega)]
      exact q j hj hl
    · exact absurd ((pag_cg h h8).mp x1) y1
  · rcases y with ⟨y1, y2⟩ | ⟨y1, y2⟩
    · exact absurd ((pag_cg h h8).mpr y1) x1
    · rw [x2, y2]; exact ⟨h, h0⟩
theorem img_eq {f f2 g g2 : Nat → Int32} {fe fe2 ge ge2 : Int64} (x1 : f2 = f) (x2 : fe2 = fe) (y1 : ∀ j : Nat, j < 125 → g2 j = g j) (y2 : ge2 = ge) (h : Cg f g) (he : fe = ge) (h0 : E0 f) (hb : BB f) : Cg f2 g2 ∧ fe2 = ge2 ∧ E0 f2 ∧ BB f2 := by
  subst x1 x2 y2
  exact ⟨fun j hj => (h j hj).trans (y1 j (by omega)).symm, he, h0, hb⟩
theorem rim_im {ipn2 pcn : Int32} {it2 tx iz2 tz : Nat → Int32} (h1 : ∀ j : Nat, j < 320 → it2 j = tx j) (h2 : ∀ j : Nat, j < 4 → iz2 j = tz j) (e : ipn2.toInt = pcn.toInt) (hp : pcn.toInt ≤ 4) : RIm ipn2 pcn it2 tx iz2 tz := by
  intro _
  exact ⟨by omega, fun k hk => ⟨h2 k (by omega), fun j hj => h1 (80 * k + j) (by omega)⟩⟩
theorem back_eq {ipn hi : Int32} {f f2 fi g g2 gi : Nat → Int32} {fe fe2 fie ge ge2 gie : Int64} (x : (ipn.toInt = -1 ∧ f2 = f ∧ fe2 = fe) ∨ (ipn.toInt ≠ -1 ∧ f2 = fi ∧ fe2 = fie)) (y : (hi.toInt = 0 ∧ g2 = g) ∨ (hi.toInt ≠ 0 ∧ ∀ j : Nat, j < 125 → g2 j = gi j)) (z : (hi.toInt = 0 ∧ ge2 = ge) ∨ (hi.toInt ≠ 0 ∧ ge2 = gie)) (w : ipn.toInt ≠ -1 → Cg fi gi ∧ fie = gie ∧ E0 fi ∧ BB fi) (h : Cg f g) (he : fe = ge) (h0 : E0 f) (hb : BB f) (eh : ipn.toInt = -1 ↔ hi.toInt = 0) : Cg f2 g2 ∧ fe2 = ge2 ∧ E0 f2 ∧ BB f2 ∧ LB g2 := by
  rcases x with ⟨x1, x2, x3⟩ | ⟨x1, x2, x3⟩
  · have q := eh.mp x1
    rcases y with ⟨y1, y2⟩ | ⟨y1, -⟩
    · rcases z with ⟨z1, z2⟩ | ⟨z1, -⟩
      · rw [x2, x3, y2, z2]; exact ⟨h, he, h0, hb, lb_bb (bb_cgs hb h)⟩
      · exact absurd q z1
    · exact absurd q y1
  · have q : hi.toInt ≠ 0 := fun u => x1 (eh.mpr u)
    obtain ⟨w1, w2, w3, w4⟩ := w x1
    rcases y with ⟨y1, -⟩ | ⟨y1, y2⟩
    · exact absurd y1 q
    · rcases z with ⟨z1, -⟩ | ⟨z1, z2⟩
      · exact absurd z1 q
      · rw [x2, x3, z2]
        have c : Cg fi g2 := fun j hj => (w1 j hj).trans (y2 j (by omega)).symm
        exact ⟨c, w2, w3, w4, lb_bb (bb_cgs w4 c)⟩
theorem rim_bk {ipn pcn pcn2 hi : Int32} {it tx tx2 iz tz tz2 : Nat → Int32} (h : RIm ipn pcn it tx iz tz) (y : (hi.toInt = 0 ∧ tx2 = tx ∧ tz2 = tz) ∨ (hi.toInt ≠ 0 ∧ (∀ j : Nat, j < 320 → tx2 j = it j) ∧ ∀ j : Nat, j < 4 → tz2 j = iz j)) (x : (ipn.toInt = -1 ∧ pcn2.toInt = pcn.toInt) ∨ (ipn.toInt ≠ -1 ∧ pcn2.toInt = ipn.toInt)) (eh : ipn.toInt = -1 ↔ hi.toInt = 0) (hp : pcn.toInt ≤ 4) : RIm ipn pcn2 it tx2 iz tz2 := by
  intro q
  obtain ⟨a, b⟩ := h q
  rcases y with ⟨y1, -⟩ | ⟨y1, y2, y3⟩
  · exact absurd (eh.mpr y1) q
  · exact ⟨by omega, fun k hk => ⟨(y3 k (by omega)).symm, fun j hj => (y2 (80 * k + j) (by omega)).symm⟩⟩
theorem wp_bk {k : Nat} {ipn pcn pcn2 hi : Int32} {it tx tx2 iz tz tz2 fb fn : Nat → Int32} {ps : Int32} (h : (k : Int) < pcn.toInt → WP tx tz k fb fn ps) (r : RIm ipn pcn it tx iz tz) (y : (hi.toInt = 0 ∧ tx2 = tx ∧ tz2 = tz) ∨ (hi.toInt ≠ 0 ∧ (∀ j : Nat, j < 320 → tx2 j = it j) ∧ ∀ j : Nat, j < 4 → tz2 j = iz j)) (x : (ipn.toInt = -1 ∧ pcn2.toInt = pcn.toInt) ∨ (ipn.toInt ≠ -1 ∧ pcn2.toInt = ipn.toInt)) (eh : ipn.toInt = -1 ↔ hi.toInt = 0) (hk : k < 4) : (k : Int) < pcn2.toInt → WP tx2 tz2 k fb fn ps := by
  intro q
  rcases y with ⟨y1, y2, y3⟩ | ⟨y1, y2, y3⟩
  · have e := eh.mpr y1
    rw [y2, y3]
    exact h (by omega)
  · have e : ipn.toInt ≠ -1 := fun u => y1 (eh.mp u)
    obtain ⟨a, b⟩ := r e
    obtain ⟨b1, b2⟩ := b k (by omega)
    exact wp_cg (h (by omega)) (fun j hj => (y2 _ (by omega)).trans (b2 j hj)) ((y3 k hk).trans b1)
theorem bks_z (j : Nat) : bks (fun _ => 0) (fun _ => 0) (fun _ => 0) (fun _ => 0) (fun _ => 0) (fun _ => 0) (fun _ => 0) 0 0 0 0 0 j = (fun _ => (0 : Int32)) j := by
  unfold bks
  simp only [ite_self]
theorem e0_z : E0 (bks (fun _ => 0) (fun _ => 0) (fun _ => 0) (fun _ => 0) (fun _ => 0) (fun _ => 0) (fun _ => 0) 0 0 0 0 0) := fun j _ _ => ⟨bks_z _, bks_z _, bks_z _⟩
theorem bb_z : BB (bks (fun _ => 0) (fun _ => 0) (fun _ => 0) (fun _ => 0) (fun _ => 0) (fun _ => 0) (fun _ => 0) 0 0 0 0 0) := by
  intro j hj
  rw [bks_z, bks_z]
  have e0 : (0 : Int32).toInt = 0 := by decide
  show (-20000 ≤ (0 : Int32).toInt ∧ (0 : Int32).toInt ≤ 1000000000) ∧ 0 ≤ (0 : Int32).toInt ∧ (0 : Int32).toInt ≤ 9999
  omega
theorem lb_z : LB (fun _ => 0) := fun j _ => ⟨by show (0 : Int) ≤ (0 : Int32).toInt; decide, by show (0 : Int32).toInt ≤ 9999; decide⟩
theorem trq_z : TRq 0 0 (fun _ => 0) (fun _ => 0) := ⟨Or.inl ⟨by decide, rfl⟩, fun _ _ => rfl⟩
theorem rim_z {pcn : Int32} {it tx iz tz : Nat → Int32} : RIm (-1) pcn it tx iz tz := fun h => absurd (by decide) h
theorem psr_cg {f g : Nat → Int32} {a w v : Int32} (h : Cg f g) (h8 : (f 60).toInt ≤ 8) : psr f a w v = psr g a w v := by
  have e : ∀ k m, cse f a w v k m ↔ cse g a w v k m := by
    intro k m
    unfold cse
    rw [h 60 (by omega)]
  by_cases c0 : cse f a w v 0 1000000000
  · rw [psr_0 c0, psr_0 ((e _ _).mp c0)]
    unfold cse at c0
    rw [h (8 + a.toInt.toNat) (by omega)]
  · by_cases c1 : cse f a w v 1 9999
    · rw [psr_1 c1, psr_1 ((e _ _).mp c1)]
      unfold cse at c1
      rw [h (16 + a.toInt.toNat) (by omega)]
    · rw [psr_n c0 c1, psr_n (fun q => c0 ((e _ _).mpr q)) (fun q => c1 ((e _ _).mpr q))]
theorem ptl_cg {f g : Nat → Int32} {a w : Int32} (h : Cg f g) (h8 : (f 60).toInt ≤ 8) : ptl f a w = ptl g a w := by
  by_cases c : pac f a
  · have c2 : pac g a := by
      unfold pac at c ⊢
      rw [← h 60 (by omega)]
      exact c
    have hA : a.toInt.toNat < 8 := by
      unfold pac at c
      omega
    by_cases w0 : w.toInt = 0
    · rw [ptl_0 c w0, ptl_0 c2 w0, h _ (by omega)]
    by_cases w1 : w.toInt = 1
    · rw [ptl_1 c w1, ptl_1 c2 w1, h _ (by omega)]
    by_cases w2 : w.toInt = 2
    · rw [ptl_2 c w2, ptl_2 c2 w2, h _ (by omega)]
    by_cases w3 : w.toInt = 3
    · rw [ptl_3 c w3, ptl_3 c2 w3, h _ (by omega)]
    by_cases w4 : w.toInt = 4
    · rw [ptl_4 c w4, ptl_4 c2 w4, h _ (by omega)]
    by_cases w5 : w.toInt = 5
    · rw [ptl_5 c w5, ptl_5 c2 w5, h _ (by omega)]
    by_cases w6 : w.toInt = 6
    · rw [ptl_6 c w6, ptl_6 c2 w6, pfee_cg h hA]
    rw [ptl_x c (by omega), ptl_x c2 (by omega)]
  · have c2 : ¬ pac g a := by
      intro q
      apply c
      unfold pac at q ⊢
      rw [h 60 (by omega)]
      exact q
    rw [ptl_n c, ptl_n c2]
theorem tr_eq {p0 r r' mc tr : Int32} {m t : Nat → Int32} (x : (¬ (0 ≤ p0.toInt ∧ p0.toInt < mc.toInt ∧ p0.toInt < 60) ∧ r.toInt = -12) ∨ (0 ≤ p0.toInt ∧ p0.toInt < mc.toInt ∧ p0.toInt < 60 ∧ r = m p0.toInt.toNat)) (y : (¬ (0 ≤ p0.toInt ∧ p0.toInt < tr.toInt) ∧ r'.toInt = -12) ∨ (0 ≤ p0.toInt ∧ p0.toInt < tr.toInt ∧ r' = t p0.toInt.toNat)) (h : TRq mc tr m t) (hm : 0 ≤ mc.toInt) : r.toInt = r'.toInt := by
  obtain ⟨h1, h2⟩ := h
  rcases x with ⟨x1, x2⟩ | ⟨x1, x2, x3, x4⟩
  · rcases y with ⟨y1, y2⟩ | ⟨y1, y2, y3⟩
    · omega
    · exfalso; omega
  · rcases y with ⟨y1, y2⟩ | ⟨y1, y2, y3⟩
    · exfalso; omega
    · rw [x4, y3, h2 p0.toInt.toNat (by omega)]
-- count: what both sides answer
def CNp (p r a pc mi be re ca mc tn : Int32) : Prop := (p.toInt = 0 → r.toInt = a.toInt) ∧ (p.toInt = 1 → r.toInt = pc.toInt) ∧ (p.toInt = 2 → r.toInt = mi.toInt) ∧ (p.toInt = 3 → r.toInt = be.toInt) ∧ (p.toInt = 4 → r.toInt = re.toInt) ∧ (p.toInt = 5 → r.toInt = ca.toInt) ∧ (p.toInt = 6 → (mc.toInt ≤ 60 ∧ r.toInt = mc.toInt) ∨ (60 < mc.toInt ∧ r.toInt = 60)) ∧ (p.toInt = 7 → r.toInt = tn.toInt) ∧ (p.toInt < 0 ∨ 7 < p.toInt → r.toInt = -2)
def CNm (p r a pc mi be re ca tr ta : Int32) : Prop := (p.toInt = 0 → r.toInt = a.toInt) ∧ (p.toInt = 1 → r.toInt = pc.toInt) ∧ (p.toInt = 2 → r.toInt = mi.toInt) ∧ (p.toInt = 3 → r.toInt = be.toInt) ∧ (p.toInt = 4 → r.toInt = re.toInt) ∧ (p.toInt = 5 → r.toInt = ca.toInt) ∧ (p.toInt = 6 → r.toInt = tr.toInt) ∧ (p.toInt = 7 → r.toInt = ta.toInt) ∧ (p.toInt < 0 ∨ 7 < p.toInt → r.toInt = -2)
theorem cnt6 {r s mc tr : Int} (x : (mc ≤ 60 ∧ r = mc) ∨ (60 < mc ∧ r = 60)) (y : s = tr) (z : (mc ≤ 60 ∧ tr = mc) ∨ (60 < mc ∧ tr = 60)) : r = s := by omega
theorem cn_cases (p : Int) : p = 0 ∨ p = 1 ∨ p = 2 ∨ p = 3 ∨ p = 4 ∨ p = 5 ∨ p = 6 ∨ p = 7 ∨ (p < 0 ∨ 7 < p) := by omega
theorem cnt_eq {p r s a pc mi be re ca mc tn a' pc' mi' be' re' ca' tr ta : Int32} {m t : Nat → Int32} (x : CNp p r a pc mi be re ca mc tn) (y : CNm p s a' pc' mi' be' re' ca' tr ta) (h0 : a.toInt = a'.toInt) (h1 : pc.toInt = pc'.toInt) (h2 : mi.toInt = mi'.toInt) (h3 : be.toInt = be'.toInt) (h4 : re.toInt = re'.toInt) (h5 : ca.toInt = ca'.toInt) (h6 : TRq mc tr m t) (h7 : tn.toInt = ta.toInt) : r.toInt = s.toInt := by
  obtain ⟨x0, x1, x2, x3, x4, x5, x6, x7, x8⟩ := x
  obtain ⟨y0, y1, y2, y3, y4, y5, y6, y7, y8⟩ := y
  rcases cn_cases p.toInt with e | e | e | e | e | e | e | e | e
  · rw [x0 e, y0 e]; exact h0
  · rw [x1 e, y1 e]; exact h1
  · rw [x2 e, y2 e]; exact h2
  · rw [x3 e, y3 e]; exact h3
  · rw [x4 e, y4 e]; exact h4
  · rw [x5 e, y5 e]; exact h5
  · exact cnt6 (x6 e) (y6 e) h6.1
  · rw [x7 e, y7 e]; exact h7
  · rw [x8 e, y8 e]
