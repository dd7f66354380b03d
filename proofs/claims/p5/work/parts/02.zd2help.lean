-- the same accounts and counts, the same marks so far: a run does the same
def Cg (f g : Nat → Int32) : Prop := ∀ j : Nat, j < 61 → f j = g j
theorem cg_rf (f : Nat → Int32) : Cg f f := fun _ _ => rfl
theorem cg_tr {f g h : Nat → Int32} (a : Cg f g) (b : Cg g h) : Cg f h := fun j q => (a j q).trans (b j q)
theorem cg_sy {f g : Nat → Int32} (a : Cg f g) : Cg g f := fun j q => (a j q).symm
def Mq (m m' : Nat → Int32) (c : Int32) : Prop := ∀ j : Nat, j < 60 → (j : Int) < c.toInt → m j = m' j
/-- accounts that aren't there have entered and left nothing -/
def E0 (f : Nat → Int32) : Prop := ∀ j : Nat, j < 8 → (f 60).toInt ≤ (j : Int) → f (32 + j) = 0 ∧ f (40 + j) = 0 ∧ f (48 + j) = 0
def Ss (N : Int) (s t : Sg) : Prop := Cg s.1 t.1 ∧ (s.1 60).toInt = N ∧ E0 s.1 ∧ s.2.1 = t.2.1 ∧ Mq s.2.2.1 t.2.2.1 s.2.2.2.1 ∧ s.2.2.2.1 = t.2.2.2.1 ∧ s.2.2.2.2 = t.2.2.2.2
def SR (N : Int) (x y : Int32 × Sg) : Prop := x.1 = y.1 ∧ Ss N x.2 y.2
theorem mk_cg {m m' : Nat → Int32} {c v : Int32} (h : Mq m m' c) : Mq (mkm m c v) (mkm m' c v) (c + 1) := by
  intro j h60 hj
  by_cases hc : c.toInt < 60
  · rw [mkm_p hc, mkm_p hc]
    have e1 : (1 : Int32).toInt = 1 := by decide
    have hlo := Int32.le_toInt c
    have e : (c + 1).toInt = c.toInt + 1 := by rw [i_add (x := c) (y := 1) rfl (by omega) (by omega), e1]
    have ec : c.toNatClampNeg = c.toInt.toNat := rfl
    rw [ec]
    by_cases w : j = c.toInt.toNat
    · rw [w, ux_i, ux_i]
    · rw [ux_n w, ux_n w]
      exact h j h60 (by omega)
  · rw [mkm_n hc, mkm_n hc]
    exact h j h60 (by omega)
theorem up_cg {f g : Nat → Int32} {i : Nat} {x y : Int32} (h : Cg f g) (e : x = y) : Cg (upd f i x) (upd g i y) := by
  intro j hj
  by_cases w : j = i
  · rw [w, ux_i, ux_i]; exact e
  · rw [ux_n w, ux_n w]; exact h j hj
theorem inc_cg {f g : Nat → Int32} {i : Nat} (h : Cg f g) (hi : i < 61) : Cg (inc f i) (inc g i) := up_cg h (by rw [h i hi])
theorem e0_up {f : Nat → Int32} {i : Nat} {x : Int32} (h : E0 f) (hi : i < 32 ∨ (56 ≤ i ∧ i ≠ 60)) : E0 (upd f i x) := by
  intro j hj hn
  rw [ux_n (by omega)] at hn
  rw [ux_n (by omega), ux_n (by omega), ux_n (by omega)]
  exact h j hj hn
theorem e0_in {f : Nat → Int32} {i k : Nat} {x : Int32} (h : E0 f) (hk : k < 8) (hf : (k : Int) < (f 60).toInt) (hi : i = 32 + k ∨ i = 40 + k ∨ i = 48 + k) : E0 (upd f i x) := by
  intro j hj hn
  rw [ux_n (by omega)] at hn
  rw [ux_n (by omega), ux_n (by omega), ux_n (by omega)]
  exact h j hj hn
theorem up_60n {f : Nat → Int32} {i : Nat} {x : Int32} (hi : i ≠ 60) : upd f i x 60 = f 60 := ux_n (Ne.symm hi)
theorem phg_cg {f g : Nat → Int32} {d : Int32} (h : Cg f g) (h8 : (f 60).toInt ≤ 8) : phg f d ↔ phg g d := by
  unfold phg pac
  rw [← h 60 (by omega)]
  constructor
  · rintro ⟨⟨a, b⟩, c⟩
    rw [h (24 + d.toInt.toNat) (by omega)] at c
    exact ⟨⟨a, b⟩, c⟩
  · rintro ⟨⟨a, b⟩, c⟩
    rw [← h (24 + d.toInt.toNat) (by omega)] at c
    exact ⟨⟨a, b⟩, c⟩
theorem pbell_cg {N : Int} (hN : N ≤ 8) {hd f g mk mk' : Nat → Int32} {d m c b : Int32} {fe : Int64} (h : Cg f g) (h8 : (f 60).toInt = N) (h0 : E0 f) (hm : Mq mk mk' c) : Ss N (pbell hd d m f fe mk c b) (pbell hd d m g fe mk' c b) := by
  by_cases hp : phg f d
  · have hq := (phg_cg h (by omega)).mp hp
    by_cases hh : 0 < (hd d.toInt.toNat).toInt
    · rw [pbell_r hp hh, pbell_r hq hh]
      exact ⟨up_cg h (by rw [h 57 (by omega)]), by show (upd _ _ _ 60).toInt = N; rw [up_60n (by omega)]; exact h8, e0_up h0 (by omega), rfl, mk_cg hm, rfl, rfl⟩
    · rw [pbell_u hp hh, pbell_u hq hh]
      exact ⟨inc_cg h (by omega), by show (upd _ _ _ 60).toInt = N; rw [up_60n (by omega)]; exact h8, e0_up h0 (by omega), rfl, mk_cg hm, rfl, rfl⟩
  · have hq : ¬ phg g d := fun q => hp ((phg_cg h (by omega)).mpr q)
    rw [pbell_m hp, pbell_m hq]
    exact ⟨inc_cg h (by omega), by show (upd _ _ _ 60).toInt = N; rw [up_60n (by omega)]; exact h8, e0_up h0 (by omega), rfl, hm, rfl, rfl⟩
theorem pgd_cg {hd f g : Nat → Int32} {a b : Int32} (h : Cg f g) : pgd hd f a b ↔ pgd hd g a b := by
  unfold pgd pac
  rw [h 60 (by omega)]
theorem pfee_cg {f g : Nat → Int32} {a v : Int32} (h : Cg f g) (ha : a.toInt.toNat < 8) : pfee f a v = pfee g a v := by
  unfold pfee
  rw [h a.toInt.toNat (by omega)]
theorem psh_cg {f g : Nat → Int32} {a b v : Int32} (h : Cg f g) (ha : a.toInt.toNat < 8) (hb : b.toInt.toNat < 8) : psh f a b v ↔ psh g a b v := by
  unfold psh pflo
  rw [pfee_cg h ha, h a.toInt.toNat (by omega), h (8 + a.toInt.toNat) (by omega), h (16 + a.toInt.toNat) (by omega), h (8 + b.toInt.toNat) (by omega)]
theorem ppay_cg {N : Int} (hN : N ≤ 8) {hd f g mk mk' : Nat → Int32} {a b v c bg : Int32} {fe : Int64} (h : Cg f g) (h8 : (f 60).toInt = N) (h0 : E0 f) (hm : Mq mk mk' c) : SR N (ppay hd a b v f fe mk c bg) (ppay hd a b v g fe mk' c bg) := by
  by_cases hp : pgd hd f a b
  · have hq := (pgd_cg h).mp hp
    obtain ⟨⟨a0, a1⟩, ⟨b0, b1⟩, -⟩ := id hp
    by_cases hs : psh f a b v
    · rw [ppay_s hp hs, ppay_s hq ((psh_cg h (by omega) (by omega)).mp hs)]
      exact ⟨rfl, h, h8, h0, rfl, hm, rfl, rfl⟩
    · have hs2 : ¬ psh g a b v := fun q => hs ((psh_cg h (by omega) (by omega)).mpr q)
      rw [ppay_d hp hs, ppay_d hq hs2, pfee_cg h (by omega)]
      refine ⟨rfl, up_cg (up_cg h ?_) ?_, ?_, e0_up (e0_up h0 (by omega)) (by omega), rfl, mk_cg hm, rfl, rfl⟩
      · rw [h (8 + a.toInt.toNat) (by omega)]
      · rw [h (8 + b.toInt.toNat) (by omega)]
      · show (upd (upd f (8 + a.toInt.toNat) _) (8 + b.toInt.toNat) _ 60).toInt = N
        rw [up_60n (by omega), up_60n (by omega)]
        exact h8
  · have hq : ¬ pgd hd g a b := fun q => hp ((pgd_cg h).mpr q)
    rw [ppay_u hp, ppay_u hq]
    exact ⟨rfl, h, h8, h0, rfl, hm, rfl, rfl⟩
theorem pent_cg {f g hd : Nat → Int32} {d : Int32} (h : Cg f g) (hD : d.toInt.toNat < 8) : Cg (pent f hd d) (pent g hd d) := by
  unfold pent
  exact up_cg (inc_cg h (by omega)) (by rw [h (48 + d.toInt.toNat) (by omega)])
theorem pblo_cg {N : Int} (hN : N ≤ 8) {hd f g mk mk' : Nat → Int32} {d c bg : Int32} {fe : Int64} {b : (Nat → Int32) → Sg → Int32 × Sg} (hb : ∀ (q : Nat → Int32) (s t : Sg), Ss N s t → SR N (b q s) (b q t)) (h : Cg f g) (h8 : (f 60).toInt = N) (h0 : E0 f) (hm : Mq mk mk' c) : SR N (pblo hd d b f fe mk c bg) (pblo hd d b g fe mk' c bg) := by
  by_cases hp : phg f d
  · have hq := (phg_cg h (by omega)).mp hp
    obtain ⟨⟨a0, a1⟩, -⟩ := id hp
    have hD : d.toInt.toNat < 8 := by omega
    by_cases hw : (hd d.toInt.toNat).toInt = 0 ∧ pgr hd d
    · rw [pblo_w hp hw.1 hw.2, pblo_w hq hw.1 hw.2]
      exact ⟨rfl, h, h8, h0, rfl, hm, rfl, rfl⟩
    · have e60 : pent f hd d 60 = f 60 := by
        unfold pent inc
        rw [up_60n (by omega), up_60n (by omega)]
      have hs : Ss N (pent f hd d, fe, mkm mk c (10 + d), c + 1, bg) (pent g hd d, fe, mkm mk' c (10 + d), c + 1, bg) := by
        refine ⟨pent_cg h hD, by show (pent f hd d 60).toInt = N; rw [e60]; exact h8, ?_, rfl, mk_cg hm, rfl, rfl⟩
        show E0 (pent f hd d)
        unfold pent inc
        exact e0_in (e0_in h0 hD (by omega) (Or.inl rfl)) hD (by rw [up_60n (by omega)]; omega) (Or.inr (Or.inr rfl))
      have r1 := hb (inc hd d.toInt.toNat) _ _ hs
      unfold pblo
      rw [ift_pos hp, ift_pos hq, ift_neg hw, ift_neg hw]
      generalize b (inc hd d.toInt.toNat) (pent f hd d, fe, mkm mk c (10 + d), c + 1, bg) = x at r1 ⊢
      generalize b (inc hd d.toInt.toNat) (pent g hd d, fe, mkm mk' c (10 + d), c + 1, bg) = y at r1 ⊢
      obtain ⟨x1, xf, xe, xm, xc, xb⟩ := x
      obtain ⟨y1, yf, ye, ym, yc, yb⟩ := y
      obtain ⟨q1, q2, q3, q4, q5, q6, q7, q8⟩ := r1
      dsimp only at q1 q2 q3 q4 q5 q6 q7 q8
      subst q1 q5 q7 q8
      refine ⟨rfl, inc_cg q2 (by omega), ?_, ?_, rfl, mk_cg q6, rfl, rfl⟩
      · show (upd xf (40 + d.toInt.toNat) _ 60).toInt = N
        rw [up_60n (by omega)]
        exact q3
      · exact e0_in (f := xf) q4 hD (by omega) (Or.inr (Or.inl rfl))
  · have hq : ¬ phg g d := fun q => hp ((phg_cg h (by omega)).mpr q)
    rw [pblo_m hp, pblo_m hq]
    exact ⟨rfl, inc_cg h (by omega), by show (upd _ _ _ 60).toInt = N; rw [up_60n (by omega)]; exact h8, e0_up h0 (by omega), rfl, hm, rfl, rfl⟩
theorem pun_cg {f0 g0 f g : Nat → Int32} (h0 : Cg f0 g0) (h : Cg f g) : Cg (pun f0 f) (pun g0 g) := by
  intro j hj
  by_cases w : 8 ≤ j ∧ j < 16
  · rw [pun_p w, pun_p w]; exact h0 j hj
  · rw [pun_n w, pun_n w]; exact h j hj
theorem pun_60 {f0 f : Nat → Int32} : pun f0 f 60 = f 60 := pun_n (by omega)
theorem e0_pun {f0 f : Nat → Int32} (h : E0 f) : E0 (pun f0 f) := by
  intro j hj hn
  rw [pun_60] at hn
  rw [pun_n (by omega), pun_n (by omega), pun_n (by omega)]
  exact h j hj hn
theorem ptry_cg {N : Int} (hN : N ≤ 8) {last : Int} {f g mk mk' : Nat → Int32} {c bg : Int32} {fe : Int64} {b : Sg → Int32 × Sg} (hb : ∀ s t : Sg, Ss N s t → SR N (b s) (b t)) (h : Cg f g) (h8 : (f 60).toInt = N) (h0 : E0 f) (hm : Mq mk mk' c) : SR N (ptry last b f fe mk c bg) (ptry last b g fe mk' c bg) := by
  have r1 := hb (f, fe, mk, c, bg) (g, fe, mk', c, bg) ⟨h, h8, h0, rfl, hm, rfl, rfl⟩
  unfold ptry
  generalize b (f, fe, mk, c, bg) = x at r1 ⊢
  generalize b (g, fe, mk', c, bg) = y at r1 ⊢
  obtain ⟨x1, xf, xe, xm, xc, xb⟩ := x
  obtain ⟨y1, yf, ye, ym, yc, yb⟩ := y
  obtain ⟨q1, q2, q3, q4, q5, q6, q7, q8⟩ := r1
  dsimp only at q1 q2 q3 q4 q5 q6 q7 q8
  subst q1 q5 q7 q8
  show SR N (ift (1 ≤ x1.toInt ∧ x1.toInt ≤ last) (0, inc (pun f xf) 59, fe, mkm xm xc (50 + x1), xc + 1, xb) (x1, xf, xe, xm, xc, xb)) (ift (1 ≤ x1.toInt ∧ x1.toInt ≤ last) (0, inc (pun g yf) 59, fe, mkm ym xc (50 + x1), xc + 1, xb) (x1, yf, xe, ym, xc, xb))
  by_cases w : 1 ≤ x1.toInt ∧ x1.toInt ≤ last
  · rw [ift_pos w, ift_pos w]
    refine ⟨rfl, inc_cg (pun_cg h q2) (by omega), ?_, e0_up (e0_pun q4) (by omega), rfl, mk_cg q6, rfl, rfl⟩
    show (inc (pun f xf) 59 60).toInt = N
    unfold inc
    rw [up_60n (by omega), pun_60]
    exact q3
  · rw [ift_neg w, ift_neg w]
    exact ⟨rfl, q2, q3, q4, rfl, q6, rfl, rfl⟩
theorem plo_cg {N : Int} {b : Sg → Int32 × Sg} (hb : ∀ s t : Sg, Ss N s t → SR N (b s) (b t)) : ∀ (n : Nat) (s t : Sg), Ss N s t → SR N (plo b n s) (plo b n t) := by
  intro n
  induction n with
  | zero => intro s t h; exact ⟨rfl, h⟩
  | succ n ih =>
    intro s t h
    obtain ⟨q1, q2⟩ := hb s t h
    show SR N (ift ((b s).1.toInt = 6) (0, (b s).2) (ift ((b s).1.toInt = 0 ∨ (b s).1.toInt = 7) (plo b n (b s).2) (b s))) (ift ((b t).1.toInt = 6) (0, (b t).2) (ift ((b t).1.toInt = 0 ∨ (b t).1.toInt = 7) (plo b n (b t).2) (b t)))
    rw [← q1]
    by_cases w : (b s).1.toInt = 6
    · rw [ift_pos w, ift_pos w]; exact ⟨rfl, q2⟩
    · rw [ift_neg w, ift_neg w]
      by_cases u : (b s).1.toInt = 0 ∨ (b s).1.toInt = 7
      · rw [ift_pos u, ift_pos u]; exact ih _ _ q2
      · rw [ift_neg u, ift_neg u]; exact ⟨q1, q2⟩
theorem psq_cg {N : Int} {r : Nat → Int32} {n : Nat} {it : Nat → Sg → Int32 × Sg} (hi : ∀ (k : Nat) (s t : Sg), Ss N s t → SR N (it k s) (it k t)) : ∀ (c k : Nat) (s t : Sg), Ss N s t → SR N (psq r n it c k s) (psq r n it c k t) := by
  intro c
  induction c with
  | zero => intro k s t h; exact ⟨rfl, h⟩
  | succ c ih =>
    intro k s t h
    obtain ⟨q1, q2⟩ := hi k s t h
    show SR N (ift ((it k s).1.toInt = 0) (psq r n it c (bh r n k) (it k s).2) (it k s)) (ift ((it k t).1.toInt = 0) (psq r n it c (bh r n k) (it k t).2) (it k t))
    rw [← q1]
    by_cases w : (it k s).1.toInt = 0
    · rw [ift_pos w, ift_pos w]; exact ih _ _ _ q2
    · rw [ift_neg w, ift_neg w]; exact ⟨q1, q2⟩
theorem pst_cg {N : Int} (hN : N ≤ 8) {r : Nat → Int32} {n : Nat} {body : (Nat → Int32) → Nat → Sg → Int32 × Sg} {hd f g mk mk' : Nat → Int32} {k : Nat} {fe : Int64} {c bg : Int32} (hb : ∀ (q : Nat → Int32) (a : Nat) (s t : Sg), Ss N s t → SR N (body q a s) (body q a t)) (h : Cg f g) (h8 : (f 60).toInt = N) (h0 : E0 f) (hm : Mq mk mk' c) : SR N (pst r n body hd k f fe mk c bg) (pst r n body hd k g fe mk' c bg) := by
  by_cases hl : 500 ≤ bg.toInt
  · rw [pst_l hl, pst_l hl]; exact ⟨rfl, h, h8, h0, rfl, hm, rfl, rfl⟩
  by_cases c40 : (r k).toInt = 40
  · rw [pst_40 hl c40, pst_40 hl c40]; exact pblo_cg hN (fun q s t w => hb q (k + 2) s t w) h h8 h0 hm
  by_cases c91 : (r k).toInt = 91
  · rw [pst_91 hl c91, pst_91 hl c91]; exact ptry_cg hN (hb hd (k + 1)) h h8 h0 hm
  by_cases c60 : (r k).toInt = 60
  · rw [pst_60 hl c60, pst_60 hl c60]; exact ptry_cg hN (hb hd (k + 1)) h h8 h0 hm
  by_cases c123 : (r k).toInt = 123
  · rw [pst_123 hl c123, pst_123 hl c123]; exact plo_cg (hb hd (k + 2)) _ _ _ ⟨h, h8, h0, rfl, hm, rfl, rfl⟩
  by_cases c112 : (r k).toInt = 112
  · rw [pst_112 hl c112, pst_112 hl c112]; exact ppay_cg hN h h8 h0 hm
  by_cases c120 : (r k).toInt = 120
  · rw [pst_120 hl c120, pst_120 hl c120]; exact ⟨rfl, h, h8, h0, rfl, hm, rfl, rfl⟩
  by_cases c98 : (r k).toInt = 98
  · rw [pst_98 hl c98, pst_98 hl c98]; exact ⟨rfl, h, h8, h0, rfl, hm, rfl, rfl⟩
  by_cases c99 : (r k).toInt = 99
  · rw [pst_99 hl c99, pst_99 hl c99]; exact ⟨rfl, h, h8, h0, rfl, hm, rfl, rfl⟩
  by_cases c110 : (r k).toInt = 110
  · rw [pst_110 hl c110, pst_110 hl c110]; exact ⟨rfl, pbell_cg hN h h8 h0 hm⟩
  unfold pst
  rw [ift_neg hl, ift_neg hl, ift_neg c40, ift_neg c40, ift_neg c91, ift_neg c91, ift_neg c60, ift_neg c60, ift_neg c123, ift_neg c123, ift_neg c112, ift_neg c112, ift_neg c120, ift_neg c120, ift_neg c98, ift_neg c98, ift_neg c99, ift_neg c99, ift_neg c110, ift_neg c110]
  exact ⟨rfl, pbell_cg hN h h8 h0 hm⟩
theorem pit_cg {N : Int} (hN : N ≤ 8) {r : Nat → Int32} {n : Nat} : ∀ (nd : Nat) (hd : Nat → Int32) (k : Nat) (s t : Sg), Ss N s t → SR N (pit r n nd hd k s) (pit r n nd hd k t) := by
  intro nd
  induction nd with
  | zero =>
    intro hd k s t h
    obtain ⟨f, fe, mk, c, bg⟩ := s
    obtain ⟨f', fe', mk', c', bg'⟩ := t
    obtain ⟨q1, q2, q3, q4, q5, q6, q7⟩ := h
    dsimp only at q1 q2 q3 q4 q5 q6 q7
    subst q4 q6 q7
    exact pst_cg hN (fun _ _ s t w => ⟨rfl, w⟩) q1 q2 q3 q5
  | succ nd ih =>
    intro hd k s t h
    obtain ⟨f, fe, mk, c, bg⟩ := s
    obtain ⟨f', fe', mk', c', bg'⟩ := t
    obtain ⟨q1, q2, q3, q4, q5, q6, q7⟩ := h
    dsimp only at q1 q2 q3 q4 q5 q6 q7
    subst q4 q6 q7
    exact pst_cg hN (fun q a s t w => psq_cg (fun k s t w => ih q k s t w) _ _ s t w) q1 q2 q3 q5
theorem prn_cg {N : Int} (hN : N ≤ 8) {r f g mk mk' : Nat → Int32} {n : Nat} {fe : Int64} (h : Cg f g) (h8 : (f 60).toInt = N) (h0 : E0 f) : SR N (prn r n f fe mk) (prn r n g fe mk') := by
  have r1 := psq_cg (r := r) (n := n) (fun k s t w => pit_cg hN (r := r) (n := n) 8 (fun _ => 0) k s t w) (cn r n 0) 0 (f, fe, mk, 0, 0) (g, fe, mk', 0, 0) ⟨h, h8, h0, rfl, fun j _ hj => absurd hj (by rw [z_0]; omega), rfl, rfl⟩
  unfold prn
  generalize psq r n (pit r n 8 (fun _ => 0)) (cn r n 0) 0 (f, fe, mk, 0, 0) = x at r1 ⊢
  generalize psq r n (pit r n 8 (fun _ => 0)) (cn r n 0) 0 (g, fe, mk', 0, 0) = y at r1 ⊢
  obtain ⟨x1, xf, xe, xm, xc, xb⟩ := x
  obtain ⟨y1, yf, ye, ym, yc, yb⟩ := y
  obtain ⟨q1, q2, q3, q4, q5, q6, q7, q8⟩ := r1
  dsimp only at q1 q2 q3 q4 q5 q6 q7 q8
  subst q1 q5 q7 q8
  show SR N (ift (x1.toInt = 0) (x1, xf, xe, xm, xc, xb) (x1, pun f xf, fe, xm, xc, xb)) (ift (x1.toInt = 0) (x1, yf, xe, ym, xc, xb) (x1, pun g yf, fe, ym, xc, xb))
  by_cases w : x1.toInt = 0
  · rw [ift_pos w, ift_pos w]; exact ⟨rfl, q2, q3, q4, rfl, q6, rfl, rfl⟩
  · rw [ift_neg w, ift_neg w]
    refine ⟨rfl, pun_cg h q2, ?_, e0_pun q4, rfl, q6, rfl, rfl⟩
    show (pun f xf 60).toInt = N
    rw [pun_60]
    exact q3
def LB (f : Nat → Int32) : Prop := ∀ j : Nat, j < 8 → 0 ≤ (f (16 + j)).toInt ∧ (f (16 + j)).toInt ≤ 9999
theorem upd_eq {f : Nat → Int32} {i : Nat} {x : Int32} (h : x = f i) : upd f i x = f := by
  funext j
  by_cases w : j = i
  · subst w; rw [ux_i]; exact h
  · exact ux_n w
theorem upd_upd {f : Nat → Int32} {i : Nat} {x y : Int32} : upd (upd f i x) i y = upd f i y := by
  funext j
  by_cases w : j = i
  · subst w; rw [ux_i, ux_i]
  · rw [ux_n w, ux_n w, ux_n w]
