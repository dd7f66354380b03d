-- level 4: what a run does, told by functions: books (as the reference's row), fees, marks, how many marks, how many items begun
abbrev Sg := (Nat → Int32) × Int64 × (Nat → Int32) × Int32 × Int32
noncomputable def mkm (m : Nat → Int32) (c v : Int32) : Nat → Int32 := ift (c.toInt < 60) (upd m c.toNatClampNeg v) m
theorem mkm_p {m : Nat → Int32} {c v : Int32} (h : c.toInt < 60) : mkm m c v = upd m c.toNatClampNeg v := by unfold mkm; exact ift_pos h
theorem mkm_n {m : Nat → Int32} {c v : Int32} (h : ¬ c.toInt < 60) : mkm m c v = m := by unfold mkm; exact ift_neg h
def inc (f : Nat → Int32) (i : Nat) : Nat → Int32 := upd f i (f i + 1)
def phg (f : Nat → Int32) (d : Int32) : Prop := pac f d ∧ (f (24 + d.toInt.toNat)).toInt = 1
def pgr (hd : Nat → Int32) (d : Int32) : Prop := ∃ g : Nat, g < 8 ∧ d.toInt < (g : Int) ∧ 0 < (hd g).toInt
noncomputable def pbell (hd : Nat → Int32) (d m : Int32) (f : Nat → Int32) (fe : Int64) (mk : Nat → Int32) (c b : Int32) : Sg :=
  ift (phg f d) (ift (0 < (hd d.toInt.toNat).toInt) (upd f 57 (f 57 + m), fe, mkm mk c (30 + d), c + 1, b) (inc f 58, fe, mkm mk c (40 + d), c + 1, b)) (inc f 56, fe, mk, c, b)
theorem pbell_m {hd f mk : Nat → Int32} {d m c b : Int32} {fe : Int64} (h : ¬ phg f d) : pbell hd d m f fe mk c b = (inc f 56, fe, mk, c, b) := by unfold pbell; exact ift_neg h
theorem pbell_r {hd f mk : Nat → Int32} {d m c b : Int32} {fe : Int64} (h : phg f d) (g : 0 < (hd d.toInt.toNat).toInt) : pbell hd d m f fe mk c b = (upd f 57 (f 57 + m), fe, mkm mk c (30 + d), c + 1, b) := by unfold pbell; rw [ift_pos h]; exact ift_pos g
theorem pbell_u {hd f mk : Nat → Int32} {d m c b : Int32} {fe : Int64} (h : phg f d) (g : ¬ 0 < (hd d.toInt.toNat).toInt) : pbell hd d m f fe mk c b = (inc f 58, fe, mkm mk c (40 + d), c + 1, b) := by unfold pbell; rw [ift_pos h]; exact ift_neg g
def pnu (r : Nat → Int32) (a : Nat) : Nat → Int32
  | 0 => 0
  | j + 1 => 10 * pnu r a j + (r (a + j) - 48)
noncomputable def pfk (kd v : Int32) : Int32 := ift (kd.toInt = 1) 1 (ift (kd.toInt = 4) (1 + v / 10) 0)
noncomputable def pfee (f : Nat → Int32) (a v : Int32) : Int32 := pfk (f a.toInt.toNat) v
theorem pfk_1 {kd v : Int32} (h : kd.toInt = 1) : pfk kd v = 1 := by unfold pfk; exact ift_pos h
theorem pfk_4 {kd v : Int32} (h : kd.toInt = 4) : pfk kd v = 1 + v / 10 := by
  unfold pfk
  rw [ift_neg (by omega)]
  exact ift_pos h
theorem pfk_0 {kd v : Int32} (h : kd.toInt ≠ 1) (g : kd.toInt ≠ 4) : pfk kd v = 0 := by
  unfold pfk
  rw [ift_neg h]
  exact ift_neg g
noncomputable def pfl (kd li : Int32) : Int := ift (kd.toInt = 1) 10 (ift (kd.toInt = 2) (-li.toInt) (ift (kd.toInt = 3) (-2 * li.toInt) 0))
noncomputable def pflo (f : Nat → Int32) (a : Int32) : Int := pfl (f a.toInt.toNat) (f (16 + a.toInt.toNat))
theorem pfl_1 {kd li : Int32} (h : kd.toInt = 1) : pfl kd li = 10 := by unfold pfl; exact ift_pos h
theorem pfl_2 {kd li : Int32} (h : kd.toInt = 2) : pfl kd li = -li.toInt := by
  unfold pfl
  rw [ift_neg (by omega)]
  exact ift_pos h
theorem pfl_3 {kd li : Int32} (h : kd.toInt = 3) : pfl kd li = -2 * li.toInt := by
  unfold pfl
  rw [ift_neg (by omega), ift_neg (by omega)]
  exact ift_pos h
theorem pfl_0 {kd li : Int32} (h1 : kd.toInt ≠ 1) (h2 : kd.toInt ≠ 2) (h3 : kd.toInt ≠ 3) : pfl kd li = 0 := by
  unfold pfl
  rw [ift_neg h1, ift_neg h2]
  exact ift_neg h3
/-- balances and limits within their bounds -/
def BB (f : Nat → Int32) : Prop := ∀ j : Nat, j < 8 → (-20000 ≤ (f (8 + j)).toInt ∧ (f (8 + j)).toInt ≤ 1000000000) ∧ 0 ≤ (f (16 + j)).toInt ∧ (f (16 + j)).toInt ≤ 9999
theorem pflo_lo {f : Nat → Int32} {a : Int32} (h : BB f) (h0 : 0 ≤ a.toInt) (h1 : a.toInt < 8) : -20000 ≤ pflo f a ∧ pflo f a ≤ 10 := by
  obtain ⟨-, b1, b2⟩ := h a.toInt.toNat (by omega)
  unfold pflo
  by_cases c1 : (f a.toInt.toNat).toInt = 1
  · rw [pfl_1 c1]; omega
  · by_cases c2 : (f a.toInt.toNat).toInt = 2
    · rw [pfl_2 c2]; omega
    · by_cases c3 : (f a.toInt.toNat).toInt = 3
      · rw [pfl_3 c3]; omega
      · rw [pfl_0 c1 c2 c3]; omega
theorem i_div10 {v : Int32} (h0 : 0 ≤ v.toInt) : (v / 10).toInt = v.toInt / 10 := by
  have e : (10 : Int32).toInt = 10 := by decide
  rw [Int32.toInt_div, e, Int.tdiv_eq_ediv_of_nonneg h0]
  have := Int32.toInt_lt v
  exact i_bm (by omega) (by omega)
theorem pfee_in {f : Nat → Int32} {a v : Int32} (h0 : 0 ≤ v.toInt) (h1 : v.toInt ≤ 9999) : 0 ≤ (pfee f a v).toInt ∧ (pfee f a v).toInt ≤ 1000 := by
  have e1 : (1 : Int32).toInt = 1 := by decide
  have e0 : (0 : Int32).toInt = 0 := by decide
  have ed := i_div10 h0
  unfold pfee
  by_cases c1 : (f a.toInt.toNat).toInt = 1
  · rw [pfk_1 c1]; omega
  · by_cases c4 : (f a.toInt.toNat).toInt = 4
    · rw [pfk_4 c4, i_add (x := 1) (y := v / 10) rfl (by omega) (by omega)]; omega
    · rw [pfk_0 c1 c4]; omega
noncomputable def pay2 (f : Nat → Int32) (a b v w : Int32) : Nat → Int32 := upd (upd f (8 + a.toInt.toNat) (f (8 + a.toInt.toNat) - (v + w))) (8 + b.toInt.toNat) (f (8 + b.toInt.toNat) + v)
def pgd (hd f : Nat → Int32) (a b : Int32) : Prop := pac f a ∧ pac f b ∧ a.toInt ≠ b.toInt ∧ (hd a.toInt.toNat).toInt ≠ 0 ∧ (hd b.toInt.toNat).toInt ≠ 0
def psh (f : Nat → Int32) (a b v : Int32) : Prop := (f (8 + a.toInt.toNat)).toInt - v.toInt - (pfee f a v).toInt < pflo f a ∨ 1000000000 < (f (8 + b.toInt.toNat)).toInt + v.toInt
noncomputable def ppay (hd : Nat → Int32) (a b v : Int32) (f : Nat → Int32) (fe : Int64) (mk : Nat → Int32) (c bg : Int32) : Int32 × Sg :=
  ift (pgd hd f a b) (ift (psh f a b v) (1, f, fe, mk, c, bg) (0, pay2 f a b v (pfee f a v), fe + (pfee f a v).toInt64, mkm mk c (100 + 10 * a + b), c + 1, bg)) (2, f, fe, mk, c, bg)
theorem ppay_u {hd f mk : Nat → Int32} {a b v c bg : Int32} {fe : Int64} (h : ¬ pgd hd f a b) : ppay hd a b v f fe mk c bg = (2, f, fe, mk, c, bg) := by unfold ppay; exact ift_neg h
theorem ppay_s {hd f mk : Nat → Int32} {a b v c bg : Int32} {fe : Int64} (h : pgd hd f a b) (g : psh f a b v) : ppay hd a b v f fe mk c bg = (1, f, fe, mk, c, bg) := by unfold ppay; rw [ift_pos h]; exact ift_pos g
theorem ppay_d {hd f mk : Nat → Int32} {a b v c bg : Int32} {fe : Int64} (h : pgd hd f a b) (g : ¬ psh f a b v) : ppay hd a b v f fe mk c bg = (0, pay2 f a b v (pfee f a v), fe + (pfee f a v).toInt64, mkm mk c (100 + 10 * a + b), c + 1, bg) := by unfold ppay; rw [ift_pos h]; exact ift_neg g
theorem bb_pay {hd f : Nat → Int32} {a b v : Int32} (h : BB f) (h8 : (f 60).toInt ≤ 8) (hg : pgd hd f a b) (hs : ¬ psh f a b v) (h0 : 0 ≤ v.toInt) (h1 : v.toInt ≤ 9999) : BB (pay2 f a b v (pfee f a v)) := by
  obtain ⟨⟨a0, a1⟩, ⟨b0, b1⟩, hab, -, -⟩ := hg
  obtain ⟨q1, q2⟩ := pflo_lo h a0 (by omega)
  obtain ⟨q3, q4⟩ := pfee_in (f := f) (a := a) h0 h1
  unfold psh at hs
  obtain ⟨⟨x1, x2⟩, -⟩ := h a.toInt.toNat (by omega)
  obtain ⟨⟨y1, y2⟩, -⟩ := h b.toInt.toNat (by omega)
  have e1 : (v + pfee f a v).toInt = v.toInt + (pfee f a v).toInt := i_add rfl (by omega) (by omega)
  have e2 : (f (8 + a.toInt.toNat) - (v + pfee f a v)).toInt = (f (8 + a.toInt.toNat)).toInt - (v + pfee f a v).toInt := i_sub rfl (by omega) (by omega)
  have e3 : (f (8 + b.toInt.toNat) + v).toInt = (f (8 + b.toInt.toNat)).toInt + v.toInt := i_add rfl (by omega) (by omega)
  intro j hj
  obtain ⟨⟨z1, z2⟩, z3, z4⟩ := h j hj
  unfold pay2
  rw [ux_n (show 16 + j ≠ 8 + b.toInt.toNat by omega), ux_n (show 16 + j ≠ 8 + a.toInt.toNat by omega)]
  refine ⟨?_, z3, z4⟩
  rcases Nat.lt_trichotomy j b.toInt.toNat with w | w | w
  · rw [ux_n (show 8 + j ≠ 8 + b.toInt.toNat by omega)]
    rcases Nat.lt_trichotomy j a.toInt.toNat with u | u | u
    · rw [ux_n (show 8 + j ≠ 8 + a.toInt.toNat by omega)]; omega
    · rw [u, ux_i]; omega
    · rw [ux_n (show 8 + j ≠ 8 + a.toInt.toNat by omega)]; omega
  · rw [w, ux_i]; omega
  · rw [ux_n (show 8 + j ≠ 8 + b.toInt.toNat by omega)]
    rcases Nat.lt_trichotomy j a.toInt.toNat with u | u | u
    · rw [ux_n (show 8 + j ≠ 8 + a.toInt.toNat by omega)]; omega
    · rw [u, ux_i]; omega
    · rw [ux_n (show 8 + j ≠ 8 + a.toInt.toNat by omega)]; omega
theorem pnu_s {r : Nat → Int32} {a j : Nat} {x y z : Int32} (hx : x = pnu r a j) (hy : y = r (a + j) - 48) (hz : z = 10 * x + y) : z = pnu r a (j + 1) := by
  subst hx hy hz
  rfl
theorem pnu_in {r : Nat → Int32} {a : Nat} : ∀ j : Nat, j ≤ 4 → (∀ i, i < j → isF (r (a + i))) → 0 ≤ (pnu r a j).toInt ∧ (pnu r a j).toInt < 10 ^ j := by
  intro j
  induction j with
  | zero => intro _ _; exact ⟨by show (0 : Int) ≤ (0 : Int32).toInt; decide, by show (0 : Int32).toInt < 10 ^ 0; decide⟩
  | succ j ih =>
    intro h4 hf
    obtain ⟨p1, p2⟩ := ih (by omega) (fun i hi => hf i (by omega))
    obtain ⟨f1, f2⟩ := hf j (Nat.lt_succ_self j)
    have hp : (10 : Int) ^ j ≤ 1000 := by
      rcases (show j = 0 ∨ j = 1 ∨ j = 2 ∨ j = 3 by omega) with rfl | rfl | rfl | rfl <;> decide
    have e48 : (48 : Int32).toInt = 48 := by decide
    have e10 : (10 : Int32).toInt = 10 := by decide
    have t1 : (r (a + j) - 48).toInt = (r (a + j)).toInt - 48 := by rw [i_sub (x := r (a + j)) (y := 48) rfl (by omega) (by omega), e48]
    have t2 : (10 * pnu r a j).toInt = 10 * (pnu r a j).toInt := i_mulc rfl e10 (by omega) (by omega)
    have t3 : (10 * pnu r a j + (r (a + j) - 48)).toInt = (10 * pnu r a j).toInt + (r (a + j) - 48).toInt := i_add rfl (by omega) (by omega)
    have hq : (10 : Int) ^ (j + 1) = 10 * 10 ^ j := by rw [Int.pow_succ]; omega
    show 0 ≤ (10 * pnu r a j + (r (a + j) - 48)).toInt ∧ (10 * pnu r a j + (r (a + j) - 48)).toInt < 10 ^ (j + 1)
    rw [t3, t2, t1, hq]
    omega
noncomputable def pun (f0 f : Nat → Int32) : Nat → Int32 := fun j => ift (8 ≤ j ∧ j < 16) (f0 j) (f j)
theorem pun_p {f0 f : Nat → Int32} {j : Nat} (h : 8 ≤ j ∧ j < 16) : pun f0 f j = f0 j := by unfold pun; exact ift_pos h
theorem pun_n {f0 f : Nat → Int32} {j : Nat} (h : ¬ (8 ≤ j ∧ j < 16)) : pun f0 f j = f j := by unfold pun; exact ift_neg h
theorem bb_pun {f0 f : Nat → Int32} (h0 : BB f0) (h : BB f) : BB (pun f0 f) := by
  intro j hj
  rw [pun_p (j := 8 + j) (by omega), pun_n (j := 16 + j) (by omega)]
  exact ⟨(h0 j hj).1, (h j hj).2⟩
theorem bb_up {f : Nat → Int32} {i : Nat} {x : Int32} (h : BB f) (hi : i < 8 ∨ 24 ≤ i) : BB (upd f i x) := by
  intro j hj
  rw [ux_n (show 8 + j ≠ i by omega), ux_n (show 16 + j ≠ i by omega)]
  exact h j hj
theorem bb_inc {f : Nat → Int32} {i : Nat} (h : BB f) (hi : i < 8 ∨ 24 ≤ i) : BB (inc f i) := bb_up h hi
noncomputable def pent (f hd : Nat → Int32) (d : Int32) : Nat → Int32 := upd (inc f (32 + d.toInt.toNat)) (48 + d.toInt.toNat) (f (48 + d.toInt.toNat) + ift (0 < (hd d.toInt.toNat).toInt) 1 0)
noncomputable def pleave (d : Int32) (q : Int32 × Sg) : Int32 × Sg := (q.1, inc q.2.1 (40 + d.toInt.toNat), q.2.2.1, mkm q.2.2.2.1 q.2.2.2.2.1 (20 + d), q.2.2.2.2.1 + 1, q.2.2.2.2.2)
noncomputable def pblo (hd : Nat → Int32) (d : Int32) (b : (Nat → Int32) → Sg → Int32 × Sg) (f : Nat → Int32) (fe : Int64) (mk : Nat → Int32) (c bg : Int32) : Int32 × Sg :=
  ift (phg f d) (ift ((hd d.toInt.toNat).toInt = 0 ∧ pgr hd d) (3, f, fe, mk, c, bg) (pleave d (b (inc hd d.toInt.toNat) (pent f hd d, fe, mkm mk c (10 + d), c + 1, bg)))) (0, inc f 56, fe, mk, c, bg)
theorem pblo_m {hd f mk : Nat → Int32} {d c bg : Int32} {fe : Int64} {b : (Nat → Int32) → Sg → Int32 × Sg} (h : ¬ phg f d) : pblo hd d b f fe mk c bg = (0, inc f 56, fe, mk, c, bg) := by unfold pblo; exact ift_neg h
theorem pblo_w {hd f mk : Nat → Int32} {d c bg : Int32} {fe : Int64} {b : (Nat → Int32) → Sg → Int32 × Sg} (h : phg f d) (g : (hd d.toInt.toNat).toInt = 0) (q : pgr hd d) : pblo hd d b f fe mk c bg = (3, f, fe, mk, c, bg) := by unfold pblo; rw [ift_pos h]; exact ift_pos ⟨g, q⟩
theorem pblo_e {hd f mk : Nat → Int32} {d c bg : Int32} {fe : Int64} {b : (Nat → Int32) → Sg → Int32 × Sg} {res c2 b2 : Int32} {f2 m2 : Nat → Int32} {fe2 : Int64} (h : phg f d) (g : ¬ ((hd d.toInt.toNat).toInt = 0 ∧ pgr hd d)) (hb : b (inc hd d.toInt.toNat) (pent f hd d, fe, mkm mk c (10 + d), c + 1, bg) = (res, f2, fe2, m2, c2, b2)) : pblo hd d b f fe mk c bg = (res, inc f2 (40 + d.toInt.toNat), fe2, mkm m2 c2 (20 + d), c2 + 1, b2) := by
  unfold pblo
  rw [ift_pos h, ift_neg g, hb]
  rfl
noncomputable def pundo (f : Nat → Int32) (fe : Int64) (last : Int) (q : Int32 × Sg) : Int32 × Sg := ift (1 ≤ q.1.toInt ∧ q.1.toInt ≤ last) (0, inc (pun f q.2.1) 59, fe, mkm q.2.2.2.1 q.2.2.2.2.1 (50 + q.1), q.2.2.2.2.1 + 1, q.2.2.2.2.2) q
noncomputable def ptry (last : Int) (b : Sg → Int32 × Sg) (f : Nat → Int32) (fe : Int64) (mk : Nat → Int32) (c bg : Int32) : Int32 × Sg := pundo f fe last (b (f, fe, mk, c, bg))
theorem ptry_c {last : Int} {b : Sg → Int32 × Sg} {f mk f2 m2 : Nat → Int32} {fe fe2 : Int64} {c bg res c2 b2 : Int32} (hb : b (f, fe, mk, c, bg) = (res, f2, fe2, m2, c2, b2)) (h1 : 1 ≤ res.toInt) (h2 : res.toInt ≤ last) : ptry last b f fe mk c bg = (0, inc (pun f f2) 59, fe, mkm m2 c2 (50 + res), c2 + 1, b2) := by
  unfold ptry
  rw [hb]
  show ift (1 ≤ res.toInt ∧ res.toInt ≤ last) (0, inc (pun f f2) 59, fe, mkm m2 c2 (50 + res), c2 + 1, b2) (res, f2, fe2, m2, c2, b2) = _
  exact ift_pos ⟨h1, h2⟩
theorem ptry_n {last : Int} {b : Sg → Int32 × Sg} {f mk f2 m2 : Nat → Int32} {fe fe2 : Int64} {c bg res c2 b2 : Int32} (hb : b (f, fe, mk, c, bg) = (res, f2, fe2, m2, c2, b2)) (h : ¬ (1 ≤ res.toInt ∧ res.toInt ≤ last)) : ptry last b f fe mk c bg = (res, f2, fe2, m2, c2, b2) := by
  unfold ptry
  rw [hb]
  show ift (1 ≤ res.toInt ∧ res.toInt ≤ last) (0, inc (pun f f2) 59, fe, mkm m2 c2 (50 + res), c2 + 1, b2) (res, f2, fe2, m2, c2, b2) = _
  exact ift_neg h
noncomputable def plo (b : Sg → Int32 × Sg) : Nat → Sg → Int32 × Sg
  | 0, s => (0, s)
  | t + 1, s => ift ((b s).1.toInt = 6) (0, (b s).2) (ift ((b s).1.toInt = 0 ∨ (b s).1.toInt = 7) (plo b t (b s).2) (b s))
theorem plo_b {b : Sg → Int32 × Sg} {t : Nat} {s s2 : Sg} {res : Int32} (hb : b s = (res, s2)) (h : res.toInt = 6) : plo b (t + 1) s = (0, s2) := by
  show ift ((b s).1.toInt = 6) (0, (b s).2) _ = _
  rw [hb]
  exact ift_pos h
theorem plo_g {b : Sg → Int32 × Sg} {t : Nat} {s s2 : Sg} {res : Int32} (hb : b s = (res, s2)) (h : res.toInt = 0 ∨ res.toInt = 7) : plo b (t + 1) s = plo b t s2 := by
  show ift ((b s).1.toInt = 6) (0, (b s).2) (ift ((b s).1.toInt = 0 ∨ (b s).1.toInt = 7) (plo b t (b s).2) (b s)) = _
  rw [hb, ift_neg (show ¬ ((res, s2) : Int32 × Sg).1.toInt = 6 by show ¬ res.toInt = 6; omega)]
  exact ift_pos h
theorem plo_x {b : Sg → Int32 × Sg} {t : Nat} {s s2 : Sg} {res : Int32} (hb : b s = (res, s2)) (h : res.toInt ≠ 6 ∧ res.toInt ≠ 0 ∧ res.toInt ≠ 7) : plo b (t + 1) s = (res, s2) := by
  show ift ((b s).1.toInt = 6) (0, (b s).2) (ift ((b s).1.toInt = 0 ∨ (b s).1.toInt = 7) (plo b t (b s).2) (b s)) = _
  rw [hb, ift_neg (show ¬ ((res, s2) : Int32 × Sg).1.toInt = 6 by show ¬ res.toInt = 6; omega)]
  exact ift_neg (show ¬ (res.toInt = 0 ∨ res.toInt = 7) by omega)
noncomputable def psq (r : Nat → Int32) (n : Nat) (it : Nat → Sg → Int32 × Sg) : Nat → Nat → Sg → Int32 × Sg
  | 0, _, s => (0, s)
  | c + 1, k, s => ift ((it k s).1.toInt = 0) (psq r n it c (bh r n k) (it k s).2) (it k s)
/-- what is left of a row of items: nothing, once one has thrown -/
noncomputable def pct (r : Nat → Int32) (n : Nat) (it : Nat → Sg → Int32 × Sg) (is : Int32) (c k : Nat) (s : Sg) : Int32 × Sg := ift (is.toInt = 0) (psq r n it c k s) (is, s)
theorem pct_0 {r : Nat → Int32} {n : Nat} {it : Nat → Sg → Int32 × Sg} {is : Int32} {c k : Nat} {s : Sg} (h : is.toInt = 0) : pct r n it is c k s = psq r n it c k s := by unfold pct; exact ift_pos h
theorem pct_x {r : Nat → Int32} {n : Nat} {it : Nat → Sg → Int32 × Sg} {is : Int32} {c k : Nat} {s : Sg} (h : is.toInt ≠ 0) : pct r n it is c k s = (is, s) := by unfold pct; exact ift_neg h
theorem pct_s {r : Nat → Int32} {n : Nat} {it : Nat → Sg → Int32 × Sg} {is res : Int32} {c k b : Nat} {s s2 : Sg} (h : is.toInt = 0) (hb : bh r n k = b) (hi : it k s = (res, s2)) : pct r n it is (c + 1) k s = pct r n it res c b s2 := by
  rw [pct_0 h]
  show ift ((it k s).1.toInt = 0) (psq r n it c (bh r n k) (it k s).2) (it k s) = _
  rw [hi, hb]
  unfold pct
  rfl
theorem pct_e {r : Nat → Int32} {n : Nat} {it : Nat → Sg → Int32 × Sg} {is : Int32} {k : Nat} {s : Sg} (h : is.toInt = 0) : pct r n it is 0 k s = (is, s) := by
  rw [pct_0 h, show is = 0 from i_inj (by rw [h]; decide)]
  rfl
/-- an item at k, where body does what lies within its brackets -/
noncomputable def pst (r : Nat → Int32) (n : Nat) (body : (Nat → Int32) → Nat → Sg → Int32 × Sg) (hd : Nat → Int32) (k : Nat) (f : Nat → Int32) (fe : Int64) (mk : Nat → Int32) (c bg : Int32) : Int32 × Sg :=
  ift (500 ≤ bg.toInt) (5, f, fe, mk, c, bg)
    (ift ((r k).toInt = 40) (pblo hd (r (k + 1) - 48) (fun h => body h (k + 2)) f fe mk c (bg + 1))
    (ift ((r k).toInt = 91) (ptry 4 (body hd (k + 1)) f fe mk c (bg + 1))
    (ift ((r k).toInt = 60) (ptry 2 (body hd (k + 1)) f fe mk c (bg + 1))
    (ift ((r k).toInt = 123) (plo (body hd (k + 2)) (r (k + 1) - 48).toInt.toNat (f, fe, mk, c, bg + 1))
    (ift ((r k).toInt = 112) (ppay hd (r (k + 1) - 48) (r (k + 2) - 48) (pnu r (k + 3) (bh r n k - (k + 3))) f fe mk c (bg + 1))
    (ift ((r k).toInt = 120) (4, f, fe, mk, c, bg + 1)
    (ift ((r k).toInt = 98) (6, f, fe, mk, c, bg + 1)
    (ift ((r k).toInt = 99) (7, f, fe, mk, c, bg + 1)
    (ift ((r k).toInt = 110) (0, pbell hd (r (k + 1) - 48) 1 f fe mk c (bg + 1))
      (0, pbell hd (r (k + 1) - 48) 2 f fe mk c (bg + 1)))))))))))
section PST
variable {r : Nat → Int32} {n : Nat} {body : (Nat → Int32) → Nat → Sg → Int32 × Sg} {hd : Nat → Int32} {k : Nat} {f : Nat → Int32} {fe : Int64} {mk : Nat → Int32} {c bg : Int32}
theorem pst_l (h : 500 ≤ bg.toInt) : pst r n body hd k f fe mk c bg = (5, f, fe, mk, c, bg) := by unfold pst; exact ift_pos h
theorem pst_40 (h : ¬ 500 ≤ bg.toInt) (hc : (r k).toInt = 40) : pst r n body hd k f fe mk c bg = pblo hd (r (k + 1) - 48) (fun h => body h (k + 2)) f fe mk c (bg + 1) := by unfold pst; rw [ift_neg h]; exact ift_pos hc
theorem pst_91 (h : ¬ 500 ≤ bg.toInt) (hc : (r k).toInt = 91) : pst r n body hd k f fe mk c bg = ptry 4 (body hd (k + 1)) f fe mk c (bg + 1) := by unfold pst; rw [ift_neg h, ift_neg (by omega)]; exact ift_pos hc
theorem pst_60 (h : ¬ 500 ≤ bg.toInt) (hc : (r k).toInt = 60) : pst r n body hd k f fe mk c bg = ptry 2 (body hd (k + 1)) f fe mk c (bg + 1) := by unfold pst; rw [ift_neg h, ift_neg (by omega), ift_neg (by omega)]; exact ift_pos hc
theorem pst_123 (h : ¬ 500 ≤ bg.toInt) (hc : (r k).toInt = 123) : pst r n body hd k f fe mk c bg = plo (body hd (k + 2)) (r (k + 1) - 48).toInt.toNat (f, fe, mk, c, bg + 1) := by unfold pst; rw [ift_neg h, ift_neg (by omega), ift_neg (by omega), ift_neg (by omega)]; exact ift_pos hc
theorem pst_112 (h : ¬ 500 ≤ bg.toInt) (hc : (r k).toInt = 112) : pst r n body hd k f fe mk c bg = ppay hd (r (k + 1) - 48) (r (k + 2) - 48) (pnu r (k + 3) (bh r n k - (k + 3))) f fe mk c (bg + 1) := by unfold pst; rw [ift_neg h, ift_neg (by omega), ift_neg (by omega), ift_neg (by omega), ift_neg (by omega)]; exact ift_pos hc
theorem pst_120 (h : ¬ 500 ≤ bg.toInt) (hc : (r k).toInt = 120) : pst r n body hd k f fe mk c bg = (4, f, fe, mk, c, bg + 1) := by unfold pst; rw [ift_neg h, ift_neg (by omega), ift_neg (by omega), ift_neg (by omega), ift_neg (by omega), ift_neg (by omega)]; exact ift_pos hc
theorem pst_98 (h : ¬ 500 ≤ bg.toInt) (hc : (r k).toInt = 98) : pst r n body hd k f fe mk c bg = (6, f, fe, mk, c, bg + 1) := by unfold pst; rw [ift_neg h, ift_neg (by omega), ift_neg (by omega), ift_neg (by omega), ift_neg (by omega), ift_neg (by omega), ift_neg (by omega)]; exact ift_pos hc
theorem pst_99 (h : ¬ 500 ≤ bg.toInt) (hc : (r k).toInt = 99) : pst r n body hd k f fe mk c bg = (7, f, fe, mk, c, bg + 1) := by unfold pst; rw [ift_neg h, ift_neg (by omega), ift_neg (by omega), ift_neg (by omega), ift_neg (by omega), ift_neg (by omega), ift_neg (by omega), ift_neg (by omega)]; exact ift_pos hc
theorem pst_110 (h : ¬ 500 ≤ bg.toInt) (hc : (r k).toInt = 110) : pst r n body hd k f fe mk c bg = (0, pbell hd (r (k + 1) - 48) 1 f fe mk c (bg + 1)) := by unfold pst; rw [ift_neg h, ift_neg (by omega), ift_neg (by omega), ift_neg (by omega), ift_neg (by omega), ift_neg (by omega), ift_neg (by omega), ift_neg (by omega), ift_neg (by omega)]; exact ift_pos hc
theorem pst_97 (h : ¬ 500 ≤ bg.toInt) (hc : (r k).toInt = 97) : pst r n body hd k f fe mk c bg = (0, pbell hd (r (k + 1) - 48) 2 f fe mk c (bg + 1)) := by unfold pst; rw [ift_neg h, ift_neg (by omega), ift_neg (by omega), ift_neg (by omega), ift_neg (by omega), ift_neg (by omega), ift_neg (by omega), ift_neg (by omega), ift_neg (by omega)]; exact ift_neg (by omega)
end PST
noncomputable def pit (r : Nat → Int32) (n : Nat) : Nat → (Nat → Int32) → Nat → Sg → Int32 × Sg
  | 0, hd, k, s => pst r n (fun _ _ s => (0, s)) hd k s.1 s.2.1 s.2.2.1 s.2.2.2.1 s.2.2.2.2
  | m + 1, hd, k, s => pst r n (fun hd a s => psq r n (pit r n m hd) (cn r n a) a s) hd k s.1 s.2.1 s.2.2.1 s.2.2.2.1 s.2.2.2.2
/-- what lies within brackets, nd levels being left -/
noncomputable def pbd (r : Nat → Int32) (n : Nat) : Nat → (Nat → Int32) → Nat → Sg → Int32 × Sg
  | 0, _, _, s => (0, s)
  | m + 1, hd, a, s => psq r n (pit r n m hd) (cn r n a) a s
theorem pit_eq {r : Nat → Int32} {n nd : Nat} {hd : Nat → Int32} {k : Nat} {f : Nat → Int32} {fe : Int64} {mk : Nat → Int32} {c bg : Int32} : pit r n nd hd k (f, fe, mk, c, bg) = pst r n (pbd r n nd) hd k f fe mk c bg := by
  cases nd with
  | zero => rfl
  | succ m => rfl
theorem pbd_eq {r : Nat → Int32} {n nd m c a e : Nat} {hd : Nat → Int32} {s : Sg} (hm : m + 1 = nd) (hs : Sq (It r n m) c a e) (he : n ≤ e ∨ (r e).toInt = 41 ∨ (r e).toInt = 93 ∨ (r e).toInt = 62 ∨ (r e).toInt = 125) : pbd r n nd hd a s = psq r n (pit r n m hd) c a s := by
  subst hm
  show psq r n (pit r n m hd) (cn r n a) a s = _
  rw [cn_eq hs he]
/-- a whole run -/
noncomputable def pend (f : Nat → Int32) (fe : Int64) (q : Int32 × Sg) : Int32 × Sg := ift (q.1.toInt = 0) q (q.1, pun f q.2.1, fe, q.2.2.2)
noncomputable def prn (r : Nat → Int32) (n : Nat) (f : Nat → Int32) (fe : Int64) (mk : Nat → Int32) : Int32 × Sg := pend f fe (psq r n (pit r n 8 (fun _ => 0)) (cn r n 0) 0 (f, fe, mk, 0, 0))
theorem prn_0 {r : Nat → Int32} {n c : Nat} {f mk f2 m2 : Nat → Int32} {fe fe2 : Int64} {res c2 b2 : Int32} (hs : Sq (It r n 8) c 0 n) (hb : psq r n (pit r n 8 (fun _ => 0)) c 0 (f, fe, mk, 0, 0) = (res, f2, fe2, m2, c2, b2)) (h : res.toInt = 0) : prn r n f fe mk = (res, f2, fe2, m2, c2, b2) := by
  unfold prn
  rw [cn_eq hs (Or.inl (Nat.le_refl n)), hb]
  show ift (res.toInt = 0) (res, f2, fe2, m2, c2, b2) (res, pun f f2, fe, m2, c2, b2) = _
  exact ift_pos h
theorem prn_x {r : Nat → Int32} {n c : Nat} {f mk f2 m2 : Nat → Int32} {fe fe2 : Int64} {res c2 b2 : Int32} (hs : Sq (It r n 8) c 0 n) (hb : psq r n (pit r n 8 (fun _ => 0)) c 0 (f, fe, mk, 0, 0) = (res, f2, fe2, m2, c2, b2)) (h : res.toInt ≠ 0) : prn r n f fe mk = (res, pun f f2, fe, m2, c2, b2) := by
  unfold prn
  rw [cn_eq hs (Or.inl (Nat.le_refl n)), hb]
  show ift (res.toInt = 0) (res, f2, fe2, m2, c2, b2) (res, pun f f2, fe, m2, c2, b2) = _
  exact ift_neg h
