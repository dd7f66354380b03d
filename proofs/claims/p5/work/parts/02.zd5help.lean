-- level 4: the steps of the reference's run
theorem kb_1 {gk g f : Nat → Int32} {D i : Nat} {z v : Int32} (h : ∀ j : Nat, j < i → gk (8 * D + j) = f (8 + j)) (hz : z.toNatClampNeg = 8 * D + i) (e : upd gk z.toNatClampNeg v = g) (hv : v = f (8 + i)) : ∀ j : Nat, j < i + 1 → g (8 * D + j) = f (8 + j) := by
  intro j hj
  rw [← e, hz]
  rcases Nat.lt_or_ge j i with w | w
  · rw [ux_n (by omega)]; exact h j w
  · obtain rfl : j = i := by omega
    rw [ux_i]; exact hv
theorem kb_2 {gk g kb : Nat → Int32} {D i : Nat} {z v : Int32} (h : ∀ j : Nat, j < 8 * D → gk j = kb j) (hz : z.toNatClampNeg = 8 * D + i) (e : upd gk z.toNatClampNeg v = g) : ∀ j : Nat, j < 8 * D → g j = kb j := by
  intro j hj
  rw [← e, hz, ux_n (by omega)]
  exact h j hj
noncomputable def pum (f0 f : Nat → Int32) (i : Nat) : Nat → Int32 := fun j => ift (8 ≤ j ∧ j < 8 + i) (f0 j) (f j)
theorem pum_0 {f0 f : Nat → Int32} : pum f0 f 0 = f := by
  funext j
  unfold pum
  exact ift_neg (by omega)
theorem pum_s {f0 f : Nat → Int32} {i : Nat} : upd (pum f0 f i) (8 + i) (f0 (8 + i)) = pum f0 f (i + 1) := by
  funext j
  rcases Nat.lt_trichotomy j (8 + i) with w | w | w
  · rw [ux_n (by omega)]
    unfold pum
    by_cases q : 8 ≤ j
    · rw [ift_pos ⟨q, w⟩, ift_pos ⟨q, by omega⟩]
    · rw [ift_neg (fun u => q u.1), ift_neg (fun u => q u.1)]
  · subst w
    rw [ux_i]
    unfold pum
    rw [ift_pos ⟨by omega, by omega⟩]
  · rw [ux_n (by omega)]
    unfold pum
    rw [ift_neg (by omega), ift_neg (by omega)]
def RSp (x : Int32 × Sg) (r : Int32) (f : Nat → Int32) (fe : Int64) (m : Nat → Int32) (c b : Int32) (D : Nat) (kb : Nat → Int32) (kf : Nat → Int64) (kb2 : Nat → Int32) (kf2 : Nat → Int64) : Prop := x = (r, f, fe, m, c, b) ∧ (∀ j : Nat, j < 8 * D → kb2 j = kb j) ∧ ∀ j : Nat, j < D → kf2 j = kf j
/-- limits within their bounds -/
theorem lb_fz {f g : Nat → Int32} (h : Fz f g) (q : LB g) : LB f := by
  intro j hj
  rw [h (16 + j) (Or.inr (Or.inl (by omega)))]
  exact q j hj
theorem npgr {hd : Nat → Int32} {d x : Int32} (h : ∀ j : Nat, d.toInt < (j : Int) → j < 8 → ¬ 0 < (hd j).toInt) (hx : 8 ≤ x.toInt) : ¬ pgr hd d := by
  rintro ⟨g, g1, g2, g3⟩
  exact h g g2 g1 g3
theorem pent_1 {f hd g1 : Nat → Int32} {d y : Int32} (h : 0 < (hd d.toInt.toNat).toInt) (h1 : g1 = upd f (32 + d.toInt.toNat) (f (32 + d.toInt.toNat) + 1)) (hy : y = g1 (48 + d.toInt.toNat)) : upd g1 (48 + d.toInt.toNat) (y + 1) = pent f hd d := by
  subst hy
  unfold pent
  rw [ift_pos h, h1, ux_n (by omega)]
  rfl
theorem pent_0 {f hd g1 : Nat → Int32} {d y : Int32} (h : ¬ 0 < (hd d.toInt.toNat).toInt) (h1 : g1 = upd f (32 + d.toInt.toNat) (f (32 + d.toInt.toNat) + 1)) (hy : y = g1 (48 + d.toInt.toNat)) : upd g1 (48 + d.toInt.toNat) (y + 0) = pent f hd d := by
  subst hy
  unfold pent
  rw [ift_neg h, h1, ux_n (by omega)]
  rfl
theorem i_back (x : Int32) : x + 1 - 1 = x := by
  grind
theorem inc_back {f : Nat → Int32} {i : Nat} : upd (inc f i) i (inc f i i - 1) = f := by
  unfold inc
  rw [ux_i, upd_upd, i_back]
  exact upd_eq rfl
theorem up_z {i : Nat} : upd (fun _ => (0 : Int32)) i 0 = fun _ => 0 := upd_eq rfl
theorem fbs_1 {p0 : Int32} {f2 f0 f : Nat → Int32} {fe2 fe0 fe : Int64} (h : (p0.toInt ≠ 0 ∧ f2 = pun f0 f ∧ fe2 = fe0) ∨ (p0.toInt = 0 ∧ f2 = f ∧ fe2 = fe)) (hp : p0.toInt ≠ 0) : f2 = pun f0 f ∧ fe2 = fe0 := by
  rcases h with ⟨-, a⟩ | ⟨a, -⟩
  · exact a
  · exact absurd a hp
theorem fbs_0 {p0 : Int32} {f2 f0 f : Nat → Int32} {fe2 fe0 fe : Int64} (h : (p0.toInt ≠ 0 ∧ f2 = pun f0 f ∧ fe2 = fe0) ∨ (p0.toInt = 0 ∧ f2 = f ∧ fe2 = fe)) (hp : p0.toInt = 0) : f2 = f ∧ fe2 = fe := by
  rcases h with ⟨a, -⟩ | ⟨-, a⟩
  · exact absurd hp a
  · exact a
theorem l_bm {n : Int} (h1 : -9223372036854775808 ≤ n) (h2 : n ≤ 9223372036854775807) : n.bmod (2 ^ 64) = n := by
  rw [Int.bmod_def]
  split <;> omega
theorem l_add {x y z : Int64} (h : z = x + y) (h1 : -9223372036854775808 ≤ x.toInt + y.toInt) (h2 : x.toInt + y.toInt ≤ 9223372036854775807) : z.toInt = x.toInt + y.toInt := by
  rw [h, Int64.toInt_add]
  exact l_bm h1 h2
theorem l_sub {x y z : Int64} (h : z = x - y) (h1 : -9223372036854775808 ≤ x.toInt - y.toInt) (h2 : x.toInt - y.toInt ≤ 9223372036854775807) : z.toInt = x.toInt - y.toInt := by
  rw [h, Int64.toInt_sub]
  exact l_bm h1 h2
theorem i_neg {x z : Int32} (h : z = -x) (h1 : -2147483647 ≤ x.toInt) : z.toInt = -x.toInt := by
  have := Int32.toInt_lt x
  rw [h, Int32.toInt_neg]
  exact i_bm (by omega) (by omega)
theorem pay_eq {f g1 g2 : Nat → Int32} {A B i1 j1 i2 j2 : Nat} {y1 v1 y2 v2 s v w : Int32} (hab : A ≠ B) (e1 : upd f i1 v1 = g1) (hi1 : i1 = 8 + A) (ev1 : v1 = y1 - s) (es : s = v + w) (ey1 : y1 = f j1) (hj1 : j1 = 8 + A) (e2 : upd g1 i2 v2 = g2) (hi2 : i2 = 8 + B) (ev2 : v2 = y2 + v) (ey2 : y2 = g1 j2) (hj2 : j2 = 8 + B) : g2 = upd (upd f (8 + A) (f (8 + A) - (v + w))) (8 + B) (f (8 + B) + v) := by
  subst e1 e2
  subst ev1 ev2 es ey1 ey2
  subst hi1 hj1 hi2 hj2
  rw [ux_n (show 8 + B ≠ 8 + A by omega)]
theorem sq_nx {r : Nat → Int32} {n m c k E : Nat} (h : Sq (It r n m) c k E) (hE : n ≤ E ∨ (r E).toInt = 41 ∨ (r E).toInt = 93 ∨ (r E).toInt = 62 ∨ (r E).toInt = 125) (hk : ¬ (n ≤ k ∨ (r k).toInt = 41 ∨ (r k).toInt = 93 ∨ (r k).toInt = 62 ∨ (r k).toInt = 125)) : ∃ b c1 : Nat, c = c1 + 1 ∧ It r n m k b ∧ Sq (It r n m) c1 b E ∧ b ≤ E := by
  cases c with
  | zero => obtain rfl : k = E := h; exact absurd hE hk
  | succ c =>
    obtain ⟨b, h1, h2⟩ := h
    have a := sq_le (fun k e q => (it_lt m k e q).1) c b E h2
    exact ⟨b, c, rfl, h1, h2, by omega⟩
theorem sq_c0 {r : Nat → Int32} {n m c k E : Nat} (h : Sq (It r n m) c k E) (hk : n ≤ k ∨ (r k).toInt = 41 ∨ (r k).toInt = 93 ∨ (r k).toInt = 62 ∨ (r k).toInt = 125) : c = 0 := by
  cases c with
  | zero => rfl
  | succ c =>
    obtain ⟨b, h1, h2⟩ := h
    have a := it_ncl h1
    exfalso; omega
theorem cpyO {f g : Nat → Int32} (j : Nat) (hj : 125 ≤ j) : va_cpy f g (0 : Int32).toNatClampNeg (0 : Int32).toNatClampNeg (125 : Int32).toNatClampNeg j = g j := by
  show va_cpy f g 0 0 125 j = g j
  exact pk_cpy_out (Or.inr (by omega))
theorem th_eq {f t u w : Nat → Int32} (xt : ∀ j : Nat, j < 125 → t j = f j) (xz : Fz u f) (xw : ∀ j : Nat, j < 125 → w j = t j) (xw2 : ∀ j : Nat, 125 ≤ j → w j = u j) : w = f := by
  funext j
  rcases Nat.lt_or_ge j 125 with q | q
  · rw [xw j q, xt j q]
  · rw [xw2 j q, xz j (Or.inr (Or.inr (by omega)))]
theorem tr_1 {gt g mk : Nat → Int32} {i : Nat} {x v : Int32} (h : ∀ j : Nat, j < i → gt j = mk j) (hx : x.toNatClampNeg = i) (e : upd gt x.toNatClampNeg v = g) (hv : v = mk i) : ∀ j : Nat, j < i + 1 → g j = mk j := by
  intro j hj
  rw [← e, hx]
  rcases Nat.lt_or_ge j i with w | w
  · rw [ux_n (by omega)]; exact h j w
  · obtain rfl : j = i := by omega
    rw [ux_i]; exact hv
theorem lay_0 {f gs g : Nat → Int32} {K : Nat} {i x : Int32} (hi : i.toNatClampNeg = K) (e : upd gs i.toNatClampNeg x = g) (h : ∀ j : Nat, j ≠ K → gs j = f j) : ∀ j : Nat, j ≠ K → g j = f j := by
  intro j hj
  rw [← e, hi, ux_n hj]
  exact h j hj
theorem lay_1 {f gs : Nat → Int32} {K : Nat} {i x : Int32} (hi : i.toNatClampNeg = K) (hx : x = f K) (h : ∀ j : Nat, j ≠ K → gs j = f j) : upd gs i.toNatClampNeg x = f := by
  funext j
  rw [hi]
  by_cases w : j = K
  · rw [w, ux_i]; exact hx
  · rw [ux_n w]; exact h j w
theorem lb_up {f : Nat → Int32} {i : Nat} {x : Int32} (h : LB f) (hi : i < 16 ∨ 24 ≤ i) : LB (upd f i x) := by
  intro j hj
  rw [ux_n (show 16 + j ≠ i by omega)]
  exact h j hj
theorem fl_two {f g1 g2 : Nat → Int32} {K : Nat} {j1 i1 j2 i2 y1 v1 y2 v2 : Int32} (h1 : j1.toNatClampNeg = K) (h2 : i1.toNatClampNeg = K) (h3 : j2.toNatClampNeg = K) (h4 : i2.toNatClampNeg = K) (e1 : y1 = f j1.toNatClampNeg) (e2 : v1 = 1 - y1) (e3 : upd f i1.toNatClampNeg v1 = g1) (e4 : y2 = g1 j2.toNatClampNeg) (e5 : v2 = 1 - y2) (e6 : upd g1 i2.toNatClampNeg v2 = g2) : g2 = f := by
  rw [h1] at e1
  rw [h2] at e3
  rw [h3] at e4
  rw [h4] at e6
  subst e1
  subst e2
  subst e3
  subst e4
  subst e5
  subst e6
  rw [ux_i, upd_upd, i_sb]
  exact upd_eq rfl
theorem cg_up {f g : Nat → Int32} {i x : Int32} (h : Cg f g) (hi : 61 ≤ i.toInt) : Cg (upd f i.toNatClampNeg x) g := by
  intro j hj
  have e := i_natZ (x := i) (by omega)
  rw [ux_n (by omega)]
  exact h j hj
theorem pn_2 {f gs g1 g2 : Nat → Int32} {i z1 z2 : Nat} {v1 y1 v2 y2 : Int32} (h : gs = Pn f i) (hi : i < 8) (hz1 : z1 = 32 + i) (e1 : upd gs z1 v1 = g1) (ev1 : v1 = y1 + 1) (ey1 : y1 = gs z1) (hz2 : z2 = 40 + i) (e2 : upd g1 z2 v2 = g2) (ev2 : v2 = y2 + 1) (ey2 : y2 = g1 z2) : g2 = Pn f (i + 1) := by
  subst e1 e2
  subst ev1 ev2 ey1 ey2
  subst hz1 hz2
  subst h
  exact pn_s hi
/-- a program more: its text is what stood on the tape; the others' stay -/
def TXp (f g t : Nat → Int32) (n p : Int32) (f2 g2 : Nat → Int32) (p2 : Int32) : Prop := (∀ j : Nat, j < 80 * p.toInt.toNat → f2 j = f j) ∧ (∀ j : Nat, j < p.toInt.toNat → g2 j = g j) ∧ (p2.toInt = p.toInt + 1 → (∀ j : Nat, (j : Int) < n.toInt → f2 (80 * p.toInt.toNat + j) = t j) ∧ g2 p.toInt.toNat = n)
