-- the class's books changed by its calls
theorem bks_uk {k b l g e v a : Nat → Int32} {n mi be re ca : Int32} {i : Nat} {x : Int32} (hi : i < 8) : bks (upd k i x) b l g e v a n mi be re ca = upd (bks k b l g e v a n mi be re ca) (i) x := by
  funext j
  by_cases w : j = i
  · subst w; rw [ux_i, bks_k hi, ux_i]
  · rw [ux_n w]
    unfold bks
    by_cases h0 : j < 8
    · rw [if_pos h0, if_pos h0, ux_n (by omega)]
    · rw [if_neg h0, if_neg h0]
theorem bks_ul {k b l g e v a : Nat → Int32} {n mi be re ca : Int32} {i : Nat} {x : Int32} (hi : i < 8) : bks k b (upd l i x) g e v a n mi be re ca = upd (bks k b l g e v a n mi be re ca) (16 + i) x := by
  funext j
  by_cases w : j = 16 + i
  · subst w; rw [ux_i, bks_l hi, ux_i]
  · rw [ux_n w]
    unfold bks
    by_cases h0 : j < 8
    · rw [if_pos h0, if_pos h0]
    · rw [if_neg h0, if_neg h0]
      by_cases h1 : j < 16
      · rw [if_pos h1, if_pos h1]
      · rw [if_neg h1, if_neg h1]
        by_cases h2 : j < 24
        · rw [if_pos h2, if_pos h2, ux_n (by omega)]
        · rw [if_neg h2, if_neg h2]
theorem bks_ug {k b l g e v a : Nat → Int32} {n mi be re ca : Int32} {i : Nat} {x : Int32} (hi : i < 8) : bks k b l (upd g i x) e v a n mi be re ca = upd (bks k b l g e v a n mi be re ca) (24 + i) x := by
  funext j
  by_cases w : j = 24 + i
  · subst w; rw [ux_i, bks_g hi, ux_i]
  · rw [ux_n w]
    unfold bks
    by_cases h0 : j < 8
    · rw [if_pos h0, if_pos h0]
    · rw [if_neg h0, if_neg h0]
      by_cases h1 : j < 16
      · rw [if_pos h1, if_pos h1]
      · rw [if_neg h1, if_neg h1]
        by_cases h2 : j < 24
        · rw [if_pos h2, if_pos h2]
        · rw [if_neg h2, if_neg h2]
          by_cases h3 : j < 32
          · rw [if_pos h3, if_pos h3, ux_n (by omega)]
          · rw [if_neg h3, if_neg h3]
theorem bks_un {k b l g e v a : Nat → Int32} {n mi be re ca : Int32} {x : Int32} : bks k b l g e v a x mi be re ca = upd (bks k b l g e v a n mi be re ca) 60 x := by
  funext j
  by_cases w : j = 60
  · subst w; rw [ux_i]; rfl
  · rw [ux_n w]
    unfold bks
    by_cases h0 : j < 8
    · rw [if_pos h0, if_pos h0]
    · rw [if_neg h0, if_neg h0]
      by_cases h1 : j < 16
      · rw [if_pos h1, if_pos h1]
      · rw [if_neg h1, if_neg h1]
        by_cases h2 : j < 24
        · rw [if_pos h2, if_pos h2]
        · rw [if_neg h2, if_neg h2]
          by_cases h3 : j < 32
          · rw [if_pos h3, if_pos h3]
          · rw [if_neg h3, if_neg h3]
            by_cases h4 : j < 40
            · rw [if_pos h4, if_pos h4]
            · rw [if_neg h4, if_neg h4]
              by_cases h5 : j < 48
              · rw [if_pos h5, if_pos h5]
              · rw [if_neg h5, if_neg h5]
                by_cases h6 : j < 56
                · rw [if_pos h6, if_pos h6]
                · rw [if_neg h6, if_neg h6]
                  by_cases h56 : j = 56
                  · rw [if_pos h56, if_pos h56]
                  · rw [if_neg h56, if_neg h56]
                    by_cases h57 : j = 57
                    · rw [if_pos h57, if_pos h57]
                    · rw [if_neg h57, if_neg h57]
                      by_cases h58 : j = 58
                      · rw [if_pos h58, if_pos h58]
                      · rw [if_neg h58, if_neg h58]
                        by_cases h59 : j = 59
                        · rw [if_pos h59, if_pos h59]
                        · rw [if_neg h59, if_neg h59]
                          rw [if_neg w, if_neg w]
theorem bks_acc {k b l g e v a : Nat → Int32} {n mi be re ca : Int32} {N : Nat} {x y n' : Int32} (hN : N < 8) (hn : N = n.toInt.toNat) (h0 : E0 (bks k b l g e v a n mi be re ca)) (ha : 0 ≤ n.toInt) (hn' : n' = n + 1) (hc : cac (bks k b l g e v a n mi be re ca) x y) : bks (upd k N x) (upd b N y) (upd l N 0) (upd g N 1) (upd e N 0) (upd v N 0) (upd a N 0) n' mi be re ca = pacc (bks k b l g e v a n mi be re ca) x y := by
  obtain ⟨q1, q2, q3⟩ := h0 N hN (by rw [bks_n]; omega)
  rw [bks_e hN] at q1
  rw [bks_v hN] at q2
  rw [bks_a hN] at q3
  rw [pacc_p hc, bks_n, ← hn, hn', upd_eq q1.symm, upd_eq q2.symm, upd_eq q3.symm, bks_un, bks_ug hN, bks_ul hN, bks_ub hN, bks_uk hN]
theorem bks_set0 {k b l g e v a : Nat → Int32} {n mi be re ca : Int32} {x : Int32} {A : Nat} (hA : A < 8) : bks k (upd b A x) l g e v a n mi be re ca = upd (bks k b l g e v a n mi be re ca) (8 + A) x := bks_ub hA
theorem bks_set1 {k b l g e v a : Nat → Int32} {n mi be re ca : Int32} {x : Int32} {A : Nat} (hA : A < 8) : bks k b (upd l A x) g e v a n mi be re ca = upd (bks k b l g e v a n mi be re ca) (16 + A) x := bks_ul hA
theorem bks_gt {k b l g e v a : Nat → Int32} {n mi be re ca : Int32} {x : Int32} {A : Nat} (hA : A < 8) : bks k b l (upd g A x) e v a n mi be re ca = upd (bks k b l g e v a n mi be re ca) (24 + A) x := bks_ug hA
/-- all gates entered and left -/
noncomputable def Pn (f : Nat → Int32) (i : Nat) : Nat → Int32 := fun j => ift ((32 ≤ j ∧ j < 32 + i) ∨ (40 ≤ j ∧ j < 40 + i)) (f j + 1) (f j)
theorem pn_p {f : Nat → Int32} {i j : Nat} (h : (32 ≤ j ∧ j < 32 + i) ∨ (40 ≤ j ∧ j < 40 + i)) : Pn f i j = f j + 1 := by unfold Pn; exact ift_pos h
theorem pn_n {f : Nat → Int32} {i j : Nat} (h : ¬ ((32 ≤ j ∧ j < 32 + i) ∨ (40 ≤ j ∧ j < 40 + i))) : Pn f i j = f j := by unfold Pn; exact ift_neg h
theorem pn_0 {f : Nat → Int32} : Pn f 0 = f := by
  funext j
  exact pn_n (by omega)
theorem pn_s {f : Nat → Int32} {i : Nat} (hi : i < 8) : upd (upd (Pn f i) (32 + i) (Pn f i (32 + i) + 1)) (40 + i) (upd (Pn f i) (32 + i) (Pn f i (32 + i) + 1) (40 + i) + 1) = Pn f (i + 1) := by
  funext j
  by_cases w : j = 40 + i
  · rw [w, ux_i, ux_n (by omega), pn_n (by omega), pn_p (by omega)]
  · rw [ux_n w]
    by_cases u : j = 32 + i
    · rw [u, ux_i, pn_n (by omega), pn_p (by omega)]
    · rw [ux_n u]
      by_cases q : (32 ≤ j ∧ j < 32 + i) ∨ (40 ≤ j ∧ j < 40 + i)
      · rw [pn_p q, pn_p (by omega)]
      · rw [pn_n q, pn_n (by omega)]
def pag (f : Nat → Int32) : Prop := ∀ j : Nat, (j : Int) < (f 60).toInt → (f (24 + j)).toInt ≠ 0
theorem pag_cg {f g : Nat → Int32} (h : Cg f g) (h8 : (f 60).toInt ≤ 8) : pag f ↔ pag g := by
  constructor
  · intro q j hj
    rw [← h 60 (by omega)] at hj
    rw [← h (24 + j) (by omega)]
    exact q j hj
  · intro q j hj
    rw [h (24 + j) (by omega)]
    exact q j (by rw [← h 60 (by omega)]; exact hj)
theorem pn_cg {f g : Nat → Int32} {i : Nat} (h : Cg f g) : Cg (Pn f i) (Pn g i) := by
  intro j hj
  by_cases q : (32 ≤ j ∧ j < 32 + i) ∨ (40 ≤ j ∧ j < 40 + i)
  · rw [pn_p q, pn_p q, h j hj]
  · rw [pn_n q, pn_n q]; exact h j hj
theorem e0_pn {f : Nat → Int32} {i : Nat} (h : E0 f) (hi : (i : Int) ≤ (f 60).toInt) (h8 : i ≤ 8) : E0 (Pn f i) := by
  intro j hj hn
  rw [pn_n (by omega)] at hn
  rw [pn_n (by omega), pn_n (by omega), pn_n (by omega)]
  exact h j hj hn
theorem bks_net {k b l g e v a : Nat → Int32} {n mi be re ca : Int32} {e' v' : Nat → Int32} {i : Nat} (hi : i ≤ 8) (he : ∀ j : Nat, j < 8 → e' j = ift (j < i) (e j + 1) (e j)) (hv : ∀ j : Nat, j < 8 → v' j = ift (j < i) (v j + 1) (v j)) : Cg (bks k b l g e' v' a n mi be re ca) (Pn (bks k b l g e v a n mi be re ca) i) := by
  intro j hj
  by_cases w : 32 ≤ j ∧ j < 40
  · obtain ⟨q, rfl⟩ : ∃ q, j = 32 + q := ⟨j - 32, by omega⟩
    rw [bks_e (by omega), he q (by omega)]
    by_cases u : q < i
    · rw [ift_pos u, pn_p (by omega), bks_e (by omega)]
    · rw [ift_neg u, pn_n (by omega), bks_e (by omega)]
  · by_cases w2 : 40 ≤ j ∧ j < 48
    · obtain ⟨q, rfl⟩ : ∃ q, j = 40 + q := ⟨j - 40, by omega⟩
      rw [bks_v (by omega), hv q (by omega)]
      by_cases u : q < i
      · rw [ift_pos u, pn_p (by omega), bks_v (by omega)]
      · rw [ift_neg u, pn_n (by omega), bks_v (by omega)]
    · rw [pn_n (by omega)]
      unfold bks
      by_cases h0 : j < 8
      · rw [if_pos h0, if_pos h0]
      · rw [if_neg h0, if_neg h0]
        by_cases h1 : j < 16
        · rw [if_pos h1, if_pos h1]
        · rw [if_neg h1, if_neg h1]
          by_cases h2 : j < 24
          · rw [if_pos h2, if_pos h2]
          · rw [if_neg h2, if_neg h2]
            by_cases h3 : j < 32
            · rw [if_pos h3, if_pos h3]
            · have h4 : ¬ j < 40 := by omega
              have h5 : ¬ j < 48 := by omega
              rw [if_neg h3, if_neg h3, if_neg h4, if_neg h4, if_neg h5, if_neg h5]
theorem bb_cgs {f g : Nat → Int32} (h : BB f) (c : Cg f g) : BB g := by
  intro j hj
  rw [← c (8 + j) (by omega), ← c (16 + j) (by omega)]
  exact h j hj
theorem lb_bb {f : Nat → Int32} (h : BB f) : LB f := fun j hj => (h j hj).2
theorem bb_acc {f : Nat → Int32} {x y : Int32} (h : BB f) (h0 : 0 ≤ (f 60).toInt) : BB (pacc f x y) := by
  have e0 : (0 : Int32).toInt = 0 := by decide
  by_cases c : cac f x y
  · rw [pacc_p c]
    obtain ⟨c1, c2, c3, c4, c5⟩ := c
    intro j hj
    rw [ux_n (show 8 + j ≠ 60 by omega), ux_n (show 8 + j ≠ 24 + (f 60).toInt.toNat by omega), ux_n (show 8 + j ≠ 16 + (f 60).toInt.toNat by omega), ux_n (show 16 + j ≠ 60 by omega), ux_n (show 16 + j ≠ 24 + (f 60).toInt.toNat by omega)]
    obtain ⟨q1, q2⟩ := h j hj
    constructor
    · by_cases w : j = (f 60).toInt.toNat
      · rw [w, ux_i]; omega
      · rw [ux_n (show 8 + j ≠ 8 + (f 60).toInt.toNat by omega), ux_n (show 8 + j ≠ (f 60).toInt.toNat by omega)]; exact q1
    · by_cases w : j = (f 60).toInt.toNat
      · rw [w, ux_i]; omega
      · rw [ux_n (show 16 + j ≠ 16 + (f 60).toInt.toNat by omega), ux_n (show 16 + j ≠ 8 + (f 60).toInt.toNat by omega), ux_n (show 16 + j ≠ (f 60).toInt.toNat by omega)]; exact q2
  · rw [pacc_n c]; exact h
theorem bb_set {f : Nat → Int32} {a w v : Int32} (h : BB f) (h8 : (f 60).toInt ≤ 8) : BB (pset f a w v) := by
  by_cases c0 : cse f a w v 0 1000000000
  · rw [pset_0 c0]
    obtain ⟨c1, c2, c3, c4, c5⟩ := c0
    intro j hj
    obtain ⟨q1, q2⟩ := h j hj
    by_cases u : j = a.toInt.toNat
    · rw [u, ux_i]
      rw [ux_n (show 16 + a.toInt.toNat ≠ 8 + a.toInt.toNat by omega), ← u]
      exact ⟨by omega, q2⟩
    · rw [ux_n (show 8 + j ≠ 8 + a.toInt.toNat by omega)]
      rw [ux_n (show 16 + j ≠ 8 + a.toInt.toNat by omega)]
      exact ⟨q1, q2⟩
  · by_cases c1 : cse f a w v 1 9999
    · rw [pset_1 c1]
      obtain ⟨d1, d2, d3, d4, d5⟩ := c1
      intro j hj
      obtain ⟨q1, q2⟩ := h j hj
      rw [ux_n (show 8 + j ≠ 16 + a.toInt.toNat by omega)]
      refine ⟨q1, ?_⟩
      by_cases u : j = a.toInt.toNat
      · rw [u, ux_i]; omega
      · rw [ux_n (show 16 + j ≠ 16 + a.toInt.toNat by omega)]; exact q2
    · rw [pset_n c0 c1]; exact h
noncomputable def psr (s : Nat → Int32) (a w v : Int32) : Int := ift (cse s a w v 0 1000000000) (s (8 + a.toInt.toNat)).toInt (ift (cse s a w v 1 9999) (s (16 + a.toInt.toNat)).toInt (-9223372036854775808))
theorem psr_0 {s : Nat → Int32} {a w v : Int32} (h : cse s a w v 0 1000000000) : psr s a w v = (s (8 + a.toInt.toNat)).toInt := by unfold psr; exact ift_pos h
theorem psr_1 {s : Nat → Int32} {a w v : Int32} (h : cse s a w v 1 9999) : psr s a w v = (s (16 + a.toInt.toNat)).toInt := by
  unfold psr
  rw [ift_neg (by unfold cse at h ⊢; omega)]
  exact ift_pos h
theorem psr_n {s : Nat → Int32} {a w v : Int32} (h : ¬ cse s a w v 0 1000000000) (h' : ¬ cse s a w v 1 9999) : psr s a w v = -9223372036854775808 := by
  unfold psr
  rw [ift_neg h]
  exact ift_neg h'
noncomputable def ptl (s : Nat → Int32) (a w : Int32) : Int := ift (pac s a) (ift (w.toInt = 0) (s a.toInt.toNat).toInt (ift (w.toInt = 1) (s (16 + a.toInt.toNat)).toInt (ift (w.toInt = 2) (s (24 + a.toInt.toNat)).toInt (ift (w.toInt = 3) (s (32 + a.toInt.toNat)).toInt (ift (w.toInt = 4) (s (40 + a.toInt.toNat)).toInt (ift (w.toInt = 5) (s (48 + a.toInt.toNat)).toInt (ift (w.toInt = 6) (pfee s a 100).toInt (-2)))))))) (-2)
theorem ptl_n {s : Nat → Int32} {a w : Int32} (h : ¬ pac s a) : ptl s a w = -2 := by unfold ptl; exact ift_neg h
theorem ptl_0 {s : Nat → Int32} {a w : Int32} (h : pac s a) (g : w.toInt = 0) : ptl s a w = (s a.toInt.toNat).toInt := by unfold ptl; rw [ift_pos h]; exact ift_pos g
theorem ptl_1 {s : Nat → Int32} {a w : Int32} (h : pac s a) (g : w.toInt = 1) : ptl s a w = (s (16 + a.toInt.toNat)).toInt := by unfold ptl; rw [ift_pos h, ift_neg (by omega)]; exact ift_pos g
theorem ptl_2 {s : Nat → Int32} {a w : Int32} (h : pac s a) (g : w.toInt = 2) : ptl s a w = (s (24 + a.toInt.toNat)).toInt := by unfold ptl; rw [ift_pos h, ift_neg (by omega), ift_neg (by omega)]; exact ift_pos g
theorem ptl_3 {s : Nat → Int32} {a w : Int32} (h : pac s a) (g : w.toInt = 3) : ptl s a w = (s (32 + a.toInt.toNat)).toInt := by unfold ptl; rw [ift_pos h, ift_neg (by omega), ift_neg (by omega), ift_neg (by omega)]; exact ift_pos g
theorem ptl_4 {s : Nat → Int32} {a w : Int32} (h : pac s a) (g : w.toInt = 4) : ptl s a w = (s (40 + a.toInt.toNat)).toInt := by unfold ptl; rw [ift_pos h, ift_neg (by omega), ift_neg (by omega), ift_neg (by omega), ift_neg (by omega)]; exact ift_pos g
theorem ptl_5 {s : Nat → Int32} {a w : Int32} (h : pac s a) (g : w.toInt = 5) : ptl s a w = (s (48 + a.toInt.toNat)).toInt := by unfold ptl; rw [ift_pos h, ift_neg (by omega), ift_neg (by omega), ift_neg (by omega), ift_neg (by omega), ift_neg (by omega)]; exact ift_pos g
theorem ptl_6 {s : Nat → Int32} {a w : Int32} (h : pac s a) (g : w.toInt = 6) : ptl s a w = (pfee s a 100).toInt := by unfold ptl; rw [ift_pos h, ift_neg (by omega), ift_neg (by omega), ift_neg (by omega), ift_neg (by omega), ift_neg (by omega), ift_neg (by omega)]; exact ift_pos g
theorem ptl_x {s : Nat → Int32} {a w : Int32} (h : pac s a) (g : w.toInt < 0 ∨ 6 < w.toInt) : ptl s a w = -2 := by unfold ptl; rw [ift_pos h, ift_neg (by omega), ift_neg (by omega), ift_neg (by omega), ift_neg (by omega), ift_neg (by omega), ift_neg (by omega)]; exact ift_neg (by omega)
theorem en_1 {gi g fa : Nat → Int32} {i : Nat} {x v y : Int32} (h : ∀ j : Nat, gi j = ift (j < i) (fa j + 1) (fa j)) (hx : x.toInt = (i : Int)) (e : upd gi x.toNatClampNeg v = g) (ev : v = y + 1) (ey : y = gi x.toNatClampNeg) : ∀ j : Nat, g j = ift (j < i + 1) (fa j + 1) (fa j) := by
  intro j
  have ex : x.toNatClampNeg = i := i_nat hx
  rw [← e, ev, ey, ex]
  by_cases w : j = i
  · rw [w, ux_i, h i, ift_neg (Nat.lt_irrefl i), ift_pos (Nat.lt_succ_self i)]
  · rw [ux_n w, h j]
    by_cases u : j < i
    · rw [ift_pos u, ift_pos (by omega)]
    · rw [ift_neg u, ift_neg (by omega)]
theorem lv_1 {gi g fa : Nat → Int32} {a x v y : Int32} (h : ∀ j : Nat, gi j = ift (x.toInt < (j : Int) ∧ (j : Int) < a.toInt) (fa j + 1) (fa j)) (h0 : 0 ≤ x.toInt) (hx : x.toInt < a.toInt) (e : upd gi x.toNatClampNeg v = g) (ev : v = y + 1) (ey : y = gi x.toNatClampNeg) : ∀ j : Nat, g j = ift (x.toInt ≤ (j : Int) ∧ (j : Int) < a.toInt) (fa j + 1) (fa j) := by
  intro j
  have ex : x.toNatClampNeg = x.toInt.toNat := rfl
  rw [← e, ev, ey, ex]
  by_cases w : j = x.toInt.toNat
  · rw [w, ux_i, h x.toInt.toNat, ift_neg (by omega), ift_pos (by omega)]
  · rw [ux_n w, h j]
    by_cases u : x.toInt < (j : Int) ∧ (j : Int) < a.toInt
    · rw [ift_pos u, ift_pos (by omega)]
    · rw [ift_neg u, ift_neg (by omega)]
theorem lv_2 {j : Nat} {a x y z : Int32} (hx : x.toInt < 0 ∧ -1 ≤ x.toInt) : ift (x.toInt < (j : Int) ∧ (j : Int) < a.toInt) y z = ift (j < a.toInt.toNat) y z := by
  by_cases u : (j : Int) < a.toInt
  · rw [ift_pos (by omega), ift_pos (by omega)]
  · rw [ift_neg (by omega), ift_neg (by omega)]
theorem lv_3 {g fa : Nat → Int32} {a x x2 : Int32} (h : ∀ j : Nat, g j = ift (x.toInt ≤ (j : Int) ∧ (j : Int) < a.toInt) (fa j + 1) (fa j)) (hx : x2.toInt = x.toInt - 1) : ∀ j : Nat, g j = ift (x2.toInt < (j : Int) ∧ (j : Int) < a.toInt) (fa j + 1) (fa j) := by
  intro j
  rw [h j]
  by_cases u : x.toInt ≤ (j : Int) ∧ (j : Int) < a.toInt
  · rw [ift_pos u, ift_pos (by omega)]
  · rw [ift_neg u, ift_neg (by omega)]
