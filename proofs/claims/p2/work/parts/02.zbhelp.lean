-- what the accounts are: their kinds, limits and gates, as the reference keeps them (s) and as the class does
theorem ux_i (f : Nat → Int32) (i : Nat) (v : Int32) : upd f i v i = v := by
  unfold upd
  exact if_pos rfl
theorem ux_n {f : Nat → Int32} {i j : Nat} {v : Int32} (h : j ≠ i) : upd f i v j = f j := by
  unfold upd
  exact if_neg h
theorem i_inj {x y : Int32} (h : x.toInt = y.toInt) : x = y := Int32.toInt_inj.mp h
theorem nar1 : vp_nar .boolean 1 = 1 := by decide
theorem nar0 : vp_nar .boolean 0 = 0 := by decide
theorem narb {x : Int32} (h : x.toInt = 0 ∨ x.toInt = 1) : vp_nar .boolean x = x := by
  rcases h with h | h
  · obtain rfl : x = 0 := i_inj (by rw [h]; decide)
    exact nar0
  · obtain rfl : x = 1 := i_inj (by rw [h]; decide)
    exact nar1
noncomputable def ift {α : Type} (p : Prop) (a b : α) : α := @ite α p (Classical.propDecidable p) a b
theorem ift_pos {α : Type} {p : Prop} {a b : α} (h : p) : ift p a b = a := by unfold ift; exact if_pos h
theorem ift_neg {α : Type} {p : Prop} {a b : α} (h : ¬ p) : ift p a b = b := by unfold ift; exact if_neg h
def Bs (s k l g : Nat → Int32) (n : Int32) : Prop := n = s 60 ∧ ∀ j : Nat, j < 8 → k j = s j ∧ l j = s (16 + j) ∧ g j = s (24 + j) ∧ ((s (24 + j)).toInt = 0 ∨ (s (24 + j)).toInt = 1)
theorem bs_n {s k l g : Nat → Int32} {n : Int32} (h : Bs s k l g n) : n.toInt = (s 60).toInt := by rw [h.1]
theorem bs_k {s k l g : Nat → Int32} {n i : Int32} (h : Bs s k l g n) (h0 : 0 ≤ i.toInt) (h1 : i.toInt < 8) : (k i.toNatClampNeg).toInt = (s i.toInt.toNat).toInt := by
  rw [show i.toNatClampNeg = i.toInt.toNat from rfl, (h.2 i.toInt.toNat (by omega)).1]
theorem bs_l {s k l g : Nat → Int32} {n i : Int32} (h : Bs s k l g n) (h0 : 0 ≤ i.toInt) (h1 : i.toInt < 8) : (l i.toNatClampNeg).toInt = (s (16 + i.toInt.toNat)).toInt := by
  rw [show i.toNatClampNeg = i.toInt.toNat from rfl, (h.2 i.toInt.toNat (by omega)).2.1]
theorem bs_g {s k l g : Nat → Int32} {n i : Int32} (h : Bs s k l g n) (h0 : 0 ≤ i.toInt) (h1 : i.toInt < 8) : (g i.toNatClampNeg).toInt = (s (24 + i.toInt.toNat)).toInt ∧ ((s (24 + i.toInt.toNat)).toInt = 0 ∨ (s (24 + i.toInt.toNat)).toInt = 1) := by
  rw [show i.toNatClampNeg = i.toInt.toNat from rfl, (h.2 i.toInt.toNat (by omega)).2.2.1]
  exact ⟨rfl, (h.2 i.toInt.toNat (by omega)).2.2.2⟩
/-- the same accounts, in the reference's rows -/
def Fb (f g : Nat → Int32) : Prop := ∀ j : Nat, (j < 8 ∨ (16 ≤ j ∧ j < 32) ∨ j = 60) → f j = g j
theorem fb_rf (f : Nat → Int32) : Fb f f := fun _ _ => rfl
theorem fb_tr {f g h : Nat → Int32} (a : Fb f g) (b : Fb g h) : Fb f h := fun j q => (a j q).trans (b j q)
theorem fb_fz {f g : Nat → Int32} (h : Fz f g) : Fb f g := fun j q => h j (by unfold fz; omega)
theorem fb_all {f g : Nat → Int32} (h : ∀ j : Nat, j < 125 → f j = g j) : Fb f g := fun j q => h j (by omega)
theorem fb_up {f g : Nat → Int32} {i x : Int32} (h : Fb f g) (hi : (8 ≤ i.toInt ∧ i.toInt < 16) ∨ (32 ≤ i.toInt ∧ i.toInt < 60) ∨ 61 ≤ i.toInt) : Fb (upd f i.toNatClampNeg x) g := by
  intro j q
  have e := i_natZ (x := i) (by omega)
  rw [ux_n (by omega)]
  exact h j q
theorem bs_fb {s t k l g : Nat → Int32} {n : Int32} (h : Bs s k l g n) (f : Fb t s) : Bs t k l g n := by
  refine ⟨h.1.trans (f 60 (Or.inr (Or.inr rfl))).symm, fun j hj => ?_⟩
  rw [f j (by omega), f (16 + j) (by omega), f (24 + j) (by omega)]
  exact h.2 j hj
theorem bs_cg {s k l g k' l' g' : Nat → Int32} {n n' : Int32} (h : Bs s k l g n) (e : n' = n) (h1 : ∀ j : Nat, j < 8 → k' j = k j) (h2 : ∀ j : Nat, j < 8 → l' j = l j) (h3 : ∀ j : Nat, j < 8 → g' j = g j) : Bs s k' l' g' n' := by
  refine ⟨e.trans h.1, fun j hj => ?_⟩
  rw [h1 j hj, h2 j hj, h3 j hj]
  exact h.2 j hj
def pac (f : Nat → Int32) (d : Int32) : Prop := 0 ≤ d.toInt ∧ d.toInt < (f 60).toInt
def cac (s : Nat → Int32) (a b : Int32) : Prop := 0 ≤ a.toInt ∧ a.toInt < 5 ∧ 0 ≤ b.toInt ∧ b.toInt ≤ 1000000000 ∧ (s 60).toInt < 8
noncomputable def pacc (s : Nat → Int32) (a b : Int32) : Nat → Int32 :=
  ift (cac s a b) (upd (upd (upd (upd (upd s (s 60).toInt.toNat a) (8 + (s 60).toInt.toNat) b) (16 + (s 60).toInt.toNat) 0) (24 + (s 60).toInt.toNat) 1) 60 (s 60 + 1)) s
theorem pacc_p {s : Nat → Int32} {a b : Int32} (h : cac s a b) : pacc s a b = upd (upd (upd (upd (upd s (s 60).toInt.toNat a) (8 + (s 60).toInt.toNat) b) (16 + (s 60).toInt.toNat) 0) (24 + (s 60).toInt.toNat) 1) 60 (s 60 + 1) := by unfold pacc; exact ift_pos h
theorem pacc_n {s : Nat → Int32} {a b : Int32} (h : ¬ cac s a b) : pacc s a b = s := by unfold pacc; exact ift_neg h
theorem bs_acc {s k l g k' l' g' : Nat → Int32} {n n' a b : Int32} (h : Bs s k l g n) (h0 : 0 ≤ n.toInt) (h8 : n.toInt < 8) (hc : 0 ≤ a.toInt ∧ a.toInt < 5 ∧ 0 ≤ b.toInt ∧ b.toInt ≤ 1000000000) (hn : n'.toInt = n.toInt + 1) (ek : k' = upd k n.toInt.toNat a) (el : l' = upd l n.toInt.toNat 0) (eg : g' = upd g n.toInt.toNat 1) : Bs (pacc s a b) k' l' g' n' := by
  obtain ⟨e, q⟩ := h
  subst ek el eg
  rw [pacc_p ⟨hc.1, hc.2.1, hc.2.2.1, hc.2.2.2, by rw [← e]; exact h8⟩, ← e]
  obtain ⟨N, hN⟩ : ∃ N : Nat, n.toInt.toNat = N := ⟨_, rfl⟩
  rw [hN]
  have e1 : (1 : Int32).toInt = 1 := by decide
  refine ⟨?_, fun j hj => ?_⟩
  · rw [ux_i]
    exact i_inj (by rw [hn, i_add (x := n) (y := 1) rfl (by omega) (by omega), e1])
  · obtain ⟨q1, q2, q3, q4⟩ := q j hj
    rw [ux_n (show j ≠ 60 by omega), ux_n (show j ≠ 24 + N by omega), ux_n (show j ≠ 16 + N by omega), ux_n (show j ≠ 8 + N by omega)]
    rw [ux_n (show 16 + j ≠ 60 by omega), ux_n (show 16 + j ≠ 24 + N by omega)]
    rw [ux_n (show 24 + j ≠ 60 by omega)]
    rcases Nat.lt_trichotomy j N with w | w | w
    · rw [ux_n (show j ≠ N by omega), ux_n (show j ≠ N by omega), ux_n (show j ≠ N by omega), ux_n (show j ≠ N by omega), ux_n (show 16 + j ≠ 16 + N by omega), ux_n (show 16 + j ≠ 8 + N by omega), ux_n (show 16 + j ≠ N by omega), ux_n (show 24 + j ≠ 24 + N by omega), ux_n (show 24 + j ≠ 16 + N by omega), ux_n (show 24 + j ≠ 8 + N by omega), ux_n (show 24 + j ≠ N by omega)]
      exact ⟨q1, q2, q3, q4⟩
    · subst w
      rw [ux_i, ux_i, ux_i, ux_i, ux_i, ux_i]
      exact ⟨rfl, rfl, rfl, Or.inr e1⟩
    · rw [ux_n (show j ≠ N by omega), ux_n (show j ≠ N by omega), ux_n (show j ≠ N by omega), ux_n (show j ≠ N by omega), ux_n (show 16 + j ≠ 16 + N by omega), ux_n (show 16 + j ≠ 8 + N by omega), ux_n (show 16 + j ≠ N by omega), ux_n (show 24 + j ≠ 24 + N by omega), ux_n (show 24 + j ≠ 16 + N by omega), ux_n (show 24 + j ≠ 8 + N by omega), ux_n (show 24 + j ≠ N by omega)]
      exact ⟨q1, q2, q3, q4⟩
-- set
def cse (s : Nat → Int32) (a w v : Int32) (k m : Int) : Prop := 0 ≤ a.toInt ∧ a.toInt < (s 60).toInt ∧ w.toInt = k ∧ 0 ≤ v.toInt ∧ v.toInt ≤ m
noncomputable def pset (s : Nat → Int32) (a w v : Int32) : Nat → Int32 :=
  ift (cse s a w v 0 1000000000) (upd s (8 + a.toInt.toNat) v) (ift (cse s a w v 1 9999) (upd s (16 + a.toInt.toNat) v) s)
theorem pset_0 {s : Nat → Int32} {a w v : Int32} (h : cse s a w v 0 1000000000) : pset s a w v = upd s (8 + a.toInt.toNat) v := by unfold pset; exact ift_pos h
theorem pset_1 {s : Nat → Int32} {a w v : Int32} (h : cse s a w v 1 9999) : pset s a w v = upd s (16 + a.toInt.toNat) v := by
  unfold pset
  rw [ift_neg (by unfold cse at h ⊢; omega)]
  exact ift_pos h
theorem pset_n {s : Nat → Int32} {a w v : Int32} (h : ¬ cse s a w v 0 1000000000) (h' : ¬ cse s a w v 1 9999) : pset s a w v = s := by
  unfold pset
  rw [ift_neg h]
  exact ift_neg h'
theorem bs_set0 {s k l g : Nat → Int32} {n a w v : Int32} (h : Bs s k l g n) (h8 : n.toInt ≤ 8) (hc : 0 ≤ a.toInt ∧ a.toInt < n.toInt ∧ w.toInt = 0 ∧ 0 ≤ v.toInt ∧ v.toInt ≤ 1000000000) : Bs (pset s a w v) k l g n := by
  have e := bs_n h
  rw [pset_0 (by unfold cse; omega)]
  refine bs_fb h (fun j q => ux_n (by omega))
theorem bs_set1 {s k l g l' : Nat → Int32} {n a w v : Int32} (h : Bs s k l g n) (h8 : n.toInt ≤ 8) (hc : 0 ≤ a.toInt ∧ a.toInt < n.toInt ∧ w.toInt = 1 ∧ 0 ≤ v.toInt ∧ v.toInt ≤ 9999) (el : l' = upd l a.toInt.toNat v) : Bs (pset s a w v) k l' g n := by
  have e := bs_n h
  subst el
  rw [pset_1 (by unfold cse; omega)]
  refine ⟨h.1.trans (ux_n (by omega)).symm, fun j hj => ?_⟩
  obtain ⟨q1, q2, q3, q4⟩ := h.2 j hj
  rw [ux_n (show j ≠ 16 + a.toInt.toNat by omega), ux_n (show 24 + j ≠ 16 + a.toInt.toNat by omega)]
  rcases Nat.lt_trichotomy j a.toInt.toNat with w | w | w
  · rw [ux_n (by omega), ux_n (by omega)]; exact ⟨q1, q2, q3, q4⟩
  · rw [← w, ux_i, ux_i]; exact ⟨q1, rfl, q3, q4⟩
  · rw [ux_n (by omega), ux_n (by omega)]; exact ⟨q1, q2, q3, q4⟩
theorem bs_setn {s k l g : Nat → Int32} {n a w v : Int32} (h : Bs s k l g n) (hc : ¬ (0 ≤ a.toInt ∧ a.toInt < n.toInt ∧ ((w.toInt = 0 ∧ 0 ≤ v.toInt ∧ v.toInt ≤ 1000000000) ∨ (w.toInt = 1 ∧ 0 ≤ v.toInt ∧ v.toInt ≤ 9999)))) : Bs (pset s a w v) k l g n := by
  have e := bs_n h
  rw [pset_n (by unfold cse; omega) (by unfold cse; omega)]
  exact h
-- gate
noncomputable def pgate (s : Nat → Int32) (a v : Int32) : Nat → Int32 := ift (pac s a) (upd s (24 + a.toInt.toNat) v) s
theorem pgate_p {s : Nat → Int32} {a v : Int32} (h : 0 ≤ a.toInt ∧ a.toInt < (s 60).toInt) : pgate s a v = upd s (24 + a.toInt.toNat) v := by unfold pgate; exact ift_pos h
theorem pgate_n {s : Nat → Int32} {a v : Int32} (h : ¬ (0 ≤ a.toInt ∧ a.toInt < (s 60).toInt)) : pgate s a v = s := by unfold pgate; exact ift_neg h
theorem bs_gate {s k l g g' : Nat → Int32} {n a v : Int32} (h : Bs s k l g n) (h8 : n.toInt ≤ 8) (hc : 0 ≤ a.toInt ∧ a.toInt < n.toInt) (hv : v.toInt = 0 ∨ v.toInt = 1) (eg : g' = upd g a.toInt.toNat (vp_nar .boolean v)) : Bs (pgate s a v) k l g' n := by
  have e := bs_n h
  rw [narb hv] at eg
  subst eg
  rw [pgate_p (by omega)]
  refine ⟨h.1.trans (ux_n (by omega)).symm, fun j hj => ?_⟩
  obtain ⟨q1, q2, q3, q4⟩ := h.2 j hj
  rw [ux_n (show j ≠ 24 + a.toInt.toNat by omega), ux_n (show 16 + j ≠ 24 + a.toInt.toNat by omega)]
  rcases Nat.lt_trichotomy j a.toInt.toNat with w | w | w
  · rw [ux_n (by omega), ux_n (by omega)]; exact ⟨q1, q2, q3, q4⟩
  · rw [← w, ux_i, ux_i]; exact ⟨q1, q2, rfl, hv⟩
  · rw [ux_n (by omega), ux_n (by omega)]; exact ⟨q1, q2, q3, q4⟩
theorem bs_gaten {s k l g : Nat → Int32} {n a v : Int32} (h : Bs s k l g n) (hc : ¬ (0 ≤ a.toInt ∧ a.toInt < n.toInt)) : Bs (pgate s a v) k l g n := by
  have e := bs_n h
  rw [pgate_n (by omega)]
  exact h
theorem cp01 {gi bg g : Nat → Int32} {x z : Int32} {i : Nat} (hx : x.toInt = (i : Int)) (v : z.toInt = 0 ∨ z.toInt = 1) (ez : z = bg x.toNatClampNeg) (eg : upd gi x.toNatClampNeg (vp_nar .boolean z) = g) (ig : ∀ j : Nat, j < i → gi j = bg j) : ∀ j : Nat, j < i + 1 → g j = bg j := by
  intro j hj
  have e := i_nat (x := x) (k := i) hx
  rw [← eg, narb v, ez, e]
  rcases Nat.lt_or_ge j i with q | q
  · rw [ux_n (by omega)]; exact ig j q
  · have q2 : j = i := by omega
    rw [q2, ux_i]
theorem bs_01 {s k l g : Nat → Int32} {n : Int32} (h : Bs s k l g n) : ∀ j : Nat, j < 8 → (g j).toInt = 0 ∨ (g j).toInt = 1 := by
  intro j hj
  rw [(h.2 j hj).2.2.1]
  exact (h.2 j hj).2.2.2
theorem bs_z : Bs (fun _ => 0) (fun _ => 0) (fun _ => 0) (fun _ => 0) 0 := ⟨rfl, fun _ _ => ⟨rfl, rfl, rfl, Or.inl z_0⟩⟩
theorem i_sb (x : Int32) : 1 - (1 - x) = x := by
  grind
theorem fl_same {f s0 g1 q g2 : Nat → Int32} {j1 i1 j2 i2 y1 v1 y2 v2 : Int32} {a : Nat} (h1 : j1.toNatClampNeg = a) (h2 : i1.toNatClampNeg = a) (h3 : j2.toNatClampNeg = a) (h4 : i2.toNatClampNeg = a) (ha : a < 125) (ia : ∀ j : Nat, j < 125 → f j = s0 j) (e1 : y1 = f j1.toNatClampNeg) (e2 : v1 = 1 - y1) (e3 : upd f i1.toNatClampNeg v1 = g1) (xs : ∀ j : Nat, j < 125 → q j = g1 j) (e4 : y2 = q j2.toNatClampNeg) (e5 : v2 = 1 - y2) (e6 : upd q i2.toNatClampNeg v2 = g2) : ∀ j : Nat, j < 125 → g2 j = s0 j := by
  intro j hj
  rw [h1] at e1
  rw [h2] at e3
  rw [h3] at e4
  rw [h4] at e6
  rw [← e6]
  rcases Decidable.em (j = a) with w | w
  · rw [w, ux_i, e5, e4, xs a ha, ← e3, ux_i, e2, e1, i_sb]
    exact ia a ha
  · rw [ux_n w, xs j hj, ← e3, ux_n w]
    exact ia j hj
