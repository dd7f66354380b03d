-- the steps of the class's run
theorem pent_bks1 {k b l g e v a hd : Nat → Int32} {n mi be re ca d : Int32} (hD : d.toInt.toNat < 8) (h : 0 < (hd d.toInt.toNat).toInt) : bks k b l g (upd e d.toInt.toNat (e d.toInt.toNat + 1)) v (upd a d.toInt.toNat (a d.toInt.toNat + 1)) n mi be re ca = pent (bks k b l g e v a n mi be re ca) hd d := by
  unfold pent inc
  rw [ift_pos h, bks_e hD, bks_a hD, bks_ua hD, bks_ue hD]
theorem pent_bks0 {k b l g e v a hd : Nat → Int32} {n mi be re ca d : Int32} (hD : d.toInt.toNat < 8) (h : ¬ 0 < (hd d.toInt.toNat).toInt) : bks k b l g (upd e d.toInt.toNat (e d.toInt.toNat + 1)) v a n mi be re ca = pent (bks k b l g e v a n mi be re ca) hd d := by
  unfold pent inc
  rw [ift_neg h, bks_e hD, bks_a hD, Int32.add_zero, bks_ue hD]
  refine (upd_eq ?_).symm
  rw [ux_n (by omega), bks_a hD]
theorem inc_bkv {k b l g e v a : Nat → Int32} {n mi be re ca : Int32} {D : Nat} (hD : D < 8) : inc (bks k b l g e v a n mi be re ca) (40 + D) = bks k b l g e (upd v D (v D + 1)) a n mi be re ca := by
  unfold inc
  rw [bks_v hD, bks_uv hD]
theorem inc_56 {k b l g e v a : Nat → Int32} {n mi be re ca : Int32} : inc (bks k b l g e v a n mi be re ca) 56 = bks k b l g e v a n (mi + 1) be re ca := bks_umi.symm
theorem upd_57 {k b l g e v a : Nat → Int32} {n mi be re ca x : Int32} : upd (bks k b l g e v a n mi be re ca) 57 (bks k b l g e v a n mi be re ca 57 + x) = bks k b l g e v a n mi (be + x) re ca := bks_ube.symm
theorem inc_58 {k b l g e v a : Nat → Int32} {n mi be re ca : Int32} : inc (bks k b l g e v a n mi be re ca) 58 = bks k b l g e v a n mi be (re + 1) ca := bks_ure.symm
theorem inc_59 {k b l g e v a : Nat → Int32} {n mi be re ca : Int32} : inc (bks k b l g e v a n mi be re ca) 59 = bks k b l g e v a n mi be re (ca + 1) := bks_uca.symm
theorem pgd_bks {k b l g e v a hd : Nat → Int32} {n mi be re ca x y : Int32} : pgd hd (bks k b l g e v a n mi be re ca) x y ↔ ((0 ≤ x.toInt ∧ x.toInt < n.toInt) ∧ (0 ≤ y.toInt ∧ y.toInt < n.toInt) ∧ x.toInt ≠ y.toInt ∧ (hd x.toInt.toNat).toInt ≠ 0 ∧ (hd y.toInt.toNat).toInt ≠ 0) := Iff.rfl
theorem pfee_bks {k b l g e v a : Nat → Int32} {n mi be re ca x w : Int32} (h : x.toInt.toNat < 8) : pfee (bks k b l g e v a n mi be re ca) x w = pfk (k x.toInt.toNat) w := by
  unfold pfee
  rw [bks_k h]
theorem pflo_bks {k b l g e v a : Nat → Int32} {n mi be re ca x : Int32} (h : x.toInt.toNat < 8) : pflo (bks k b l g e v a n mi be re ca) x = pfl (k x.toInt.toNat) (l x.toInt.toNat) := by
  unfold pflo
  rw [bks_k h, bks_l h]
theorem psh_bks {k b l g e v a : Nat → Int32} {n mi be re ca x y w : Int32} (hx : x.toInt.toNat < 8) (hy : y.toInt.toNat < 8) : psh (bks k b l g e v a n mi be re ca) x y w ↔ ((b x.toInt.toNat).toInt - w.toInt - (pfk (k x.toInt.toNat) w).toInt < pfl (k x.toInt.toNat) (l x.toInt.toNat) ∨ 1000000000 < (b y.toInt.toNat).toInt + w.toInt) := by
  unfold psh
  rw [pfee_bks hx, pflo_bks hx, bks_b hx, bks_b hy]
theorem pay2_bks {k b l g e v a : Nat → Int32} {n mi be re ca x y w u : Int32} (hx : x.toInt.toNat < 8) (hy : y.toInt.toNat < 8) (hxy : x.toInt.toNat ≠ y.toInt.toNat) : bks k (upd (upd b x.toInt.toNat (b x.toInt.toNat - w - u)) y.toInt.toNat (b y.toInt.toNat + w)) l g e v a n mi be re ca = pay2 (bks k b l g e v a n mi be re ca) x y w u := by
  unfold pay2
  rw [bks_ub hy, bks_ub hx, bks_b hx, bks_b hy, show b x.toInt.toNat - w - u = b x.toInt.toNat - (w + u) from by grind]
theorem bb_b {k b l g e v a : Nat → Int32} {n mi be re ca : Int32} (h : BB (bks k b l g e v a n mi be re ca)) {D : Nat} (hD : D < 8) : -20000 ≤ (b D).toInt ∧ (b D).toInt ≤ 1000000000 := by
  have q := (h D hD).1
  rw [bks_b hD] at q
  exact q
theorem bb_l {k b l g e v a : Nat → Int32} {n mi be re ca : Int32} (h : BB (bks k b l g e v a n mi be re ca)) {D : Nat} (hD : D < 8) : 0 ≤ (l D).toInt ∧ (l D).toInt ≤ 9999 := by
  have q := (h D hD).2
  rw [bks_l hD] at q
  exact q
theorem bb_cg {k b l g e v a k' g' e' v' a' : Nat → Int32} {n mi be re ca n' mi' be' re' ca' : Int32} (h : BB (bks k b l g e v a n mi be re ca)) : BB (bks k' b l g' e' v' a' n' mi' be' re' ca') := by
  intro j hj
  rw [bks_b hj, bks_l hj]
  exact ⟨bb_b h hj, bb_l h hj⟩
def rw9 (f0 f1 f2 f3 f4 f5 f6 f7 f8 : Nat → Int32) : Nat → Nat → Int32
  | 0 => f0
  | 1 => f1
  | 2 => f2
  | 3 => f3
  | 4 => f4
  | 5 => f5
  | 6 => f6
  | 7 => f7
  | _ => f8
def RCp (x : Int32 × Sg) (r : Int32) (f : Nat → Int32) (fe : Int64) (m : Nat → Int32) (c b : Int32) (D : Nat) (kb : Nat → Nat → Int32) (kf : Nat → Int64) (kb2 : Nat → Nat → Int32) (kf2 : Nat → Int64) : Prop := x = (r, f, fe, m, c, b) ∧ (∀ i : Nat, i ≤ D → kb2 i = kb i) ∧ ∀ i : Nat, i ≤ D → kf2 i = kf i
theorem nb_10 {x y z1 z2 z3 : Int32} (h1 : z1 = x * 10) (h2 : z2 = z1 + y) (h3 : z3 = z2 - 48) : z3 = 10 * x + (y - 48) := by
  subst h1 h2 h3
  grind
theorem itT_o {r T : Nat → Int32} {n d k e : Nat} (h : ItT r n T d k e) (hc : (r k).toInt ≠ 112 ∧ (r k).toInt ≠ 110 ∧ (r k).toInt ≠ 97 ∧ (r k).toInt ≠ 120 ∧ (r k).toInt ≠ 98 ∧ (r k).toInt ≠ 99) : ∃ m a c : Nat, m + 1 = d ∧ ((((r k).toInt = 40 ∨ (r k).toInt = 123) ∧ a = k + 2) ∨ (((r k).toInt = 91 ∨ (r k).toInt = 60) ∧ a = k + 1)) ∧ Sq (ItT r n T m) c a (e - 1) ∧ 1 ≤ e ∧ e ≤ n ∧ a ≤ e - 1 ∧ ((r (e - 1)).toInt = 41 ∨ (r (e - 1)).toInt = 93 ∨ (r (e - 1)).toInt = 62 ∨ (r (e - 1)).toInt = 125) := by
  cases d with
  | zero =>
    obtain ⟨-, h⟩ := h
    have := leaf_c h; exfalso; omega
  | succ d =>
    obtain ⟨-, h⟩ := h
    rcases h with h | ⟨⟨w, c, h⟩ | ⟨w, c, h⟩, h1, h2, h3⟩
    · have := leaf_c h; exfalso; omega
    · have a := sq_le (fun k e q => (itT_lt q).1) c _ _ h
      exact ⟨d, k + 2, c, rfl, Or.inl ⟨w, rfl⟩, h, h1, h2, by omega, h3⟩
    · have a := sq_le (fun k e q => (itT_lt q).1) c _ _ h
      exact ⟨d, k + 1, c, rfl, Or.inr ⟨w, rfl⟩, h, h1, h2, by omega, h3⟩
theorem sqT_nx {r T : Nat → Int32} {n m c k E : Nat} (h : Sq (ItT r n T m) c k E) (hk : k < E) : ∃ b c1 : Nat, c = c1 + 1 ∧ ItT r n T m k b ∧ Sq (ItT r n T m) c1 b E ∧ b ≤ E := by
  cases c with
  | zero => obtain rfl : k = E := h; exact absurd hk (Nat.lt_irrefl k)
  | succ c =>
    obtain ⟨b, h1, h2⟩ := h
    have a := sq_le (fun k e q => (itT_lt q).1) c b E h2
    exact ⟨b, c, rfl, h1, h2, by omega⟩
theorem sqT_c0 {r T : Nat → Int32} {n m c k E : Nat} (h : Sq (ItT r n T m) c k E) (hk : E ≤ k) : c = 0 := by
  have a := sq_le (fun k e q => (itT_lt q).1) c k E h
  omega
theorem sqT_it {r T : Nat → Int32} {n m c k E : Nat} (h : Sq (ItT r n T m) c k E) : Sq (It r n m) c k E := sq_mono (fun k e q => itT_it m k e q) c k E h
/-- the held gates: none below 0, none above the depth -/
def H0 (h : Nat → Int32) (D : Nat) : Prop := ∀ j : Nat, j < 8 → 0 ≤ (h j).toInt ∧ (h j).toInt ≤ (D : Int)
theorem h0_inc {h : Nat → Int32} {D i : Nat} (q : H0 h D) (hD : D ≤ 8) : H0 (inc h i) (D + 1) := by
  intro j hj
  obtain ⟨a, b⟩ := q j hj
  have e1 : (1 : Int32).toInt = 1 := by decide
  unfold inc
  by_cases w : j = i
  · subst w
    rw [ux_i, i_add (x := h j) (y := 1) rfl (by omega) (by omega), e1]
    omega
  · rw [ux_n w]
    omega
theorem h0_mono {h : Nat → Int32} {D E : Nat} (q : H0 h D) (hD : D ≤ E) : H0 h E := by
  intro j hj
  obtain ⟨a, b⟩ := q j hj
  omega
theorem it_lf {r : Nat → Int32} {n d k e : Nat} (h : It r n d k e) (hc : (r k).toInt = 112) : ∀ i, i < e - (k + 3) → isF (r (k + 3 + i)) := by
  have a := it_p h hc
  intro i hi
  have g : Leaf r n k e := it_small h (Or.inl hc)
  obtain ⟨g1, g2⟩ := g
  rcases g2 with ⟨b1, b2, b3, b4, b5⟩ | ⟨b1, b2⟩ | ⟨b1, b2⟩
  · exact b4 (k + 3 + i) (by omega) (by omega)
  · exfalso; omega
  · exfalso; omega
theorem pnu_4 {r : Nat → Int32} {a j : Nat} (h : ∀ i, i < j → isF (r (a + i))) (hj : j ≤ 4) : 0 ≤ (pnu r a j).toInt ∧ (pnu r a j).toInt ≤ 9999 := by
  obtain ⟨p1, p2⟩ := pnu_in j hj h
  have hp : (10 : Int) ^ j ≤ 10000 := by
    rcases (show j = 0 ∨ j = 1 ∨ j = 2 ∨ j = 3 ∨ j = 4 by omega) with rfl | rfl | rfl | rfl | rfl <;> decide
  omega
theorem pfk_in {kd v : Int32} (h0 : 0 ≤ v.toInt) (h1 : v.toInt ≤ 9999) : 0 ≤ (pfk kd v).toInt ∧ (pfk kd v).toInt ≤ 1000 := pfee_in (f := fun _ => kd) (a := 0) h0 h1
theorem pay_c {b g1 g2 : Nat → Int32} {x y w u i l y1 v2 y2 : Int32} (hxy : x.toInt.toNat ≠ y.toInt.toNat) (e1 : upd b x.toNatClampNeg l = g1) (el : l = i - u) (ei : i = y1 - w) (ey : y1 = b x.toNatClampNeg) (e2 : upd g1 y.toNatClampNeg v2 = g2) (ev : v2 = y2 + w) (ey2 : y2 = g1 y.toNatClampNeg) : g2 = upd (upd b x.toInt.toNat (b x.toInt.toNat - w - u)) y.toInt.toNat (b y.toInt.toNat + w) := by
  subst e1 e2
  subst el ei ey ev ey2
  show upd (upd b x.toInt.toNat _) y.toInt.toNat (upd b x.toInt.toNat _ y.toInt.toNat + w) = _
  rw [ux_n (Ne.symm hxy)]
  rfl
/-- the class's program at a place is the reference's -/
def WP (tx tz : Nat → Int32) (p : Nat) (fb fn : Nat → Int32) (ps : Int32) : Prop := ∃ n c : Nat, ps.toInt = (n : Int) ∧ n ≤ 80 ∧ (tz p).toInt = (n : Int) ∧ (∀ j : Nat, j < n → fb j = tr tx p j) ∧ Sq (ItT (tr tx p) n fn 8) c 0 n
noncomputable def prun (tx tz : Nat → Int32) (p : Nat) (f : Nat → Int32) (fe : Int64) (m : Nat → Int32) : Int32 × Sg := prn (tr tx p) (tz p).toInt.toNat f fe m
/-- the same run in the class and in the reference -/
theorem run_eq {tx tz f g mk mk' f2 g2 m2 m2' : Nat → Int32} {p : Nat} {fe fe2 fe2' : Int64} {r r' c2 c2' b2 b2' : Int32} (h : Cg f g) (h8 : (f 60).toInt ≤ 8) (h0 : E0 f) (x : prun tx tz p f fe mk = (r, f2, fe2, m2, c2, b2)) (y : prun tx tz p g fe mk' = (r', g2, fe2', m2', c2', b2')) : r = r' ∧ Cg f2 g2 ∧ E0 f2 ∧ fe2 = fe2' ∧ Mq m2 m2' c2 ∧ c2 = c2' ∧ (f2 60).toInt = (f 60).toInt := by
  have q := prn_cg (N := (f 60).toInt) h8 (r := tr tx p) (n := (tz p).toInt.toNat) (fe := fe) (mk := mk) (mk' := mk') h rfl h0
  unfold prun at x y
  rw [x, y] at q
  obtain ⟨q1, q2, q3, q4, q5, q6, q7, q8⟩ := q
  exact ⟨q1, q2, q4, q5, q6, q7, q3⟩
theorem bb_ub {k b b2 l g e v a : Nat → Int32} {n mi be re ca i x : Int32} (h : BB (bks k b l g e v a n mi be re ca)) (hi : 0 ≤ i.toInt) (eb : upd b i.toNatClampNeg x = b2) (hx : -20000 ≤ x.toInt ∧ x.toInt ≤ 1000000000) : BB (bks k b2 l g e v a n mi be re ca) := by
  intro j hj
  rw [bks_b hj, bks_l hj, ← eb]
  refine ⟨?_, bb_l h hj⟩
  by_cases w : j = i.toNatClampNeg
  · rw [w, ux_i]; exact hx
  · rw [ux_n w]; exact bb_b h hj
theorem h01_up {g g2 : Nat → Int32} {i : Nat} {x : Int32} (h : ∀ j : Nat, j < 8 → (g j).toInt = 0 ∨ (g j).toInt = 1) (e : upd g i x = g2) (hx : x.toInt = 0 ∨ x.toInt = 1) : ∀ j : Nat, j < 8 → (g2 j).toInt = 0 ∨ (g2 j).toInt = 1 := by
  intro j hj
  rw [← e]
  by_cases w : j = i
  · rw [w, ux_i]; exact hx
  · rw [ux_n w]; exact h j hj
theorem sh_k : ∀ b : Nat, b < 21 → 0 ≤ ((1 : Int32) <<< (nI b &&& 31)).toInt ∧ ((1 : Int32) <<< (nI b &&& 31)).toInt ≤ 1048576 := by decide +kernel
theorem sh_n {z y : Int32} {b : Nat} (hb : b < 21) (hz : z.toInt = (b : Int)) (e : y = (1 : Int32) <<< (z &&& 31)) : 0 ≤ y.toInt ∧ y.toInt ≤ 1048576 := by
  have ez : z = nI b := i_inj (by rw [nI_toInt (by omega)]; exact hz)
  rw [e, ez]
  exact sh_k b hb
theorem pag_bks {k b l g e v a : Nat → Int32} {n mi be re ca : Int32} (h8 : n.toInt ≤ 8) : pag (bks k b l g e v a n mi be re ca) ↔ ∀ j : Nat, (j : Int) < n.toInt → (g j).toInt ≠ 0 := by
  unfold pag
  rw [bks_n]
  constructor
  · intro q j hj
    have w := q j hj
    rw [bks_g (by omega)] at w
    exact w
  · intro q j hj
    rw [bks_g (by omega)]
    exact q j hj
/-- the class's program at k behind a call of program -/
def TKp (k : Nat) (tn pcn pcn2 : Int32) (t fb fn : Nat → Int32) (ps : Int32) (fb2 fn2 : Nat → Int32) (ps2 : Int32) : Prop := (fb2 = fb ∧ fn2 = fn ∧ ps2 = ps ∧ (pcn.toInt ≠ (k : Int) ∨ pcn2.toInt = pcn.toInt)) ∨ (pcn.toInt = (k : Int) ∧ ps2 = tn ∧ (∀ j : Nat, j < 80 → fb2 j = t j) ∧ (pcn2.toInt = (k : Int) + 1 → ∃ c, Sq (ItT fb2 tn.toInt.toNat fn2 8) c 0 tn.toInt.toNat))
theorem itT_rcg {r q T : Nat → Int32} {n : Nat} (hq : ∀ j, j < n → q j = r j) : ∀ (d k e : Nat), ItT r n T d k e → ItT q n T d k e := by
  intro d
  induction d with
  | zero =>
    intro k e h
    obtain ⟨u, v⟩ := h
    exact ⟨u, leaf_cg hq v⟩
  | succ d ih =>
    intro k e h
    have a := itT_lt h
    obtain ⟨u, v⟩ := h
    refine ⟨u, ?_⟩
    rcases v with h | ⟨h, h1, h2, h3⟩
    · exact Or.inl (leaf_cg hq h)
    · refine Or.inr ⟨?_, h1, h2, ?_⟩
      · rw [hq k (by omega)]
        rcases h with ⟨w, c, h⟩ | ⟨w, c, h⟩
        · exact Or.inl ⟨w, c, sq_mono ih c _ _ h⟩
        · exact Or.inr ⟨w, c, sq_mono ih c _ _ h⟩
      · rw [hq (e - 1) (by omega)]; exact h3
theorem wp_cg {tx tz tx2 tz2 fb fn : Nat → Int32} {p : Nat} {ps : Int32} (h : WP tx tz p fb fn ps) (hx : ∀ j : Nat, j < 80 → tx2 (80 * p + j) = tx (80 * p + j)) (hz : tz2 p = tz p) : WP tx2 tz2 p fb fn ps := by
  obtain ⟨n, c, h1, h2, h3, h4, h5⟩ := h
  have e : ∀ j, j < n → tr tx2 p j = tr tx p j := fun j hj => hx j (by omega)
  exact ⟨n, c, h1, h2, by rw [hz]; exact h3, fun j hj => by rw [e j hj]; exact h4 j hj, sq_mono (fun k e' q => itT_rcg e 8 k e' q) c _ _ h5⟩
/-- the programs behind a call of program: the old ones and the new one -/
theorem wp_pg {k : Nat} {tx tz tx2 tz2 t t' fb fn fb2 fn2 : Nat → Int32} {ps ps2 tn pcn pcn2 n p p2 : Int32} (h : (k : Int) < pcn.toInt → WP tx tz k fb fn ps) (w : TKp k tn pcn pcn2 t fb fn ps fb2 fn2 ps2) (y : TXp tx tz t' n p tx2 tz2 p2) (et : t = t') (en : tn.toInt = n.toInt) (ep : pcn.toInt = p.toInt) (ep2 : pcn2.toInt = p2.toInt) (h0 : 0 ≤ tn.toInt ∧ tn.toInt ≤ 80) (hp : 0 ≤ pcn.toInt) (hs : pcn2.toInt = pcn.toInt ∨ pcn2.toInt = pcn.toInt + 1) : (k : Int) < pcn2.toInt → WP tx2 tz2 k fb2 fn2 ps2 := by
  intro hk
  obtain ⟨y1, y2, y3⟩ := y
  rcases w with ⟨w1, w2, w3, w4⟩ | ⟨w1, w2, w3, w4⟩
  · by_cases q : (k : Int) < pcn.toInt
    · rw [w1, w2, w3]
      exact wp_cg (h q) (fun j hj => y1 _ (by omega)) (y2 k (by omega))
    · exfalso; omega
  · obtain ⟨c, hc⟩ := w4 (by omega)
    obtain ⟨z1, z2⟩ := y3 (by omega)
    have hpk : p.toInt.toNat = k := by omega
    rw [hpk] at z1 z2
    have e : ∀ j, j < tn.toInt.toNat → tr tx2 k j = fb2 j := fun j hj => by
      rw [w3 j (by omega), et]
      exact z1 j (by omega)
    exact ⟨tn.toInt.toNat, c, by rw [w2]; omega, by omega, by rw [z2]; omega, fun j hj => (e j hj).symm, sq_mono (fun k e' q => itT_rcg e 8 k e' q) c _ _ hc⟩
