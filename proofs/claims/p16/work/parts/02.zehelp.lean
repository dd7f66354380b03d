-- level 5: what thinking calls answer, told by the pure run
def pmc (x : Int32 × Sg) : Int32 := x.2.2.2.2.1
def zro : Nat → Int32 := fun _ => 0
theorem pr_eta (x : Int32 × Sg) : x = (x.1, x.2.1, x.2.2.1, x.2.2.2.1, x.2.2.2.2.1, x.2.2.2.2.2) := rfl
theorem run_all {tx tz f g mk mk' : Nat → Int32} {p : Nat} {fe : Int64} (h : Cg f g) (h8 : (f 60).toInt ≤ 8) (h0 : E0 f) : (prun tx tz p f fe mk).1 = (prun tx tz p g fe mk').1 ∧ Cg (prun tx tz p f fe mk).2.1 (prun tx tz p g fe mk').2.1 ∧ (prun tx tz p f fe mk).2.2.1 = (prun tx tz p g fe mk').2.2.1 ∧ pmc (prun tx tz p f fe mk) = pmc (prun tx tz p g fe mk') := by
  obtain ⟨q1, q2, q3, q4, q5, q6, q7⟩ := run_eq h h8 h0 (pr_eta (prun tx tz p f fe mk)) (pr_eta (prun tx tz p g fe mk'))
  exact ⟨q1, q2, q4, q6⟩
theorem run_mc {tx tz f g mk mk' : Nat → Int32} {p : Nat} {fe fe' : Int64} (h : Cg f g) (h8 : (f 60).toInt ≤ 8) (h0 : E0 f) (he : fe = fe') : (pmc (prun tx tz p f fe mk)).toInt = (pmc (prun tx tz p g fe' mk')).toInt := by
  subst he
  rw [(run_all h h8 h0).2.2.2]
theorem one_mk {tx tz f f2 mk m2 : Nat → Int32} {p : Nat} {fe fe2 : Int64} {r c2 b2 : Int32} (h8 : (f 60).toInt ≤ 8) (h0 : E0 f) (hp : prun tx tz p f fe mk = (r, f2, fe2, m2, c2, b2)) : (prun tx tz p f fe zro).1 = r := by
  rw [(run_all (mk := zro) (mk' := mk) (cg_rf f) h8 h0).1, hp]
theorem mc_i {x : Int32 × Sg} {r c b : Int32} {f m : Nat → Int32} {fe : Int64} (h : x = (r, f, fe, m, c, b)) : (pmc x).toInt = c.toInt := by rw [h]; rfl
theorem r1_i {x : Int32 × Sg} {r c b : Int32} {f m : Nat → Int32} {fe : Int64} (h : x = (r, f, fe, m, c, b)) : x.1.toInt = r.toInt := by rw [h]
theorem fe_i {x : Int32 × Sg} {r c b : Int32} {f m : Nat → Int32} {fe : Int64} (h : x = (r, f, fe, m, c, b)) : x.2.2.1.toInt = fe.toInt := by rw [h]
theorem f_i {x : Int32 × Sg} {r c b : Int32} {f m : Nat → Int32} {fe : Int64} (h : x = (r, f, fe, m, c, b)) : x.2.1 = f := by rw [h]
-- four rows by their place
def s4 (a b c d : Int32) : Nat → Int32
  | 0 => a
  | 1 => b
  | 2 => c
  | _ => d
theorem s4_or {a b c d : Int32} {f : Nat → Int32} (h0 : a.toInt = (f 0).toInt) (h1 : b.toInt = (f 1).toInt) (h2 : c.toInt = (f 2).toInt) (h3 : d.toInt = (f 3).toInt) (x : Int32) : ¬ (0 ≤ x.toInt ∧ x.toInt < 4) ∨ (s4 a b c d x.toInt.toNat).toInt = (f x.toInt.toNat).toInt := by
  by_cases w : 0 ≤ x.toInt ∧ x.toInt < 4
  · refine Or.inr ?_
    rcases (show x.toInt.toNat = 0 ∨ x.toInt.toNat = 1 ∨ x.toInt.toNat = 2 ∨ x.toInt.toNat = 3 by omega) with e | e | e | e <;> rw [e]
    · exact h0
    · exact h1
    · exact h2
    · exact h3
  · exact Or.inl w
theorem s4_0 {a b c d x : Int32} (h : x.toInt = 0) : (s4 a b c d x.toInt.toNat).toInt = a.toInt := by rw [h]; rfl
theorem s4_1 {a b c d x : Int32} (h : x.toInt = 1) : (s4 a b c d x.toInt.toNat).toInt = b.toInt := by rw [h]; rfl
theorem s4_2 {a b c d x : Int32} (h : x.toInt = 2) : (s4 a b c d x.toInt.toNat).toInt = c.toInt := by rw [h]; rfl
theorem s4_3 {a b c d x : Int32} (h : x.toInt = 3) : (s4 a b c d x.toInt.toNat).toInt = d.toInt := by rw [h]; rfl
-- entries
def pse (e : Nat → Int32) : Nat → Int
  | 0 => 0
  | k + 1 => pse e k + (e k).toInt
def pen (f : Nat → Int32) (n : Nat) : Int := pse (fun j => f (32 + j)) n
theorem pse_s {e : Nat → Int32} {k : Nat} {a b : Int} (ha : a = pse e k) (hb : b = a + (e k).toInt) : b = pse e (k + 1) := by
  subst ha hb
  rfl
theorem pse_cg {e g : Nat → Int32} : ∀ n : Nat, (∀ j : Nat, j < n → e j = g j) → pse e n = pse g n := by
  intro n
  induction n with
  | zero => intro _; rfl
  | succ n ih =>
    intro h
    show pse e n + (e n).toInt = pse g n + (g n).toInt
    rw [ih (fun j hj => h j (by omega)), h n (by omega)]
theorem pse_in {e : Nat → Int32} : ∀ n : Nat, n ≤ 8 → (∀ j : Nat, j < 8 → 0 ≤ (e j).toInt ∧ (e j).toInt ≤ 100000000) → 0 ≤ pse e n ∧ pse e n ≤ 100000000 * n := by
  intro n
  induction n with
  | zero => intro _ _; exact ⟨by show (0 : Int) ≤ 0; omega, by show (0 : Int) ≤ _; omega⟩
  | succ n ih =>
    intro hn h
    obtain ⟨a, b⟩ := ih (by omega) h
    obtain ⟨c, d⟩ := h n (by omega)
    show 0 ≤ pse e n + (e n).toInt ∧ pse e n + (e n).toInt ≤ 100000000 * ((n + 1 : Nat) : Int)
    omega
theorem pse_ab {e : Nat → Int32} : ∀ n : Nat, n ≤ 8 → -(2147483648 * (n : Int)) ≤ pse e n ∧ pse e n ≤ 2147483648 * n := by
  intro n
  induction n with
  | zero => intro _; exact ⟨by show _ ≤ (0 : Int); omega, by show (0 : Int) ≤ _; omega⟩
  | succ n ih =>
    intro hn
    obtain ⟨a, b⟩ := ih (by omega)
    have c := Int32.le_toInt (e n)
    have d := Int32.toInt_lt (e n)
    show -(2147483648 * ((n + 1 : Nat) : Int)) ≤ pse e n + (e n).toInt ∧ pse e n + (e n).toInt ≤ 2147483648 * ((n + 1 : Nat) : Int)
    omega
theorem pen_cg {f g : Nat → Int32} {n : Nat} (h : Cg f g) (hn : n ≤ 8) : pen f n = pen g n := pse_cg n (fun j hj => h (32 + j) (by omega))
theorem pen_bks {k b l g e v a : Nat → Int32} {n mi be re ca : Int32} {m : Nat} (hm : m ≤ 8) : pse e m = pen (bks k b l g e v a n mi be re ca) m := pse_cg m (fun j hj => (bks_e (by omega)).symm)
/-- at most so many entries an account -/
def EB (B : Int) (f : Nat → Int32) : Prop := ∀ j : Nat, j < 8 → 0 ≤ (f (32 + j)).toInt ∧ (f (32 + j)).toInt ≤ B
theorem eb_mono {A B : Int} {f : Nat → Int32} (h : EB A f) (w : A ≤ B) : EB B f := by
  intro j hj
  obtain ⟨a, b⟩ := h j hj
  omega
theorem eb_cg {B : Int} {f g : Nat → Int32} (h : EB B f) (c : Cg g f) : EB B g := by
  intro j hj
  rw [c (32 + j) (by omega)]
  exact h j hj
theorem eb_up {B : Int} {f : Nat → Int32} {i : Nat} {x : Int32} (h : EB B f) (hi : i < 32 ∨ 40 ≤ i) : EB B (upd f i x) := by
  intro j hj
  rw [ux_n (by omega)]
  exact h j hj
theorem eb_inc {B : Int} {f : Nat → Int32} {i : Nat} (h : EB B f) (hi : i < 32 ∨ 40 ≤ i) : EB B (inc f i) := eb_up h hi
theorem eb_pun {B : Int} {f0 f : Nat → Int32} (h : EB B f) : EB B (pun f0 f) := by
  intro j hj
  rw [pun_n (by omega)]
  exact h j hj
theorem eb_ent {B : Int} {f hd : Nat → Int32} {d : Int32} (h : EB B f) (hB : B ≤ 1000000000) (hD : d.toInt.toNat < 8) : EB (B + 1) (pent f hd d) := by
  have e1 : (1 : Int32).toInt = 1 := by decide
  intro j hj
  obtain ⟨a, b⟩ := h j hj
  unfold pent inc
  rw [ux_n (show 32 + j ≠ 48 + d.toInt.toNat by omega)]
  by_cases w : j = d.toInt.toNat
  · rw [← w, ux_i, i_add (x := f (32 + j)) (y := 1) rfl (by omega) (by omega), e1]
    omega
  · rw [ux_n (by omega)]
    omega
theorem eb_pn {B : Int} {f : Nat → Int32} {n : Nat} (h : EB B f) (hB : B ≤ 1000000000) : EB (B + 1) (Pn f n) := by
  have e1 : (1 : Int32).toInt = 1 := by decide
  intro j hj
  obtain ⟨a, b⟩ := h j hj
  by_cases w : (32 ≤ 32 + j ∧ 32 + j < 32 + n) ∨ (40 ≤ 32 + j ∧ 32 + j < 40 + n)
  · rw [pn_p w, i_add (x := f (32 + j)) (y := 1) rfl (by omega) (by omega), e1]
    omega
  · rw [pn_n w]
    omega
theorem eb_z {B : Int} (hB : 0 ≤ B) : EB B (bks (fun _ => 0) (fun _ => 0) (fun _ => 0) (fun _ => 0) (fun _ => 0) (fun _ => 0) (fun _ => 0) 0 0 0 0 0) := by
  intro j hj
  rw [bks_e hj]
  exact ⟨by show (0 : Int) ≤ (0 : Int32).toInt; decide, by show (0 : Int32).toInt ≤ B; rw [show (0 : Int32).toInt = 0 from by decide]; exact hB⟩
/-- a state of a run: every entry belongs to an item that has begun -/
def EI (N : Int) (s : Sg) : Prop := (s.1 60).toInt ≤ 8 ∧ 0 ≤ s.2.2.2.2.toInt ∧ s.2.2.2.2.toInt ≤ 500 ∧ EB (N + s.2.2.2.2.toInt) s.1
theorem ei_bell {N : Int} {hd f mk : Nat → Int32} {d m c b : Int32} {fe : Int64} (h : EI N (f, fe, mk, c, b)) : EI N (pbell hd d m f fe mk c b) := by
  obtain ⟨h1, h2, h3, h4⟩ := h
  dsimp only at h1 h2 h3 h4
  by_cases hp : phg f d
  · by_cases hh : 0 < (hd d.toInt.toNat).toInt
    · rw [pbell_r hp hh]
      exact ⟨by show (upd _ _ _ 60).toInt ≤ 8; rw [up_60n (by omega)]; exact h1, h2, h3, eb_up h4 (by omega)⟩
    · rw [pbell_u hp hh]
      exact ⟨by show (upd _ _ _ 60).toInt ≤ 8; rw [up_60n (by omega)]; exact h1, h2, h3, eb_inc h4 (by omega)⟩
  · rw [pbell_m hp]
    exact ⟨by show (upd _ _ _ 60).toInt ≤ 8; rw [up_60n (by omega)]; exact h1, h2, h3, eb_inc h4 (by omega)⟩
theorem ei_pay {N : Int} {hd f mk : Nat → Int32} {a b v c bg : Int32} {fe : Int64} (h : EI N (f, fe, mk, c, bg)) : EI N (ppay hd a b v f fe mk c bg).2 := by
  obtain ⟨h1, h2, h3, h4⟩ := id h
  dsimp only at h1 h2 h3 h4
  by_cases hp : pgd hd f a b
  · obtain ⟨⟨a0, a1⟩, ⟨b0, b1⟩, -⟩ := id hp
    by_cases hs : psh f a b v
    · rw [ppay_s hp hs]; exact h
    · rw [ppay_d hp hs]
      refine ⟨?_, h2, h3, eb_up (eb_up h4 (by omega)) (by omega)⟩
      show (upd (upd f (8 + a.toInt.toNat) _) (8 + b.toInt.toNat) _ 60).toInt ≤ 8
      rw [up_60n (by omega), up_60n (by omega)]
      exact h1
  · rw [ppay_u hp]; exact h
theorem ei_blo {N : Int} (hN : N ≤ 900000000) {hd f mk : Nat → Int32} {d c bg : Int32} {fe : Int64} {b : (Nat → Int32) → Sg → Int32 × Sg} (hb : ∀ (q : Nat → Int32) (s : Sg), EI N s → EI N (b q s).2) (h1 : (f 60).toInt ≤ 8) (h2 : 0 ≤ bg.toInt) (h3 : bg.toInt ≤ 500) (h4 : EB (N + (bg.toInt - 1)) f) : EI N (pblo hd d b f fe mk c bg).2 := by
  by_cases hp : phg f d
  · obtain ⟨⟨a0, a1⟩, -⟩ := id hp
    have hD : d.toInt.toNat < 8 := by omega
    by_cases hw : (hd d.toInt.toNat).toInt = 0 ∧ pgr hd d
    · rw [pblo_w hp hw.1 hw.2]
      exact ⟨h1, h2, h3, eb_mono h4 (by show N + (bg.toInt - 1) ≤ N + bg.toInt; omega)⟩
    · have e60 : pent f hd d 60 = f 60 := by
        unfold pent inc
        rw [up_60n (by omega), up_60n (by omega)]
      have hs : EI N (pent f hd d, fe, mkm mk c (10 + d), c + 1, bg) := by
        refine ⟨by show (pent f hd d 60).toInt ≤ 8; rw [e60]; exact h1, h2, h3, ?_⟩
        exact eb_mono (eb_ent h4 (by omega) hD) (by show N + (bg.toInt - 1) + 1 ≤ N + bg.toInt; omega)
      have r1 := hb (inc hd d.toInt.toNat) _ hs
      unfold pblo
      rw [ift_pos hp, ift_neg hw]
      generalize b (inc hd d.toInt.toNat) (pent f hd d, fe, mkm mk c (10 + d), c + 1, bg) = x at r1 ⊢
      obtain ⟨x1, xf, xe, xm, xc, xb⟩ := x
      obtain ⟨q1, q2, q3, q4⟩ := r1
      dsimp only at q1 q2 q3 q4
      refine ⟨?_, q2, q3, eb_inc q4 (by omega)⟩
      show (upd xf (40 + d.toInt.toNat) _ 60).toInt ≤ 8
      rw [up_60n (by omega)]
      exact q1
  · rw [pblo_m hp]
    exact ⟨by show (upd _ _ _ 60).toInt ≤ 8; rw [up_60n (by omega)]; exact h1, h2, h3, eb_inc (eb_mono h4 (by show N + (bg.toInt - 1) ≤ N + bg.toInt; omega)) (by omega)⟩
theorem ei_try {N : Int} {last : Int} {f mk : Nat → Int32} {c bg : Int32} {fe : Int64} {b : Sg → Int32 × Sg} (hb : ∀ s : Sg, EI N s → EI N (b s).2) (h : EI N (f, fe, mk, c, bg)) : EI N (ptry last b f fe mk c bg).2 := by
  have r1 := hb (f, fe, mk, c, bg) h
  unfold ptry
  generalize b (f, fe, mk, c, bg) = x at r1 ⊢
  obtain ⟨x1, xf, xe, xm, xc, xb⟩ := x
  obtain ⟨q1, q2, q3, q4⟩ := r1
  dsimp only at q1 q2 q3 q4
  show EI N (ift (1 ≤ x1.toInt ∧ x1.toInt ≤ last) (0, inc (pun f xf) 59, fe, mkm xm xc (50 + x1), xc + 1, xb) (x1, xf, xe, xm, xc, xb)).2
  by_cases w : 1 ≤ x1.toInt ∧ x1.toInt ≤ last
  · rw [ift_pos w]
    refine ⟨?_, q2, q3, eb_inc (eb_pun q4) (by omega)⟩
    show (inc (pun f xf) 59 60).toInt ≤ 8
    unfold inc
    rw [up_60n (by omega), pun_60]
    exact q1
  · rw [ift_neg w]
    exact ⟨q1, q2, q3, q4⟩
theorem ei_lo {N : Int} {b : Sg → Int32 × Sg} (hb : ∀ s : Sg, EI N s → EI N (b s).2) : ∀ (n : Nat) (s : Sg), EI N s → EI N (plo b n s).2 := by
  intro n
  induction n with
  | zero => intro s h; exact h
  | succ n ih =>
    intro s h
    have q2 := hb s h
    show EI N (ift ((b s).1.toInt = 6) (0, (b s).2) (ift ((b s).1.toInt = 0 ∨ (b s).1.toInt = 7) (plo b n (b s).2) (b s))).2
    by_cases w : (b s).1.toInt = 6
    · rw [ift_pos w]; exact q2
    · rw [ift_neg w]
      by_cases u : (b s).1.toInt = 0 ∨ (b s).1.toInt = 7
      · rw [ift_pos u]; exact ih _ q2
      · rw [ift_neg u]; exact q2
theorem ei_sq {N : Int} {r : Nat → Int32} {n : Nat} {it : Nat → Sg → Int32 × Sg} (hi : ∀ (k : Nat) (s : Sg), EI N s → EI N (it k s).2) : ∀ (c k : Nat) (s : Sg), EI N s → EI N (psq r n it c k s).2 := by
  intro c
  induction c with
  | zero => intro k s h; exact h
  | succ c ih =>
    intro k s h
    have q2 := hi k s h
    show EI N (ift ((it k s).1.toInt = 0) (psq r n it c (bh r n k) (it k s).2) (it k s)).2
    by_cases w : (it k s).1.toInt = 0
    · rw [ift_pos w]; exact ih _ _ q2
    · rw [ift_neg w]; exact q2
theorem ei_st {N : Int} (hN : N ≤ 900000000) {r : Nat → Int32} {n : Nat} {body : (Nat → Int32) → Nat → Sg → Int32 × Sg} {hd f mk : Nat → Int32} {k : Nat} {fe : Int64} {c bg : Int32} (hb : ∀ (q : Nat → Int32) (a : Nat) (s : Sg), EI N s → EI N (body q a s).2) (h : EI N (f, fe, mk, c, bg)) : EI N (pst r n body hd k f fe mk c bg).2 := by
  by_cases hl : 500 ≤ bg.toInt
  · rw [pst_l hl]; exact h
  obtain ⟨h1, h2, h3, h4⟩ := id h
  dsimp only at h1 h2 h3 h4
  have e1 : (1 : Int32).toInt = 1 := by decide
  have eb : (bg + 1).toInt = bg.toInt + 1 := by rw [i_add (x := bg) (y := 1) rfl (by omega) (by omega), e1]
  have h' : EI N (f, fe, mk, c, bg + 1) := ⟨h1, by show 0 ≤ (bg + 1).toInt; omega, by show (bg + 1).toInt ≤ 500; omega, eb_mono h4 (by show N + bg.toInt ≤ N + (bg + 1).toInt; omega)⟩
  by_cases c40 : (r k).toInt = 40
  · rw [pst_40 hl c40]; exact ei_blo hN (fun q s w => hb q (k + 2) s w) h1 (by omega) (by omega) (eb_mono h4 (by omega))
  by_cases c91 : (r k).toInt = 91
  · rw [pst_91 hl c91]; exact ei_try (hb hd (k + 1)) h'
  by_cases c60 : (r k).toInt = 60
  · rw [pst_60 hl c60]; exact ei_try (hb hd (k + 1)) h'
  by_cases c123 : (r k).toInt = 123
  · rw [pst_123 hl c123]; exact ei_lo (hb hd (k + 2)) _ _ h'
  by_cases c112 : (r k).toInt = 112
  · rw [pst_112 hl c112]; exact ei_pay h'
  by_cases c120 : (r k).toInt = 120
  · rw [pst_120 hl c120]; exact h'
  by_cases c98 : (r k).toInt = 98
  · rw [pst_98 hl c98]; exact h'
  by_cases c99 : (r k).toInt = 99
  · rw [pst_99 hl c99]; exact h'
  by_cases c110 : (r k).toInt = 110
  · rw [pst_110 hl c110]; exact ei_bell h'
  unfold pst
  rw [ift_neg hl, ift_neg c40, ift_neg c91, ift_neg c60, ift_neg c123, ift_neg c112, ift_neg c120, ift_neg c98, ift_neg c99, ift_neg c110]
  exact ei_bell h'
theorem ei_it {N : Int} (hN : N ≤ 900000000) {r : Nat → Int32} {n : Nat} : ∀ (nd : Nat) (hd : Nat → Int32) (k : Nat) (s : Sg), EI N s → EI N (pit r n nd hd k s).2 := by
  intro nd
  induction nd with
  | zero =>
    intro hd k s h
    obtain ⟨f, fe, mk, c, bg⟩ := s
    exact ei_st hN (fun _ _ s w => w) h
  | succ nd ih =>
    intro hd k s h
    obtain ⟨f, fe, mk, c, bg⟩ := s
    exact ei_st hN (fun q a s w => ei_sq (fun k s w => ih q k s w) _ _ s w) h
theorem eb_run {N : Int} (hN : N ≤ 900000000) {tx tz f mk : Nat → Int32} {p : Nat} {fe : Int64} (h : EB N f) (h8 : (f 60).toInt ≤ 8) : EB (N + 500) (prun tx tz p f fe mk).2.1 := by
  have z0 : (0 : Int32).toInt = 0 := by decide
  have r1 := ei_sq (r := tr tx p) (n := (tz p).toInt.toNat) (fun k s w => ei_it hN (r := tr tx p) (n := (tz p).toInt.toNat) 8 (fun _ => 0) k s w) (cn (tr tx p) (tz p).toInt.toNat 0) 0 (f, fe, mk, 0, 0) ⟨h8, by show 0 ≤ (0 : Int32).toInt; omega, by show (0 : Int32).toInt ≤ 500; omega, eb_mono h (by show N ≤ N + (0 : Int32).toInt; omega)⟩
  unfold prun prn
  generalize psq (tr tx p) (tz p).toInt.toNat (pit (tr tx p) (tz p).toInt.toNat 8 (fun _ => 0)) (cn (tr tx p) (tz p).toInt.toNat 0) 0 (f, fe, mk, 0, 0) = x at r1 ⊢
  obtain ⟨x1, xf, xe, xm, xc, xb⟩ := x
  obtain ⟨q1, q2, q3, q4⟩ := r1
  dsimp only at q1 q2 q3 q4
  show EB (N + 500) (ift (x1.toInt = 0) (x1, xf, xe, xm, xc, xb) (x1, pun f xf, fe, xm, xc, xb)).2.1
  by_cases w : x1.toInt = 0
  · rw [ift_pos w]; exact eb_mono q4 (by omega)
  · rw [ift_neg w]; exact eb_pun (eb_mono q4 (by omega))
-- needed: the least of the steps at which the program goes through
def nb : Nat → Int
  | 0 => 0
  | k + 1 => 2 ^ k
def OKn (O : Int32 → Int32) (i : Nat) : Prop := ∃ v : Int32, v.toInt = nb i ∧ (O v).toInt = 0
def NZn (O : Int32 → Int32) (i : Nat) : Prop := ∃ v : Int32, v.toInt = nb i ∧ (O v).toInt ≠ 0
def PND (O : Int32 → Int32) (r : Int32) : Prop := (∃ k : Nat, k < 22 ∧ r.toInt = nb k ∧ OKn O k ∧ ∀ j : Nat, j < k → NZn O j) ∨ (r.toInt = -1 ∧ ∀ j : Nat, j < 22 → NZn O j)
theorem okn_nz {O Q : Int32 → Int32} {i : Nat} (e : ∀ v, O v = Q v) (h : OKn O i) (g : NZn Q i) : False := by
  obtain ⟨v, v1, v2⟩ := h
  obtain ⟨w, w1, w2⟩ := g
  have q : v = w := i_inj (by rw [v1, w1])
  subst q
  rw [← e v] at w2
  exact w2 v2
theorem pnd_eq {O Q : Int32 → Int32} {r s : Int32} (e : ∀ v, O v = Q v) (h : PND O r) (g : PND Q s) : r.toInt = s.toInt := by
  rcases h with ⟨k, k1, k2, k3, k4⟩ | ⟨k1, k2⟩
  · rcases g with ⟨m, m1, m2, m3, m4⟩ | ⟨m1, m2⟩
    · rcases Nat.lt_trichotomy k m with w | w | w
      · exact absurd (m4 k w) (okn_nz e k3)
      · rw [k2, m2, w]
      · exact absurd (k4 m w) (okn_nz (fun v => (e v).symm) m3)
    · exact absurd (m2 k k1) (okn_nz e k3)
  · rcases g with ⟨m, m1, m2, m3, m4⟩ | ⟨m1, m2⟩
    · exact absurd (k2 m m1) (okn_nz (fun v => (e v).symm) m3)
    · rw [k1, m1]
theorem nz_s {O : Int32 → Int32} {i : Nat} {v : Int32} (h : ∀ j : Nat, j < i → NZn O j) (hv : v.toInt = nb i) (hz : (O v).toInt ≠ 0) : ∀ j : Nat, j < i + 1 → NZn O j := by
  intro j hj
  rcases Nat.lt_or_ge j i with w | w
  · exact h j w
  · have e : j = i := by omega
    subst e
    exact ⟨v, hv, hz⟩
theorem nb_2 {k : Nat} : nb (k + 1 + 1) = 2 * nb (k + 1) := by
  show (2 : Int) ^ (k + 1) = 2 * 2 ^ k
  rw [Int.pow_succ]
  omega
theorem nb_le : ∀ k : Nat, k < 22 → 0 ≤ nb k ∧ nb k ≤ 1048576 := by decide +kernel
theorem nb_22 : nb 22 = 2097152 := by decide +kernel
theorem nb_pos : ∀ k : Nat, k < 23 → 1 ≤ k → 1 ≤ nb k := by decide +kernel
theorem sh_v : ∀ b : Nat, b < 21 → ((1 : Int32) <<< (nI b &&& 31)).toInt = nb (b + 1) := by decide +kernel
theorem sh_w {z y : Int32} {b : Nat} (hb : b < 21) (hz : z.toInt = (b : Int)) (e : y = (1 : Int32) <<< (z &&& 31)) : y.toInt = nb (b + 1) := by
  have q : z = nI b := i_inj (by rw [hz]; exact (nI_toInt (by omega)).symm)
  rw [e, q]
  exact sh_v b hb
noncomputable def Ond (tx tz : Nat → Int32) (p : Nat) (f : Nat → Int32) (fe : Int64) (a : Nat) (v : Int32) : Int32 := (prun tx tz p (upd f (8 + a) v) fe zro).1
theorem ond_i {tx tz f f2 mk m2 : Nat → Int32} {p a : Nat} {fe fe2 : Int64} {v r c2 b2 : Int32} (h8 : (f 60).toInt ≤ 8) (h0 : E0 f) (ha : a < 8) (hp : prun tx tz p (upd f (8 + a) v) fe mk = (r, f2, fe2, m2, c2, b2)) : (Ond tx tz p f fe a v).toInt = r.toInt := by
  unfold Ond
  rw [one_mk (by rw [up_60n (by omega)]; exact h8) (e0_up h0 (by omega)) hp]
theorem ond_cg {tx tz f g : Nat → Int32} {p a : Nat} {fe fe' : Int64} (h : Cg f g) (h8 : (f 60).toInt ≤ 8) (h0 : E0 f) (ha : a < 8) (he : fe = fe') : ∀ v, Ond tx tz p f fe a v = Ond tx tz p g fe' a v := by
  intro v
  subst he
  unfold Ond
  exact (run_all (up_cg h rfl) (by rw [up_60n (by omega)]; exact h8) (e0_up h0 (by omega))).1
-- hinges: the gates on which the outcome hangs
def flp (f : Nat → Int32) (a : Nat) : Nat → Int32 := upd f (24 + a) (1 - f (24 + a))
def sb (a : Nat) : Int32 := (1 : Int32) <<< (nI a &&& 31)
noncomputable def phi (H : Nat → Prop) : Nat → Int32
  | 0 => 0
  | a + 1 => ift (H a) (phi H a ||| sb a) (phi H a)
theorem phi_p {H : Nat → Prop} {a : Nat} {x y z w : Int32} (h : H a) (hx : x = phi H a) (hz : z.toInt = (a : Int)) (ha : a < 8) (hw : w = (1 : Int32) <<< (z &&& 31)) (hy : y = x ||| w) : y = phi H (a + 1) := by
  have q : z = nI a := i_inj (by rw [hz]; exact (nI_toInt (by omega)).symm)
  show y = ift (H a) (phi H a ||| sb a) (phi H a)
  rw [ift_pos h, hy, hx, hw, q]
  rfl
theorem phi_n {H : Nat → Prop} {a : Nat} {x : Int32} (h : ¬ H a) (hx : x = phi H a) : x = phi H (a + 1) := by
  show x = ift (H a) (phi H a ||| sb a) (phi H a)
  rw [ift_neg h]
  exact hx
theorem phi_0 {H : Nat → Prop} {a : Nat} {x y : Int32} (h : ¬ H a) (hx : x = phi H a) (hy : y = x ||| 0) : y = phi H (a + 1) := by
  have e : x ||| 0 = x := by first | simp | exact Int32.or_zero
  exact phi_n h (by rw [hy, e]; exact hx)
theorem phi_cg {H K : Nat → Prop} : ∀ n : Nat, (∀ a : Nat, a < n → (H a ↔ K a)) → phi H n = phi K n := by
  intro n
  induction n with
  | zero => intro _; rfl
  | succ n ih =>
    intro h
    have e := ih (fun a ha => h a (by omega))
    show ift (H n) (phi H n ||| sb n) (phi H n) = ift (K n) (phi K n ||| sb n) (phi K n)
    by_cases w : H n
    · rw [ift_pos w, ift_pos ((h n (by omega)).mp w), e]
    · rw [ift_neg w, ift_neg (fun q => w ((h n (by omega)).mpr q)), e]
def Hng (tx tz : Nat → Int32) (p : Nat) (f : Nat → Int32) (fe : Int64) (a : Nat) : Prop := (prun tx tz p (flp f a) fe zro).1.toInt ≠ (prun tx tz p f fe zro).1.toInt
theorem flp_60 {f : Nat → Int32} {a : Nat} (ha : a < 8) : flp f a 60 = f 60 := up_60n (by omega)
theorem flp_e0 {f : Nat → Int32} {a : Nat} (h : E0 f) (ha : a < 8) : E0 (flp f a) := e0_up h (by omega)
theorem flp_cg {f g : Nat → Int32} {a : Nat} (h : Cg f g) (ha : a < 8) : Cg (flp f a) (flp g a) := up_cg h (by rw [h (24 + a) (by omega)])
theorem hng_cg {tx tz f g : Nat → Int32} {p a : Nat} {fe fe' : Int64} (h : Cg f g) (h8 : (f 60).toInt ≤ 8) (h0 : E0 f) (ha : a < 8) (he : fe = fe') : Hng tx tz p f fe a ↔ Hng tx tz p g fe' a := by
  subst he
  unfold Hng
  rw [(run_all (mk := zro) (mk' := zro) h h8 h0).1, (run_all (mk := zro) (mk' := zro) (flp_cg h ha) (by rw [flp_60 ha]; exact h8) (flp_e0 h0 ha)).1]
theorem flp_bks {k b l g g2 e v a : Nat → Int32} {n mi be re ca w x : Int32} {D : Nat} (hD : D < 8) (hx : x.toNatClampNeg = D) (eg : upd g x.toNatClampNeg (vp_nar .boolean w) = g2) (hw : w.toInt = 1 - (g D).toInt) (h01 : (g D).toInt = 0 ∨ (g D).toInt = 1) : bks k b l g2 e v a n mi be re ca = flp (bks k b l g e v a n mi be re ca) D := by
  have e1 : (1 : Int32).toInt = 1 := by decide
  subst eg
  rw [hx, narb (x := w) (by omega)]
  unfold flp
  rw [bks_ug hD, bks_g hD, show w = 1 - g D from i_inj (by rw [i_sub (x := 1) (y := g D) rfl (by omega) (by omega)]; omega)]
theorem ub_bks {k b b2 l g e v a : Nat → Int32} {n mi be re ca w x : Int32} {D : Nat} (hD : D < 8) (hx : x.toNatClampNeg = D) (eb : upd b x.toNatClampNeg w = b2) : bks k b2 l g e v a n mi be re ca = upd (bks k b l g e v a n mi be re ca) (8 + D) w := by
  subst eb
  rw [hx]
  exact bks_ub hD
theorem up_same {f gs : Nat → Int32} {K : Nat} {v : Int32} (h : ∀ j : Nat, j ≠ K → gs j = f j) : upd gs K v = upd f K v := by
  funext j
  by_cases w : j = K
  · rw [w, ux_i, ux_i]
  · rw [ux_n w, ux_n w]; exact h j w
theorem one_w {tx tz f mk : Nat → Int32} {p : Nat} {fe : Int64} (h8 : (f 60).toInt ≤ 8) (h0 : E0 f) : (prun tx tz p f fe mk).1.toInt = (prun tx tz p f fe zro).1.toInt := by
  rw [(run_all (mk := mk) (mk' := zro) (cg_rf f) h8 h0).1]
theorem e0_cg {f g : Nat → Int32} (h : E0 f) (c : Cg f g) : E0 g := by
  intro j hj hn
  rw [← c 60 (by omega)] at hn
  rw [← c (32 + j) (by omega), ← c (40 + j) (by omega), ← c (48 + j) (by omega)]
  exact h j hj hn
theorem eb_row {k b l g e v a : Nat → Int32} {n mi be re ca : Int32} {B : Int} (h : EB B (bks k b l g e v a n mi be re ca)) (hB : B ≤ 100000000) : ∀ j : Nat, j < 8 → 0 ≤ (e j).toInt ∧ (e j).toInt ≤ 100000000 := by
  intro j hj
  obtain ⟨q1, q2⟩ := h j hj
  rw [bks_e hj] at q1 q2
  omega
theorem wb_i {x : Int32 × Sg} {k b l g e v a : Nat → Int32} {n mi be re ca q : Int32} (h : x.2.1 = bks k b l g e v a n mi be re ca) (w : 10 ≤ q.toInt ∧ q.toInt < 18) : (x.2.1 (q.toInt.toNat - 2)).toInt = (b (q.toInt.toNat - 10)).toInt := by
  rw [h, show q.toInt.toNat - 2 = 8 + (q.toInt.toNat - 10) from by omega, bks_b (by omega)]
theorem wb_or {x : Int32 × Sg} {k b l g e v a : Nat → Int32} {n mi be re ca q : Int32} (h : x.2.1 = bks k b l g e v a n mi be re ca) : ¬ (10 ≤ q.toInt ∧ q.toInt < 18) ∨ (x.2.1 (q.toInt.toNat - 2)).toInt = (b (q.toInt.toNat - 10)).toInt := by
  by_cases w : 10 ≤ q.toInt ∧ q.toInt < 18
  · exact Or.inr (wb_i h w)
  · exact Or.inl w
-- would: what is asked of a run in thought
def WDp (V : Prop) (q : Int32) (x : Int32 × Sg) (f : Nat → Int32) (n : Nat) (r : Int64) : Prop := (¬ V ∧ r.toInt = -9223372036854775808) ∨ (V ∧ ((q.toInt = 0 ∧ r.toInt = x.1.toInt) ∨ (q.toInt = 1 ∧ r.toInt = x.2.2.1.toInt) ∨ (q.toInt = 2 ∧ r.toInt = (pmc x).toInt) ∨ (q.toInt = 3 ∧ r.toInt = pen x.2.1 n - pen f n) ∨ (10 ≤ q.toInt ∧ q.toInt < 18 ∧ r.toInt = (x.2.1 (q.toInt.toNat - 2)).toInt)))
theorem would_eq {V V' : Prop} {tx tz f g mk mk' : Nat → Int32} {p n n' : Nat} {fe fe' : Int64} {q : Int32} {r r' : Int64} (x : WDp V q (prun tx tz p f fe mk) f n r) (y : WDp V' q (prun tx tz p g fe' mk') g n' r') (hv : V ↔ V') (h : Cg f g) (h8 : (f 60).toInt ≤ 8) (h0 : E0 f) (he : fe = fe') (hn : n = n') (n8 : n ≤ 8) : r.toInt = r'.toInt := by
  subst he hn
  obtain ⟨q1, q2, q3, q4⟩ := run_all (tx := tx) (tz := tz) (p := p) (fe := fe) (mk := mk) (mk' := mk') h h8 h0
  have e1 := pen_cg q2 n8
  have e2 := pen_cg h n8
  unfold WDp at x y
  rcases x with ⟨x1, x2⟩ | ⟨x1, x2⟩
  · rcases y with ⟨y1, y2⟩ | ⟨y1, y2⟩
    · omega
    · exact absurd (hv.mpr y1) x1
  · rcases y with ⟨y1, y2⟩ | ⟨y1, y2⟩
    · exact absurd (hv.mp x1) y1
    · rw [← q1, ← q3, ← q4, ← e1, ← e2] at y2
      rcases x2 with ⟨x2, x3⟩ | ⟨x2, x3⟩ | ⟨x2, x3⟩ | ⟨x2, x3⟩ | ⟨x2, x4, x3⟩
      · omega
      · omega
      · omega
      · omega
      · rw [q2 (q.toInt.toNat - 2) (by omega)] at x3
        omega
-- needed in the reference: the step x, what was found so far
def NDp (O : Int32 → Int32) (x fd : Int32) : Prop := ∃ i : Nat, i ≤ 22 ∧ x.toInt = nb i ∧ ((fd.toInt = -1 ∧ ∀ j : Nat, j < i → NZn O j) ∨ ∃ k : Nat, k < i ∧ fd.toInt = nb k ∧ OKn O k ∧ ∀ j : Nat, j < k → NZn O j)
theorem nd_0 {O : Int32 → Int32} : NDp O 0 (-1) := ⟨0, by omega, by decide, Or.inl ⟨by decide, fun j hj => absurd hj (Nat.not_lt_zero j)⟩⟩
theorem nd_in {O : Int32 → Int32} {x fd : Int32} (h : NDp O x fd) (hx : x.toInt ≤ 1048576) (hf : fd.toInt = -1) : ∃ i : Nat, i < 22 ∧ x.toInt = nb i ∧ ∀ j : Nat, j < i → NZn O j := by
  obtain ⟨i, h1, h2, h3⟩ := h
  have w : i < 22 := by
    rcases Nat.lt_or_ge i 22 with w | w
    · exact w
    · have e : i = 22 := by omega
      rw [e, nb_22] at h2
      omega
  rcases h3 with ⟨_, h4⟩ | ⟨k, k1, k2, _⟩
  · exact ⟨i, w, h2, h4⟩
  · have := (nb_le k (by omega)).1
    omega
theorem nd_x {i : Nat} {x y : Int32} (hi : i < 22) (hx : x.toInt = nb i) (h : (x.toInt = 0 ∧ y.toInt = 1) ∨ (x.toInt ≠ 0 ∧ y.toInt = 2 * x.toInt)) : y.toInt = nb (i + 1) := by
  cases i with
  | zero =>
    have e : nb 0 = 0 := rfl
    have e1 : nb (0 + 1) = 1 := by decide
    rw [e] at hx
    rw [e1]
    omega
  | succ k =>
    have := nb_pos (k + 1) (by omega) (by omega)
    rw [nb_2]
    omega
theorem nd_ok {O : Int32 → Int32} {x y fd r : Int32} (h : NDp O x fd) (hx : x.toInt ≤ 1048576) (hf : fd.toInt = -1) (hy : (x.toInt = 0 ∧ y.toInt = 1) ∨ (x.toInt ≠ 0 ∧ y.toInt = 2 * x.toInt)) (ho : (O x).toInt = r.toInt) (hr : r.toInt = 0) : NDp O y x := by
  obtain ⟨i, h1, h2, h3⟩ := nd_in h hx hf
  exact ⟨i + 1, by omega, nd_x h1 h2 hy, Or.inr ⟨i, by omega, h2, ⟨x, h2, by omega⟩, h3⟩⟩
theorem nd_no {O : Int32 → Int32} {x y fd r : Int32} (h : NDp O x fd) (hx : x.toInt ≤ 1048576) (hf : fd.toInt = -1) (hy : (x.toInt = 0 ∧ y.toInt = 1) ∨ (x.toInt ≠ 0 ∧ y.toInt = 2 * x.toInt)) (ho : (O x).toInt = r.toInt) (hr : r.toInt ≠ 0) : NDp O y (-1) := by
  obtain ⟨i, h1, h2, h3⟩ := nd_in h hx hf
  exact ⟨i + 1, by omega, nd_x h1 h2 hy, Or.inl ⟨by decide, nz_s h3 h2 (by omega)⟩⟩
theorem nd_e {O : Int32 → Int32} {x fd : Int32} (h : NDp O x fd) (q : 1048576 < x.toInt ∨ fd.toInt ≠ -1) : PND O fd := by
  obtain ⟨i, h1, h2, h3⟩ := h
  rcases h3 with ⟨h3, h4⟩ | ⟨k, k1, k2, k3, k4⟩
  · refine Or.inr ⟨h3, fun j hj => h4 j ?_⟩
    rcases Nat.lt_or_ge i 22 with w | w
    · have := (nb_le i w).2
      omega
    · omega
  · exact Or.inl ⟨k, by omega, k2, k3, k4⟩
def NEp (V : Prop) (O : Int32 → Int32) (r : Int32) : Prop := (¬ V ∧ r.toInt = -2) ∨ (V ∧ PND O r)
theorem needs_eq {V V' : Prop} {O Q : Int32 → Int32} {r s : Int32} (x : NEp V O r) (y : NEp V' Q s) (hv : V ↔ V') (e : V → ∀ v, O v = Q v) : r.toInt = s.toInt := by
  rcases x with ⟨x1, x2⟩ | ⟨x1, x2⟩
  · rcases y with ⟨y1, y2⟩ | ⟨y1, y2⟩
    · omega
    · exact absurd (hv.mpr y1) x1
  · rcases y with ⟨y1, y2⟩ | ⟨y1, y2⟩
    · exact absurd (hv.mp x1) y1
    · exact pnd_eq (e x1) x2 y2
def HIp (V : Prop) (H : Nat → Prop) (n : Nat) (r : Int32) : Prop := (¬ V ∧ r.toInt = -2) ∨ (V ∧ r = phi H n)
theorem hinges_eq {V V' : Prop} {H K : Nat → Prop} {n m : Nat} {r s : Int32} (x : HIp V H n r) (y : HIp V' K m s) (hv : V ↔ V') (hn : n = m) (e : ∀ a : Nat, a < n → (H a ↔ K a)) : r.toInt = s.toInt := by
  subst hn
  rcases x with ⟨x1, x2⟩ | ⟨x1, x2⟩
  · rcases y with ⟨y1, y2⟩ | ⟨y1, y2⟩
    · omega
    · exact absurd (hv.mpr y1) x1
  · rcases y with ⟨y1, y2⟩ | ⟨y1, y2⟩
    · exact absurd (hv.mp x1) y1
    · rw [x2, y2, phi_cg n e]
-- film and the sheets
def K60 (r c : Int32) : Prop := (c.toInt ≤ 60 ∧ r.toInt = c.toInt) ∨ (60 < c.toInt ∧ r.toInt = 60)
def FIp (V : Prop) (c r : Int32) : Prop := (¬ V ∧ r.toInt = -2) ∨ (V ∧ K60 r c)
theorem film_eq {V V' : Prop} {c d r s : Int32} (x : FIp V c r) (y : FIp V' d s) (hv : V ↔ V') (e : c.toInt = d.toInt) : r.toInt = s.toInt := by
  unfold FIp K60 at x y
  rcases x with ⟨x1, x2⟩ | ⟨x1, x2⟩
  · rcases y with ⟨y1, y2⟩ | ⟨y1, y2⟩
    · omega
    · exact absurd (hv.mpr y1) x1
  · rcases y with ⟨y1, y2⟩ | ⟨y1, y2⟩
    · exact absurd (hv.mp x1) y1
    · omega
/-- the sheet k behind a film on the sheet a -/
def FLp (V : Prop) (a : Int32) (k : Nat) (c so sn so2 sn2 : Int32) : Prop := (V ∧ a.toInt = (k : Int) ∧ so2.toInt = 1 ∧ K60 sn2 c) ∨ (¬ (V ∧ a.toInt = (k : Int)) ∧ so2.toInt = so.toInt ∧ sn2.toInt = sn.toInt)
theorem films_eq {V V' : Prop} {a : Int32} {k : Nat} {c d so sn so2 sn2 fo fn fo2 fn2 : Int32} (x : FLp V a k c so sn so2 sn2) (y : FLp V' a k d fo fn fo2 fn2) (hv : V ↔ V') (e : c.toInt = d.toInt) (h1 : so.toInt = fo.toInt) (h2 : sn.toInt = fn.toInt) : so2.toInt = fo2.toInt ∧ sn2.toInt = fn2.toInt := by
  unfold FLp K60 at x y
  rcases x with ⟨x1, x2, x3, x4⟩ | ⟨x1, x2, x3⟩
  · rcases y with ⟨y1, y2, y3, y4⟩ | ⟨y1, y2, y3⟩
    · omega
    · exact absurd ⟨hv.mp x1, x2⟩ y1
  · rcases y with ⟨y1, y2, y3, y4⟩ | ⟨y1, y2, y3⟩
    · exact absurd ⟨hv.mpr y1, y2⟩ x1
    · omega
def SOK (a s n : Int32) : Prop := 0 ≤ a.toInt ∧ a.toInt < 4 ∧ -1 ≤ s.toInt ∧ s.toInt ≤ 1 ∧ (s.toInt = -1 ∨ (0 ≤ n.toInt ∧ n.toInt ≤ 60))
/-- the sheet k behind sheet(a, s, n) -/
def SHp (a s n : Int32) (k : Nat) (so sn so2 sn2 : Int32) : Prop := (SOK a s n ∧ a.toInt = (k : Int) ∧ so2.toInt = s.toInt ∧ ((s.toInt = -1 ∧ sn2.toInt = 0) ∨ (s.toInt ≠ -1 ∧ sn2.toInt = n.toInt))) ∨ (¬ (SOK a s n ∧ a.toInt = (k : Int)) ∧ so2.toInt = so.toInt ∧ sn2.toInt = sn.toInt)
theorem sheets_eq {a s n : Int32} {k : Nat} {so sn so2 sn2 fo fn fo2 fn2 : Int32} (x : SHp a s n k so sn so2 sn2) (y : SHp a s n k fo fn fo2 fn2) (h1 : so.toInt = fo.toInt) (h2 : sn.toInt = fn.toInt) : so2.toInt = fo2.toInt ∧ sn2.toInt = fn2.toInt := by
  rcases x with ⟨x1, x2, x3, x4⟩ | ⟨x1, x2, x3⟩
  · rcases y with ⟨y1, y2, y3, y4⟩ | ⟨y1, y2, y3⟩
    · omega
    · exact absurd ⟨x1, x2⟩ y1
  · rcases y with ⟨y1, y2, y3, y4⟩ | ⟨y1, y2, y3⟩
    · exact absurd ⟨y1, y2⟩ x1
    · omega
theorem sh_i {f g : Nat → Int32} {x s n : Int32} (hx : 0 ≤ x.toInt) (k : Nat) : (x.toInt = (k : Int) ∧ (upd f x.toNatClampNeg s k).toInt = s.toInt ∧ (upd g x.toNatClampNeg n k).toInt = n.toInt) ∨ (x.toInt ≠ (k : Int) ∧ (upd f x.toNatClampNeg s k).toInt = (f k).toInt ∧ (upd g x.toNatClampNeg n k).toInt = (g k).toInt) := by
  have e : x.toNatClampNeg = x.toInt.toNat := rfl
  rw [e]
  by_cases w : k = x.toInt.toNat
  · rw [w, ux_i, ux_i]; exact Or.inl ⟨by omega, rfl, rfl⟩
  · rw [ux_n w, ux_n w]; exact Or.inr ⟨by omega, rfl, rfl⟩
/-- what put answers, by the sort and the size of its sheet -/
def PUp (a i : Int32) (S N : Int) (r : Int32) : Prop := (¬ (0 ≤ a.toInt ∧ a.toInt < 4) ∧ r.toInt = -2) ∨ ((0 ≤ a.toInt ∧ a.toInt < 4) ∧ ((S = -1 ∧ r.toInt = -11) ∨ (S ≠ -1 ∧ ((¬ (0 ≤ i.toInt ∧ i.toInt < N) ∧ r.toInt = -12) ∨ ((0 ≤ i.toInt ∧ i.toInt < N) ∧ r.toInt = 1)))))
theorem put_eq {a i r s : Int32} {S N T M : Int} (x : PUp a i S N r) (y : PUp a i T M s) (h1 : ¬ (0 ≤ a.toInt ∧ a.toInt < 4) ∨ S = T) (h2 : ¬ (0 ≤ a.toInt ∧ a.toInt < 4) ∨ N = M) : r.toInt = s.toInt := by
  unfold PUp at x y
  rcases h1 with h1 | h1
  · omega
  · rcases h2 with h2 | h2
    · omega
    · subst h1 h2
      omega
def CFp (n i j : Int32) (N M : Int) : Prop := 0 ≤ n.toInt ∧ 0 ≤ i.toInt ∧ 0 ≤ j.toInt ∧ i.toInt + n.toInt ≤ N ∧ j.toInt + n.toInt ≤ M
/-- what copy answers -/
def CPp (a i o j n : Int32) (S N T M : Int) (r : Int32) : Prop := (¬ ((0 ≤ a.toInt ∧ a.toInt < 4) ∧ 0 ≤ o.toInt ∧ o.toInt < 4) ∧ r.toInt = -2) ∨ (((0 ≤ a.toInt ∧ a.toInt < 4) ∧ 0 ≤ o.toInt ∧ o.toInt < 4) ∧ (((S = -1 ∨ T = -1) ∧ r.toInt = -11) ∨ (¬ (S = -1 ∨ T = -1) ∧ ((S ≠ T ∧ r.toInt = -13) ∨ (S = T ∧ ((¬ CFp n i j N M ∧ r.toInt = -12) ∨ (CFp n i j N M ∧ r.toInt = n.toInt)))))))
theorem copy_eq {a i o j n r s : Int32} {S N T M S' N' T' M' : Int} (x : CPp a i o j n S N T M r) (y : CPp a i o j n S' N' T' M' s) (h1 : ¬ (0 ≤ a.toInt ∧ a.toInt < 4) ∨ S = S') (h2 : ¬ (0 ≤ a.toInt ∧ a.toInt < 4) ∨ N = N') (h3 : ¬ (0 ≤ o.toInt ∧ o.toInt < 4) ∨ T = T') (h4 : ¬ (0 ≤ o.toInt ∧ o.toInt < 4) ∨ M = M') : r.toInt = s.toInt := by
  rcases x with ⟨x1, x2⟩ | ⟨x1, x2⟩
  · rcases y with ⟨y1, y2⟩ | ⟨y1, y2⟩
    · omega
    · exact absurd y1 x1
  · rcases y with ⟨y1, y2⟩ | ⟨y1, y2⟩
    · exact absurd x1 y1
    · have e1 : S = S' := h1.resolve_left (fun q => q x1.1)
      have e2 : N = N' := h2.resolve_left (fun q => q x1.1)
      have e3 : T = T' := h3.resolve_left (fun q => q x1.2)
      have e4 : M = M' := h4.resolve_left (fun q => q x1.2)
      subst e1 e2 e3 e4
      clear h1 h2 h3 h4 x1 y1
      rcases x2 with ⟨a1, a2⟩ | ⟨a1, ⟨a2, a3⟩ | ⟨a2, ⟨a3, a4⟩ | ⟨a3, a4⟩⟩⟩ <;> rcases y2 with ⟨b1, b2⟩ | ⟨b1, ⟨b2, b3⟩ | ⟨b2, ⟨b3, b4⟩ | ⟨b3, b4⟩⟩⟩ <;> first | omega | exact absurd b3 a3 | exact absurd a3 b3
-- entries at the law's head
theorem ebs_pacc {f f2 : Nat → Int32} {a b : Int32} {B : Int} (hf : f2 = pacc f a b) (h : EB B f) (h0 : 0 ≤ (f 60).toInt) : EB B f2 := by
  subst hf
  by_cases c : cac f a b
  · rw [pacc_p c]
    obtain ⟨c1, c2, c3, c4, c5⟩ := c
    exact eb_up (eb_up (eb_up (eb_up (eb_up h (by omega)) (by omega)) (by omega)) (by omega)) (by omega)
  · rw [pacc_n c]; exact h
theorem ebs_pset {f f2 : Nat → Int32} {a w v : Int32} {B : Int} (hf : f2 = pset f a w v) (h : EB B f) (h8 : (f 60).toInt ≤ 8) : EB B f2 := by
  subst hf
  by_cases c0 : cse f a w v 0 1000000000
  · rw [pset_0 c0]; unfold cse at c0; exact eb_up h (by omega)
  · by_cases c1 : cse f a w v 1 9999
    · rw [pset_1 c1]; unfold cse at c1; exact eb_up h (by omega)
    · rw [pset_n c0 c1]; exact h
theorem ebs_pgate {f f2 : Nat → Int32} {a v : Int32} {B : Int} (hf : f2 = pgate f a v) (h : EB B f) (h8 : (f 60).toInt ≤ 8) : EB B f2 := by
  subst hf
  by_cases c : 0 ≤ a.toInt ∧ a.toInt < (f 60).toInt
  · rw [pgate_p c]; exact eb_up h (by omega)
  · rw [pgate_n c]; exact h
theorem ebs_run {V A : Prop} {tx tz f f2 mk m2 : Nat → Int32} {p : Nat} {fe fe2 : Int64} {r c2 b2 : Int32} {B : Int} (x : (¬ V ∧ r.toInt = -2 ∧ f2 = f ∧ A) ∨ (V ∧ prun tx tz p f fe mk = (r, f2, fe2, m2, c2, b2))) (h : EB B f) (hB : B ≤ 900000000) (h8 : (f 60).toInt ≤ 8) : EB (B + 500) f2 := by
  rcases x with ⟨-, -, x3, -⟩ | ⟨-, x2⟩
  · rw [x3]; exact eb_mono h (by omega)
  · have q := eb_run hB (tx := tx) (tz := tz) (p := p) (fe := fe) (mk := mk) h h8
    rw [x2] at q
    exact q
theorem ebs_net {f f2 : Nat → Int32} {n : Nat} {B : Int} (x : (pag f ∧ Cg f2 (Pn f n)) ∨ (¬ pag f ∧ f2 = f)) (h : EB B f) (hB : B ≤ 900000000) : EB (B + 500) f2 := by
  rcases x with ⟨-, x2⟩ | ⟨-, x2⟩
  · exact eb_mono (eb_cg (eb_pn h (by omega)) x2) (by omega)
  · rw [x2]; exact eb_mono h (by omega)
theorem ebs_back {ipn : Int32} {f f2 fi : Nat → Int32} {fe fe2 fie : Int64} {B : Int} (x : (ipn.toInt = -1 ∧ f2 = f ∧ fe2 = fe) ∨ (ipn.toInt ≠ -1 ∧ f2 = fi ∧ fe2 = fie)) (h : EB B f) (hi : ipn.toInt ≠ -1 → EB B fi) : EB B f2 := by
  rcases x with ⟨-, x2, -⟩ | ⟨x1, x2, -⟩
  · rw [x2]; exact h
  · rw [x2]; exact hi x1
