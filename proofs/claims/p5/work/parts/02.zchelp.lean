-- an item ends at one place
theorem it_small {r : Nat → Int32} {n d k e : Nat} (h : It r n d k e) (hc : (r k).toInt = 112 ∨ (r k).toInt = 110 ∨ (r k).toInt = 97 ∨ (r k).toInt = 120 ∨ (r k).toInt = 98 ∨ (r k).toInt = 99) : Leaf r n k e := by
  cases d with
  | zero => exact h
  | succ d =>
    rcases h with h | ⟨⟨w, -⟩ | ⟨w, -⟩, -⟩
    · exact h
    · exfalso; omega
    · exfalso; omega
theorem leaf_det {r : Nat → Int32} {n k e f : Nat} (h : Leaf r n k e) (h' : Leaf r n k f) : e = f := by
  obtain ⟨h1, h2⟩ := h
  obtain ⟨g1, g2⟩ := h'
  rcases h2 with ⟨a1, a2, a3, a4, a5⟩ | ⟨a1, a2⟩ | ⟨a1, a2⟩
  · rcases g2 with ⟨b1, b2, b3, b4, b5⟩ | ⟨b1, b2⟩ | ⟨b1, b2⟩
    · rcases Nat.lt_trichotomy e f with q | q | q
      · have w := b4 e (by omega) q
        rcases a5 with u | u | u
        · omega
        · omega
        · exact absurd w u
      · exact q
      · have w := a4 f (by omega) q
        rcases b5 with u | u | u
        · omega
        · omega
        · exact absurd w u
    · exfalso; omega
    · exfalso; omega
  · rcases g2 with ⟨b1, b2, b3, b4, b5⟩ | ⟨b1, b2⟩ | ⟨b1, b2⟩ <;> omega
  · rcases g2 with ⟨b1, b2, b3, b4, b5⟩ | ⟨b1, b2⟩ | ⟨b1, b2⟩ <;> omega
theorem sq_det {r : Nat → Int32} {n d m : Nat} (ih : ∀ k e, It r n d k e → ∀ f, It r n m k f → e = f) : ∀ (c c' a E F : Nat), Sq (It r n d) c a E → (n ≤ E ∨ (r E).toInt = 41 ∨ (r E).toInt = 93 ∨ (r E).toInt = 62 ∨ (r E).toInt = 125) → Sq (It r n m) c' a F → (n ≤ F ∨ (r F).toInt = 41 ∨ (r F).toInt = 93 ∨ (r F).toInt = 62 ∨ (r F).toInt = 125) → E = F := by
  intro c
  induction c with
  | zero =>
    intro c' a E F h hE h' hF
    obtain rfl : a = E := h
    exact sq_end h' hE
  | succ c ihc =>
    intro c' a E F h hE h' hF
    cases c' with
    | zero =>
      obtain rfl : a = F := h'
      exact (sq_end h hF).symm
    | succ c' =>
      obtain ⟨b, h1, h2⟩ := h
      obtain ⟨b', g1, g2⟩ := h'
      obtain rfl : b = b' := ih a b h1 b' g1
      exact ihc c' b E F h2 hE g2 hF
theorem it_det {r : Nat → Int32} {n : Nat} : ∀ (d k e : Nat), It r n d k e → ∀ (m f : Nat), It r n m k f → e = f := by
  intro d
  induction d with
  | zero =>
    intro k e h m f h'
    exact leaf_det h (it_small h' (leaf_c h))
  | succ d ih =>
    intro k e h m f h'
    by_cases hc : (r k).toInt = 112 ∨ (r k).toInt = 110 ∨ (r k).toInt = 97 ∨ (r k).toInt = 120 ∨ (r k).toInt = 98 ∨ (r k).toInt = 99
    · exact leaf_det (it_small h hc) (it_small h' hc)
    · obtain ⟨m1, a1, c1, hm1, ho1, hs1, h11, h12, ha1, hz1⟩ := it_o h (by omega)
      obtain ⟨m2, a2, c2, hm2, ho2, hs2, h21, h22, ha2, hz2⟩ := it_o h' (by omega)
      obtain rfl : m1 = d := by omega
      obtain rfl : a1 = a2 := by omega
      have q := sq_det (fun k e h f h' => ih k e h m2 f h') c1 c2 a1 (e - 1) (f - 1) hs1 (Or.inr hz1) hs2 (Or.inr hz2)
      omega
noncomputable def bh (r : Nat → Int32) (n k : Nat) : Nat := Classical.epsilon (fun e => ∃ d, It r n d k e)
theorem bh_eq {r : Nat → Int32} {n d k e : Nat} (h : It r n d k e) : bh r n k = e := by
  have q : ∃ e, ∃ d, It r n d k e := ⟨e, d, h⟩
  obtain ⟨d2, w⟩ := Classical.epsilon_spec q
  exact it_det d2 k _ w d e h
/-- how many items lie from k on, up to what closes them -/
noncomputable def cn (r : Nat → Int32) (n k : Nat) : Nat := Classical.epsilon (fun c => ∃ d e, Sq (It r n d) c k e ∧ (n ≤ e ∨ (r e).toInt = 41 ∨ (r e).toInt = 93 ∨ (r e).toInt = 62 ∨ (r e).toInt = 125))
theorem sq_cn {r : Nat → Int32} {n d m : Nat} : ∀ (c c' a E F : Nat), Sq (It r n d) c a E → (n ≤ E ∨ (r E).toInt = 41 ∨ (r E).toInt = 93 ∨ (r E).toInt = 62 ∨ (r E).toInt = 125) → Sq (It r n m) c' a F → (n ≤ F ∨ (r F).toInt = 41 ∨ (r F).toInt = 93 ∨ (r F).toInt = 62 ∨ (r F).toInt = 125) → c = c' := by
  intro c
  induction c with
  | zero =>
    intro c' a E F h hE h' hF
    obtain rfl : a = E := h
    cases c' with
    | zero => rfl
    | succ c' =>
      obtain ⟨b', g1, g2⟩ := h'
      have w := it_ncl g1
      exfalso; omega
  | succ c ihc =>
    intro c' a E F h hE h' hF
    obtain ⟨b, h1, h2⟩ := h
    cases c' with
    | zero =>
      obtain rfl : a = F := h'
      have w := it_ncl h1
      exfalso; omega
    | succ c' =>
      obtain ⟨b', g1, g2⟩ := h'
      obtain rfl : b = b' := it_det d a b h1 m b' g1
      rw [ihc c' b E F h2 hE g2 hF]
theorem cn_eq {r : Nat → Int32} {n d c k e : Nat} (h : Sq (It r n d) c k e) (he : n ≤ e ∨ (r e).toInt = 41 ∨ (r e).toInt = 93 ∨ (r e).toInt = 62 ∨ (r e).toInt = 125) : cn r n k = c := by
  have q : ∃ c, ∃ d e, Sq (It r n d) c k e ∧ (n ≤ e ∨ (r e).toInt = 41 ∨ (r e).toInt = 93 ∨ (r e).toInt = 62 ∨ (r e).toInt = 125) := ⟨c, d, e, h, he⟩
  obtain ⟨d2, e2, w1, w2⟩ := Classical.epsilon_spec q
  exact sq_cn _ _ _ _ _ w1 w2 h he
-- level 3: what both readers do, told by one machine: a place, and the places of the brackets not closed yet
def fg (r : Nat → Int32) (n j : Nat) (lo hi : Int) : Prop := j < n ∧ lo ≤ (r j).toInt ∧ (r j).toInt ≤ hi
def cnt (r : Nat → Int32) : List Nat → Nat
  | [] => 0
  | b :: S => (if (r b).toInt = 123 then 1 else 0) + cnt r S
theorem cnt_p {r : Nat → Int32} {b : Nat} {S : List Nat} (h : (r b).toInt = 123) : cnt r (b :: S) = 1 + cnt r S := by
  show (if (r b).toInt = 123 then 1 else 0) + cnt r S = _
  rw [if_pos h]
theorem cnt_n {r : Nat → Int32} {b : Nat} {S : List Nat} (h : (r b).toInt ≠ 123) : cnt r (b :: S) = cnt r S := by
  show (if (r b).toInt = 123 then 1 else 0) + cnt r S = _
  rw [if_neg h]
  omega
theorem cnt_le {r : Nat → Int32} : ∀ S : List Nat, cnt r S ≤ S.length := by
  intro S
  induction S with
  | nil => exact Nat.le_refl 0
  | cons b S ih =>
    have e : (b :: S).length = S.length + 1 := rfl
    by_cases h : (r b).toInt = 123
    · rw [cnt_p h, e]; omega
    · rw [cnt_n h, e]; omega
def Cl (r : Nat → Int32) (b k : Nat) : Prop := ((r b).toInt = 40 ∧ (r k).toInt = 41) ∨ ((r b).toInt = 123 ∧ (r k).toInt = 125) ∨ ((r b).toInt = 91 ∧ (r k).toInt = 93) ∨ ((r b).toInt = 60 ∧ (r k).toInt = 62)
theorem cl_c {r : Nat → Int32} {b k : Nat} (h : Cl r b k) : (r k).toInt = 41 ∨ (r k).toInt = 125 ∨ (r k).toInt = 93 ∨ (r k).toInt = 62 := by
  unfold Cl at h
  omega
def Lf (r : Nat → Int32) (n k e m : Nat) : Prop := Leaf r n k e ∧ ((r k).toInt = 112 → fg r n (k + 1) 48 55 ∧ fg r n (k + 2) 48 55) ∧ (((r k).toInt = 110 ∨ (r k).toInt = 97) → fg r n (k + 1) 48 55) ∧ (((r k).toInt = 98 ∨ (r k).toInt = 99) → 0 < m)
def Fp (r : Nat → Int32) (n k j : Nat) : Prop := (¬ fg r n (k + 1) 48 55 ∧ j = k + 1) ∨ (fg r n (k + 1) 48 55 ∧ ¬ fg r n (k + 2) 48 55 ∧ j = k + 2) ∨ (fg r n (k + 1) 48 55 ∧ fg r n (k + 2) 48 55 ∧ ¬ fg r n (k + 3) 48 57 ∧ j = k + 3)
def Oth (r : Nat → Int32) (k : Nat) : Prop := (r k).toInt ≠ 40 ∧ (r k).toInt ≠ 123 ∧ (r k).toInt ≠ 91 ∧ (r k).toInt ≠ 60 ∧ (r k).toInt ≠ 112 ∧ (r k).toInt ≠ 110 ∧ (r k).toInt ≠ 97 ∧ (r k).toInt ≠ 98 ∧ (r k).toInt ≠ 99 ∧ (r k).toInt ≠ 120
/-- the machine goes on from k to e -/
def Stz (r : Nat → Int32) (n k : Nat) (S : List Nat) (e : Nat) (S' : List Nat) : Prop := k < n ∧ (((r k).toInt = 40 ∧ S.length < 8 ∧ fg r n (k + 1) 48 55 ∧ e = k + 2 ∧ S' = k :: S) ∨ ((r k).toInt = 123 ∧ S.length < 8 ∧ fg r n (k + 1) 49 57 ∧ e = k + 2 ∧ S' = k :: S) ∨ (((r k).toInt = 91 ∨ (r k).toInt = 60) ∧ S.length < 8 ∧ e = k + 1 ∧ S' = k :: S) ∨ (∃ b, S = b :: S' ∧ Cl r b k ∧ e = k + 1) ∨ (Lf r n k e (cnt r S) ∧ S' = S))
/-- no program goes on with the byte at j -/
def Flt (r : Nat → Int32) (n k : Nat) (S : List Nat) (j : Nat) : Prop := k < n ∧ (((r k).toInt = 40 ∧ ((8 ≤ S.length ∧ j = k) ∨ (S.length < 8 ∧ ¬ fg r n (k + 1) 48 55 ∧ j = k + 1))) ∨ ((r k).toInt = 123 ∧ ((8 ≤ S.length ∧ j = k) ∨ (S.length < 8 ∧ ¬ fg r n (k + 1) 49 57 ∧ j = k + 1))) ∨ (((r k).toInt = 91 ∨ (r k).toInt = 60) ∧ 8 ≤ S.length ∧ j = k) ∨ ((r k).toInt = 112 ∧ Fp r n k j) ∨ (((r k).toInt = 110 ∨ (r k).toInt = 97) ∧ ¬ fg r n (k + 1) 48 55 ∧ j = k + 1) ∨ (((r k).toInt = 98 ∨ (r k).toInt = 99) ∧ cnt r S = 0 ∧ j = k) ∨ (Oth r k ∧ (∀ b S', S = b :: S' → ¬ Cl r b k) ∧ j = k))
theorem stp_det {r : Nat → Int32} {n k e e2 : Nat} {S S' S2 : List Nat} (h : Stz r n k S e S') (g : Stz r n k S e2 S2) : e = e2 ∧ S' = S2 := by
  obtain ⟨h0, h⟩ := h
  obtain ⟨-, g⟩ := g
  rcases h with ⟨a1, a2, a3, a4, a5⟩ | ⟨a1, a2, a3, a4, a5⟩ | ⟨a1, a2, a3, a4⟩ | ⟨b, a1, a2, a3⟩ | ⟨a1, a2⟩
  · rcases g with ⟨b1, b2, b3, b4, b5⟩ | ⟨b1, -⟩ | ⟨b1, -⟩ | ⟨b, b1, b2, b3⟩ | ⟨b1, b2⟩
    · exact ⟨by omega, by rw [a5, b5]⟩
    · exfalso; omega
    · exfalso; omega
    · have := cl_c b2; exfalso; omega
    · have := leaf_c b1.1; exfalso; omega
  · rcases g with ⟨b1, -⟩ | ⟨b1, b2, b3, b4, b5⟩ | ⟨b1, -⟩ | ⟨b, b1, b2, b3⟩ | ⟨b1, b2⟩
    · exfalso; omega
    · exact ⟨by omega, by rw [a5, b5]⟩
    · exfalso; omega
    · have := cl_c b2; exfalso; omega
    · have := leaf_c b1.1; exfalso; omega
  · rcases g with ⟨b1, -⟩ | ⟨b1, -⟩ | ⟨b1, b2, b3, b4⟩ | ⟨b, b1, b2, b3⟩ | ⟨b1, b2⟩
    · exfalso; omega
    · exfalso; omega
    · exact ⟨by omega, by rw [a4, b4]⟩
    · have := cl_c b2; exfalso; omega
    · have := leaf_c b1.1; exfalso; omega
  · have ac := cl_c a2
    rcases g with ⟨b1, -⟩ | ⟨b1, -⟩ | ⟨b1, -⟩ | ⟨b', b1, b2, b3⟩ | ⟨b1, b2⟩
    · exfalso; omega
    · exfalso; omega
    · exfalso; omega
    · rw [a1] at b1
      injection b1 with u1 u2
      exact ⟨by omega, u2⟩
    · have := leaf_c b1.1; exfalso; omega
  · have ac := leaf_c a1.1
    rcases g with ⟨b1, -⟩ | ⟨b1, -⟩ | ⟨b1, -⟩ | ⟨b, b1, b2, b3⟩ | ⟨b1, b2⟩
    · exfalso; omega
    · exfalso; omega
    · exfalso; omega
    · have := cl_c b2; exfalso; omega
    · exact ⟨leaf_det a1.1 b1.1, by rw [a2, b2]⟩
theorem fp_det {r : Nat → Int32} {n k i j : Nat} (h : Fp r n k i) (g : Fp r n k j) : i = j := by
  unfold Fp at h g
  rcases h with ⟨a1, a2⟩ | ⟨a1, a2, a3⟩ | ⟨a1, a2, a3, a4⟩ <;> rcases g with ⟨b1, b2⟩ | ⟨b1, b2, b3⟩ | ⟨b1, b2, b3, b4⟩ <;> first | omega | exact absurd b1 a1 | exact absurd a1 b1 | exact absurd b2 a2 | exact absurd a2 b2
theorem flt_det {r : Nat → Int32} {n k i j : Nat} {S : List Nat} (h : Flt r n k S i) (g : Flt r n k S j) : i = j := by
  obtain ⟨h0, h⟩ := h
  obtain ⟨-, g⟩ := g
  unfold Oth at h g
  rcases h with ⟨a1, a2⟩ | ⟨a1, a2⟩ | ⟨a1, a2, a3⟩ | ⟨a1, a2⟩ | ⟨a1, a2, a3⟩ | ⟨a1, a2, a3⟩ | ⟨a1, a2, a3⟩
  · rcases g with ⟨b1, b2⟩ | ⟨b1, -⟩ | ⟨b1, -⟩ | ⟨b1, -⟩ | ⟨b1, -⟩ | ⟨b1, -⟩ | ⟨b1, -⟩
    · omega
    all_goals (exfalso; omega)
  · rcases g with ⟨b1, -⟩ | ⟨b1, b2⟩ | ⟨b1, -⟩ | ⟨b1, -⟩ | ⟨b1, -⟩ | ⟨b1, -⟩ | ⟨b1, -⟩
    · exfalso; omega
    · omega
    all_goals (exfalso; omega)
  · rcases g with ⟨b1, -⟩ | ⟨b1, -⟩ | ⟨b1, b2, b3⟩ | ⟨b1, -⟩ | ⟨b1, -⟩ | ⟨b1, -⟩ | ⟨b1, -⟩
    · exfalso; omega
    · exfalso; omega
    · omega
    all_goals (exfalso; omega)
  · rcases g with ⟨b1, -⟩ | ⟨b1, -⟩ | ⟨b1, -⟩ | ⟨b1, b2⟩ | ⟨b1, -⟩ | ⟨b1, -⟩ | ⟨b1, -⟩
    · exfalso; omega
    · exfalso; omega
    · exfalso; omega
    · exact fp_det a2 b2
    all_goals (exfalso; omega)
  · rcases g with ⟨b1, -⟩ | ⟨b1, -⟩ | ⟨b1, -⟩ | ⟨b1, -⟩ | ⟨b1, b2, b3⟩ | ⟨b1, -⟩ | ⟨b1, -⟩
    · exfalso; omega
    · exfalso; omega
    · exfalso; omega
    · exfalso; omega
    · omega
    all_goals (exfalso; omega)
  · rcases g with ⟨b1, -⟩ | ⟨b1, -⟩ | ⟨b1, -⟩ | ⟨b1, -⟩ | ⟨b1, -⟩ | ⟨b1, b2, b3⟩ | ⟨b1, -⟩
    · exfalso; omega
    · exfalso; omega
    · exfalso; omega
    · exfalso; omega
    · exfalso; omega
    · omega
    · exfalso; omega
  · rcases g with ⟨b1, -⟩ | ⟨b1, -⟩ | ⟨b1, -⟩ | ⟨b1, -⟩ | ⟨b1, -⟩ | ⟨b1, -⟩ | ⟨b1, b2, b3⟩
    · exfalso; omega
    · exfalso; omega
    · exfalso; omega
    · exfalso; omega
    · exfalso; omega
    · exfalso; omega
    · omega
theorem lf_nofp {r : Nat → Int32} {n k e m j : Nat} (h : Lf r n k e m) (hc : (r k).toInt = 112) (g : Fp r n k j) : False := by
  obtain ⟨⟨l1, l2⟩, h1, -, -⟩ := h
  obtain ⟨g1, g2⟩ := h1 hc
  rcases g with ⟨b1, b2⟩ | ⟨b1, b2, b3⟩ | ⟨b1, b2, b3, b4⟩
  · exact b1 g1
  · exact b2 g2
  · refine b3 ?_
    rcases l2 with ⟨c1, c2, c3, c4, c5⟩ | ⟨c1, c2⟩ | ⟨c1, c2⟩
    · have w := c4 (k + 3) (Nat.le_refl _) (by omega)
      unfold isF at w
      exact ⟨by omega, w.1, w.2⟩
    · exfalso; omega
    · exfalso; omega
theorem stp_flt {r : Nat → Int32} {n k e j : Nat} {S S' : List Nat} (h : Stz r n k S e S') (g : Flt r n k S j) : False := by
  obtain ⟨h0, h⟩ := h
  obtain ⟨-, g⟩ := g
  unfold Oth at g
  rcases h with ⟨a1, a2, a3, a4, a5⟩ | ⟨a1, a2, a3, a4, a5⟩ | ⟨a1, a2, a3, a4⟩ | ⟨b, a1, a2, a3⟩ | ⟨a1, a2⟩
  · rcases g with ⟨b1, ⟨b2, b3⟩ | ⟨b2, b3, b4⟩⟩ | ⟨b1, -⟩ | ⟨b1, -⟩ | ⟨b1, -⟩ | ⟨b1, -⟩ | ⟨b1, -⟩ | ⟨b1, -⟩
    · omega
    · exact b3 a3
    all_goals omega
  · rcases g with ⟨b1, -⟩ | ⟨b1, ⟨b2, b3⟩ | ⟨b2, b3, b4⟩⟩ | ⟨b1, -⟩ | ⟨b1, -⟩ | ⟨b1, -⟩ | ⟨b1, -⟩ | ⟨b1, -⟩
    · omega
    · omega
    · exact b3 a3
    all_goals omega
  · rcases g with ⟨b1, -⟩ | ⟨b1, -⟩ | ⟨b1, b2, b3⟩ | ⟨b1, -⟩ | ⟨b1, -⟩ | ⟨b1, -⟩ | ⟨b1, -⟩
    all_goals omega
  · have ac := cl_c a2
    rcases g with ⟨b1, -⟩ | ⟨b1, -⟩ | ⟨b1, -⟩ | ⟨b1, -⟩ | ⟨b1, -⟩ | ⟨b1, -⟩ | ⟨b1, b2, b3⟩
    · omega
    · omega
    · omega
    · omega
    · omega
    · omega
    · exact b2 b S' a1 a2
  · have ac := leaf_c a1.1
    rcases g with ⟨b1, -⟩ | ⟨b1, -⟩ | ⟨b1, -⟩ | ⟨b1, b2⟩ | ⟨b1, b2, b3⟩ | ⟨b1, b2, b3⟩ | ⟨b1, b2, b3⟩
    · omega
    · omega
    · omega
    · exact lf_nofp a1 b1 b2
    · exact b2 (a1.2.2.1 b1)
    · have w := a1.2.2.2 b1; omega
    · omega
/-- what the machine comes to within m steps: the place of a fault, or -1 -/
def Fm (r : Nat → Int32) (n : Nat) : Nat → Nat → List Nat → Int → Prop
  | 0, k, S, x => (n ≤ k ∧ (((S ≠ [] ∨ n = 0) ∧ x = (n : Int)) ∨ (S = [] ∧ n ≠ 0 ∧ x = -1))) ∨ ∃ j : Nat, Flt r n k S j ∧ x = (j : Int)
  | m + 1, k, S, x => ∃ (e : Nat) (S' : List Nat), Stz r n k S e S' ∧ Fm r n m e S' x
def Fi (r : Nat → Int32) (n k : Nat) (S : List Nat) (x : Int) : Prop := ∃ m, Fm r n m k S x
theorem fi_st {r : Nat → Int32} {n k e : Nat} {S S' : List Nat} {x : Int} (h : Stz r n k S e S') (g : Fi r n e S' x) : Fi r n k S x := by
  obtain ⟨m, g⟩ := g
  exact ⟨m + 1, e, S', h, g⟩
theorem fi_fl {r : Nat → Int32} {n k j : Nat} {S : List Nat} (h : Flt r n k S j) : Fi r n k S (j : Int) := ⟨0, Or.inr ⟨j, h, rfl⟩⟩
theorem fi_en {r : Nat → Int32} {n k : Nat} {S : List Nat} (h : n ≤ k) (g : S ≠ [] ∨ n = 0) : Fi r n k S (n : Int) := ⟨0, Or.inl ⟨h, Or.inl ⟨g, rfl⟩⟩⟩
theorem fi_ok {r : Nat → Int32} {n k : Nat} (h : n ≤ k) (g : n ≠ 0) : Fi r n k [] (-1) := ⟨0, Or.inl ⟨h, Or.inr ⟨rfl, g, rfl⟩⟩⟩
theorem fm_det {r : Nat → Int32} {n : Nat} : ∀ (m k : Nat) (S : List Nat) (x : Int), Fm r n m k S x → ∀ (m2 : Nat) (y : Int), Fm r n m2 k S y → x = y := by
  intro m
  induction m with
  | zero =>
    intro k S x h m2 y g
    cases m2 with
    | zero =>
      rcases h with ⟨h1, h2⟩ | ⟨j, h1, rfl⟩
      · rcases g with ⟨g1, g2⟩ | ⟨i, g1, rfl⟩
        · rcases h2 with ⟨a1, a2⟩ | ⟨a1, a2, a3⟩
          · rcases g2 with ⟨b1, b2⟩ | ⟨b1, b2, b3⟩
            · omega
            · rcases a1 with a1 | a1
              · exact absurd b1 a1
              · exact absurd a1 b2
          · rcases g2 with ⟨b1, b2⟩ | ⟨b1, b2, b3⟩
            · rcases b1 with b1 | b1
              · exact absurd a1 b1
              · exact absurd b1 a2
            · omega
        · have := g1.1; omega
      · rcases g with ⟨g1, g2⟩ | ⟨i, g1, rfl⟩
        · have := h1.1; omega
        · rw [flt_det h1 g1]
    | succ m2 =>
      obtain ⟨e, S', s, -⟩ := g
      rcases h with ⟨h1, h2⟩ | ⟨j, h1, rfl⟩
      · have := s.1; omega
      · exact (stp_flt s h1).elim
  | succ m ih =>
    intro k S x h m2 y g
    obtain ⟨e, S', s, h⟩ := h
    cases m2 with
    | zero =>
      rcases g with ⟨g1, g2⟩ | ⟨i, g1, rfl⟩
      · have := s.1; omega
      · exact (stp_flt s g1).elim
    | succ m2 =>
      obtain ⟨e2, S2, s2, g⟩ := g
      obtain ⟨rfl, rfl⟩ := stp_det s s2
      exact ih _ _ _ h _ _ g
theorem fi_det {r : Nat → Int32} {n k : Nat} {S : List Nat} {x y : Int} (h : Fi r n k S x) (g : Fi r n k S y) : x = y := by
  obtain ⟨m, h⟩ := h
  obtain ⟨m2, g⟩ := g
  exact fm_det m k S x h m2 y g
-- the same bytes: the same machine
theorem fg_cg {r q : Nat → Int32} {n j : Nat} {lo hi : Int} (hq : ∀ j, j < n → q j = r j) : fg q n j lo hi ↔ fg r n j lo hi := by
  unfold fg
  constructor
  · rintro ⟨a, b, c⟩
    rw [hq j a] at b c
    exact ⟨a, b, c⟩
  · rintro ⟨a, b, c⟩
    rw [← hq j a] at b c
    exact ⟨a, b, c⟩
def Sn (n : Nat) (S : List Nat) : Prop := ∀ b, b ∈ S → b < n
theorem cnt_cg {r q : Nat → Int32} {n : Nat} (hq : ∀ j, j < n → q j = r j) : ∀ S : List Nat, Sn n S → cnt q S = cnt r S := by
  intro S
  induction S with
  | nil => intro _; rfl
  | cons b S ih =>
    intro h
    have e := ih (fun x hx => h x (List.mem_cons_of_mem _ hx))
    have w := hq b (h b List.mem_cons_self)
    show (if (q b).toInt = 123 then 1 else 0) + cnt q S = (if (r b).toInt = 123 then 1 else 0) + cnt r S
    rw [w, e]
theorem stp_sn {r : Nat → Int32} {n k e : Nat} {S S' : List Nat} (h : Stz r n k S e S') (hs : Sn n S) : Sn n S' := by
  obtain ⟨h0, h⟩ := h
  have hc : Sn n (k :: S) := by
    intro b hb
    rcases List.mem_cons.mp hb with rfl | hb
    · exact h0
    · exact hs b hb
  rcases h with ⟨a1, a2, a3, a4, a5⟩ | ⟨a1, a2, a3, a4, a5⟩ | ⟨a1, a2, a3, a4⟩ | ⟨b, a1, a2, a3⟩ | ⟨a1, a2⟩
  · rw [a5]; exact hc
  · rw [a5]; exact hc
  · rw [a4]; exact hc
  · intro x hx
    exact hs x (by rw [a1]; exact List.mem_cons_of_mem _ hx)
  · rw [a2]; exact hs
theorem cl_cg {r q : Nat → Int32} {n b k : Nat} (hq : ∀ j, j < n → q j = r j) (hb : b < n) (hk : k < n) : Cl q b k ↔ Cl r b k := by
  unfold Cl
  rw [hq b hb, hq k hk]
theorem stp_cg {r q : Nat → Int32} {n k e : Nat} {S S' : List Nat} (hq : ∀ j, j < n → q j = r j) (hs : Sn n S) (h : Stz r n k S e S') : Stz q n k S e S' := by
  obtain ⟨h0, h⟩ := h
  refine ⟨h0, ?_⟩
  rw [hq k h0]
  rcases h with ⟨a1, a2, a3, a4, a5⟩ | ⟨a1, a2, a3, a4, a5⟩ | ⟨a1, a2, a3, a4⟩ | ⟨b, a1, a2, a3⟩ | ⟨⟨a1, a3, a4, a5⟩, a2⟩
  · exact Or.inl ⟨a1, a2, (fg_cg hq).mpr a3, a4, a5⟩
  · exact Or.inr (Or.inl ⟨a1, a2, (fg_cg hq).mpr a3, a4, a5⟩)
  · exact Or.inr (Or.inr (Or.inl ⟨a1, a2, a3, a4⟩))
  · exact Or.inr (Or.inr (Or.inr (Or.inl ⟨b, a1, (cl_cg hq (hs b (by rw [a1]; exact List.mem_cons_self)) h0).mpr a2, a3⟩)))
  · refine Or.inr (Or.inr (Or.inr (Or.inr ⟨⟨leaf_cg hq a1, ?_, ?_, ?_⟩, a2⟩)))
    · rw [hq k h0]
      exact fun w => ⟨(fg_cg hq).mpr (a3 w).1, (fg_cg hq).mpr (a3 w).2⟩
    · rw [hq k h0]
      exact fun w => (fg_cg hq).mpr (a4 w)
    · rw [hq k h0, cnt_cg hq S hs]
      exact a5
theorem fp_cg {r q : Nat → Int32} {n k j : Nat} (hq : ∀ j, j < n → q j = r j) (h : Fp r n k j) : Fp q n k j := by
  rcases h with ⟨b1, b2⟩ | ⟨b1, b2, b3⟩ | ⟨b1, b2, b3, b4⟩
  · exact Or.inl ⟨fun w => b1 ((fg_cg hq).mp w), b2⟩
  · exact Or.inr (Or.inl ⟨(fg_cg hq).mpr b1, fun w => b2 ((fg_cg hq).mp w), b3⟩)
  · exact Or.inr (Or.inr ⟨(fg_cg hq).mpr b1, (fg_cg hq).mpr b2, fun w => b3 ((fg_cg hq).mp w), b4⟩)
theorem flt_cg {r q : Nat → Int32} {n k j : Nat} {S : List Nat} (hq : ∀ j, j < n → q j = r j) (hs : Sn n S) (h : Flt r n k S j) : Flt q n k S j := by
  obtain ⟨h0, h⟩ := h
  refine ⟨h0, ?_⟩
  unfold Oth at h ⊢
  rw [hq k h0]
  rcases h with ⟨a1, a2⟩ | ⟨a1, a2⟩ | ⟨a1, a2, a3⟩ | ⟨a1, a2⟩ | ⟨a1, a2, a3⟩ | ⟨a1, a2, a3⟩ | ⟨a1, a2, a3⟩
  · refine Or.inl ⟨a1, ?_⟩
    rcases a2 with a2 | ⟨a2, a3, a4⟩
    · exact Or.inl a2
    · exact Or.inr ⟨a2, fun w => a3 ((fg_cg hq).mp w), a4⟩
  · refine Or.inr (Or.inl ⟨a1, ?_⟩)
    rcases a2 with a2 | ⟨a2, a3, a4⟩
    · exact Or.inl a2
    · exact Or.inr ⟨a2, fun w => a3 ((fg_cg hq).mp w), a4⟩
  · exact Or.inr (Or.inr (Or.inl ⟨a1, a2, a3⟩))
  · exact Or.inr (Or.inr (Or.inr (Or.inl ⟨a1, fp_cg hq a2⟩)))
  · exact Or.inr (Or.inr (Or.inr (Or.inr (Or.inl ⟨a1, fun w => a2 ((fg_cg hq).mp w), a3⟩))))
  · exact Or.inr (Or.inr (Or.inr (Or.inr (Or.inr (Or.inl ⟨a1, by rw [cnt_cg hq S hs]; exact a2, a3⟩)))))
  · refine Or.inr (Or.inr (Or.inr (Or.inr (Or.inr (Or.inr ⟨a1, fun b S' hb w => a2 b S' hb ?_, a3⟩)))))
    exact (cl_cg hq (hs b (by rw [hb]; exact List.mem_cons_self)) h0).mp w
theorem fm_cg {r q : Nat → Int32} {n : Nat} (hq : ∀ j, j < n → q j = r j) : ∀ (m k : Nat) (S : List Nat) (x : Int), Sn n S → Fm r n m k S x → Fm q n m k S x := by
  intro m
  induction m with
  | zero =>
    intro k S x hs h
    rcases h with h | ⟨j, h1, h2⟩
    · exact Or.inl h
    · exact Or.inr ⟨j, flt_cg hq hs h1, h2⟩
  | succ m ih =>
    intro k S x hs h
    obtain ⟨e, S', s, h⟩ := h
    exact ⟨e, S', stp_cg hq hs s, ih e S' x (stp_sn s hs) h⟩
theorem fi_cg {r q : Nat → Int32} {n : Nat} {x : Int} (hq : ∀ j, j < n → q j = r j) (h : Fi r n 0 [] x) : Fi q n 0 [] x := by
  obtain ⟨m, h⟩ := h
  exact ⟨m, fm_cg hq m 0 [] x (fun b hb => absurd hb List.not_mem_nil) h⟩
-- items whose ends stand in a table
def ItT (r : Nat → Int32) (n : Nat) (T : Nat → Int32) : Nat → Nat → Nat → Prop
  | 0, k, e => (T k).toInt = (e : Int) ∧ Leaf r n k e
  | d + 1, k, e => (T k).toInt = (e : Int) ∧ (Leaf r n k e ∨ ((((r k).toInt = 40 ∨ (r k).toInt = 123) ∧ ∃ c, Sq (ItT r n T d) c (k + 2) (e - 1)) ∨ (((r k).toInt = 91 ∨ (r k).toInt = 60) ∧ ∃ c, Sq (ItT r n T d) c (k + 1) (e - 1))) ∧ 1 ≤ e ∧ e ≤ n ∧ ((r (e - 1)).toInt = 41 ∨ (r (e - 1)).toInt = 93 ∨ (r (e - 1)).toInt = 62 ∨ (r (e - 1)).toInt = 125))
theorem itT_it {r T : Nat → Int32} {n : Nat} : ∀ (d k e : Nat), ItT r n T d k e → It r n d k e := by
  intro d
  induction d with
  | zero =>
    intro k e h
    obtain ⟨-, h⟩ := h
    exact h
  | succ d ih =>
    intro k e h
    obtain ⟨-, h⟩ := h
    rcases h with h | ⟨⟨w, c, h⟩ | ⟨w, c, h⟩, h1⟩
    · exact Or.inl h
    · exact Or.inr ⟨Or.inl ⟨w, c, sq_mono ih c _ _ h⟩, h1⟩
    · exact Or.inr ⟨Or.inr ⟨w, c, sq_mono ih c _ _ h⟩, h1⟩
theorem itT_T {r T : Nat → Int32} {n d k e : Nat} (h : ItT r n T d k e) : (T k).toInt = (e : Int) := by
  cases d with
  | zero =>
    obtain ⟨h, -⟩ := h
    exact h
  | succ d =>
    obtain ⟨h, -⟩ := h
    exact h
theorem itT_lt {r T : Nat → Int32} {n d k e : Nat} (h : ItT r n T d k e) : k < e ∧ e ≤ n := it_lt d k e (itT_it d k e h)
theorem itT_leaf {r T : Nat → Int32} {n d k e : Nat} (h : Leaf r n k e) (hT : (T k).toInt = (e : Int)) : ItT r n T d k e := by
  cases d with
  | zero => exact ⟨hT, h⟩
  | succ d => exact ⟨hT, Or.inl h⟩
theorem sq_rg {I J : Nat → Nat → Prop} (hlt : ∀ k e, I k e → k < e) : ∀ (c k e : Nat), (∀ k' e', k ≤ k' → e' ≤ e → I k' e' → J k' e') → Sq I c k e → Sq J c k e := by
  intro c
  induction c with
  | zero => intro k e _ q; exact q
  | succ c ih =>
    intro k e h q
    obtain ⟨b, h1, h2⟩ := q
    have a := hlt k b h1
    have g := sq_le hlt c b e h2
    exact ⟨b, h k b (Nat.le_refl k) (by omega) h1, ih b e (fun k' e' u v w => h k' e' (by omega) v w) h2⟩
theorem itT_cg {r T T' : Nat → Int32} {n : Nat} : ∀ (d k e : Nat), (∀ j, k ≤ j → j < e → T' j = T j) → ItT r n T d k e → ItT r n T' d k e := by
  intro d
  induction d with
  | zero =>
    intro k e hT h
    have a := itT_lt h
    obtain ⟨u, v⟩ := h
    exact ⟨by rw [hT k (Nat.le_refl k) a.1]; exact u, v⟩
  | succ d ih =>
    intro k e hT h
    have a := itT_lt h
    obtain ⟨u, v⟩ := h
    refine ⟨by rw [hT k (Nat.le_refl k) a.1]; exact u, ?_⟩
    have hs : ∀ c s, k ≤ s → Sq (ItT r n T d) c s (e - 1) → Sq (ItT r n T' d) c s (e - 1) := fun c s hs q => sq_rg (fun k e w => (itT_lt w).1) c s (e - 1) (fun k' e' u v w => ih k' e' (fun j h1 h2 => hT j (by omega) (by omega)) w) q
    rcases v with h | ⟨⟨w, c, h⟩ | ⟨w, c, h⟩, h1⟩
    · exact Or.inl h
    · exact Or.inr ⟨Or.inl ⟨w, c, hs c _ (by omega) h⟩, h1⟩
    · exact Or.inr ⟨Or.inr ⟨w, c, hs c _ (by omega) h⟩, h1⟩
theorem sqT_cg {r T T' : Nat → Int32} {n d c s e : Nat} (hT : ∀ j, s ≤ j → j < e → T' j = T j) (q : Sq (ItT r n T d) c s e) : Sq (ItT r n T' d) c s e :=
  sq_rg (fun k e w => (itT_lt w).1) c s e (fun k' e' u v w => itT_cg d k' e' (fun j h1 h2 => hT j (by omega) (by omega)) w) q
/-- the items behind one another at each level of the brackets not closed yet -/
def Lv (r : Nat → Int32) (n : Nat) (T : Nat → Int32) : List Nat → Nat → Nat → Prop
  | [], d, k => ∃ c, Sq (ItT r n T d) c 0 k
  | b :: S, d, k => ∃ a c, ((((r b).toInt = 40 ∨ (r b).toInt = 123) ∧ a = b + 2) ∨ (((r b).toInt = 91 ∨ (r b).toInt = 60) ∧ a = b + 1)) ∧ Sq (ItT r n T d) c a k ∧ Lv r n T S (d + 1) b
theorem lv_cg {r T T' : Nat → Int32} {n : Nat} : ∀ (S : List Nat) (d k : Nat), (∀ j, j < k → T' j = T j) → Lv r n T S d k → Lv r n T' S d k := by
  intro S
  induction S with
  | nil =>
    intro d k hT h
    obtain ⟨c, h⟩ := h
    exact ⟨c, sqT_cg (fun j _ h2 => hT j h2) h⟩
  | cons b S ih =>
    intro d k hT h
    obtain ⟨a, c, h1, h2, h3⟩ := h
    have g := sq_le (fun k e w => (itT_lt w).1) c a k h2
    exact ⟨a, c, h1, sqT_cg (fun j _ q => hT j q) h2, ih (d + 1) b (fun j q => hT j (by omega)) h3⟩
theorem lv_snoc {r T : Nat → Int32} {n d k e : Nat} {S : List Nat} (h : Lv r n T S d k) (q : ItT r n T d k e) : Lv r n T S d e := by
  cases S with
  | nil =>
    obtain ⟨c, h⟩ := h
    exact ⟨c + 1, sq_snoc c 0 k e h q⟩
  | cons b S =>
    obtain ⟨a, c, h1, h2, h3⟩ := h
    exact ⟨a, c + 1, h1, sq_snoc c a k e h2 q, h3⟩
theorem lv_leaf {r T T' : Nat → Int32} {n d k e : Nat} {S : List Nat} (h : Lv r n T S d k) (hT : ∀ j, j ≠ k → T' j = T j) (hk : (T' k).toInt = (e : Int)) (hl : Leaf r n k e) : Lv r n T' S d e :=
  lv_snoc (lv_cg S d k (fun j q => hT j (by omega)) h) (itT_leaf hl hk)
theorem lv_open {r T : Nat → Int32} {n d k a : Nat} {S : List Nat} (h : Lv r n T S (d + 1) k) (ha : (((r k).toInt = 40 ∨ (r k).toInt = 123) ∧ a = k + 2) ∨ (((r k).toInt = 91 ∨ (r k).toInt = 60) ∧ a = k + 1)) : Lv r n T (k :: S) d a := ⟨a, 0, ha, rfl, h⟩
theorem lv_close {r T T' : Nat → Int32} {n d k b : Nat} {S : List Nat} (h : Lv r n T (b :: S) d k) (hT : ∀ j, j ≠ b → T' j = T j) (hb : (T' b).toInt = ((k + 1 : Nat) : Int)) (hk : k < n) (hc : (r k).toInt = 41 ∨ (r k).toInt = 93 ∨ (r k).toInt = 62 ∨ (r k).toInt = 125) : Lv r n T' S (d + 1) (k + 1) := by
  obtain ⟨a, c, h1, h2, h3⟩ := h
  have g := sq_le (fun k e w => (itT_lt w).1) c a k h2
  have q2 : Sq (ItT r n T' d) c a k := sqT_cg (fun j u v => hT j (by omega)) h2
  have q3 : Lv r n T' S (d + 1) b := lv_cg S (d + 1) b (fun j q => hT j (by omega)) h3
  refine lv_snoc q3 ⟨hb, Or.inr ⟨?_, by omega, by omega, by rw [Nat.add_sub_cancel]; exact hc⟩⟩
  rw [Nat.add_sub_cancel]
  rcases h1 with ⟨w, rfl⟩ | ⟨w, rfl⟩
  · exact Or.inl ⟨w, c, q2⟩
  · exact Or.inr ⟨w, c, q2⟩
-- the class's rows: a stack in a row of places
def Sk (fo : Nat → Int32) : List Nat → Prop
  | [] => True
  | b :: S => (fo S.length).toInt = (b : Int) ∧ Sk fo S
theorem sk_up {fo : Nat → Int32} {L : Nat} {x : Int32} : ∀ S : List Nat, S.length ≤ L → Sk fo S → Sk (upd fo L x) S := by
  intro S
  induction S with
  | nil => intro _ _; trivial
  | cons b S ih =>
    intro hL h
    have e : (b :: S).length = S.length + 1 := rfl
    obtain ⟨u, v⟩ := h
    exact ⟨by rw [ux_n (by omega)]; exact u, ih (by omega) v⟩
def RSt (r : Nat → Int32) (n k : Nat) (S : List Nat) (op lp : Int32) (fo T : Nat → Int32) : Prop := Sk fo S ∧ op.toInt = (S.length : Int) ∧ lp.toInt = (cnt r S : Int) ∧ S.length ≤ 8 ∧ Sn n S ∧ Lv r n T S (8 - S.length) k
/-- what a step of the class's reader leaves -/
def SP (r : Nat → Int32) (n k : Nat) (S : List Nat) (res op lp fa : Int32) (fo T : Nat → Int32) : Prop := (fa.toInt = -1 ∧ ∃ (e : Nat) (S' : List Nat), res.toInt = (e : Int) ∧ k < e ∧ e ≤ n ∧ Stz r n k S e S' ∧ RSt r n e S' op lp fo T) ∨ (∃ j : Nat, fa.toInt = (j : Int) ∧ Flt r n k S j)
theorem sp_o {r fo fo' T : Nat → Int32} {n k a : Nat} {S : List Nat} {op lp op' lp' fa' p0 res : Int32} (h : RSt r n k S op lp fo T) (hk : k < n) (hc : ((r k).toInt = 40 ∧ fg r n (k + 1) 48 55 ∧ a = k + 2) ∨ ((r k).toInt = 123 ∧ fg r n (k + 1) 49 57 ∧ a = k + 2) ∨ (((r k).toInt = 91 ∨ (r k).toInt = 60) ∧ a = k + 1)) (ho : op.toInt < 8) (hfa : fa'.toInt = -1) (hfo : fo' = upd fo op.toInt.toNat p0) (hp0 : p0.toInt = (k : Int)) (hop : op'.toInt = op.toInt + 1) (hl1 : (r k).toInt = 123 → lp'.toInt = lp.toInt + 1) (hl2 : (r k).toInt ≠ 123 → lp' = lp) (hr : res.toInt = (a : Int)) : SP r n k S res op' lp' fa' fo' T := by
  obtain ⟨h1, h2, h3, h4, h5, h6⟩ := h
  have hL : op.toInt.toNat = S.length := by omega
  have hle : (k :: S).length = S.length + 1 := rfl
  have h8 : 8 - S.length = 8 - (k :: S).length + 1 := by omega
  have han : a ≤ n := by
    unfold fg at hc
    omega
  refine Or.inl ⟨hfa, a, k :: S, hr, by omega, han, ⟨hk, ?_⟩, ?_, ?_, ?_, by omega, ?_, ?_⟩
  · rcases hc with ⟨a1, a2, a3⟩ | ⟨a1, a2, a3⟩ | ⟨a1, a2⟩
    · exact Or.inl ⟨a1, by omega, a2, a3, rfl⟩
    · exact Or.inr (Or.inl ⟨a1, by omega, a2, a3, rfl⟩)
    · exact Or.inr (Or.inr (Or.inl ⟨a1, by omega, a2, rfl⟩))
  · rw [hfo, hL]
    exact ⟨by rw [ux_i]; exact hp0, sk_up S (Nat.le_refl _) h1⟩
  · omega
  · by_cases w : (r k).toInt = 123
    · rw [hl1 w, cnt_p w, h3]; omega
    · rw [hl2 w, cnt_n w, h3]
  · intro b hb
    rcases List.mem_cons.mp hb with rfl | hb
    · exact hk
    · exact h5 b hb
  · rw [h8] at h6
    refine lv_open h6 ?_
    rcases hc with ⟨a1, a2, a3⟩ | ⟨a1, a2, a3⟩ | ⟨a1, a2⟩
    · exact Or.inl ⟨Or.inl a1, a3⟩
    · exact Or.inl ⟨Or.inr a1, a3⟩
    · exact Or.inr ⟨a1, a2⟩
theorem sp_f {r fo' T' : Nat → Int32} {n k j : Nat} {S : List Nat} {op' lp' fa' res : Int32} (h : Flt r n k S j) (hf : fa'.toInt = (j : Int)) : SP r n k S res op' lp' fa' fo' T' := Or.inr ⟨j, hf, h⟩
theorem sp_l {r fo T T' : Nat → Int32} {n k e : Nat} {S : List Nat} {op lp fa' res x : Int32} (h : RSt r n k S op lp fo T) (hk : k < n) (hl : Lf r n k e (cnt r S)) (hfa : fa'.toInt = -1) (hT : T' = upd T k x) (hx : x.toInt = (e : Int)) (hr : res.toInt = (e : Int)) : SP r n k S res op lp fa' fo T' := by
  obtain ⟨h1, h2, h3, h4, h5, h6⟩ := h
  have a := leaf_lt hl.1
  subst hT
  refine Or.inl ⟨hfa, e, S, hr, a.1, a.2, ⟨hk, Or.inr (Or.inr (Or.inr (Or.inr ⟨hl, rfl⟩)))⟩, h1, h2, h3, h4, h5, ?_⟩
  exact lv_leaf h6 (fun j q => ux_n q) (by rw [ux_i]; exact hx) hl.1
theorem sk_top {fo : Nat → Int32} {S : List Nat} {op : Int32} (h : Sk fo S) (ho : op.toInt = (S.length : Int)) (h0 : 0 < op.toInt) : ∃ (b : Nat) (S' : List Nat), S = b :: S' ∧ (fo (op.toInt.toNat - 1)).toInt = (b : Int) := by
  cases S with
  | nil =>
    have e : ([] : List Nat).length = 0 := rfl
    exfalso; omega
  | cons b S' =>
    have e : (b :: S').length = S'.length + 1 := rfl
    have e2 : op.toInt.toNat - 1 = S'.length := by omega
    obtain ⟨u, v⟩ := h
    exact ⟨b, S', rfl, by rw [e2]; exact u⟩
theorem sp_c {r fo T T' : Nat → Int32} {n k b : Nat} {S : List Nat} {op lp op' lp' fa' res x : Int32} (h : RSt r n k S op lp fo T) (hk : k < n) (h0 : 0 < op.toInt) (hb : (fo (op.toInt.toNat - 1)).toInt = (b : Int)) (hc : Cl r b k) (hfa : fa'.toInt = -1) (hop : op'.toInt = op.toInt - 1) (hl1 : (r b).toInt = 123 → lp'.toInt = lp.toInt - 1) (hl2 : (r b).toInt ≠ 123 → lp' = lp) (hT : T' = upd T b x) (hx : x.toInt = (k : Int) + 1) (hr : res.toInt = (k : Int) + 1) : SP r n k S res op' lp' fa' fo T' := by
  obtain ⟨h1, h2, h3, h4, h5, h6⟩ := h
  obtain ⟨b', S', rfl, hb'⟩ := sk_top h1 h2 h0
  obtain ⟨s1, s2⟩ := h1
  obtain rfl : b' = b := by omega
  have e : (b' :: S').length = S'.length + 1 := rfl
  have h8 : 8 - S'.length = 8 - (b' :: S').length + 1 := by omega
  subst hT
  refine Or.inl ⟨hfa, k + 1, S', by omega, by omega, by omega, ⟨hk, Or.inr (Or.inr (Or.inr (Or.inl ⟨b', rfl, hc, rfl⟩)))⟩, s2, by omega, ?_, by omega, fun x hx => h5 x (List.mem_cons_of_mem _ hx), ?_⟩
  · by_cases w : (r b').toInt = 123
    · rw [cnt_p w] at h3
      rw [hl1 w, h3]; omega
    · rw [cnt_n w] at h3
      rw [hl2 w, h3]
  · rw [h8]
    refine lv_close h6 (fun j q => ux_n q) (by rw [ux_i]; omega) hk ?_
    have := cl_c hc
    omega
/-- a closing bracket that closes nothing: the fault is at it -/
theorem flt_c {r fo T : Nat → Int32} {n k : Nat} {S : List Nat} {op lp : Int32} (h : RSt r n k S op lp fo T) (hk : k < n) (ho : Oth r k) (hn : op.toInt = 0 ∨ ∃ b : Nat, (fo (op.toInt.toNat - 1)).toInt = (b : Int) ∧ 0 < op.toInt ∧ ¬ Cl r b k) : Flt r n k S k := by
  obtain ⟨h1, h2, h3, h4, h5, h6⟩ := h
  refine ⟨hk, Or.inr (Or.inr (Or.inr (Or.inr (Or.inr (Or.inr ⟨ho, fun b S' hs w => ?_, rfl⟩)))))⟩
  rcases hn with hn | ⟨b', hb, h0, hc⟩
  · rw [hs] at h2
    have e : (b :: S').length = S'.length + 1 := rfl
    omega
  · subst hs
    have e : (b :: S').length = S'.length + 1 := rfl
    have e2 : op.toInt.toNat - 1 = S'.length := by omega
    obtain ⟨w1, -⟩ := h1
    rw [e2] at hb
    obtain rfl : b = b' := by omega
    exact hc w
theorem lf_p {r : Nat → Int32} {n k e m : Nat} (h1 : (r k).toInt = 112) (h2 : fg r n (k + 1) 48 55) (h3 : fg r n (k + 2) 48 55) (hl : Leaf r n k e) : Lf r n k e m := ⟨hl, fun _ => ⟨h2, h3⟩, fun w => absurd h1 (by omega), fun w => absurd h1 (by omega)⟩
theorem lf_n {r : Nat → Int32} {n k m : Nat} (h1 : (r k).toInt = 110 ∨ (r k).toInt = 97) (h2 : fg r n (k + 1) 48 55) : Lf r n k (k + 2) m := ⟨leaf_n h1 (by unfold fg at h2; omega), fun w => absurd h1 (by omega), fun _ => h2, fun w => absurd h1 (by omega)⟩
theorem lf_x {r : Nat → Int32} {n k m : Nat} (h1 : (r k).toInt = 120 ∨ (((r k).toInt = 98 ∨ (r k).toInt = 99) ∧ 0 < m)) (hk : k < n) : Lf r n k (k + 1) m := ⟨leaf_x (by omega) (by omega), fun w => absurd h1 (by omega), fun w => absurd h1 (by omega), fun w => by omega⟩
-- what the methods of the class's reader answer
def OP (r : Nat → Int32) (k : Nat) (op lp : Int32) (fo : Nat → Int32) (p0 res fa op2 lp2 fa2 : Int32) (fo2 : Nat → Int32) : Prop := res.toInt = (k : Int) + 1 ∧ ((8 ≤ op.toInt ∧ fa2 = p0 ∧ fo2 = fo ∧ op2 = op ∧ lp2 = lp) ∨ (op.toInt < 8 ∧ fa2 = fa ∧ fo2 = upd fo op.toInt.toNat p0 ∧ op2.toInt = op.toInt + 1 ∧ ((r k).toInt = 123 → lp2.toInt = lp.toInt + 1) ∧ ((r k).toInt ≠ 123 → lp2 = lp)))
def OW (r : Nat → Int32) (n k : Nat) (op lp : Int32) (fo : Nat → Int32) (p0 : Int32) (lo hi : Int) (res op2 lp2 fa2 : Int32) (fo2 : Nat → Int32) : Prop := (8 ≤ op.toInt ∧ fa2.toInt = (k : Int)) ∨ (op.toInt < 8 ∧ ¬ fg r n (k + 1) lo hi ∧ fa2.toInt = (k : Int) + 1) ∨ (op.toInt < 8 ∧ fg r n (k + 1) lo hi ∧ fa2.toInt = -1 ∧ fo2 = upd fo op.toInt.toNat p0 ∧ op2.toInt = op.toInt + 1 ∧ ((r k).toInt = 123 → lp2.toInt = lp.toInt + 1) ∧ ((r k).toInt ≠ 123 → lp2 = lp) ∧ res.toInt = (k : Int) + 2)
def Tp (fo : Nat → Int32) (op : Int32) (n bb : Nat) : Prop := op.toInt = 0 ∨ (0 < op.toInt ∧ (fo (op.toInt.toNat - 1)).toInt = (bb : Int) ∧ bb < n)
def CLp (r : Nat → Int32) (k bb : Nat) (op lp fa p1 res op2 lp2 fa2 : Int32) (T T2 : Nat → Int32) : Prop := (fa2 = fa ∧ 0 < op.toInt ∧ (r bb).toInt = p1.toInt ∧ op2.toInt = op.toInt - 1 ∧ (p1.toInt = 123 → lp2.toInt = lp.toInt - 1) ∧ (p1.toInt ≠ 123 → lp2 = lp) ∧ T2 = upd T bb res ∧ res.toInt = (k : Int) + 1) ∨ ((op.toInt = 0 ∨ (0 < op.toInt ∧ (r bb).toInt ≠ p1.toInt)) ∧ fa2.toInt = (k : Int))
def PYp (r : Nat → Int32) (n k : Nat) (res fa2 : Int32) (T T2 : Nat → Int32) : Prop := (fa2.toInt = -1 ∧ ∃ e : Nat, res.toInt = (e : Int) ∧ T2 = upd T k res ∧ fg r n (k + 1) 48 55 ∧ fg r n (k + 2) 48 55 ∧ Leaf r n k e) ∨ ∃ j : Nat, fa2.toInt = (j : Int) ∧ Fp r n k j
def BLp (r : Nat → Int32) (n k : Nat) (res fa2 : Int32) (T T2 : Nat → Int32) : Prop := (fa2.toInt = -1 ∧ fg r n (k + 1) 48 55 ∧ T2 = upd T k res ∧ res.toInt = (k : Int) + 2) ∨ (¬ fg r n (k + 1) 48 55 ∧ fa2.toInt = (k : Int) + 1)
theorem rst_top {r fo T : Nat → Int32} {n k : Nat} {S : List Nat} {op lp : Int32} (h : RSt r n k S op lp fo T) : ∃ bb : Nat, Tp fo op n bb ∧ (0 < op.toInt → (r bb).toInt = 123 → 1 ≤ lp.toInt) := by
  obtain ⟨h1, h2, h3, h4, h5, h6⟩ := h
  by_cases h0 : 0 < op.toInt
  · obtain ⟨b, S', rfl, hb⟩ := sk_top h1 h2 h0
    refine ⟨b, Or.inr ⟨h0, hb, h5 b List.mem_cons_self⟩, fun _ w => ?_⟩
    rw [cnt_p w] at h3
    omega
  · exact ⟨0, Or.inl (by omega), fun w => absurd w h0⟩
theorem sp_of {r fo T fo2 : Nat → Int32} {n k : Nat} {S : List Nat} {op lp p0 res op2 lp2 fa2 : Int32} {lo hi : Int} (h : RSt r n k S op lp fo T) (hk : k < n) (hc : ((r k).toInt = 40 ∧ lo = 48 ∧ hi = 55) ∨ ((r k).toInt = 123 ∧ lo = 49 ∧ hi = 57)) (hp0 : p0.toInt = (k : Int)) (w : OW r n k op lp fo p0 lo hi res op2 lp2 fa2 fo2) : SP r n k S res op2 lp2 fa2 fo2 T := by
  obtain ⟨h1, h2, h3, h4, h5, h6⟩ := id h
  rcases w with ⟨w1, w2⟩ | ⟨w1, w2, w3⟩ | ⟨w1, w2, w3, w4, w5, w6, w7, w8⟩
  · refine sp_f (j := k) ⟨hk, ?_⟩ w2
    rcases hc with ⟨c1, c2, c3⟩ | ⟨c1, c2, c3⟩
    · exact Or.inl ⟨c1, Or.inl ⟨by omega, rfl⟩⟩
    · exact Or.inr (Or.inl ⟨c1, Or.inl ⟨by omega, rfl⟩⟩)
  · refine sp_f (j := k + 1) ⟨hk, ?_⟩ (by omega)
    rcases hc with ⟨c1, rfl, rfl⟩ | ⟨c1, rfl, rfl⟩
    · exact Or.inl ⟨c1, Or.inr ⟨by omega, w2, rfl⟩⟩
    · exact Or.inr (Or.inl ⟨c1, Or.inr ⟨by omega, w2, rfl⟩⟩)
  · refine sp_o (a := k + 2) h hk ?_ w1 w3 w4 hp0 w5 w6 w7 (by omega)
    rcases hc with ⟨c1, rfl, rfl⟩ | ⟨c1, rfl, rfl⟩
    · exact Or.inl ⟨c1, w2, rfl⟩
    · exact Or.inr (Or.inl ⟨c1, w2, rfl⟩)
theorem sp_op {r fo T fo2 : Nat → Int32} {n k : Nat} {S : List Nat} {op lp p0 res fa op2 lp2 fa2 : Int32} (h : RSt r n k S op lp fo T) (hk : k < n) (hc : (r k).toInt = 91 ∨ (r k).toInt = 60) (hp0 : p0.toInt = (k : Int)) (hfa : fa.toInt = -1) (w : OP r k op lp fo p0 res fa op2 lp2 fa2 fo2) : SP r n k S res op2 lp2 fa2 fo2 T := by
  obtain ⟨h1, h2, h3, h4, h5, h6⟩ := id h
  obtain ⟨w0, w⟩ := w
  rcases w with ⟨w1, w2, w3, w4, w5⟩ | ⟨w1, w2, w3, w4, w5, w6⟩
  · exact sp_f (j := k) ⟨hk, Or.inr (Or.inr (Or.inl ⟨hc, by omega, rfl⟩))⟩ (by rw [w2]; exact hp0)
  · exact sp_o (a := k + 1) h hk (Or.inr (Or.inr ⟨hc, rfl⟩)) w1 (by rw [w2]; exact hfa) w3 hp0 w4 w5 w6 (by omega)
theorem sp_cl {r fo T T2 : Nat → Int32} {n k bb : Nat} {S : List Nat} {op lp p1 res fa op2 lp2 fa2 : Int32} (h : RSt r n k S op lp fo T) (hk : k < n) (hc : (p1.toInt = 40 ∧ (r k).toInt = 41) ∨ (p1.toInt = 123 ∧ (r k).toInt = 125) ∨ (p1.toInt = 91 ∧ (r k).toInt = 93) ∨ (p1.toInt = 60 ∧ (r k).toInt = 62)) (hfa : fa.toInt = -1) (ht : Tp fo op n bb) (w : CLp r k bb op lp fa p1 res op2 lp2 fa2 T T2) : SP r n k S res op2 lp2 fa2 fo T2 := by
  rcases w with ⟨w1, w2, w3, w4, w5, w6, w7, w8⟩ | ⟨w1, w2⟩
  · have hcl : Cl r bb k := by
      unfold Cl
      omega
    rcases ht with ht | ⟨t1, t2, t3⟩
    · exfalso; omega
    · exact sp_c h hk w2 t2 hcl (by rw [w1]; exact hfa) w4 (fun q => w5 (by omega)) (fun q => w6 (by omega)) w7 w8 w8
  · refine sp_f (j := k) (flt_c h hk (by unfold Oth; omega) ?_) w2
    rcases w1 with w1 | ⟨w1, w3⟩
    · exact Or.inl w1
    · rcases ht with ht | ⟨t1, t2, t3⟩
      · exact Or.inl ht
      · refine Or.inr ⟨bb, t2, t1, fun q => ?_⟩
        unfold Cl at q
        omega
theorem sp_py {r fo T T2 : Nat → Int32} {n k : Nat} {S : List Nat} {op lp res fa2 : Int32} (h : RSt r n k S op lp fo T) (hk : k < n) (hc : (r k).toInt = 112) (w : PYp r n k res fa2 T T2) : SP r n k S res op lp fa2 fo T2 := by
  rcases w with ⟨w1, e, w2, w3, w4, w5, w6⟩ | ⟨j, w1, w2⟩
  · exact sp_l h hk (lf_p hc w4 w5 w6) w1 w3 w2 w2
  · exact sp_f ⟨hk, Or.inr (Or.inr (Or.inr (Or.inl ⟨hc, w2⟩)))⟩ w1
theorem sp_bl {r fo T T2 : Nat → Int32} {n k : Nat} {S : List Nat} {op lp res fa2 : Int32} (h : RSt r n k S op lp fo T) (hk : k < n) (hc : (r k).toInt = 110 ∨ (r k).toInt = 97) (w : BLp r n k res fa2 T T2) : SP r n k S res op lp fa2 fo T2 := by
  rcases w with ⟨w1, w2, w3, w4⟩ | ⟨w1, w2⟩
  · exact sp_l h hk (lf_n hc w2) w1 w3 (by omega) (by omega)
  · exact sp_f (j := k + 1) ⟨hk, Or.inr (Or.inr (Or.inr (Or.inr (Or.inl ⟨hc, w1, rfl⟩))))⟩ (by omega)
/-- the class's reader at its loop's head -/
def FV (r : Nat → Int32) (n : Nat) (x op lp fa : Int32) (fo T : Nat → Int32) : Prop := (fa.toInt = -1 ∧ ∃ (k : Nat) (S : List Nat), x.toInt = (k : Int) ∧ k ≤ n ∧ RSt r n k S op lp fo T ∧ ∀ z, Fi r n k S z → Fi r n 0 [] z) ∨ (0 ≤ fa.toInt ∧ fa.toInt ≤ (n : Int) + 3 ∧ Fi r n 0 [] fa.toInt)
theorem fv_0 {r fo T : Nat → Int32} {n : Nat} {x op lp fa : Int32} (hx : x.toInt = 0) (ho : op.toInt = 0) (hl : lp.toInt = 0) (hf : fa.toInt = -1) : FV r n x op lp fa fo T := Or.inl ⟨hf, 0, [], hx, Nat.zero_le n, ⟨trivial, ho, hl, Nat.zero_le 8, fun b hb => absurd hb List.not_mem_nil, 0, rfl⟩, fun _ q => q⟩
theorem flt_le {r : Nat → Int32} {n k j : Nat} {S : List Nat} (h : Flt r n k S j) : j ≤ n + 2 := by
  obtain ⟨h0, h⟩ := h
  rcases h with ⟨a1, a2⟩ | ⟨a1, a2⟩ | ⟨a1, a2, a3⟩ | ⟨a1, a2⟩ | ⟨a1, a2, a3⟩ | ⟨a1, a2, a3⟩ | ⟨a1, a2, a3⟩
  · omega
  · omega
  · omega
  · rcases a2 with ⟨b1, b2⟩ | ⟨b1, b2, b3⟩ | ⟨b1, b2, b3, b4⟩ <;> omega
  · omega
  · omega
  · omega
theorem fv_s {r fo2 T2 : Nat → Int32} {n k : Nat} {S : List Nat} {res op2 lp2 fa2 : Int32} (hfi : ∀ z, Fi r n k S z → Fi r n 0 [] z) (w : SP r n k S res op2 lp2 fa2 fo2 T2) : FV r n res op2 lp2 fa2 fo2 T2 := by
  rcases w with ⟨w1, e, S', w2, w3, w4, w5, w6⟩ | ⟨j, w1, w2⟩
  · exact Or.inl ⟨w1, e, S', w2, w4, w6, fun z q => hfi z (fi_st w5 q)⟩
  · have w3 := flt_le w2
    exact Or.inr ⟨by omega, by omega, by rw [w1]; exact hfi _ (fi_fl w2)⟩
theorem fv_k {r fo T : Nat → Int32} {n : Nat} {x op lp fa : Int32} (h : FV r n x op lp fa fo T) (hf : fa.toInt = -1) : ∃ (k : Nat) (S : List Nat), x.toInt = (k : Int) ∧ k ≤ n ∧ RSt r n k S op lp fo T ∧ ∀ z, Fi r n k S z → Fi r n 0 [] z := by
  rcases h with ⟨-, h⟩ | ⟨h, -⟩
  · exact h
  · exfalso; omega
/-- what the class's reader answers -/
def FR (r : Nat → Int32) (n : Nat) (res : Int32) (T : Nat → Int32) : Prop := Fi r n 0 [] res.toInt ∧ (res.toInt = -1 → ∃ c, Sq (ItT r n T 8) c 0 n) ∧ -1 ≤ res.toInt ∧ res.toInt ≤ (n : Int) + 3
theorem fr_f {r fo T : Nat → Int32} {n : Nat} {x op lp fa : Int32} (h : FV r n x op lp fa fo T) (hf : fa.toInt ≠ -1) : FR r n fa T := by
  rcases h with ⟨h, -⟩ | ⟨h1, h2, h3⟩
  · exact absurd h hf
  · exact ⟨h3, fun q => absurd q hf, by omega, by omega⟩
theorem fr_e {r fo T : Nat → Int32} {n : Nat} {x op lp fa ps : Int32} (h : FV r n x op lp fa fo T) (hf : fa.toInt = -1) (hp : ps.toInt = (n : Int)) (hx : ps.toInt ≤ x.toInt) (ho : 0 < op.toInt ∨ ps.toInt = 0) : FR r n ps T := by
  obtain ⟨k, S, h1, h2, ⟨s1, s2, s3⟩, h4⟩ := fv_k h hf
  refine ⟨?_, fun q => by omega, by omega, by omega⟩
  rw [hp]
  refine h4 _ (fi_en (by omega) ?_)
  rcases ho with ho | ho
  · refine Or.inl (fun q => ?_)
    rw [q] at s2
    have e : ([] : List Nat).length = 0 := rfl
    omega
  · exact Or.inr (by omega)
theorem fr_o {r fo T : Nat → Int32} {n : Nat} {x op lp fa ps : Int32} (h : FV r n x op lp fa fo T) (hf : fa.toInt = -1) (hp : ps.toInt = (n : Int)) (hx : ps.toInt ≤ x.toInt) (ho : op.toInt ≤ 0) (hn : ps.toInt ≠ 0) : FR r n fa T := by
  obtain ⟨k, S, h1, h2, ⟨s1, s2, s3, s4, s5, s6⟩, h4⟩ := fv_k h hf
  cases S with
  | nil =>
    obtain rfl : k = n := by omega
    refine ⟨?_, fun _ => s6, by omega, by omega⟩
    rw [hf]
    exact h4 _ (fi_ok (Nat.le_refl k) (by omega))
  | cons b S =>
    have e : (b :: S).length = S.length + 1 := rfl
    exfalso; omega
/-- a program comes, as both say it -/
def PGp (f : Nat → Int32) (tn pcn res tn2 pcn2 : Int32) : Prop := (4 ≤ pcn.toInt ∧ res.toInt = -4 ∧ tn2.toInt = tn.toInt ∧ pcn2.toInt = pcn.toInt) ∨ (pcn.toInt < 4 ∧ tn2.toInt = 0 ∧ ∃ x : Int, Fi f tn.toInt.toNat 0 [] x ∧ ((x ≠ -1 ∧ res.toInt = -100 - x ∧ pcn2.toInt = pcn.toInt) ∨ (x = -1 ∧ res.toInt = pcn.toInt ∧ pcn2.toInt = pcn.toInt + 1)))
theorem pg_eq {f : Nat → Int32} {t p r t2 p2 t' p' r' t2' p2' : Int32} (h : PGp f t p r t2 p2) (g : PGp f t' p' r' t2' p2') (ht : t.toInt = t'.toInt) (hp : p.toInt = p'.toInt) : r.toInt = r'.toInt ∧ t2.toInt = t2'.toInt ∧ p2.toInt = p2'.toInt := by
  rcases h with ⟨a1, a2, a3, a4⟩ | ⟨a1, a2, x, a3, a4⟩
  · rcases g with ⟨b1, b2, b3, b4⟩ | ⟨b1, b2, y, b3, b4⟩
    · omega
    · exfalso; omega
  · rcases g with ⟨b1, b2, b3, b4⟩ | ⟨b1, b2, y, b3, b4⟩
    · exfalso; omega
    · rw [ht] at a3
      obtain rfl := fi_det a3 b3
      omega
/-- bytes that come to the tape -/
def pfd (f : Nat → Int32) (t : Nat) (v : Nat → Int32) : Nat → Nat → Int32
  | 0 => f
  | j + 1 => upd (pfd f t v j) (t + j) (v j)
def sel (a b c d e : Int32) : Nat → Int32
  | 0 => a
  | 1 => b
  | 2 => c
  | 3 => d
  | _ => e
theorem pfd_s {f g v : Nat → Int32} {t i j : Nat} {x : Int32} (hg : g = pfd f t v j) (hi : i = t + j) (hx : x = v j) : upd g i x = pfd f t v (j + 1) := by
  subst hg hi hx
  rfl
def FEp (f : Nat → Int32) (tn p0 p1 p2 p3 p4 p5 res tn2 : Int32) (f2 : Nat → Int32) : Prop := (res.toInt = -2 ∧ ¬ (1 ≤ p0.toInt ∧ p0.toInt ≤ 5 ∧ (0 ≤ p1.toInt ∧ p1.toInt ≤ 255) ∧ (0 ≤ p2.toInt ∧ p2.toInt ≤ 255) ∧ (0 ≤ p3.toInt ∧ p3.toInt ≤ 255) ∧ (0 ≤ p4.toInt ∧ p4.toInt ≤ 255) ∧ (0 ≤ p5.toInt ∧ p5.toInt ≤ 255)) ∧ tn2.toInt = tn.toInt ∧ f2 = f) ∨ ((1 ≤ p0.toInt ∧ p0.toInt ≤ 5 ∧ (0 ≤ p1.toInt ∧ p1.toInt ≤ 255) ∧ (0 ≤ p2.toInt ∧ p2.toInt ≤ 255) ∧ (0 ≤ p3.toInt ∧ p3.toInt ≤ 255) ∧ (0 ≤ p4.toInt ∧ p4.toInt ≤ 255) ∧ (0 ≤ p5.toInt ∧ p5.toInt ≤ 255)) ∧ ((80 < tn.toInt + p0.toInt ∧ res.toInt = -4 ∧ tn2.toInt = tn.toInt ∧ f2 = f) ∨ (tn.toInt + p0.toInt ≤ 80 ∧ res.toInt = tn.toInt + p0.toInt ∧ tn2.toInt = tn.toInt + p0.toInt ∧ f2 = pfd f tn.toInt.toNat (sel p1 p2 p3 p4 p5) p0.toInt.toNat)))
theorem fe_eq {f g f2 g2 : Nat → Int32} {t t' p0 p1 p2 p3 p4 p5 r r' t2 t2' : Int32} (h : FEp f t p0 p1 p2 p3 p4 p5 r t2 f2) (g' : FEp g t' p0 p1 p2 p3 p4 p5 r' t2' g2) (hf : f = g) (ht : t.toInt = t'.toInt) : r.toInt = r'.toInt ∧ t2.toInt = t2'.toInt ∧ f2 = g2 := by
  subst hf
  rcases h with ⟨a1, a2, a3, a4⟩ | ⟨a1, ⟨a2, a3, a4, a5⟩ | ⟨a2, a3, a4, a5⟩⟩
  · rcases g' with ⟨b1, b2, b3, b4⟩ | ⟨b1, -⟩
    · exact ⟨by omega, by omega, by rw [a4, b4]⟩
    · exact absurd b1 a2
  · rcases g' with ⟨b1, b2, b3, b4⟩ | ⟨b1, ⟨b2, b3, b4, b5⟩ | ⟨b2, b3, b4, b5⟩⟩
    · exact absurd a1 b2
    · exact ⟨by omega, by omega, by rw [a5, b5]⟩
    · exfalso; omega
  · rcases g' with ⟨b1, b2, b3, b4⟩ | ⟨b1, ⟨b2, b3, b4, b5⟩ | ⟨b2, b3, b4, b5⟩⟩
    · exact absurd a1 b2
    · exfalso; omega
    · exact ⟨by omega, by omega, by rw [a5, b5, ht]⟩
-- the reference's reader
theorem st_open {r : Nat → Int32} {n k a : Nat} {S : List Nat} (hk : k < n) (hS : S.length < 8) (ha : ((r k).toInt = 40 ∧ fg r n (k + 1) 48 55 ∧ a = k + 2) ∨ ((r k).toInt = 123 ∧ fg r n (k + 1) 49 57 ∧ a = k + 2) ∨ (((r k).toInt = 91 ∨ (r k).toInt = 60) ∧ a = k + 1)) : Stz r n k S a (k :: S) := by
  refine ⟨hk, ?_⟩
  rcases ha with ⟨a1, a2, a3⟩ | ⟨a1, a2, a3⟩ | ⟨a1, a2⟩
  · exact Or.inl ⟨a1, hS, a2, a3, rfl⟩
  · exact Or.inr (Or.inl ⟨a1, hS, a2, a3, rfl⟩)
  · exact Or.inr (Or.inr (Or.inl ⟨a1, hS, a2, rfl⟩))
theorem st_leaf {r : Nat → Int32} {n k e : Nat} {S : List Nat} (hk : k < n) (h : Lf r n k e (cnt r S)) : Stz r n k S e S := ⟨hk, Or.inr (Or.inr (Or.inr (Or.inr ⟨h, rfl⟩)))⟩
theorem st_close {r : Nat → Int32} {n k b : Nat} {S : List Nat} (hk : k < n) (h : Cl r b k) : Stz r n k (b :: S) (k + 1) S := ⟨hk, Or.inr (Or.inr (Or.inr (Or.inl ⟨b, rfl, h, rfl⟩)))⟩
def P3 (r : Nat → Int32) (n : Nat) (is hq : Int32) : Prop := (is.toInt = 0 ∧ ∃ j : Nat, hq.toInt = (j : Int) ∧ Fi r n 0 [] (j : Int)) ∨ (is.toInt ≠ 0 ∧ ∃ j : Nat, hq.toInt = (j : Int) ∧ 0 < j ∧ ∀ x, Fi r n j [] x → Fi r n 0 [] x)
theorem sp_y {r fo T : Nat → Int32} {n k : Nat} {S : List Nat} {res op lp fa y : Int32} (w : SP r n k S res op lp fa fo T) (hf : fa.toInt = -1) (hy : y.toInt ≤ (k : Int) + 1) : y.toInt ≤ res.toInt := by
  rcases w with ⟨w1, e, S', w2, w3, w4⟩ | ⟨j, w1, w2⟩
  · omega
  · exfalso; omega
/-- nothing goes on with the byte at k -/
theorem ti_none {r : Nat → Int32} {n k : Nat} {S : List Nat} (hne : k < n ∨ (n = k ∧ (0 < S.length ∨ n = 0))) (hcl : ∀ (b : Nat) (S2 : List Nat), S = b :: S2 → k < n → ¬ Cl r b k) (hc : k < n → ((r k).toInt ≠ 40 ∧ (r k).toInt ≠ 123 ∧ (r k).toInt ≠ 91 ∧ (r k).toInt ≠ 60 ∧ (r k).toInt ≠ 112 ∧ (r k).toInt ≠ 110 ∧ (r k).toInt ≠ 97 ∧ (r k).toInt ≠ 120 ∧ (((r k).toInt = 98 ∨ (r k).toInt = 99) → cnt r S = 0))) : Fi r n k S (k : Int) := by
  rcases hne with h | ⟨h, g⟩
  · have a := hc h
    by_cases w : (r k).toInt = 98 ∨ (r k).toInt = 99
    · exact fi_fl ⟨h, Or.inr (Or.inr (Or.inr (Or.inr (Or.inr (Or.inl ⟨w, by omega, rfl⟩)))))⟩
    · exact fi_fl ⟨h, Or.inr (Or.inr (Or.inr (Or.inr (Or.inr (Or.inr ⟨by unfold Oth; omega, fun b S2 e => hcl b S2 e h, rfl⟩)))))⟩
  · subst h
    refine fi_en (Nat.le_refl _) ?_
    rcases g with g | g
    · refine Or.inl (fun q => ?_)
      rw [q] at g
      exact absurd g (Nat.lt_irrefl 0)
    · exact Or.inr g
theorem p3_f {r : Nat → Int32} {n : Nat} {is hq : Int32} (h : P3 r n is hq) (hi : is.toInt = 0) : Fi r n 0 [] hq.toInt ∧ 0 ≤ hq.toInt := by
  rcases h with ⟨-, j, h1, h2⟩ | ⟨h, -⟩
  · exact ⟨by rw [h1]; exact h2, by omega⟩
  · exact absurd hi h
theorem p3_s {r : Nat → Int32} {n : Nat} {is hq : Int32} (h : P3 r n is hq) (hi : is.toInt ≠ 0) : ∃ j : Nat, hq.toInt = (j : Int) ∧ 0 < j ∧ ∀ x, Fi r n j [] x → Fi r n 0 [] x := by
  rcases h with ⟨h, -⟩ | ⟨-, h⟩
  · exact absurd h hi
  · exact h
theorem fm_le {r : Nat → Int32} {n : Nat} : ∀ (m k : Nat) (S : List Nat) (x : Int), Fm r n m k S x → -1 ≤ x ∧ x ≤ (n : Int) + 2 := by
  intro m
  induction m with
  | zero =>
    intro k S x h
    rcases h with ⟨h1, ⟨a1, a2⟩ | ⟨a1, a2, a3⟩⟩ | ⟨j, h1, h2⟩
    · omega
    · omega
    · have := flt_le h1
      omega
  | succ m ih =>
    intro k S x h
    obtain ⟨e, S', -, h⟩ := h
    exact ih e S' x h
theorem fi_le {r : Nat → Int32} {n k : Nat} {S : List Nat} {x : Int} (h : Fi r n k S x) : -1 ≤ x ∧ x ≤ (n : Int) + 2 := by
  obtain ⟨m, h⟩ := h
  exact fm_le m k S x h
