-- the reference's state: what a run leaves as it was, and what its texts are
def fz (j : Nat) : Prop := j < 8 ∨ (16 ≤ j ∧ j < 32) ∨ 60 ≤ j
def Fz (f g : Nat → Int32) : Prop := ∀ j, fz j → f j = g j
theorem fz_rf (f : Nat → Int32) : Fz f f := fun _ _ => rfl
theorem fz_tr {f g h : Nat → Int32} (a : Fz f g) (b : Fz g h) : Fz f h := fun j q => (a j q).trans (b j q)
theorem fz_up {f g : Nat → Int32} {i x : Int32} (h : Fz f g) (hi : (8 ≤ i.toInt ∧ i.toInt < 16) ∨ (32 ≤ i.toInt ∧ i.toInt < 60)) : Fz (upd f i.toNatClampNeg x) g := by
  intro j q
  have e := i_natZ (x := i) (by omega)
  unfold fz at q
  unfold upd
  split
  · exfalso; omega
  · exact h j q
theorem fz60 {f g : Nat → Int32} (h : Fz f g) : (f 60).toInt = (g 60).toInt := by rw [h 60 (Or.inr (Or.inr (Nat.le_refl 60)))]
def ow (f : Nat → Int32) : Prop := ∀ j : Nat, 61 ≤ j → j < 125 → 0 ≤ (f j).toInt ∧ (f j).toInt ≤ 99999
def ms (f : Nat → Int32) : Prop := 0 ≤ (f 60).toInt ∧ (f 60).toInt ≤ 8 ∧ ow f
theorem ms_fz {f g : Nat → Int32} (h : Fz f g) (m : ms g) : ms f := by
  obtain ⟨a, b, c⟩ := m
  have e := fz60 h
  refine ⟨by omega, by omega, fun j h1 h2 => ?_⟩
  rw [h j (Or.inr (Or.inr (by omega)))]
  exact c j h1 h2
theorem ms_up {f : Nat → Int32} {i x : Int32} (m : ms f) (h0 : 0 ≤ i.toInt) (h1 : i.toInt < 60) : ms (upd f i.toNatClampNeg x) := by
  obtain ⟨a, b, c⟩ := m
  have e := i_natZ h0
  have q : ∀ j : Nat, 60 ≤ j → upd f i.toNatClampNeg x j = f j := by
    intro j hj
    unfold upd
    split
    · exfalso; omega
    · rfl
  refine ⟨by rw [q 60 (Nat.le_refl 60)]; exact a, by rw [q 60 (Nat.le_refl 60)]; exact b, fun j h1 h2 => ?_⟩
  rw [q j (by omega)]
  exact c j h1 h2
theorem up_60 {f : Nat → Int32} {i x : Int32} (h0 : 0 ≤ i.toInt) (h1 : i.toInt ≠ 60) : (upd f i.toNatClampNeg x 60).toInt = (f 60).toInt := by
  have e := i_natZ h0
  unfold upd
  split
  · exfalso; omega
  · rfl
theorem ms_60 {f : Nat → Int32} {i x : Int32} (m : ms f) (h : i.toInt = 60) (h0 : 0 ≤ x.toInt) (h1 : x.toInt ≤ 8) : ms (upd f i.toNatClampNeg x) := by
  obtain ⟨a, b, c⟩ := m
  have e : i.toNatClampNeg = 60 := i_nat h
  have q : upd f i.toNatClampNeg x 60 = x := by
    unfold upd
    split
    · rfl
    · exfalso; omega
  refine ⟨by rw [q]; exact h0, by rw [q]; exact h1, fun j h2 h3 => ?_⟩
  unfold upd
  split
  · exfalso; omega
  · exact c j h2 h3
theorem ms_upo {f : Nat → Int32} {i x : Int32} (m : ms f) (h : 61 ≤ i.toInt) (h0 : 0 ≤ x.toInt) (h1 : x.toInt ≤ 99999) : ms (upd f i.toNatClampNeg x) := by
  obtain ⟨a, b, c⟩ := m
  have e := i_natZ (x := i) (by omega)
  have q : upd f i.toNatClampNeg x 60 = f 60 := by
    unfold upd
    split
    · exfalso; omega
    · rfl
  refine ⟨by rw [q]; exact a, by rw [q]; exact b, fun j h2 h3 => ?_⟩
  unfold upd
  split
  · exact ⟨h0, h1⟩
  · exact c j h2 h3
theorem ms_cp {f g : Nat → Int32} (m : ms f) (h : ∀ j : Nat, j < 125 → g j = f j) : ms g := by
  obtain ⟨a, b, c⟩ := m
  refine ⟨by rw [h 60 (by omega)]; exact a, by rw [h 60 (by omega)]; exact b, fun j h1 h2 => ?_⟩
  rw [h j h2]
  exact c j h1 h2
theorem cpyN {f g : Nat → Int32} {n : Int32} {N : Nat} (hn : n.toNatClampNeg = N) (j : Nat) (hj : j < N) : va_cpy f g (0 : Int32).toNatClampNeg (0 : Int32).toNatClampNeg n.toNatClampNeg j = f j := by
  rw [hn]
  show va_cpy f g 0 0 N j = f j
  refine (pk_cpy_in (Nat.zero_le j) (show j < 0 + N by omega)).trans ?_
  rw [Nat.sub_zero, Nat.zero_add]
def tr (f : Nat → Int32) (p k : Nat) : Int32 := f (80 * p + k)
def isF (c : Int32) : Prop := 48 ≤ c.toInt ∧ c.toInt ≤ 57
def Leaf (r : Nat → Int32) (n k e : Nat) : Prop :=
  e ≤ n ∧ (((r k).toInt = 112 ∧ k + 4 ≤ e ∧ e ≤ k + 7 ∧ (∀ j, k + 4 ≤ j → j < e → isF (r j)) ∧ (e = n ∨ e = k + 7 ∨ ¬ isF (r e)))
    ∨ (((r k).toInt = 110 ∨ (r k).toInt = 97) ∧ e = k + 2)
    ∨ (((r k).toInt = 120 ∨ (r k).toInt = 98 ∨ (r k).toInt = 99) ∧ e = k + 1))
def Sq (I : Nat → Nat → Prop) : Nat → Nat → Nat → Prop
  | 0, k, e => k = e
  | c + 1, k, e => ∃ b, I k b ∧ Sq I c b e
def It (r : Nat → Int32) (n : Nat) : Nat → Nat → Nat → Prop
  | 0, k, e => Leaf r n k e
  | d + 1, k, e => Leaf r n k e ∨ ((((r k).toInt = 40 ∨ (r k).toInt = 123) ∧ ∃ c, Sq (It r n d) c (k + 2) (e - 1)) ∨ (((r k).toInt = 91 ∨ (r k).toInt = 60) ∧ ∃ c, Sq (It r n d) c (k + 1) (e - 1))) ∧ 1 ≤ e ∧ e ≤ n ∧ ((r (e - 1)).toInt = 41 ∨ (r (e - 1)).toInt = 93 ∨ (r (e - 1)).toInt = 62 ∨ (r (e - 1)).toInt = 125)
theorem sq_le {I : Nat → Nat → Prop} (h : ∀ k e, I k e → k < e) : ∀ (c k e : Nat), Sq I c k e → k + c ≤ e := by
  intro c
  induction c with
  | zero => intro k e q; exact Nat.le_of_eq q
  | succ c ih =>
    intro k e q
    obtain ⟨b, h1, h2⟩ := q
    have a := h k b h1
    have g := ih b e h2
    omega
theorem sq_snoc {I : Nat → Nat → Prop} : ∀ (c k b e : Nat), Sq I c k b → I b e → Sq I (c + 1) k e := by
  intro c
  induction c with
  | zero => intro k b e q h; obtain rfl : k = b := q; exact ⟨e, h, rfl⟩
  | succ c ih =>
    intro k b e q h
    obtain ⟨b1, h1, h2⟩ := q
    exact ⟨b1, h1, ih b1 b e h2 h⟩
theorem sq_mono {I J : Nat → Nat → Prop} (h : ∀ k e, I k e → J k e) : ∀ (c k e : Nat), Sq I c k e → Sq J c k e := by
  intro c
  induction c with
  | zero => intro k e q; exact q
  | succ c ih =>
    intro k e q
    obtain ⟨b, h1, h2⟩ := q
    exact ⟨b, h k b h1, ih b e h2⟩
theorem leaf_lt {r : Nat → Int32} {n k e : Nat} (h : Leaf r n k e) : k < e ∧ e ≤ n := by
  obtain ⟨h1, h2⟩ := h
  rcases h2 with ⟨-, a, -⟩ | ⟨-, a⟩ | ⟨-, a⟩ <;> exact ⟨by omega, h1⟩
theorem it_lt {r : Nat → Int32} {n : Nat} : ∀ (d k e : Nat), It r n d k e → k < e ∧ e ≤ n := by
  intro d
  induction d with
  | zero => intro k e h; exact leaf_lt h
  | succ d ih =>
    intro k e h
    rcases h with h | ⟨⟨-, c, h⟩ | ⟨-, c, h⟩, h1, h2, -⟩
    · exact leaf_lt h
    · have a := sq_le (fun k e q => (ih k e q).1) c _ _ h
      exact ⟨by omega, h2⟩
    · have a := sq_le (fun k e q => (ih k e q).1) c _ _ h
      exact ⟨by omega, h2⟩
theorem leaf_c {r : Nat → Int32} {n k e : Nat} (h : Leaf r n k e) : (r k).toInt = 112 ∨ (r k).toInt = 110 ∨ (r k).toInt = 97 ∨ (r k).toInt = 120 ∨ (r k).toInt = 98 ∨ (r k).toInt = 99 := by
  obtain ⟨-, h⟩ := h
  rcases h with ⟨a, -⟩ | ⟨a, -⟩ | ⟨a, -⟩ <;> omega
/-- an item doesn't begin at a closing bracket -/
theorem it_ncl {r : Nat → Int32} {n d k e : Nat} (h : It r n d k e) : k < n ∧ (r k).toInt ≠ 41 ∧ (r k).toInt ≠ 93 ∧ (r k).toInt ≠ 62 ∧ (r k).toInt ≠ 125 := by
  have a := it_lt d k e h
  have g : (r k).toInt = 112 ∨ (r k).toInt = 110 ∨ (r k).toInt = 97 ∨ (r k).toInt = 120 ∨ (r k).toInt = 98 ∨ (r k).toInt = 99 ∨ (r k).toInt = 40 ∨ (r k).toInt = 123 ∨ (r k).toInt = 91 ∨ (r k).toInt = 60 := by
    cases d with
    | zero => have := leaf_c h; omega
    | succ d =>
      rcases h with h | ⟨⟨w, -⟩ | ⟨w, -⟩, -⟩
      · have := leaf_c h; omega
      · omega
      · omega
  omega
theorem it_p {r : Nat → Int32} {n d k e : Nat} (h : It r n d k e) (hc : (r k).toInt = 112) : k + 4 ≤ e ∧ e ≤ k + 7 ∧ (∀ j, k + 4 ≤ j → j < e → isF (r j)) ∧ (e = n ∨ e = k + 7 ∨ ¬ isF (r e)) := by
  have g : Leaf r n k e := by
    cases d with
    | zero => exact h
    | succ d =>
      rcases h with h | ⟨⟨w, -⟩ | ⟨w, -⟩, -⟩
      · exact h
      · exfalso; omega
      · exfalso; omega
  obtain ⟨-, h⟩ := g
  rcases h with ⟨-, a⟩ | ⟨a, -⟩ | ⟨a, -⟩
  · exact a
  · exfalso; omega
  · exfalso; omega
theorem it_n {r : Nat → Int32} {n d k e : Nat} (h : It r n d k e) (hc : (r k).toInt = 110 ∨ (r k).toInt = 97) : e = k + 2 := by
  have g : Leaf r n k e := by
    cases d with
    | zero => exact h
    | succ d =>
      rcases h with h | ⟨⟨w, -⟩ | ⟨w, -⟩, -⟩
      · exact h
      · exfalso; omega
      · exfalso; omega
  obtain ⟨-, h⟩ := g
  rcases h with ⟨a, -⟩ | ⟨-, a⟩ | ⟨a, -⟩
  · exfalso; omega
  · exact a
  · exfalso; omega
theorem it_x {r : Nat → Int32} {n d k e : Nat} (h : It r n d k e) (hc : (r k).toInt = 120 ∨ (r k).toInt = 98 ∨ (r k).toInt = 99) : e = k + 1 := by
  have g : Leaf r n k e := by
    cases d with
    | zero => exact h
    | succ d =>
      rcases h with h | ⟨⟨w, -⟩ | ⟨w, -⟩, -⟩
      · exact h
      · exfalso; omega
      · exfalso; omega
  obtain ⟨-, h⟩ := g
  rcases h with ⟨a, -⟩ | ⟨a, -⟩ | ⟨-, a⟩
  · exfalso; omega
  · exfalso; omega
  · exact a
/-- an item that is none of the small ones is a bracket: what lies in it -/
theorem it_o {r : Nat → Int32} {n d k e : Nat} (h : It r n d k e) (hc : (r k).toInt ≠ 112 ∧ (r k).toInt ≠ 110 ∧ (r k).toInt ≠ 97 ∧ (r k).toInt ≠ 120 ∧ (r k).toInt ≠ 98 ∧ (r k).toInt ≠ 99) : ∃ m a c : Nat, m + 1 = d ∧ ((((r k).toInt = 40 ∨ (r k).toInt = 123) ∧ a = k + 2) ∨ (((r k).toInt = 91 ∨ (r k).toInt = 60) ∧ a = k + 1)) ∧ Sq (It r n m) c a (e - 1) ∧ 1 ≤ e ∧ e ≤ n ∧ a ≤ e - 1 ∧ ((r (e - 1)).toInt = 41 ∨ (r (e - 1)).toInt = 93 ∨ (r (e - 1)).toInt = 62 ∨ (r (e - 1)).toInt = 125) := by
  cases d with
  | zero => have := leaf_c h; exfalso; omega
  | succ d =>
    rcases h with h | ⟨⟨w, c, h⟩ | ⟨w, c, h⟩, h1, h2, h3⟩
    · have := leaf_c h; exfalso; omega
    · have a := sq_le (fun k e q => (it_lt d k e q).1) c _ _ h
      exact ⟨d, k + 2, c, rfl, Or.inl ⟨w, rfl⟩, h, h1, h2, by omega, h3⟩
    · have a := sq_le (fun k e q => (it_lt d k e q).1) c _ _ h
      exact ⟨d, k + 1, c, rfl, Or.inr ⟨w, rfl⟩, h, h1, h2, by omega, h3⟩
theorem leaf_cg {r q : Nat → Int32} {n k e : Nat} (hq : ∀ j, j < n → q j = r j) (h : Leaf r n k e) : Leaf q n k e := by
  have a := leaf_lt h
  obtain ⟨h1, h2⟩ := h
  refine ⟨h1, ?_⟩
  rw [hq k (by omega)]
  rcases h2 with ⟨b1, b2, b3, b4, b5⟩ | h2 | h2
  · refine Or.inl ⟨b1, b2, b3, fun j h3 h4 => ?_, ?_⟩
    · rw [hq j (by omega)]; exact b4 j h3 h4
    · rcases Nat.lt_or_ge e n with w | w
      · rw [hq e w]; exact b5
      · exact Or.inl (by omega)
  · exact Or.inr (Or.inl h2)
  · exact Or.inr (Or.inr h2)
theorem it_cg {r q : Nat → Int32} {n : Nat} (hq : ∀ j, j < n → q j = r j) : ∀ (d k e : Nat), It r n d k e → It q n d k e := by
  intro d
  induction d with
  | zero => intro k e h; exact leaf_cg hq h
  | succ d ih =>
    intro k e h
    have a := it_lt (d + 1) k e h
    rcases h with h | ⟨h, h1, h2, h3⟩
    · exact Or.inl (leaf_cg hq h)
    · refine Or.inr ⟨?_, h1, h2, ?_⟩
      · rw [hq k (by omega)]
        rcases h with ⟨w, c, h⟩ | ⟨w, c, h⟩
        · exact Or.inl ⟨w, c, sq_mono ih c _ _ h⟩
        · exact Or.inr ⟨w, c, sq_mono ih c _ _ h⟩
      · rw [hq (e - 1) (by omega)]; exact h3
/-- the texts of the first N programs -/
def WF (f g : Nat → Int32) (N : Nat) : Prop := ∀ p, p < N → ∃ n c : Nat, (g p).toInt = (n : Int) ∧ n ≤ 80 ∧ Sq (It (tr f p) n 8) c 0 n
theorem wf_cp {f g f1 g1 : Nat → Int32} {N : Nat} (h : WF f g N) (hN : N ≤ 4) (hf : ∀ j : Nat, j < 320 → f1 j = f j) (hg : ∀ j : Nat, j < 4 → g1 j = g j) : WF f1 g1 N := by
  intro p hp
  obtain ⟨n, c, h1, h2, h3⟩ := h p hp
  refine ⟨n, c, by rw [hg p (by omega)]; exact h1, h2, sq_mono (fun k e q => it_cg (r := tr f p) (fun j hj => ?_) 8 k e q) c _ _ h3⟩
  exact hf (80 * p + j) (by omega)
theorem wf_0 (f g : Nat → Int32) : WF f g 0 := fun p hp => absurd hp (Nat.not_lt_zero p)
/-- one more: its text is what stood on the tape -/
theorem wf_1 {f g f1 g1 t : Nat → Int32} {N n c : Nat} (h : WF f g N) (hf : ∀ j : Nat, j < 80 * N → f1 j = f j) (ht : ∀ j : Nat, j < n → f1 (80 * N + j) = t j) (hg : ∀ j : Nat, j < N → g1 j = g j) (hn : (g1 N).toInt = (n : Int)) (h80 : n ≤ 80) (hs : Sq (It t n 8) c 0 n) : WF f1 g1 (N + 1) := by
  intro p hp
  rcases Nat.lt_or_ge p N with w | w
  · obtain ⟨n2, c2, h1, h2, h3⟩ := h p w
    refine ⟨n2, c2, by rw [hg p w]; exact h1, h2, sq_mono (fun k e q => it_cg (r := tr f p) (fun j hj => ?_) 8 k e q) c2 _ _ h3⟩
    exact hf (80 * p + j) (by omega)
  · obtain rfl : p = N := by omega
    refine ⟨n, c, hn, h80, sq_mono (fun k e q => it_cg (r := t) (fun j hj => ?_) 8 k e q) c _ _ hs⟩
    exact ht j hj
theorem up_row {f : Nat → Int32} {i x : Int32} (h0 : 0 ≤ i.toInt) (h1 : i.toInt < 4) (x0 : 0 ≤ x.toInt) (x1 : x.toInt ≤ 60) (h : ∀ k : Nat, k < 4 → 0 ≤ (f k).toInt ∧ (f k).toInt ≤ 60) : ∀ k : Nat, k < 4 → 0 ≤ (upd f i.toNatClampNeg x k).toInt ∧ (upd f i.toNatClampNeg x k).toInt ≤ 60 := by
  intro k hk
  unfold upd
  split
  · exact ⟨x0, x1⟩
  · exact h k hk
theorem i_l2i {x : Int64} {z : Int32} (h : z = x.toInt32) (h1 : -2147483648 ≤ x.toInt) (h2 : x.toInt ≤ 2147483647) : z.toInt = x.toInt := by
  rw [h, Int64.toInt_toInt32]
  exact i_bm h1 h2
theorem it_c {r : Nat → Int32} {n d k e : Nat} (h : It r n d k e) : (r k).toInt = 112 ∨ (r k).toInt = 110 ∨ (r k).toInt = 97 ∨ (r k).toInt = 120 ∨ (r k).toInt = 98 ∨ (r k).toInt = 99 ∨ (r k).toInt = 40 ∨ (r k).toInt = 123 ∨ (r k).toInt = 91 ∨ (r k).toInt = 60 := by
  cases d with
  | zero => have := leaf_c h; omega
  | succ d =>
    rcases h with h | ⟨⟨w, -⟩ | ⟨w, -⟩, -⟩
    · have := leaf_c h; omega
    · omega
    · omega
theorem sq_next {r : Nat → Int32} {n m c k E : Nat} (h : Sq (It r n m) c k E) (hE : n ≤ E ∨ (r E).toInt = 41 ∨ (r E).toInt = 93 ∨ (r E).toInt = 62 ∨ (r E).toInt = 125) (hk : ¬ (n ≤ k ∨ (r k).toInt = 41 ∨ (r k).toInt = 93 ∨ (r k).toInt = 62 ∨ (r k).toInt = 125)) : ∃ b c1 : Nat, It r n m k b ∧ Sq (It r n m) c1 b E ∧ b ≤ E := by
  cases c with
  | zero => obtain rfl : k = E := h; exact absurd hE hk
  | succ c =>
    obtain ⟨b, h1, h2⟩ := h
    have a := sq_le (fun k e q => (it_lt m k e q).1) c b E h2
    exact ⟨b, c, h1, h2, by omega⟩
theorem sq_end {r : Nat → Int32} {n m c k E : Nat} (h : Sq (It r n m) c k E) (hk : n ≤ k ∨ (r k).toInt = 41 ∨ (r k).toInt = 93 ∨ (r k).toInt = 62 ∨ (r k).toInt = 125) : k = E := by
  cases c with
  | zero => exact h
  | succ c =>
    obtain ⟨b, h1, h2⟩ := h
    have a := it_ncl h1
    exfalso; omega
theorem it_leaf {r : Nat → Int32} {n d k e : Nat} (h : Leaf r n k e) : It r n d k e := by
  cases d with
  | zero => exact h
  | succ d => exact Or.inl h
theorem leaf_p {r : Nat → Int32} {n k e : Nat} (hc : (r k).toInt = 112) (h1 : k + 4 ≤ e) (h2 : e ≤ k + 7) (hn : e ≤ n) (hf : ∀ j, k + 4 ≤ j → j < e → isF (r j)) (he : e = k + 7 ∨ e = n ∨ ¬ (48 ≤ (r e).toInt ∧ (r e).toInt ≤ 57)) : Leaf r n k e := by
  refine ⟨hn, Or.inl ⟨hc, h1, h2, hf, ?_⟩⟩
  rcases he with a | a | a
  · exact Or.inr (Or.inl a)
  · exact Or.inl a
  · exact Or.inr (Or.inr a)
theorem leaf_x {r : Nat → Int32} {n k : Nat} (hc : (r k).toInt = 120 ∨ (r k).toInt = 98 ∨ (r k).toInt = 99) (hn : k + 1 ≤ n) : Leaf r n k (k + 1) := ⟨hn, Or.inr (Or.inr ⟨hc, rfl⟩)⟩
theorem leaf_n {r : Nat → Int32} {n k : Nat} (hc : (r k).toInt = 110 ∨ (r k).toInt = 97) (hn : k + 2 ≤ n) : Leaf r n k (k + 2) := ⟨hn, Or.inr (Or.inl ⟨hc, rfl⟩)⟩
theorem it_br {r : Nat → Int32} {n m d k a c j : Nat} (hm : m + 1 = d) (ha : (((r k).toInt = 40 ∨ (r k).toInt = 123) ∧ a = k + 2) ∨ (((r k).toInt = 91 ∨ (r k).toInt = 60) ∧ a = k + 1)) (hs : Sq (It r n m) c a j) (hj : j < n) (hz : (r j).toInt = 41 ∨ (r j).toInt = 93 ∨ (r j).toInt = 62 ∨ (r j).toInt = 125) : It r n d k (j + 1) := by
  subst hm
  refine Or.inr ⟨?_, by omega, by omega, by rw [Nat.add_sub_cancel]; exact hz⟩
  rcases ha with ⟨w, rfl⟩ | ⟨w, rfl⟩
  · exact Or.inl ⟨w, c, by rw [Nat.add_sub_cancel]; exact hs⟩
  · exact Or.inr ⟨w, c, by rw [Nat.add_sub_cancel]; exact hs⟩
theorem tx_1 {f g : Nat → Int32} {i v x : Int32} {N : Nat} (hi : i.toInt = 80 * (N : Int) + x.toInt) (h0 : 0 ≤ x.toInt) (h : ∀ j : Nat, j < 80 * N → g j = f j) : ∀ j : Nat, j < 80 * N → upd g i.toNatClampNeg v j = f j := by
  intro j hj
  have e := i_natZ (x := i) (by omega)
  unfold upd
  split
  · exfalso; omega
  · exact h j hj
theorem tx_2 {g t : Nat → Int32} {i v x y : Int32} {N : Nat} (hi : i.toInt = 80 * (N : Int) + x.toInt) (h0 : 0 ≤ x.toInt) (hy : y.toInt = x.toInt + 1) (hv : v = t x.toNatClampNeg) (h : ∀ j : Nat, (j : Int) < x.toInt → g (80 * N + j) = t j) : ∀ j : Nat, (j : Int) < y.toInt → upd g i.toNatClampNeg v (80 * N + j) = t j := by
  intro j hj
  have e := i_natZ (x := i) (by omega)
  have e2 := i_natZ h0
  unfold upd
  split
  · rw [hv, show x.toNatClampNeg = j by omega]
  · exact h j (by omega)
theorem wf_2 {f g f1 t : Nat → Int32} {p s x z : Int32} {n c : Nat} (h : WF f g p.toInt.toNat) (hp : 0 ≤ p.toInt) (hf : ∀ j : Nat, j < 80 * p.toInt.toNat → f1 j = f j) (ht : ∀ j : Nat, (j : Int) < x.toInt → f1 (80 * p.toInt.toNat + j) = t j) (hx : s.toInt ≤ x.toInt) (hs : s.toInt = (n : Int)) (h80 : n ≤ 80) (hq : Sq (It t n 8) c 0 n) (hz : z.toInt = p.toInt + 1) : WF f1 (upd g p.toNatClampNeg s) z.toInt.toNat := by
  have e := i_natZ hp
  rw [show z.toInt.toNat = p.toInt.toNat + 1 by omega]
  refine wf_1 h hf (fun j hj => ht j (by omega)) (fun j hj => ?_) ?_ h80 hq
  · unfold upd
    split
    · exfalso; omega
    · rfl
  · unfold upd
    split
    · exact hs
    · exfalso; omega
