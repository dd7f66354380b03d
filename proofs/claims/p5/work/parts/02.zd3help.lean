-- the class's books as one row, as the reference has them
def bks (k b l g e v a : Nat → Int32) (n mi be re ca : Int32) : Nat → Int32 := fun j => if j < 8 then k j else if j < 16 then b (j - 8) else if j < 24 then l (j - 16) else if j < 32 then g (j - 24) else if j < 40 then e (j - 32) else if j < 48 then v (j - 40) else if j < 56 then a (j - 48) else if j = 56 then mi else if j = 57 then be else if j = 58 then re else if j = 59 then ca else if j = 60 then n else 0
theorem bks_k {k b l g e v a : Nat → Int32} {n mi be re ca : Int32} {j : Nat} (hj : j < 8) : bks k b l g e v a n mi be re ca j = k j := by
  unfold bks
  rw [if_pos hj]
theorem bks_b {k b l g e v a : Nat → Int32} {n mi be re ca : Int32} {j : Nat} (hj : j < 8) : bks k b l g e v a n mi be re ca (8 + j) = b j := by
  unfold bks
  rw [if_neg (by omega), if_pos (by omega), Nat.add_sub_cancel_left]
theorem bks_l {k b l g e v a : Nat → Int32} {n mi be re ca : Int32} {j : Nat} (hj : j < 8) : bks k b l g e v a n mi be re ca (16 + j) = l j := by
  unfold bks
  rw [if_neg (by omega), if_neg (by omega), if_pos (by omega), Nat.add_sub_cancel_left]
theorem bks_g {k b l g e v a : Nat → Int32} {n mi be re ca : Int32} {j : Nat} (hj : j < 8) : bks k b l g e v a n mi be re ca (24 + j) = g j := by
  unfold bks
  rw [if_neg (by omega), if_neg (by omega), if_neg (by omega), if_pos (by omega), Nat.add_sub_cancel_left]
theorem bks_e {k b l g e v a : Nat → Int32} {n mi be re ca : Int32} {j : Nat} (hj : j < 8) : bks k b l g e v a n mi be re ca (32 + j) = e j := by
  unfold bks
  rw [if_neg (by omega), if_neg (by omega), if_neg (by omega), if_neg (by omega), if_pos (by omega), Nat.add_sub_cancel_left]
theorem bks_v {k b l g e v a : Nat → Int32} {n mi be re ca : Int32} {j : Nat} (hj : j < 8) : bks k b l g e v a n mi be re ca (40 + j) = v j := by
  unfold bks
  rw [if_neg (by omega), if_neg (by omega), if_neg (by omega), if_neg (by omega), if_neg (by omega), if_pos (by omega), Nat.add_sub_cancel_left]
theorem bks_a {k b l g e v a : Nat → Int32} {n mi be re ca : Int32} {j : Nat} (hj : j < 8) : bks k b l g e v a n mi be re ca (48 + j) = a j := by
  unfold bks
  rw [if_neg (by omega), if_neg (by omega), if_neg (by omega), if_neg (by omega), if_neg (by omega), if_neg (by omega), if_pos (by omega), Nat.add_sub_cancel_left]
theorem bks_mi {k b l g e v a : Nat → Int32} {n mi be re ca : Int32} : bks k b l g e v a n mi be re ca 56 = mi := rfl
theorem bks_be {k b l g e v a : Nat → Int32} {n mi be re ca : Int32} : bks k b l g e v a n mi be re ca 57 = be := rfl
theorem bks_re {k b l g e v a : Nat → Int32} {n mi be re ca : Int32} : bks k b l g e v a n mi be re ca 58 = re := rfl
theorem bks_ca {k b l g e v a : Nat → Int32} {n mi be re ca : Int32} : bks k b l g e v a n mi be re ca 59 = ca := rfl
theorem bks_n {k b l g e v a : Nat → Int32} {n mi be re ca : Int32} : bks k b l g e v a n mi be re ca 60 = n := rfl
theorem bks_ub {k b l g e v a : Nat → Int32} {n mi be re ca : Int32} {i : Nat} {x : Int32} (hi : i < 8) : bks k (upd b i x) l g e v a n mi be re ca = upd (bks k b l g e v a n mi be re ca) (8 + i) x := by
  funext j
  by_cases w : j = 8 + i
  · subst w; rw [ux_i, bks_b hi, ux_i]
  · rw [ux_n w]
    unfold bks
    by_cases h0 : j < 8
    · rw [if_pos h0, if_pos h0]
    · rw [if_neg h0, if_neg h0]
      by_cases h1 : j < 16
      · rw [if_pos h1, if_pos h1, ux_n (by omega)]
      · rw [if_neg h1, if_neg h1]
theorem bks_ue {k b l g e v a : Nat → Int32} {n mi be re ca : Int32} {i : Nat} {x : Int32} (hi : i < 8) : bks k b l g (upd e i x) v a n mi be re ca = upd (bks k b l g e v a n mi be re ca) (32 + i) x := by
  funext j
  by_cases w : j = 32 + i
  · subst w; rw [ux_i, bks_e hi, ux_i]
  · rw [ux_n w]
    unfold bks
    by_cases h0 : j < 8
    · rw [if_pos h0, if_pos h0]
    · rw [if_neg h0, if_neg h0]
      by_cases h1 : j < 16
      · rw [if_pos h1, if_pos h1]
      · rw [if_neg h1, if_neg h1]
        by_cases h2 : j < 24
        · rw [if_pos h2, if_pos h2]
        · rw [if_neg h2, if_neg h2]
          by_cases h3 : j < 32
          · rw [if_pos h3, if_pos h3]
          · rw [if_neg h3, if_neg h3]
            by_cases h4 : j < 40
            · rw [if_pos h4, if_pos h4, ux_n (by omega)]
            · rw [if_neg h4, if_neg h4]
theorem bks_uv {k b l g e v a : Nat → Int32} {n mi be re ca : Int32} {i : Nat} {x : Int32} (hi : i < 8) : bks k b l g e (upd v i x) a n mi be re ca = upd (bks k b l g e v a n mi be re ca) (40 + i) x := by
  funext j
  by_cases w : j = 40 + i
  · subst w; rw [ux_i, bks_v hi, ux_i]
  · rw [ux_n w]
    unfold bks
    by_cases h0 : j < 8
    · rw [if_pos h0, if_pos h0]
    · rw [if_neg h0, if_neg h0]
      by_cases h1 : j < 16
      · rw [if_pos h1, if_pos h1]
      · rw [if_neg h1, if_neg h1]
        by_cases h2 : j < 24
        · rw [if_pos h2, if_pos h2]
        · rw [if_neg h2, if_neg h2]
          by_cases h3 : j < 32
          · rw [if_pos h3, if_pos h3]
          · rw [if_neg h3, if_neg h3]
            by_cases h4 : j < 40
            · rw [if_pos h4, if_pos h4]
            · rw [if_neg h4, if_neg h4]
              by_cases h5 : j < 48
              · rw [if_pos h5, if_pos h5, ux_n (by omega)]
              · rw [if_neg h5, if_neg h5]
theorem bks_ua {k b l g e v a : Nat → Int32} {n mi be re ca : Int32} {i : Nat} {x : Int32} (hi : i < 8) : bks k b l g e v (upd a i x) n mi be re ca = upd (bks k b l g e v a n mi be re ca) (48 + i) x := by
  funext j
  by_cases w : j = 48 + i
  · subst w; rw [ux_i, bks_a hi, ux_i]
  · rw [ux_n w]
    unfold bks
    by_cases h0 : j < 8
    · rw [if_pos h0, if_pos h0]
    · rw [if_neg h0, if_neg h0]
      by_cases h1 : j < 16
      · rw [if_pos h1, if_pos h1]
      · rw [if_neg h1, if_neg h1]
        by_cases h2 : j < 24
        · rw [if_pos h2, if_pos h2]
        · rw [if_neg h2, if_neg h2]
          by_cases h3 : j < 32
          · rw [if_pos h3, if_pos h3]
          · rw [if_neg h3, if_neg h3]
            by_cases h4 : j < 40
            · rw [if_pos h4, if_pos h4]
            · rw [if_neg h4, if_neg h4]
              by_cases h5 : j < 48
              · rw [if_pos h5, if_pos h5]
              · rw [if_neg h5, if_neg h5]
                by_cases h6 : j < 56
                · rw [if_pos h6, if_pos h6, ux_n (by omega)]
                · rw [if_neg h6, if_neg h6]
theorem bks_umi {k b l g e v a : Nat → Int32} {n mi be re ca : Int32} {x : Int32} : bks k b l g e v a n x be re ca = upd (bks k b l g e v a n mi be re ca) 56 x := by
  funext j
  by_cases w : j = 56
  · subst w; rw [ux_i]; rfl
  · rw [ux_n w]
    unfold bks
    by_cases h0 : j < 8
    · rw [if_pos h0, if_pos h0]
    · rw [if_neg h0, if_neg h0]
      by_cases h1 : j < 16
      · rw [if_pos h1, if_pos h1]
      · rw [if_neg h1, if_neg h1]
        by_cases h2 : j < 24
        · rw [if_pos h2, if_pos h2]
        · rw [if_neg h2, if_neg h2]
          by_cases h3 : j < 32
          · rw [if_pos h3, if_pos h3]
          · rw [if_neg h3, if_neg h3]
            by_cases h4 : j < 40
            · rw [if_pos h4, if_pos h4]
            · rw [if_neg h4, if_neg h4]
              by_cases h5 : j < 48
              · rw [if_pos h5, if_pos h5]
              · rw [if_neg h5, if_neg h5]
                by_cases h6 : j < 56
                · rw [if_pos h6, if_pos h6]
                · rw [if_neg h6, if_neg h6]
                  rw [if_neg w, if_neg w]
theorem bks_ube {k b l g e v a : Nat → Int32} {n mi be re ca : Int32} {x : Int32} : bks k b l g e v a n mi x re ca = upd (bks k b l g e v a n mi be re ca) 57 x := by
  funext j
  by_cases w : j = 57
  · subst w; rw [ux_i]; rfl
  · rw [ux_n w]
    unfold bks
    by_cases h0 : j < 8
    · rw [if_pos h0, if_pos h0]
    · rw [if_neg h0, if_neg h0]
      by_cases h1 : j < 16
      · rw [if_pos h1, if_pos h1]
      · rw [if_neg h1, if_neg h1]
        by_cases h2 : j < 24
        · rw [if_pos h2, if_pos h2]
        · rw [if_neg h2, if_neg h2]
          by_cases h3 : j < 32
          · rw [if_pos h3, if_pos h3]
          · rw [if_neg h3, if_neg h3]
            by_cases h4 : j < 40
            · rw [if_pos h4, if_pos h4]
            · rw [if_neg h4, if_neg h4]
              by_cases h5 : j < 48
              · rw [if_pos h5, if_pos h5]
              · rw [if_neg h5, if_neg h5]
                by_cases h6 : j < 56
                · rw [if_pos h6, if_pos h6]
                · rw [if_neg h6, if_neg h6]
                  by_cases h56 : j = 56
                  · rw [if_pos h56, if_pos h56]
                  · rw [if_neg h56, if_neg h56]
                    rw [if_neg w, if_neg w]
theorem bks_ure {k b l g e v a : Nat → Int32} {n mi be re ca : Int32} {x : Int32} : bks k b l g e v a n mi be x ca = upd (bks k b l g e v a n mi be re ca) 58 x := by
  funext j
  by_cases w : j = 58
  · subst w; rw [ux_i]; rfl
  · rw [ux_n w]
    unfold bks
    by_cases h0 : j < 8
    · rw [if_pos h0, if_pos h0]
    · rw [if_neg h0, if_neg h0]
      by_cases h1 : j < 16
      · rw [if_pos h1, if_pos h1]
      · rw [if_neg h1, if_neg h1]
        by_cases h2 : j < 24
        · rw [if_pos h2, if_pos h2]
        · rw [if_neg h2, if_neg h2]
          by_cases h3 : j < 32
          · rw [if_pos h3, if_pos h3]
          · rw [if_neg h3, if_neg h3]
            by_cases h4 : j < 40
            · rw [if_pos h4, if_pos h4]
            · rw [if_neg h4, if_neg h4]
              by_cases h5 : j < 48
              · rw [if_pos h5, if_pos h5]
              · rw [if_neg h5, if_neg h5]
                by_cases h6 : j < 56
                · rw [if_pos h6, if_pos h6]
                · rw [if_neg h6, if_neg h6]
                  by_cases h56 : j = 56
                  · rw [if_pos h56, if_pos h56]
                  · rw [if_neg h56, if_neg h56]
                    by_cases h57 : j = 57
                    · rw [if_pos h57, if_pos h57]
                    · rw [if_neg h57, if_neg h57]
                      rw [if_neg w, if_neg w]
theorem bks_uca {k b l g e v a : Nat → Int32} {n mi be re ca : Int32} {x : Int32} : bks k b l g e v a n mi be re x = upd (bks k b l g e v a n mi be re ca) 59 x := by
  funext j
  by_cases w : j = 59
  · subst w; rw [ux_i]; rfl
  · rw [ux_n w]
    unfold bks
    by_cases h0 : j < 8
    · rw [if_pos h0, if_pos h0]
    · rw [if_neg h0, if_neg h0]
      by_cases h1 : j < 16
      · rw [if_pos h1, if_pos h1]
      · rw [if_neg h1, if_neg h1]
        by_cases h2 : j < 24
        · rw [if_pos h2, if_pos h2]
        · rw [if_neg h2, if_neg h2]
          by_cases h3 : j < 32
          · rw [if_pos h3, if_pos h3]
          · rw [if_neg h3, if_neg h3]
            by_cases h4 : j < 40
            · rw [if_pos h4, if_pos h4]
            · rw [if_neg h4, if_neg h4]
              by_cases h5 : j < 48
              · rw [if_pos h5, if_pos h5]
              · rw [if_neg h5, if_neg h5]
                by_cases h6 : j < 56
                · rw [if_pos h6, if_pos h6]
                · rw [if_neg h6, if_neg h6]
                  by_cases h56 : j = 56
                  · rw [if_pos h56, if_pos h56]
                  · rw [if_neg h56, if_neg h56]
                    by_cases h57 : j = 57
                    · rw [if_pos h57, if_pos h57]
                    · rw [if_neg h57, if_neg h57]
                      by_cases h58 : j = 58
                      · rw [if_pos h58, if_pos h58]
                      · rw [if_neg h58, if_neg h58]
                        rw [if_neg w, if_neg w]
theorem bks_cg {k b l g e v a : Nat → Int32} {n mi be re ca : Int32} {k' b' l' g' e' v' a' : Nat → Int32} (h0 : ∀ j : Nat, j < 8 → k' j = k j) (h1 : ∀ j : Nat, j < 8 → b' j = b j) (h2 : ∀ j : Nat, j < 8 → l' j = l j) (h3 : ∀ j : Nat, j < 8 → g' j = g j) (h4 : ∀ j : Nat, j < 8 → e' j = e j) (h5 : ∀ j : Nat, j < 8 → v' j = v j) (h6 : ∀ j : Nat, j < 8 → a' j = a j) : bks k' b' l' g' e' v' a' n mi be re ca = bks k b l g e v a n mi be re ca := by
  funext j
  unfold bks
  by_cases q0 : j < 8
  · rw [if_pos q0, if_pos q0]; exact h0 _ (by omega)
  · rw [if_neg q0, if_neg q0]
    by_cases q1 : j < 16
    · rw [if_pos q1, if_pos q1]; exact h1 _ (by omega)
    · rw [if_neg q1, if_neg q1]
      by_cases q2 : j < 24
      · rw [if_pos q2, if_pos q2]; exact h2 _ (by omega)
      · rw [if_neg q2, if_neg q2]
        by_cases q3 : j < 32
        · rw [if_pos q3, if_pos q3]; exact h3 _ (by omega)
        · rw [if_neg q3, if_neg q3]
          by_cases q4 : j < 40
          · rw [if_pos q4, if_pos q4]; exact h4 _ (by omega)
          · rw [if_neg q4, if_neg q4]
            by_cases q5 : j < 48
            · rw [if_pos q5, if_pos q5]; exact h5 _ (by omega)
            · rw [if_neg q5, if_neg q5]
              by_cases q6 : j < 56
              · rw [if_pos q6, if_pos q6]; exact h6 _ (by omega)
              · rw [if_neg q6, if_neg q6]
theorem bks_pun {k b l g e v a : Nat → Int32} {n mi be re ca : Int32} {k0 b0 l0 g0 e0 v0 a0 b' : Nat → Int32} {n0 mi0 be0 re0 ca0 : Int32} (h : ∀ j : Nat, j < 8 → b' j = b0 j) : bks k b' l g e v a n mi be re ca = pun (bks k0 b0 l0 g0 e0 v0 a0 n0 mi0 be0 re0 ca0) (bks k b l g e v a n mi be re ca) := by
  funext j
  by_cases w : 8 ≤ j ∧ j < 16
  · rw [pun_p w]
    obtain ⟨i, rfl⟩ : ∃ i, j = 8 + i := ⟨j - 8, by omega⟩
    rw [bks_b (by omega), bks_b (by omega)]
    exact h i (by omega)
  · rw [pun_n w]
    unfold bks
    by_cases h1 : j < 8
    · rw [if_pos h1, if_pos h1]
    · have h2 : ¬ j < 16 := by omega
      rw [if_neg h1, if_neg h1, if_neg h2, if_neg h2]
theorem phg_bks {k b l g e v a : Nat → Int32} {n mi be re ca : Int32} {d : Int32} (hn : n.toInt ≤ 8) : phg (bks k b l g e v a n mi be re ca) d ↔ (0 ≤ d.toInt ∧ d.toInt < n.toInt ∧ (g d.toInt.toNat).toInt = 1) := by
  unfold phg pac
  rw [bks_n]
  constructor
  · rintro ⟨⟨h1, h2⟩, h3⟩
    rw [bks_g (by omega)] at h3
    exact ⟨h1, h2, h3⟩
  · rintro ⟨h1, h2, h3⟩
    rw [bks_g (by omega)]
    exact ⟨⟨h1, h2⟩, h3⟩
