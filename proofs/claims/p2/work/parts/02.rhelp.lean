-- rings: bits of the accounts on the way, the way, the sum of all debts
def popc (K : Nat) : Nat := K % 2 + K / 2 % 2 + K / 4 % 2 + K / 8 % 2 + K / 16 % 2 + K / 32 % 2 + K / 64 % 2 + K / 128 % 2
theorem popc_le (K : Nat) : popc K ≤ 8 := by unfold popc; omega
theorem popc_8 : ∀ K : Nat, K < 256 → popc K = 8 → K = 255 := by decide +kernel
theorem t255 : ∀ b : Nat, b < 8 → Nat.testBit 255 b = true := by decide +kernel
theorem pop_or : ∀ K : Nat, K < 256 → ∀ b : Nat, b < 8 → Nat.testBit K b = false → popc (K ||| 2 ^ b) = popc K + 1 ∧ (K ||| 2 ^ b) < 256 := by decide +kernel
theorem pop_1 : ∀ b : Nat, b < 8 → popc (2 ^ b) = 1 ∧ 2 ^ b < 256 ∧ Nat.testBit (2 ^ b) b = true := by decide +kernel
theorem bit_sh : ∀ K : Nat, K < 256 → ∀ b : Nat, b < 8 → ((nI K >>> (nI b &&& 31)) &&& 1).toInt = 0 → Nat.testBit K b = false := by decide +kernel
theorem bit_or : ∀ K : Nat, K < 256 → ∀ b : Nat, b < 8 → (nI K ||| ((1 : Int32) <<< (nI b &&& 31))) = nI (K ||| 2 ^ b) := by decide +kernel
theorem bit_one : ∀ b : Nat, b < 8 → ((1 : Int32) <<< (nI b &&& 31)) = nI (2 ^ b) := by decide +kernel
theorem rem_8 : ∀ a : Nat, a < 9 → ∀ b : Nat, b < 9 → 0 < b → (nI a - nI a / nI b * nI b) = nI (a % b) := by decide +kernel
theorem bit_0 {K b : Nat} {p x z1 z2 : Int32} (hK : K < 256) (hb : b < 8) (hp : p = nI K) (hx : x = nI b) (h1 : z1 = p >>> (x &&& 31)) (h2 : z2 = z1 &&& 1) (h0 : z2.toInt = 0) : Nat.testBit K b = false := by
  refine bit_sh K hK b hb ?_
  rw [← hp, ← hx, ← h1, ← h2]
  exact h0
theorem bit_1 {K b : Nat} {p x z1 z2 : Int32} (hK : K < 256) (hb : b < 8) (hp : p = nI K) (hx : x = nI b) (h1 : z1 = (1 : Int32) <<< (x &&& 31)) (h2 : z2 = p ||| z1) : z2 = nI (K ||| 2 ^ b) := by
  rw [h2, h1, hp, hx]
  exact bit_or K hK b hb
theorem bit_2 {b : Nat} {x z1 : Int32} (hb : b < 8) (hx : x = nI b) (h1 : z1 = (1 : Int32) <<< (x &&& 31)) : z1 = nI (2 ^ b) := by
  rw [h1, hx]
  exact bit_one b hb
theorem i_rem8 {x y z : Int32} (h : z = x - x / y * y) (h0 : 0 ≤ x.toInt) (h1 : x.toInt ≤ y.toInt) (h2 : 1 ≤ y.toInt) (h3 : y.toInt ≤ 8) : (x.toInt < y.toInt → z.toInt = x.toInt) ∧ (x.toInt = y.toInt → z.toInt = 0) := by
  have ex : x = nI x.toInt.toNat := Int32.toInt_inj.mp (by rw [nI_toInt (by omega)]; omega)
  have ey : y = nI y.toInt.toNat := Int32.toInt_inj.mp (by rw [nI_toInt (by omega)]; omega)
  have q := rem_8 x.toInt.toNat (by omega) y.toInt.toNat (by omega) (by omega)
  rw [← ex, ← ey, ← h] at q
  have m1 : x.toInt.toNat % y.toInt.toNat < y.toInt.toNat := Nat.mod_lt _ (by omega)
  have e : z.toInt = ((x.toInt.toNat % y.toInt.toNat : Nat) : Int) := by rw [q]; exact nI_toInt (by omega)
  constructor
  · intro w
    rw [e, Nat.mod_eq_of_lt (by omega)]
    omega
  · intro w
    rw [e, show x.toInt.toNat = y.toInt.toNat by omega, Nat.mod_self]
    rfl
def od (f : Nat → Int32) (a b : Int32) : Int := (f (61 + 8 * a.toInt.toNat + b.toInt.toNat)).toInt
def Pw (f w : Nat → Int32) (n K : Nat) : Prop := K < 256 ∧ popc K = n ∧ (∀ k, k < n → 0 ≤ (w k).toInt ∧ (w k).toInt < 8 ∧ Nat.testBit K (w k).toInt.toNat = true) ∧ (∀ i j, i < j → j < n → (w i).toInt ≠ (w j).toInt) ∧ (∀ k, k + 1 < n → 0 < od f (w k) (w (k + 1)))
def nx (n k : Nat) : Nat := if k + 1 < n then k + 1 else 0
def Rg (f w : Nat → Int32) (n : Nat) : Prop := 2 ≤ n ∧ n ≤ 8 ∧ (∀ k, k < n → 0 ≤ (w k).toInt ∧ (w k).toInt < 8) ∧ (∀ i j, i < j → j < n → (w i).toInt ≠ (w j).toInt) ∧ (∀ k, k < n → 0 < od f (w k) (w (nx n k)))
theorem pw_cg {f w v : Nat → Int32} {n K : Nat} (hv : ∀ k, k < n → v k = w k) (h : Pw f w n K) : Pw f v n K := by
  obtain ⟨h1, h2, h3, h4, h5⟩ := h
  refine ⟨h1, h2, fun k hk => by rw [hv k hk]; exact h3 k hk, fun i j hi hj => by rw [hv i (by omega), hv j hj]; exact h4 i j hi hj, fun k hk => by rw [hv k (by omega), hv (k + 1) hk]; exact h5 k hk⟩
theorem pw_le {f w : Nat → Int32} {n K : Nat} (h : Pw f w n K) : n ≤ 8 := by
  have := popc_le K
  have := h.2.1
  omega
theorem pw_lt {f w : Nat → Int32} {n K b : Nat} (h : Pw f w n K) (hb : b < 8) (ht : Nat.testBit K b = false) : n < 8 := by
  have a := pw_le h
  rcases Nat.lt_or_ge n 8 with q | q
  · exact q
  · have e := popc_8 K h.1 (by have := h.2.1; omega)
    rw [e, t255 b hb] at ht
    exact absurd ht (by decide)
theorem pw_ring {f w : Nat → Int32} {n K : Nat} (h : Pw f w n K) (h1 : 1 < n) (ho : 0 < od f (w (n - 1)) (w 0)) : Rg f w n := by
  have a := pw_le h
  obtain ⟨-, -, h3, h4, h5⟩ := h
  refine ⟨by omega, a, fun k hk => ⟨(h3 k hk).1, (h3 k hk).2.1⟩, h4, fun k hk => ?_⟩
  unfold nx
  split
  · exact h5 k (by omega)
  · rw [show k = n - 1 by omega]; exact ho
theorem pw_push {f w : Nat → Int32} {n K b : Nat} {x p : Int32} (h : Pw f w n K) (hn : 1 ≤ n) (hb : Nat.testBit K b = false) (hb8 : b < 8) (hx : x = nI b) (hp : p.toInt = (n : Int)) (ho : 0 < od f (w (n - 1)) x) : Pw f (upd w p.toNatClampNeg x) (n + 1) (K ||| 2 ^ b) := by
  obtain ⟨h1, h2, h3, h4, h5⟩ := h
  have e : p.toNatClampNeg = n := i_nat hp
  have ex : x.toInt = (b : Int) := by rw [hx]; exact nI_toInt (by omega)
  obtain ⟨q1, q2⟩ := pop_or K h1 b hb8 hb
  rw [e]
  have lo : ∀ k, k < n → upd w n x k = w k := by
    intro k hk
    unfold upd
    split
    · exfalso; omega
    · rfl
  have hi : upd w n x n = x := by
    unfold upd
    split
    · rfl
    · exfalso; omega
  refine ⟨q2, by omega, fun k hk => ?_, fun i j hi2 hj => ?_, fun k hk => ?_⟩
  · rcases Nat.lt_or_ge k n with q | q
    · rw [lo k q]
      refine ⟨(h3 k q).1, (h3 k q).2.1, ?_⟩
      rw [Nat.testBit_or, (h3 k q).2.2]
      rfl
    · obtain rfl : k = n := by omega
      rw [hi]
      refine ⟨by omega, by omega, ?_⟩
      rw [show x.toInt.toNat = b by omega, Nat.testBit_or, Nat.testBit_two_pow_self, Bool.or_true]
  · rcases Nat.lt_or_ge j n with q | q
    · rw [lo j q, lo i (by omega)]
      exact h4 i j hi2 q
    · obtain rfl : j = n := by omega
      rw [hi, lo i hi2]
      intro w1
      have t := (h3 i hi2).2.2
      rw [show (w i).toInt.toNat = b by omega] at t
      rw [t] at hb
      exact absurd hb (by decide)
  · rcases Nat.lt_or_ge (k + 1) n with q | q
    · rw [lo (k + 1) q, lo k (by omega)]
      exact h5 k q
    · obtain rfl : n = k + 1 := by omega
      rw [hi, lo k (by omega)]
      exact ho
theorem pw_one {f w : Nat → Int32} {b : Nat} {x : Int32} (hb8 : b < 8) (hx : x = nI b) : Pw f (upd w (0 : Int32).toNatClampNeg x) 1 (2 ^ b) := by
  obtain ⟨h1, h2, h3⟩ := pop_1 b hb8
  have ex : x.toInt = (b : Int) := by rw [hx]; exact nI_toInt (by omega)
  refine ⟨h2, h1, fun k hk => ?_, fun i j hi hj => absurd hj (by omega), fun k hk => absurd hk (by omega)⟩
  obtain rfl : k = 0 := by omega
  rw [show upd w (0 : Int32).toNatClampNeg x 0 = x from rfl]
  exact ⟨by omega, by omega, by rw [show x.toInt.toNat = b by omega]; exact h3⟩
theorem back_w {f u g gw w : Nat → Int32} {n : Nat} {r p x : Int32} (h : (r.toInt = 0 ∧ ∀ k : Nat, k < n + 1 → u k = g k) ∨ (∃ j : Nat, r.toInt = (j : Int) ∧ Rg f u j)) (hr : r.toInt ≤ 0) (hg : upd gw p.toNatClampNeg x = g) (hp : p.toInt = (n : Int)) (iw : ∀ k : Nat, k < n → gw k = w k) : ∀ k : Nat, k < n → u k = w k := by
  intro k hk
  rcases h with q | ⟨j, q1, q2⟩
  · rw [q.2 k (by omega), ← hg, i_nat hp]
    unfold upd
    split
    · exfalso; omega
    · exact iw k hk
  · exfalso
    have := q2.1
    omega
def sm (f : Nat → Int32) : Nat → Nat
  | 0 => 0
  | j + 1 => sm f j + (f (61 + j)).toInt.toNat
theorem sm_up (f : Nat → Int32) (e : Nat) (v : Int32) (hv : v.toInt.toNat < (f (61 + e)).toInt.toNat) : ∀ j : Nat, (j ≤ e → sm (upd f (61 + e) v) j = sm f j) ∧ (e < j → sm (upd f (61 + e) v) j + 1 ≤ sm f j) := by
  intro j
  induction j with
  | zero => exact ⟨fun _ => rfl, fun h => absurd h (by omega)⟩
  | succ j ih =>
    have a : sm (upd f (61 + e) v) (j + 1) = sm (upd f (61 + e) v) j + (upd f (61 + e) v (61 + j)).toInt.toNat := rfl
    have b : sm f (j + 1) = sm f j + (f (61 + j)).toInt.toNat := rfl
    rw [a, b]
    rcases Nat.lt_or_ge j e with q | q
    · have c : upd f (61 + e) v (61 + j) = f (61 + j) := by
        unfold upd
        split
        · exfalso; omega
        · rfl
      rw [c]
      refine ⟨fun _ => by rw [ih.1 (by omega)], fun h => absurd h (by omega)⟩
    · refine ⟨fun h => absurd h (by omega), fun _ => ?_⟩
      rcases Nat.lt_or_ge e j with w | w
      · have c : upd f (61 + e) v (61 + j) = f (61 + j) := by
          unfold upd
          split
          · exfalso; omega
          · rfl
        rw [c]
        have := ih.2 w
        omega
      · obtain rfl : e = j := by omega
        have c : upd f (61 + e) v (61 + e) = v := by
          unfold upd
          split
          · rfl
          · exfalso; omega
        rw [c, ih.1 (by omega)]
        omega
/-- one edge of a ring made less: what holds of the rest -/
theorem cut_1 {f g : Nat → Int32} {i v a b : Int32} (hi : i.toInt = 61 + 8 * a.toInt + b.toInt) (ha : 0 ≤ a.toInt ∧ a.toInt < 8) (hb : 0 ≤ b.toInt ∧ b.toInt < 8) (hg : upd f i.toNatClampNeg v = g) (h0 : 0 ≤ v.toInt) (hv : v.toInt < od f a b) : sm g 64 + 1 ≤ sm f 64 ∧ ∀ c d : Int32, c.toInt ≠ a.toInt → 0 ≤ c.toInt → 0 ≤ d.toInt → d.toInt < 8 → od g c d = od f c d := by
  have e : i.toNatClampNeg = 61 + (8 * a.toInt.toNat + b.toInt.toNat) := i_nat (by omega)
  unfold od at hv
  rw [show 61 + 8 * a.toInt.toNat + b.toInt.toNat = 61 + (8 * a.toInt.toNat + b.toInt.toNat) by omega] at hv
  rw [e] at hg
  refine ⟨?_, fun c d h1 h2 h3 h4 => ?_⟩
  · rw [← hg]
    exact (sm_up f (8 * a.toInt.toNat + b.toInt.toNat) v (by omega) 64).2 (by omega)
  · unfold od
    rw [← hg]
    unfold upd
    split
    · exfalso; omega
    · rfl
theorem vr_nine {r : Nat → Nat} {e : va_E} : va_pl ([] ++ (List.range 9).map r) (vr_up (fun _ => e) ((List.range 9).map r) e) = [(r 0, e), (r 1, e), (r 2, e), (r 3, e), (r 4, e), (r 5, e), (r 6, e), (r 7, e), (r 8, e)] := by
  have q : vr_up (fun _ => e) ((List.range 9).map r) e = fun _ => e := by
    funext a
    unfold vr_up
    exact ite_self _
  rw [q]
  rfl
