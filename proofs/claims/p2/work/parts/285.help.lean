def Pin (t : Nat → Int32) (n : Nat) (a b : Int32) : Prop := a.toInt = 0 ∧ ∃ cx jx : Nat, b.toInt = (jx : Int) ∧ jx ≤ n ∧ Sq (It t n 8) cx 0 jx
def Rx (f w : Nat → Int32) (r : Int32) : Prop := ∃ j : Nat, r.toInt = (j : Int) ∧ Rg f w j
theorem back_x {f u g gw w : Nat → Int32} {n : Nat} {r p x : Int32} (h : (r.toInt = 0 ∧ ∀ k : Nat, k < n + 1 → u k = g k) ∨ Rx f u r) (hr : r.toInt ≤ 0) (hg : upd gw p.toNatClampNeg x = g) (hp : p.toInt = (n : Int)) (iw : ∀ k : Nat, k < n → gw k = w k) : ∀ k : Nat, k < n → u k = w k := back_w h hr hg hp iw
