-- parts of a world by slices: from a place on, so many cells (read in one go, not place by place)
def slA {α : Type} : Nat → List α → List α → List α
  | 0, _, r => r
  | _ + 1, [], r => r
  | n + 1, a :: t, r => a :: slA n t r
def slD {α : Type} : Nat → List α → List α
  | 0, l => l
  | _ + 1, [] => []
  | n + 1, _ :: t => slD n t
def sl {α : Type} : List (Nat × Nat) → List α → List α
  | [], _ => []
  | p :: q, l => slA p.2 (slD p.1 l) (sl q l)
def sI : Nat → Nat → List Nat
  | _, 0 => []
  | s, n + 1 => s :: sI (s + 1) n
def ix : List (Nat × Nat) → List Nat
  | [] => []
  | p :: q => sI p.1 p.2 ++ ix q
def sge {α : Type} : Nat → List α → Bool
  | 0, _ => true
  | _ + 1, [] => false
  | n + 1, _ :: t => sge n t
def sok (q : List (Nat × Nat)) (N : Nat) : Bool := va_nd (ix q) && q.all (fun p => Nat.ble (p.1 + p.2) N)
theorem slD_mem {α : Type} {x : α} : ∀ (n : Nat) (l : List α), x ∈ slD n l → x ∈ l := by
  intro n
  induction n with
  | zero => intro l h; exact h
  | succ n ih =>
    intro l h
    cases l with
    | nil => exact h
    | cons a t => exact List.mem_cons.mpr (Or.inr (ih t h))
theorem slA_mem {α : Type} {x : α} : ∀ (n : Nat) (l r : List α), x ∈ slA n l r → x ∈ l ∨ x ∈ r := by
  intro n
  induction n with
  | zero => intro l r h; exact Or.inr h
  | succ n ih =>
    intro l r h
    cases l with
    | nil => exact Or.inr h
    | cons a t =>
      have h2 : x ∈ a :: slA n t r := h
      rcases List.mem_cons.mp h2 with e | h3
      · exact Or.inl (List.mem_cons.mpr (Or.inl e))
      · rcases ih t r h3 with h4 | h4
        · exact Or.inl (List.mem_cons.mpr (Or.inr h4))
        · exact Or.inr h4
theorem sl_mem {α : Type} {x : α} {l : List α} : ∀ q : List (Nat × Nat), x ∈ sl q l → x ∈ l := by
  intro q
  induction q with
  | nil => intro h; exact absurd h List.not_mem_nil
  | cons p q ih =>
    intro h
    rcases slA_mem p.2 (slD p.1 l) (sl q l) h with h1 | h1
    · exact slD_mem p.1 l h1
    · exact ih h1
theorem sge_len {α : Type} : ∀ (n : Nat) (l : List α), sge n l = true → n ≤ l.length := by
  intro n
  induction n with
  | zero => intro l _; exact Nat.zero_le _
  | succ n ih =>
    intro l h
    cases l with
    | nil => exact absurd (show false = true from h) (by decide)
    | cons a t => exact Nat.succ_le_succ (ih t h)
theorem slD_get {α : Type} : ∀ (s : Nat) (l : List α), s < l.length → ∃ x, l[s]? = some x ∧ slD s l = x :: slD (s + 1) l := by
  intro s
  induction s with
  | zero =>
    intro l h
    cases l with
    | nil => exact absurd h (Nat.not_lt_zero _)
    | cons a t => exact ⟨a, rfl, rfl⟩
  | succ s ih =>
    intro l h
    cases l with
    | nil => exact absurd h (Nat.not_lt_zero _)
    | cons a t =>
      obtain ⟨x, h1, h2⟩ := ih t (Nat.lt_of_succ_lt_succ h)
      exact ⟨x, by rw [List.getElem?_cons_succ]; exact h1, h2⟩
theorem slA_map {α : Type} : ∀ (n s : Nat) (l r : List α) (js : List Nat), s + n ≤ l.length → js.map (fun i => l[i]?) = r.map some → (sI s n ++ js).map (fun i => l[i]?) = (slA n (slD s l) r).map some := by
  intro n
  induction n with
  | zero => intro s l r js _ h; exact h
  | succ n ih =>
    intro s l r js hs h
    obtain ⟨x, hx, e⟩ := slD_get s l (by omega)
    have g := ih (s + 1) l r js (by omega) h
    have e2 : slA (n + 1) (slD s l) r = x :: slA n (slD (s + 1) l) r := by rw [e]; rfl
    rw [e2]
    show l[s]? :: (sI (s + 1) n ++ js).map (fun i => l[i]?) = some x :: (slA n (slD (s + 1) l) r).map some
    rw [hx, g]
theorem sl_map {α : Type} {l : List α} {N : Nat} (hN : N ≤ l.length) : ∀ q : List (Nat × Nat), q.all (fun p => Nat.ble (p.1 + p.2) N) = true → (ix q).map (fun i => l[i]?) = (sl q l).map some := by
  intro q
  induction q with
  | nil => intro _; rfl
  | cons p q ih =>
    intro h
    rw [List.all_cons, Bool.and_eq_true] at h
    exact slA_map p.2 p.1 l (sl q l) (ix q) (Nat.le_trans (Nat.le_of_ble_eq_true h.1) hN) (ih h.2)
theorem P_s {D : va_G} {cl : List vw_C} {ws ws' : va_W} {H : Heap} (h : va_P D cl ws H) (q : List (Nat × Nat)) (e : sl q ws = ws') : va_P D cl ws' H := by
  intro k x hk
  subst e
  obtain ⟨i, hi⟩ := List.getElem?_of_mem (sl_mem q (List.mem_of_getElem? hk))
  exact h i x hi
theorem K_s {D : va_G} {cl : List vw_C} {tys tys' : List (ClassId × FieldType)} {U : State} (h : va_K D cl tys U) (q : List (Nat × Nat)) (e : sl q tys = tys') : va_K D cl tys' U := by
  refine ⟨h.1, fun k x hk => ?_⟩
  subst e
  obtain ⟨i, hi⟩ := List.getElem?_of_mem (sl_mem q (List.mem_of_getElem? hk))
  exact h.2 i x hi
theorem D_s {A : Nat → Prop} {ws ws' : va_W} (hD : va_D A ws) (q : List (Nat × Nat)) (N : Nat) (hN : sge N ws = true) (hq : sok q N = true) (e : sl q ws = ws') : va_D A ws' := by
  unfold sok at hq
  rw [Bool.and_eq_true] at hq
  exact hD.sub (ix q) hq.1 (by subst e; exact sl_map (sge_len N ws hN) q hq.2)
theorem E_s {A : Nat → Prop} {D : va_G} {cl : List vw_C} {ws ws' : va_W} {H : Heap} (hP : va_P D cl ws H) (hD : va_D A ws) (q : List (Nat × Nat)) (N : Nat) (hN : sge N ws = true) (hq : sok q N = true) (e : sl q ws = ws') : va_P D cl ws' H ∧ va_D A ws' := ⟨P_s hP q e, D_s hD q N hN hq e⟩
theorem C_s {A0 : Nat → Prop} {D : va_G} {cl : List vw_C} {ws wc : va_W} {H0 H : Heap} {locs : List Loc} (hP : va_P D cl ws H) (hD : va_D A0 ws) (hS : va_S A0 H0 H locs) (hA : ∀ q, H0.size ≤ q → A0 q) (q : List (Nat × Nat)) (N : Nat) (hN : sge N ws = true) (hq : sok q N = true) (e : sl q ws = wc) : va_P D cl wc H ∧ va_D A0 wc ∧ (∀ a, va_A wc H.size a → A0 a) ∧ (ix q).map (fun i => ws[i]?) = wc.map some ∧ N ≤ ws.length := by
  have hl := sge_len N ws hN
  refine ⟨P_s hP q e, D_s hD q N hN hq e, fun a h => ?_, ?_, hl⟩
  · rcases h with ⟨k, x, h⟩ | h
    · subst e
      obtain ⟨i, hi⟩ := List.getElem?_of_mem (sl_mem q (List.mem_of_getElem? h))
      exact hD.2 i (a, x) hi
    · exact hA a (Nat.le_trans hS.1 h)
  · unfold sok at hq
    rw [Bool.and_eq_true] at hq
    subst e
    exact sl_map hl q hq.2
theorem R_s {α : Type} {ws wr : List α} {N : Nat} (hN : N ≤ ws.length) (q : List (Nat × Nat)) (hq : q.all (fun p => Nat.ble (p.1 + p.2) N) = true) (e : sl q ws = wr) : (ix q).map (fun i => ws[i]?) = wr.map some := by
  subst e
  exact sl_map hN q hq
theorem X_s {A : Nat → Prop} {D : va_G} {cl : List vw_C} {ws ws' : va_W} {H : Heap} (hP : va_P D cl ws H) (hD : va_D A ws) (e : ws = ws') : va_P D cl ws' H ∧ va_D A ws' := by
  subst e
  exact ⟨hP, hD⟩
def sl3 {α : Type} : List (Nat × Nat) → List α → List α → List α
  | [], _, r => r
  | p :: q, l, r => slA p.2 (slD p.1 l) (sl3 q l r)
theorem slA_app {α : Type} (s : List α) : ∀ (n : Nat) (l r : List α), slA n l (r ++ s) = slA n l r ++ s := by
  intro n
  induction n with
  | zero => intro l r; rfl
  | succ n ih =>
    intro l r
    cases l with
    | nil => rfl
    | cons a t =>
      show a :: slA n t (r ++ s) = a :: (slA n t r ++ s)
      rw [ih t r]
theorem sl3_eq {α : Type} (l r : List α) : ∀ q : List (Nat × Nat), sl3 q l r = sl q l ++ r := by
  intro q
  induction q with
  | nil => rfl
  | cons p q ih =>
    show slA p.2 (slD p.1 l) (sl3 q l r) = slA p.2 (slD p.1 l) (sl q l) ++ r
    rw [ih, slA_app]
def jok (qC qR : List (Nat × Nat)) (N : Nat) : Bool := sok qR N && decide (∀ i ∈ ix qR, i ∉ ix qC)
theorem J_s {A0 : Nat → Prop} {D : va_G} {cl : List vw_C} {ws wc w1 wL : va_W} {H H1 : Heap} {N : Nat} (hP : va_P D cl ws H) (hD : va_D A0 ws) (qC qR : List (Nat × Nat)) (hC : (ix qC).map (fun i => ws[i]?) = wc.map some) (hN : N ≤ ws.length) (hj : jok qC qR N = true) (hk : ∀ q : Nat, q < H.size → ¬ va_A wc H.size q → H1[q]? = H[q]?) (hF : ∀ q, va_A wc H.size q → A0 q) (hP1 : va_P D cl w1 H1) (hD1 : va_D (va_A wc H.size) w1) (e : sl3 qR ws w1 = wL) : va_P D cl wL H1 ∧ va_D A0 wL := by
  unfold jok sok at hj
  rw [Bool.and_eq_true, Bool.and_eq_true] at hj
  rw [sl3_eq] at e
  subst e
  exact va_join hP hD (ix qC) (ix qR) hC (sl_map hN qR hj.1.2) hj.1.1 (of_decide_eq_true hj.2) hk hF hP1 hD1
theorem KJ_s {D : va_G} {cl : List vw_C} {tys t1 tys' : List (ClassId × FieldType)} {U : State} (h : va_K D cl tys U) (h1 : va_K D cl t1 U) (q : List (Nat × Nat)) (e : sl3 q tys t1 = tys') : va_K D cl tys' U := by
  rw [sl3_eq] at e
  subst e
  exact (K_s h q rfl).app h1
