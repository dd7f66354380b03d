section
-- the tables' word of arrays of arrays, over states (the printed block of new T[n][m] uses it, the kit has it of objects alone)
def va_AOA (ty : FieldType) (U : State) : Prop := (Cond.arrayOver (.array ty)).before #[] U = true
theorem va_AOA.of {ty : FieldType} {A : Array Value} {U : State} (h : (Cond.arrayOver (.array ty)).before A U = true) : va_AOA ty U := over_moved (Vm.Alike.refl U.vm) h
theorem va_AOA.use {ty : FieldType} {A : Array Value} {U : State} (h : va_AOA ty U) : (Cond.arrayOver (.array ty)).before A U = true := over_moved (Vm.Alike.refl U.vm) h
theorem va_AOA.moved {ty : FieldType} {u U : State} (hvm : u.vm.Alike U.vm) (h : va_AOA ty u) : va_AOA ty U := over_moved hvm h


/-- f, but v at every address of l -/
def vr_up {α : Type} (f : Nat → α) (l : List Nat) (v : α) : Nat → α := fun a => if a ∈ l then v else f a
theorem vr_up_in {α : Type} {f : Nat → α} {l : List Nat} {v : α} {a : Nat} (h : a ∈ l) : vr_up f l v a = v := if_pos h
theorem vr_up_ne {α : Type} {f : Nat → α} {l : List Nat} {v : α} {a : Nat} (h : a ∉ l) : vr_up f l v a = f a := if_neg h
theorem vr_rows {L l : List Nat} {f : Nat → va_E} {e : va_E} (h : ∀ a, a ∈ l → a ∉ L) : va_pl L f ++ l.map (fun a => (a, e)) = va_pl (L ++ l) (vr_up f l e) := by
  unfold va_pl
  rw [List.map_append]
  congr 1
  · apply List.map_congr_left
    intro a ha
    rw [vr_up_ne (fun q => h a q ha)]
  · apply List.map_congr_left
    intro a ha
    rw [vr_up_in ha]
theorem vr_lay {X rows : va_W} {x : Nat × va_E} {pl : va_W} {D : va_G} {cl : List vw_C} {H : Heap} (hP : va_P D cl (((X ++ pl) ++ [x]) ++ rows) H) : va_P D cl ((X ++ [x]) ++ (pl ++ rows)) H := by
  rw [List.append_assoc (X ++ pl)] at hP
  have h := va_P.swap hP
  rw [← List.append_assoc X] at h
  have h2 := va_P.swap h
  rw [List.append_assoc (X ++ [x])] at h2
  exact h2
theorem vr_layD {X rows : va_W} {x : Nat × va_E} {pl : va_W} {A : Nat → Prop} (hD : va_D A (((X ++ pl) ++ [x]) ++ rows)) : va_D A ((X ++ [x]) ++ (pl ++ rows)) := by
  rw [List.append_assoc (X ++ pl)] at hD
  have h := va_D.swap hD
  rw [← List.append_assoc X] at h
  have h2 := va_D.swap h
  rw [List.append_assoc (X ++ [x])] at h2
  exact h2
theorem vr_outer (c : ClassId) (N h0 : Nat) : ∀ i : Nat, Jvm.Free.Multi.outerC c N h0 i = arrV c N (fun j => va_rf (if j < i then some (h0 + 1 + j) else none))
  | 0 => by
    show ({ cls := c, slots := Array.replicate N .null, vm := .none } : Cell) = _
    rw [arrV_new]
    refine congrArg (arrV c N) (funext fun j => ?_)
    simp [va_rf]
  | i + 1 => by
    show (Jvm.Free.Multi.outerC c N h0 i).setSlot i (.ref (h0 + 1 + i)) = _
    rw [vr_outer c N h0 i, arrV_store]
    refine congrArg (arrV c N) (funext fun j => ?_)
    by_cases e : j = i
    · subst e
      simp [updV, va_rf]
    · by_cases h : j < i
      · simp [updV, e, h, Nat.lt_succ_of_lt h]
      · simp [updV, e, h, show ¬ j < i + 1 by omega]
section VGM
variable {p : Program} {l : Launch} {e : Env} {R : Room} {s : State} {m : MethodId} {args : Array Value} {below : List Frame} {meth : Method} {c : Code} {H : Heap} {locs : List Loc} {cells slots : Nat} {Q : State → Prop}
variable {cc : ByteArray} {pc : Nat} {ls : Array Slot} {rest : List Value} {D : va_G} {cl : List vw_C} {A : Nat → Prop} {a : Nat} {tys : List (ClassId × FieldType)} {ws : va_W} {H0 : Heap}
theorem va_mna {X : va_W} {L : List Nat} {f : Nat → va_E} {cc : ByteArray} (hexec : p.tables.exec = Jvm.exec) (hb : c.code = cc) {own : String} {index : Nat} {ty : FieldType} {cy : ClassId} (hown : s.vm.findClass own = some m.cls) (hclink : (Cond.classLink own index ("[" ++ (FieldType.array ty).toString)).before args s = true) (hover : va_AOA ty s) (harr : (Cond.arrayClass ty).before args s = true) (hcy : s.vm.findClass (FieldType.array ty).toString = some cy)
    (hK : va_K D cl tys s) (hP : va_P D cl (X ++ va_pl L f) H) (hD : va_D A (X ++ va_pl L f)) (hS : va_S A H0 H locs) (hA : ∀ q, H0.size ≤ q → A q) {n k : Int32} {N' K' : Nat} {z : vp_A} (hn : ¬ n < 0) (hk : ¬ k < 0) (hN : n.toNatClampNeg = N') (hM : k.toNatClampNeg = K')
    (hb1 : N' * 4 ≤ 536870912) (hb2 : K' * componentBytes ty ≤ 536870912) (hb3 : K' ≤ 536870912) (hdf : fits ty (defaultValue ty) = true) (hdd : (defaultValue ty).isDefault = true) (hcells : cells + (1 + N') ≤ R.cells) (hslots : slots + (N' + N' * K') ≤ R.slots) (hz : ∀ c : ClassId, Jvm.Free.Multi.innerC c K' (defaultValue ty) = vp_cell c z) (hdg : decode cc pc = .ok (.multianewarray index 2, 4))
    (kk : ∀ (q : Nat) (r : Nat → Nat) (cA : ClassId) (H1 : Heap), (∀ i j : Nat, i < N' → j < N' → r i = r j → i = j) → (∀ i : Nat, i < N' → r i ∉ L) → va_K D cl (tys ++ [(cA, .array ty)]) s →
      va_P D cl ((X ++ [(q, .inl (cA, N', .inr (.inr (.inr (.inr (fun i => if i < N' then some (r i) else none))))))]) ++ va_pl (L ++ (List.range N').map r) (vr_up f ((List.range N').map r) (.inl (cy, z)))) H1 → va_D A ((X ++ [(q, .inl (cA, N', .inr (.inr (.inr (.inr (fun i => if i < N' then some (r i) else none))))))]) ++ va_pl (L ++ (List.range N').map r) (vr_up f ((List.range N').map r) (.inl (cy, z)))) → va_S A H0 H1 locs →
      W p l e R s m args below meth c H1 locs (cells + 1 + N') (slots + N' + N' * K') Q (F0 m (pc + 4) ls (.ref q :: rest))) : W p l e R s m args below meth c H locs cells slots Q (F0 m pc ls (.int k :: .int n :: rest)) := by
  subst hN
  subst hM
  intro T hT Xs
  obtain ⟨vm₁, cA, comp, -, fA, fC, hO, -, X', step⟩ := Xs.multianewarray2F hexec hown hclink (va_AOA.use hover) harr (g := F0 m pc ls (.int k :: .int n :: rest)) rfl (by rw [hb]; exact hdg) rfl hn hk hb1 hb2 hb3 hdf hdd hcells hslots
  have ec : some cy = some comp := hcy.symm.trans fC
  cases ec
  generalize hF : Jvm.Free.Multi.fill (T.setVm vm₁) cA cy n.toNatClampNeg k.toNatClampNeg (defaultValue ty) n.toNatClampNeg = F at X' step
  have hTh : (T.setVm vm₁).heap = H := hT
  obtain ⟨f1, f2, -, -⟩ := Jvm.Free.Multi.fill_facts (T.setVm vm₁) cA cy n.toNatClampNeg k.toNatClampNeg (defaultValue ty) n.toNatClampNeg
  rw [hF, hTh] at f1 f2
  have hold : ∀ x : Nat, x < H.size → F.heap[x]? = H[x]? := fun x hx => by
    have := Jvm.Free.Multi.fill_old (T.setVm vm₁) cA cy n.toNatClampNeg k.toNatClampNeg (defaultValue ty) (a := x) (by rw [hTh]; exact hx) n.toNatClampNeg
    rw [hF, hTh] at this
    exact this
  have hrow : ∀ j : Nat, j < n.toNatClampNeg → F.heap[H.size + 1 + j]? = some (vp_cell cy z) := fun j hj => by
    have := Jvm.Free.Multi.fill_inner (T.setVm vm₁) cA cy n.toNatClampNeg k.toNatClampNeg (defaultValue ty) n.toNatClampNeg j hj
    rw [hF, hTh, hz] at this
    exact this
  have hout : Jvm.Free.Multi.outerC cA n.toNatClampNeg H.size n.toNatClampNeg = vp_cell cA (n.toNatClampNeg, .inr (.inr (.inr (.inr (fun i => if i < n.toNatClampNeg then some (H.size + 1 + i) else none))))) := by
    rw [vp_cell_q]
    exact vr_outer cA n.toNatClampNeg H.size n.toNatClampNeg
  rw [hout] at f2
  have hlt : ∀ a, a ∈ L → a < H.size := fun a ha => by
    obtain ⟨k9, hk9⟩ := va_pl_get (X := X) (f := f) ha
    exact (hP k9 _ hk9).lt
  have hnl : ∀ i : Nat, i < n.toNatClampNeg → H.size + 1 + i ∉ L := fun i _ h => by
    have := hlt _ h
    omega
  have hnm : ∀ a, a ∈ (List.range n.toNatClampNeg).map (fun i => H.size + 1 + i) → a ∉ L := fun a ha h => by
    obtain ⟨i, -, rfl⟩ := List.mem_map.mp ha
    have := hlt _ h
    omega
  have hP0 : va_P D cl (X ++ va_pl L f) F.heap := hP.kept (fun k9 x hx => hold x.1 ((hP k9 x hx).lt))
  have hP1 : va_P D cl ((X ++ va_pl L f) ++ [(H.size, .inl (cA, n.toNatClampNeg, .inr (.inr (.inr (.inr (fun i => if i < n.toNatClampNeg then some (H.size + 1 + i) else none))))))]) F.heap := hP0.app (fun k9 x hx => by
    have h0 : k9 < 1 := (List.getElem?_eq_some_iff.mp hx).1
    rw [show k9 = 0 by omega] at hx
    cases hx
    exact f2)
  have hP2 : va_P D cl (((X ++ va_pl L f) ++ [(H.size, .inl (cA, n.toNatClampNeg, .inr (.inr (.inr (.inr (fun i => if i < n.toNatClampNeg then some (H.size + 1 + i) else none))))))]) ++ ((List.range n.toNatClampNeg).map (fun i => H.size + 1 + i)).map (fun a => (a, .inl (cy, z)))) F.heap := hP1.app (fun k9 x hx => by
    obtain ⟨a, ha, rfl⟩ := List.mem_map.mp (List.mem_of_getElem? hx)
    obtain ⟨i, hi, rfl⟩ := List.mem_map.mp ha
    exact hrow i (List.mem_range.mp hi))
  have hD2 : va_D A (((X ++ va_pl L f) ++ [(H.size, .inl (cA, n.toNatClampNeg, .inr (.inr (.inr (.inr (fun i => if i < n.toNatClampNeg then some (H.size + 1 + i) else none))))))]) ++ ((List.range n.toNatClampNeg).map (fun i => H.size + 1 + i)).map (fun a => (a, .inl (cy, z)))) := by
    have hD1 := hD.push (e := .inl (cA, n.toNatClampNeg, .inr (.inr (.inr (.inr (fun i => if i < n.toNatClampNeg then some (H.size + 1 + i) else none)))))) hP rfl (hA _ hS.1)
    generalize hW1 : (X ++ va_pl L f) ++ [(H.size, .inl (cA, n.toNatClampNeg, .inr (.inr (.inr (.inr (fun i => if i < n.toNatClampNeg then some (H.size + 1 + i) else none))))))] = W1 at hD1 hP1 ⊢
    have hle : ∀ (k9 : Nat) (x : Nat × va_E), W1[k9]? = some x → x.1 ≤ H.size := fun k9 x hx => by
      rw [← hW1] at hx
      by_cases hl : k9 < (X ++ va_pl L f).length
      · rw [List.getElem?_append_left hl] at hx
        exact Nat.le_of_lt ((hP k9 x hx).lt)
      · rw [List.getElem?_append_right (by omega)] at hx
        have h0 : k9 - (X ++ va_pl L f).length < 1 := (List.getElem?_eq_some_iff.mp hx).1
        rw [show k9 - (X ++ va_pl L f).length = 0 by omega] at hx
        cases hx
        exact Nat.le_refl _
    have hr : ∀ (k9 : Nat) (x : Nat × va_E), (((List.range n.toNatClampNeg).map (fun i => H.size + 1 + i)).map (fun a => ((a, .inl (cy, z)) : Nat × va_E)))[k9]? = some x → x.1 = H.size + 1 + k9 := fun k9 x hx => by
      rw [List.getElem?_map, List.getElem?_map] at hx
      by_cases h9 : k9 < n.toNatClampNeg
      · rw [List.getElem?_range h9] at hx
        cases hx
        rfl
      · have hn0 : (List.range n.toNatClampNeg)[k9]? = none := List.getElem?_eq_none (by rw [List.length_range]; omega)
        rw [hn0] at hx
        cases hx
    refine ⟨fun i j x y hi hj hxy => ?_, fun k9 x hx => ?_⟩
    · by_cases h1 : i < W1.length <;> by_cases h2 : j < W1.length
      · rw [List.getElem?_append_left h1] at hi
        rw [List.getElem?_append_left h2] at hj
        exact hD1.1 i j x y hi hj hxy
      · rw [List.getElem?_append_left h1] at hi
        rw [List.getElem?_append_right (by omega)] at hj
        have := hle _ _ hi
        have := hr _ _ hj
        omega
      · rw [List.getElem?_append_right (by omega)] at hi
        rw [List.getElem?_append_left h2] at hj
        have := hle _ _ hj
        have := hr _ _ hi
        omega
      · rw [List.getElem?_append_right (by omega)] at hi hj
        have := hr _ _ hi
        have := hr _ _ hj
        omega
    · by_cases h1 : k9 < W1.length
      · rw [List.getElem?_append_left h1] at hx
        exact hD1.2 k9 x hx
      · rw [List.getElem?_append_right (by omega)] at hx
        have := hr _ _ hx
        exact hA _ (by have := hS.1; omega)
  have hAr : ArrOfT s cA (.array ty) := fun N9 z9 => by
    obtain ⟨-, k9, hk9, cm9, hkk9⟩ := (hO 0 0 0).1
    exact ⟨(fun q hq => by cases hq), k9, hk9, cm9, hkk9⟩
  have hK2 : va_K D cl (tys ++ [(cA, .array ty)]) s := ⟨hK.1, fun k9 x hx => by
    by_cases hl : k9 < tys.length
    · rw [List.getElem?_append_left hl] at hx
      exact hK.2 k9 x hx
    · rw [List.getElem?_append_right (by omega)] at hx
      have h0 : k9 - tys.length < 1 := (List.getElem?_eq_some_iff.mp hx).1
      rw [show k9 - tys.length = 0 by omega] at hx
      cases hx
      exact ⟨hAr, fA⟩⟩
  obtain ⟨t, a1, b1⟩ := kk H.size (fun i => H.size + 1 + i) cA F.heap (fun i j _ _ h => by have h9 : H.size + 1 + i = H.size + 1 + j := h; omega) hnl hK2 (by rw [← vr_rows hnm]; exact vr_lay hP2) (by rw [← vr_rows hnm]; exact vr_layD hD2) ⟨by rw [f1]; have := hS.1; omega, fun x h1 h2 => (hold x (Nat.lt_of_lt_of_le h1 hS.1)).trans (hS.2.1 x h1 h2), hS.2.2⟩ F rfl X'
  refine ⟨t, step t ?_, b1⟩
  have e : T.heap.size = H.size := by rw [hT]
  rw [e]
  exact a1
end VGM
end
section
-- ===== PART A: goes FIRST, ahead of the names: the tables' words, and 'selects' of the private methods out of them =====
/-- a private method of a class that the tables say can be made, by its rows of tables_1 -/
def lw_okq (q : MethodName × Nat) : Prop := (q.1.cls ≠ "java/lang/invoke/MethodHandle" ∧ q.1.cls ≠ "java/lang/invoke/VarHandle") ∧ Cond.instantiable q.1.cls q.2 ∈ tables_1 ∧ Cond.privateMethod q.1 ∈ tables_1 ∧ Cond.instanceMethod q.1 ∈ tables_1
theorem lw_p0 : lw_okq (⟨"ClearingGates$Reader", "step", "(I)I"⟩, 5) := ⟨⟨by decide +kernel, by decide +kernel⟩, List.mem_of_getElem? (i := 158) (by decide +kernel), List.mem_of_getElem? (i := 391) (by decide +kernel), List.mem_of_getElem? (i := 392) (by decide +kernel)⟩
theorem lw_p1 : lw_okq (⟨"ClearingGates$Reader", "openingWithFigure", "(III)I"⟩, 5) := ⟨⟨by decide +kernel, by decide +kernel⟩, List.mem_of_getElem? (i := 158) (by decide +kernel), List.mem_of_getElem? (i := 399) (by decide +kernel), List.mem_of_getElem? (i := 400) (by decide +kernel)⟩
theorem lw_p2 : lw_okq (⟨"ClearingGates$Reader", "opening", "(I)I"⟩, 5) := ⟨⟨by decide +kernel, by decide +kernel⟩, List.mem_of_getElem? (i := 158) (by decide +kernel), List.mem_of_getElem? (i := 403) (by decide +kernel), List.mem_of_getElem? (i := 404) (by decide +kernel)⟩
theorem lw_p3 : lw_okq (⟨"ClearingGates$Reader", "faultAt", "(I)I"⟩, 5) := ⟨⟨by decide +kernel, by decide +kernel⟩, List.mem_of_getElem? (i := 158) (by decide +kernel), List.mem_of_getElem? (i := 407) (by decide +kernel), List.mem_of_getElem? (i := 408) (by decide +kernel)⟩
theorem lw_p4 : lw_okq (⟨"ClearingGates$Reader", "isFigure", "(III)Z"⟩, 5) := ⟨⟨by decide +kernel, by decide +kernel⟩, List.mem_of_getElem? (i := 158) (by decide +kernel), List.mem_of_getElem? (i := 411) (by decide +kernel), List.mem_of_getElem? (i := 412) (by decide +kernel)⟩
theorem lw_p5 : lw_okq (⟨"ClearingGates$Reader", "closing", "(II)I"⟩, 5) := ⟨⟨by decide +kernel, by decide +kernel⟩, List.mem_of_getElem? (i := 158) (by decide +kernel), List.mem_of_getElem? (i := 415) (by decide +kernel), List.mem_of_getElem? (i := 416) (by decide +kernel)⟩
theorem lw_p6 : lw_okq (⟨"ClearingGates$Reader", "ends", "(II)I"⟩, 5) := ⟨⟨by decide +kernel, by decide +kernel⟩, List.mem_of_getElem? (i := 158) (by decide +kernel), List.mem_of_getElem? (i := 419) (by decide +kernel), List.mem_of_getElem? (i := 420) (by decide +kernel)⟩
theorem lw_p7 : lw_okq (⟨"ClearingGates$Reader", "payment", "(I)I"⟩, 5) := ⟨⟨by decide +kernel, by decide +kernel⟩, List.mem_of_getElem? (i := 158) (by decide +kernel), List.mem_of_getElem? (i := 423) (by decide +kernel), List.mem_of_getElem? (i := 424) (by decide +kernel)⟩
theorem lw_p8 : lw_okq (⟨"ClearingGates$Reader", "bell", "(I)I"⟩, 5) := ⟨⟨by decide +kernel, by decide +kernel⟩, List.mem_of_getElem? (i := 158) (by decide +kernel), List.mem_of_getElem? (i := 427) (by decide +kernel), List.mem_of_getElem? (i := 428) (by decide +kernel)⟩
theorem lw_p9 : lw_okq (⟨"ClearingGates", "isProgram", "(I)Z"⟩, 13) := ⟨⟨by decide +kernel, by decide +kernel⟩, List.mem_of_getElem? (i := 15) (by decide +kernel), List.mem_of_getElem? (i := 435) (by decide +kernel), List.mem_of_getElem? (i := 436) (by decide +kernel)⟩
theorem lw_p10 : lw_okq (⟨"ClearingGates$Runner", "keep", "(I)V"⟩, 8) := ⟨⟨by decide +kernel, by decide +kernel⟩, List.mem_of_getElem? (i := 180) (by decide +kernel), List.mem_of_getElem? (i := 443) (by decide +kernel), List.mem_of_getElem? (i := 444) (by decide +kernel)⟩
theorem lw_p11 : lw_okq (⟨"ClearingGates$Runner", "items", "(III)I"⟩, 8) := ⟨⟨by decide +kernel, by decide +kernel⟩, List.mem_of_getElem? (i := 180) (by decide +kernel), List.mem_of_getElem? (i := 448) (by decide +kernel), List.mem_of_getElem? (i := 449) (by decide +kernel)⟩
theorem lw_p12 : lw_okq (⟨"ClearingGates$Runner", "item", "(II)I"⟩, 8) := ⟨⟨by decide +kernel, by decide +kernel⟩, List.mem_of_getElem? (i := 180) (by decide +kernel), List.mem_of_getElem? (i := 452) (by decide +kernel), List.mem_of_getElem? (i := 453) (by decide +kernel)⟩
theorem lw_p13 : lw_okq (⟨"ClearingGates$Runner", "block", "(II)I"⟩, 8) := ⟨⟨by decide +kernel, by decide +kernel⟩, List.mem_of_getElem? (i := 180) (by decide +kernel), List.mem_of_getElem? (i := 457) (by decide +kernel), List.mem_of_getElem? (i := 458) (by decide +kernel)⟩
theorem lw_p14 : lw_okq (⟨"ClearingGates$Runner", "isGreaterHeld", "(I)Z"⟩, 8) := ⟨⟨by decide +kernel, by decide +kernel⟩, List.mem_of_getElem? (i := 180) (by decide +kernel), List.mem_of_getElem? (i := 471) (by decide +kernel), List.mem_of_getElem? (i := 472) (by decide +kernel)⟩
theorem lw_p15 : lw_okq (⟨"ClearingGates$Runner", "mark", "(I)V"⟩, 8) := ⟨⟨by decide +kernel, by decide +kernel⟩, List.mem_of_getElem? (i := 180) (by decide +kernel), List.mem_of_getElem? (i := 475) (by decide +kernel), List.mem_of_getElem? (i := 476) (by decide +kernel)⟩
def lw_privs_1 : List (MethodName × Nat) := [(⟨"ClearingGates$Reader", "step", "(I)I"⟩, 5), (⟨"ClearingGates$Reader", "openingWithFigure", "(III)I"⟩, 5), (⟨"ClearingGates$Reader", "opening", "(I)I"⟩, 5), (⟨"ClearingGates$Reader", "faultAt", "(I)I"⟩, 5), (⟨"ClearingGates$Reader", "isFigure", "(III)Z"⟩, 5), (⟨"ClearingGates$Reader", "closing", "(II)I"⟩, 5), (⟨"ClearingGates$Reader", "ends", "(II)I"⟩, 5), (⟨"ClearingGates$Reader", "payment", "(I)I"⟩, 5), (⟨"ClearingGates$Reader", "bell", "(I)I"⟩, 5), (⟨"ClearingGates", "isProgram", "(I)Z"⟩, 13), (⟨"ClearingGates$Runner", "keep", "(I)V"⟩, 8), (⟨"ClearingGates$Runner", "items", "(III)I"⟩, 8), (⟨"ClearingGates$Runner", "item", "(II)I"⟩, 8), (⟨"ClearingGates$Runner", "block", "(II)I"⟩, 8), (⟨"ClearingGates$Runner", "isGreaterHeld", "(I)Z"⟩, 8), (⟨"ClearingGates$Runner", "mark", "(I)V"⟩, 8)]
theorem lw_r1 : ∀ q ∈ lw_privs_1, lw_okq q := List.forall_mem_cons.mpr ⟨lw_p0, List.forall_mem_cons.mpr ⟨lw_p1, List.forall_mem_cons.mpr ⟨lw_p2, List.forall_mem_cons.mpr ⟨lw_p3, List.forall_mem_cons.mpr ⟨lw_p4, List.forall_mem_cons.mpr ⟨lw_p5, List.forall_mem_cons.mpr ⟨lw_p6, List.forall_mem_cons.mpr ⟨lw_p7, List.forall_mem_cons.mpr ⟨lw_p8, List.forall_mem_cons.mpr ⟨lw_p9, List.forall_mem_cons.mpr ⟨lw_p10, List.forall_mem_cons.mpr ⟨lw_p11, List.forall_mem_cons.mpr ⟨lw_p12, List.forall_mem_cons.mpr ⟨lw_p13, List.forall_mem_cons.mpr ⟨lw_p14, List.forall_mem_cons.mpr ⟨lw_p15, fun _ h => absurd h List.not_mem_nil⟩⟩⟩⟩⟩⟩⟩⟩⟩⟩⟩⟩⟩⟩⟩⟩
theorem lw_p16 : lw_okq (⟨"ClearingGates$Runner", "inside", "(III)I"⟩, 8) := ⟨⟨by decide +kernel, by decide +kernel⟩, List.mem_of_getElem? (i := 180) (by decide +kernel), List.mem_of_getElem? (i := 479) (by decide +kernel), List.mem_of_getElem? (i := 480) (by decide +kernel)⟩
theorem lw_p17 : lw_okq (⟨"ClearingGates$Runner", "attempt", "(III)I"⟩, 8) := ⟨⟨by decide +kernel, by decide +kernel⟩, List.mem_of_getElem? (i := 180) (by decide +kernel), List.mem_of_getElem? (i := 487) (by decide +kernel), List.mem_of_getElem? (i := 488) (by decide +kernel)⟩
theorem lw_p18 : lw_okq (⟨"ClearingGates$Runner", "undo", "(I)V"⟩, 8) := ⟨⟨by decide +kernel, by decide +kernel⟩, List.mem_of_getElem? (i := 180) (by decide +kernel), List.mem_of_getElem? (i := 491) (by decide +kernel), List.mem_of_getElem? (i := 492) (by decide +kernel)⟩
theorem lw_p19 : lw_okq (⟨"ClearingGates$Runner", "loop", "(II)I"⟩, 8) := ⟨⟨by decide +kernel, by decide +kernel⟩, List.mem_of_getElem? (i := 180) (by decide +kernel), List.mem_of_getElem? (i := 495) (by decide +kernel), List.mem_of_getElem? (i := 496) (by decide +kernel)⟩
theorem lw_p20 : lw_okq (⟨"ClearingGates$Runner", "payment", "(I)I"⟩, 8) := ⟨⟨by decide +kernel, by decide +kernel⟩, List.mem_of_getElem? (i := 180) (by decide +kernel), List.mem_of_getElem? (i := 499) (by decide +kernel), List.mem_of_getElem? (i := 500) (by decide +kernel)⟩
theorem lw_p21 : lw_okq (⟨"ClearingGates$Runner", "isHeld", "(I)Z"⟩, 8) := ⟨⟨by decide +kernel, by decide +kernel⟩, List.mem_of_getElem? (i := 180) (by decide +kernel), List.mem_of_getElem? (i := 503) (by decide +kernel), List.mem_of_getElem? (i := 504) (by decide +kernel)⟩
theorem lw_p22 : lw_okq (⟨"ClearingGates$Runner", "bell", "(II)I"⟩, 8) := ⟨⟨by decide +kernel, by decide +kernel⟩, List.mem_of_getElem? (i := 180) (by decide +kernel), List.mem_of_getElem? (i := 515) (by decide +kernel), List.mem_of_getElem? (i := 516) (by decide +kernel)⟩
theorem lw_p23 : lw_okq (⟨"ClearingGates", "isOfWould", "(I)Z"⟩, 13) := ⟨⟨by decide +kernel, by decide +kernel⟩, List.mem_of_getElem? (i := 15) (by decide +kernel), List.mem_of_getElem? (i := 530) (by decide +kernel), List.mem_of_getElem? (i := 531) (by decide +kernel)⟩
theorem lw_p24 : lw_okq (⟨"ClearingGates", "outcomeInThought", "(I)I"⟩, 13) := ⟨⟨by decide +kernel, by decide +kernel⟩, List.mem_of_getElem? (i := 15) (by decide +kernel), List.mem_of_getElem? (i := 534) (by decide +kernel), List.mem_of_getElem? (i := 535) (by decide +kernel)⟩
theorem lw_p25 : lw_okq (⟨"ClearingGates", "isPair", "(II)Z"⟩, 13) := ⟨⟨by decide +kernel, by decide +kernel⟩, List.mem_of_getElem? (i := 15) (by decide +kernel), List.mem_of_getElem? (i := 559) (by decide +kernel), List.mem_of_getElem? (i := 560) (by decide +kernel)⟩
theorem lw_p26 : lw_okq (⟨"ClearingGates$Rings", "findsFirst", "(I)Z"⟩, 4) := ⟨⟨by decide +kernel, by decide +kernel⟩, List.mem_of_getElem? (i := 103) (by decide +kernel), List.mem_of_getElem? (i := 589) (by decide +kernel), List.mem_of_getElem? (i := 590) (by decide +kernel)⟩
theorem lw_p27 : lw_okq (⟨"ClearingGates$Rings", "leadsBack", "(IIII)Z"⟩, 4) := ⟨⟨by decide +kernel, by decide +kernel⟩, List.mem_of_getElem? (i := 103) (by decide +kernel), List.mem_of_getElem? (i := 593) (by decide +kernel), List.mem_of_getElem? (i := 594) (by decide +kernel)⟩
theorem lw_p28 : lw_okq (⟨"ClearingGates$Rings", "cutFound", "()V"⟩, 4) := ⟨⟨by decide +kernel, by decide +kernel⟩, List.mem_of_getElem? (i := 103) (by decide +kernel), List.mem_of_getElem? (i := 598) (by decide +kernel), List.mem_of_getElem? (i := 599) (by decide +kernel)⟩
theorem lw_p29 : lw_okq (⟨"ClearingGates$Rings", "behind", "(I)I"⟩, 4) := ⟨⟨by decide +kernel, by decide +kernel⟩, List.mem_of_getElem? (i := 103) (by decide +kernel), List.mem_of_getElem? (i := 603) (by decide +kernel), List.mem_of_getElem? (i := 604) (by decide +kernel)⟩
theorem lw_p30 : lw_okq (⟨"ClearingGates", "kindsToldBy", "(LClearingGates$Sheet;II)I"⟩, 13) := ⟨⟨by decide +kernel, by decide +kernel⟩, List.mem_of_getElem? (i := 15) (by decide +kernel), List.mem_of_getElem? (i := 624) (by decide +kernel), List.mem_of_getElem? (i := 625) (by decide +kernel)⟩
theorem lw_p31 : lw_okq (⟨"ClearingGatesModel", "isAccount", "(I)Z"⟩, 32) := ⟨⟨by decide +kernel, by decide +kernel⟩, List.mem_of_getElem? (i := 690) (by decide +kernel), List.mem_of_getElem? (i := 806) (by decide +kernel), List.mem_of_getElem? (i := 807) (by decide +kernel)⟩
def lw_privs_2 : List (MethodName × Nat) := [(⟨"ClearingGates$Runner", "inside", "(III)I"⟩, 8), (⟨"ClearingGates$Runner", "attempt", "(III)I"⟩, 8), (⟨"ClearingGates$Runner", "undo", "(I)V"⟩, 8), (⟨"ClearingGates$Runner", "loop", "(II)I"⟩, 8), (⟨"ClearingGates$Runner", "payment", "(I)I"⟩, 8), (⟨"ClearingGates$Runner", "isHeld", "(I)Z"⟩, 8), (⟨"ClearingGates$Runner", "bell", "(II)I"⟩, 8), (⟨"ClearingGates", "isOfWould", "(I)Z"⟩, 13), (⟨"ClearingGates", "outcomeInThought", "(I)I"⟩, 13), (⟨"ClearingGates", "isPair", "(II)Z"⟩, 13), (⟨"ClearingGates$Rings", "findsFirst", "(I)Z"⟩, 4), (⟨"ClearingGates$Rings", "leadsBack", "(IIII)Z"⟩, 4), (⟨"ClearingGates$Rings", "cutFound", "()V"⟩, 4), (⟨"ClearingGates$Rings", "behind", "(I)I"⟩, 4), (⟨"ClearingGates", "kindsToldBy", "(LClearingGates$Sheet;II)I"⟩, 13), (⟨"ClearingGatesModel", "isAccount", "(I)Z"⟩, 32)]
theorem lw_r2 : ∀ q ∈ lw_privs_2, lw_okq q := List.forall_mem_cons.mpr ⟨lw_p16, List.forall_mem_cons.mpr ⟨lw_p17, List.forall_mem_cons.mpr ⟨lw_p18, List.forall_mem_cons.mpr ⟨lw_p19, List.forall_mem_cons.mpr ⟨lw_p20, List.forall_mem_cons.mpr ⟨lw_p21, List.forall_mem_cons.mpr ⟨lw_p22, List.forall_mem_cons.mpr ⟨lw_p23, List.forall_mem_cons.mpr ⟨lw_p24, List.forall_mem_cons.mpr ⟨lw_p25, List.forall_mem_cons.mpr ⟨lw_p26, List.forall_mem_cons.mpr ⟨lw_p27, List.forall_mem_cons.mpr ⟨lw_p28, List.forall_mem_cons.mpr ⟨lw_p29, List.forall_mem_cons.mpr ⟨lw_p30, List.forall_mem_cons.mpr ⟨lw_p31, fun _ h => absurd h List.not_mem_nil⟩⟩⟩⟩⟩⟩⟩⟩⟩⟩⟩⟩⟩⟩⟩⟩
theorem lw_p32 : lw_okq (⟨"ClearingGatesModel", "feeOf", "(II)I"⟩, 32) := ⟨⟨by decide +kernel, by decide +kernel⟩, List.mem_of_getElem? (i := 690) (by decide +kernel), List.mem_of_getElem? (i := 820) (by decide +kernel), List.mem_of_getElem? (i := 821) (by decide +kernel)⟩
theorem lw_p33 : lw_okq (⟨"ClearingGatesModel", "floorOf", "(I)I"⟩, 32) := ⟨⟨by decide +kernel, by decide +kernel⟩, List.mem_of_getElem? (i := 690) (by decide +kernel), List.mem_of_getElem? (i := 829) (by decide +kernel), List.mem_of_getElem? (i := 830) (by decide +kernel)⟩
theorem lw_p34 : lw_okq (⟨"ClearingGatesModel", "positionOf", "(I)J"⟩, 32) := ⟨⟨by decide +kernel, by decide +kernel⟩, List.mem_of_getElem? (i := 690) (by decide +kernel), List.mem_of_getElem? (i := 833) (by decide +kernel), List.mem_of_getElem? (i := 834) (by decide +kernel)⟩
theorem lw_p35 : lw_okq (⟨"ClearingGatesModel", "owedTo", "(II)I"⟩, 32) := ⟨⟨by decide +kernel, by decide +kernel⟩, List.mem_of_getElem? (i := 690) (by decide +kernel), List.mem_of_getElem? (i := 837) (by decide +kernel), List.mem_of_getElem? (i := 838) (by decide +kernel)⟩
theorem lw_p36 : lw_okq (⟨"ClearingGatesModel", "takesItem", "(Z)Z"⟩, 32) := ⟨⟨by decide +kernel, by decide +kernel⟩, List.mem_of_getElem? (i := 690) (by decide +kernel), List.mem_of_getElem? (i := 869) (by decide +kernel), List.mem_of_getElem? (i := 870) (by decide +kernel)⟩
theorem lw_p37 : lw_okq (⟨"ClearingGatesModel", "byteAt", "()I"⟩, 32) := ⟨⟨by decide +kernel, by decide +kernel⟩, List.mem_of_getElem? (i := 690) (by decide +kernel), List.mem_of_getElem? (i := 873) (by decide +kernel), List.mem_of_getElem? (i := 874) (by decide +kernel)⟩
theorem lw_p38 : lw_okq (⟨"ClearingGatesModel", "takesBracket", "(IZ)Z"⟩, 32) := ⟨⟨by decide +kernel, by decide +kernel⟩, List.mem_of_getElem? (i := 690) (by decide +kernel), List.mem_of_getElem? (i := 877) (by decide +kernel), List.mem_of_getElem? (i := 878) (by decide +kernel)⟩
theorem lw_p39 : lw_okq (⟨"ClearingGatesModel", "takesFigure", "(II)Z"⟩, 32) := ⟨⟨by decide +kernel, by decide +kernel⟩, List.mem_of_getElem? (i := 690) (by decide +kernel), List.mem_of_getElem? (i := 881) (by decide +kernel), List.mem_of_getElem? (i := 882) (by decide +kernel)⟩
theorem lw_p40 : lw_okq (⟨"ClearingGatesModel", "takesPayment", "()Z"⟩, 32) := ⟨⟨by decide +kernel, by decide +kernel⟩, List.mem_of_getElem? (i := 690) (by decide +kernel), List.mem_of_getElem? (i := 885) (by decide +kernel), List.mem_of_getElem? (i := 886) (by decide +kernel)⟩
theorem lw_p41 : lw_okq (⟨"ClearingGatesModel", "isProgram", "(I)Z"⟩, 32) := ⟨⟨by decide +kernel, by decide +kernel⟩, List.mem_of_getElem? (i := 690) (by decide +kernel), List.mem_of_getElem? (i := 895) (by decide +kernel), List.mem_of_getElem? (i := 896) (by decide +kernel)⟩
theorem lw_p42 : lw_okq (⟨"ClearingGatesModel", "runs", "(I)I"⟩, 32) := ⟨⟨by decide +kernel, by decide +kernel⟩, List.mem_of_getElem? (i := 690) (by decide +kernel), List.mem_of_getElem? (i := 899) (by decide +kernel), List.mem_of_getElem? (i := 900) (by decide +kernel)⟩
theorem lw_p43 : lw_okq (⟨"ClearingGatesModel", "keepsBooks", "()V"⟩, 32) := ⟨⟨by decide +kernel, by decide +kernel⟩, List.mem_of_getElem? (i := 690) (by decide +kernel), List.mem_of_getElem? (i := 903) (by decide +kernel), List.mem_of_getElem? (i := 904) (by decide +kernel)⟩
theorem lw_p44 : lw_okq (⟨"ClearingGatesModel", "does", "(I)I"⟩, 32) := ⟨⟨by decide +kernel, by decide +kernel⟩, List.mem_of_getElem? (i := 690) (by decide +kernel), List.mem_of_getElem? (i := 907) (by decide +kernel), List.mem_of_getElem? (i := 908) (by decide +kernel)⟩
theorem lw_p45 : lw_okq (⟨"ClearingGatesModel", "isClosed", "(I)Z"⟩, 32) := ⟨⟨by decide +kernel, by decide +kernel⟩, List.mem_of_getElem? (i := 690) (by decide +kernel), List.mem_of_getElem? (i := 911) (by decide +kernel), List.mem_of_getElem? (i := 912) (by decide +kernel)⟩
theorem lw_p46 : lw_okq (⟨"ClearingGatesModel", "signAt", "(I)I"⟩, 32) := ⟨⟨by decide +kernel, by decide +kernel⟩, List.mem_of_getElem? (i := 690) (by decide +kernel), List.mem_of_getElem? (i := 915) (by decide +kernel), List.mem_of_getElem? (i := 916) (by decide +kernel)⟩
theorem lw_p47 : lw_okq (⟨"ClearingGatesModel", "doesItem", "(I)I"⟩, 32) := ⟨⟨by decide +kernel, by decide +kernel⟩, List.mem_of_getElem? (i := 690) (by decide +kernel), List.mem_of_getElem? (i := 919) (by decide +kernel), List.mem_of_getElem? (i := 920) (by decide +kernel)⟩
def lw_privs_3 : List (MethodName × Nat) := [(⟨"ClearingGatesModel", "feeOf", "(II)I"⟩, 32), (⟨"ClearingGatesModel", "floorOf", "(I)I"⟩, 32), (⟨"ClearingGatesModel", "positionOf", "(I)J"⟩, 32), (⟨"ClearingGatesModel", "owedTo", "(II)I"⟩, 32), (⟨"ClearingGatesModel", "takesItem", "(Z)Z"⟩, 32), (⟨"ClearingGatesModel", "byteAt", "()I"⟩, 32), (⟨"ClearingGatesModel", "takesBracket", "(IZ)Z"⟩, 32), (⟨"ClearingGatesModel", "takesFigure", "(II)Z"⟩, 32), (⟨"ClearingGatesModel", "takesPayment", "()Z"⟩, 32), (⟨"ClearingGatesModel", "isProgram", "(I)Z"⟩, 32), (⟨"ClearingGatesModel", "runs", "(I)I"⟩, 32), (⟨"ClearingGatesModel", "keepsBooks", "()V"⟩, 32), (⟨"ClearingGatesModel", "does", "(I)I"⟩, 32), (⟨"ClearingGatesModel", "isClosed", "(I)Z"⟩, 32), (⟨"ClearingGatesModel", "signAt", "(I)I"⟩, 32), (⟨"ClearingGatesModel", "doesItem", "(I)I"⟩, 32)]
theorem lw_r3 : ∀ q ∈ lw_privs_3, lw_okq q := List.forall_mem_cons.mpr ⟨lw_p32, List.forall_mem_cons.mpr ⟨lw_p33, List.forall_mem_cons.mpr ⟨lw_p34, List.forall_mem_cons.mpr ⟨lw_p35, List.forall_mem_cons.mpr ⟨lw_p36, List.forall_mem_cons.mpr ⟨lw_p37, List.forall_mem_cons.mpr ⟨lw_p38, List.forall_mem_cons.mpr ⟨lw_p39, List.forall_mem_cons.mpr ⟨lw_p40, List.forall_mem_cons.mpr ⟨lw_p41, List.forall_mem_cons.mpr ⟨lw_p42, List.forall_mem_cons.mpr ⟨lw_p43, List.forall_mem_cons.mpr ⟨lw_p44, List.forall_mem_cons.mpr ⟨lw_p45, List.forall_mem_cons.mpr ⟨lw_p46, List.forall_mem_cons.mpr ⟨lw_p47, fun _ h => absurd h List.not_mem_nil⟩⟩⟩⟩⟩⟩⟩⟩⟩⟩⟩⟩⟩⟩⟩⟩
theorem lw_p48 : lw_okq (⟨"ClearingGatesModel", "block", "(I)I"⟩, 32) := ⟨⟨by decide +kernel, by decide +kernel⟩, List.mem_of_getElem? (i := 690) (by decide +kernel), List.mem_of_getElem? (i := 923) (by decide +kernel), List.mem_of_getElem? (i := 924) (by decide +kernel)⟩
theorem lw_p49 : lw_okq (⟨"ClearingGatesModel", "figureAt", "(I)I"⟩, 32) := ⟨⟨by decide +kernel, by decide +kernel⟩, List.mem_of_getElem? (i := 690) (by decide +kernel), List.mem_of_getElem? (i := 927) (by decide +kernel), List.mem_of_getElem? (i := 928) (by decide +kernel)⟩
theorem lw_p50 : lw_okq (⟨"ClearingGatesModel", "hasGate", "(I)Z"⟩, 32) := ⟨⟨by decide +kernel, by decide +kernel⟩, List.mem_of_getElem? (i := 690) (by decide +kernel), List.mem_of_getElem? (i := 931) (by decide +kernel), List.mem_of_getElem? (i := 932) (by decide +kernel)⟩
theorem lw_p51 : lw_okq (⟨"ClearingGatesModel", "marks", "(I)V"⟩, 32) := ⟨⟨by decide +kernel, by decide +kernel⟩, List.mem_of_getElem? (i := 690) (by decide +kernel), List.mem_of_getElem? (i := 935) (by decide +kernel), List.mem_of_getElem? (i := 936) (by decide +kernel)⟩
theorem lw_p52 : lw_okq (⟨"ClearingGatesModel", "insideOf", "(I)I"⟩, 32) := ⟨⟨by decide +kernel, by decide +kernel⟩, List.mem_of_getElem? (i := 690) (by decide +kernel), List.mem_of_getElem? (i := 939) (by decide +kernel), List.mem_of_getElem? (i := 940) (by decide +kernel)⟩
theorem lw_p53 : lw_okq (⟨"ClearingGatesModel", "tries", "(IZ)I"⟩, 32) := ⟨⟨by decide +kernel, by decide +kernel⟩, List.mem_of_getElem? (i := 690) (by decide +kernel), List.mem_of_getElem? (i := 943) (by decide +kernel), List.mem_of_getElem? (i := 944) (by decide +kernel)⟩
theorem lw_p54 : lw_okq (⟨"ClearingGatesModel", "forgetsBooks", "(Z)V"⟩, 32) := ⟨⟨by decide +kernel, by decide +kernel⟩, List.mem_of_getElem? (i := 690) (by decide +kernel), List.mem_of_getElem? (i := 947) (by decide +kernel), List.mem_of_getElem? (i := 948) (by decide +kernel)⟩
theorem lw_p55 : lw_okq (⟨"ClearingGatesModel", "loops", "(I)I"⟩, 32) := ⟨⟨by decide +kernel, by decide +kernel⟩, List.mem_of_getElem? (i := 690) (by decide +kernel), List.mem_of_getElem? (i := 951) (by decide +kernel), List.mem_of_getElem? (i := 952) (by decide +kernel)⟩
theorem lw_p56 : lw_okq (⟨"ClearingGatesModel", "pays", "(I)I"⟩, 32) := ⟨⟨by decide +kernel, by decide +kernel⟩, List.mem_of_getElem? (i := 690) (by decide +kernel), List.mem_of_getElem? (i := 955) (by decide +kernel), List.mem_of_getElem? (i := 956) (by decide +kernel)⟩
theorem lw_p57 : lw_okq (⟨"ClearingGatesModel", "behind", "(I)I"⟩, 32) := ⟨⟨by decide +kernel, by decide +kernel⟩, List.mem_of_getElem? (i := 690) (by decide +kernel), List.mem_of_getElem? (i := 959) (by decide +kernel), List.mem_of_getElem? (i := 960) (by decide +kernel)⟩
theorem lw_p58 : lw_okq (⟨"ClearingGatesModel", "rings", "(II)I"⟩, 32) := ⟨⟨by decide +kernel, by decide +kernel⟩, List.mem_of_getElem? (i := 690) (by decide +kernel), List.mem_of_getElem? (i := 963) (by decide +kernel), List.mem_of_getElem? (i := 964) (by decide +kernel)⟩
theorem lw_p59 : lw_okq (⟨"ClearingGatesModel", "entries", "()J"⟩, 32) := ⟨⟨by decide +kernel, by decide +kernel⟩, List.mem_of_getElem? (i := 690) (by decide +kernel), List.mem_of_getElem? (i := 978) (by decide +kernel), List.mem_of_getElem? (i := 979) (by decide +kernel)⟩
theorem lw_p60 : lw_okq (⟨"ClearingGatesModel", "thinks", "()V"⟩, 32) := ⟨⟨by decide +kernel, by decide +kernel⟩, List.mem_of_getElem? (i := 690) (by decide +kernel), List.mem_of_getElem? (i := 982) (by decide +kernel), List.mem_of_getElem? (i := 983) (by decide +kernel)⟩
theorem lw_p61 : lw_okq (⟨"ClearingGatesModel", "wakes", "()V"⟩, 32) := ⟨⟨by decide +kernel, by decide +kernel⟩, List.mem_of_getElem? (i := 690) (by decide +kernel), List.mem_of_getElem? (i := 987) (by decide +kernel), List.mem_of_getElem? (i := 988) (by decide +kernel)⟩
theorem lw_p62 : lw_okq (⟨"ClearingGatesModel", "outcomeOf", "(I)I"⟩, 32) := ⟨⟨by decide +kernel, by decide +kernel⟩, List.mem_of_getElem? (i := 690) (by decide +kernel), List.mem_of_getElem? (i := 996) (by decide +kernel), List.mem_of_getElem? (i := 997) (by decide +kernel)⟩
theorem lw_p63 : lw_okq (⟨"ClearingGatesModel", "areTwo", "(II)Z"⟩, 32) := ⟨⟨by decide +kernel, by decide +kernel⟩, List.mem_of_getElem? (i := 690) (by decide +kernel), List.mem_of_getElem? (i := 1009) (by decide +kernel), List.mem_of_getElem? (i := 1010) (by decide +kernel)⟩
def lw_privs_4 : List (MethodName × Nat) := [(⟨"ClearingGatesModel", "block", "(I)I"⟩, 32), (⟨"ClearingGatesModel", "figureAt", "(I)I"⟩, 32), (⟨"ClearingGatesModel", "hasGate", "(I)Z"⟩, 32), (⟨"ClearingGatesModel", "marks", "(I)V"⟩, 32), (⟨"ClearingGatesModel", "insideOf", "(I)I"⟩, 32), (⟨"ClearingGatesModel", "tries", "(IZ)I"⟩, 32), (⟨"ClearingGatesModel", "forgetsBooks", "(Z)V"⟩, 32), (⟨"ClearingGatesModel", "loops", "(I)I"⟩, 32), (⟨"ClearingGatesModel", "pays", "(I)I"⟩, 32), (⟨"ClearingGatesModel", "behind", "(I)I"⟩, 32), (⟨"ClearingGatesModel", "rings", "(II)I"⟩, 32), (⟨"ClearingGatesModel", "entries", "()J"⟩, 32), (⟨"ClearingGatesModel", "thinks", "()V"⟩, 32), (⟨"ClearingGatesModel", "wakes", "()V"⟩, 32), (⟨"ClearingGatesModel", "outcomeOf", "(I)I"⟩, 32), (⟨"ClearingGatesModel", "areTwo", "(II)Z"⟩, 32)]
theorem lw_r4 : ∀ q ∈ lw_privs_4, lw_okq q := List.forall_mem_cons.mpr ⟨lw_p48, List.forall_mem_cons.mpr ⟨lw_p49, List.forall_mem_cons.mpr ⟨lw_p50, List.forall_mem_cons.mpr ⟨lw_p51, List.forall_mem_cons.mpr ⟨lw_p52, List.forall_mem_cons.mpr ⟨lw_p53, List.forall_mem_cons.mpr ⟨lw_p54, List.forall_mem_cons.mpr ⟨lw_p55, List.forall_mem_cons.mpr ⟨lw_p56, List.forall_mem_cons.mpr ⟨lw_p57, List.forall_mem_cons.mpr ⟨lw_p58, List.forall_mem_cons.mpr ⟨lw_p59, List.forall_mem_cons.mpr ⟨lw_p60, List.forall_mem_cons.mpr ⟨lw_p61, List.forall_mem_cons.mpr ⟨lw_p62, List.forall_mem_cons.mpr ⟨lw_p63, fun _ h => absurd h List.not_mem_nil⟩⟩⟩⟩⟩⟩⟩⟩⟩⟩⟩⟩⟩⟩⟩⟩
theorem lw_p64 : lw_okq (⟨"ClearingGatesModel", "firstRing", "()I"⟩, 32) := ⟨⟨by decide +kernel, by decide +kernel⟩, List.mem_of_getElem? (i := 690) (by decide +kernel), List.mem_of_getElem? (i := 1022) (by decide +kernel), List.mem_of_getElem? (i := 1023) (by decide +kernel)⟩
theorem lw_p65 : lw_okq (⟨"ClearingGatesModel", "ringFrom", "(II)I"⟩, 32) := ⟨⟨by decide +kernel, by decide +kernel⟩, List.mem_of_getElem? (i := 690) (by decide +kernel), List.mem_of_getElem? (i := 1026) (by decide +kernel), List.mem_of_getElem? (i := 1027) (by decide +kernel)⟩
theorem lw_p66 : lw_okq (⟨"ClearingGatesModel", "otherIn", "(II)I"⟩, 32) := ⟨⟨by decide +kernel, by decide +kernel⟩, List.mem_of_getElem? (i := 690) (by decide +kernel), List.mem_of_getElem? (i := 1038) (by decide +kernel), List.mem_of_getElem? (i := 1039) (by decide +kernel)⟩
theorem lw_p67 : lw_okq (⟨"ClearingGatesModel", "itemOf", "(II)I"⟩, 32) := ⟨⟨by decide +kernel, by decide +kernel⟩, List.mem_of_getElem? (i := 690) (by decide +kernel), List.mem_of_getElem? (i := 1042) (by decide +kernel), List.mem_of_getElem? (i := 1043) (by decide +kernel)⟩
def lw_privs_5 : List (MethodName × Nat) := [(⟨"ClearingGatesModel", "firstRing", "()I"⟩, 32), (⟨"ClearingGatesModel", "ringFrom", "(II)I"⟩, 32), (⟨"ClearingGatesModel", "otherIn", "(II)I"⟩, 32), (⟨"ClearingGatesModel", "itemOf", "(II)I"⟩, 32)]
theorem lw_r5 : ∀ q ∈ lw_privs_5, lw_okq q := List.forall_mem_cons.mpr ⟨lw_p64, List.forall_mem_cons.mpr ⟨lw_p65, List.forall_mem_cons.mpr ⟨lw_p66, List.forall_mem_cons.mpr ⟨lw_p67, fun _ h => absurd h List.not_mem_nil⟩⟩⟩⟩
def lw_privs : List (MethodName × Nat) := lw_privs_1 ++ (lw_privs_2 ++ (lw_privs_3 ++ (lw_privs_4 ++ (lw_privs_5))))
def lw_tbl : List Cond := k2_sels lw_privs ++ tables_1
theorem lw_privs_ok : ∀ q ∈ lw_privs, lw_okq q := by
  show ∀ q ∈ lw_privs_1 ++ (lw_privs_2 ++ (lw_privs_3 ++ (lw_privs_4 ++ (lw_privs_5)))), lw_okq q
  exact List.forall_mem_append.mpr ⟨lw_r1, List.forall_mem_append.mpr ⟨lw_r2, List.forall_mem_append.mpr ⟨lw_r3, List.forall_mem_append.mpr ⟨lw_r4, lw_r5⟩⟩⟩⟩
-- ===== end of PART A; then your names; then what follows =====
end
section
theorem goodIn_r {big : List Cond} (ws : List Cond) (ps : List Nat) (hp : ws = ps.filterMap (fun i => big[i]?)) (h : ws.all goodWord = true) : GoodIn big ws := by
  intro w hw
  have h1 := List.all_eq_true.mp h w hw
  rw [hp] at hw
  obtain ⟨i, -, hi⟩ := List.mem_filterMap.mp hw
  have hm : w ∈ big := by first | exact List.mem_of_getElem? hi | exact List.getElem?_mem hi
  exact ⟨hm, good_of_word h1⟩
theorem goodIn_app {big a b : List Cond} (ha : GoodIn big a) (hb : GoodIn big b) : GoodIn big (a ++ b) := fun w h => (List.mem_append.mp h).elim (ha w) (hb w)
theorem goodIn_ca {big a b : List Cond} {c : Cond} (ha : GoodIn big (c :: a)) (hb : GoodIn big b) : GoodIn big (c :: (a ++ b)) := fun w h => (List.mem_cons.mp h).elim (fun e => ha w (List.mem_cons.mpr (Or.inl e))) (fun h => (List.mem_append.mp h).elim (fun h => ha w (List.mem_cons.mpr (Or.inr h))) (hb w))
theorem goodIn_sub {big ws : List Cond} (hm : ∀ w ∈ ws, w ∈ big) (h : ws.all goodWord = true) : GoodIn big ws := fun w hw => ⟨hm w hw, good_of_word (List.all_eq_true.mp h w hw)⟩
/-! ===== BEGIN printed: names, fields, word lists, decode rows ===== -/
def RX0 : String := "ClearingGates$Books"
def TX0 : u_T := fun k => match k with
  | 0 => ("ClearingGates$Books", "kinds", "[I", true)
  | 1 => ("ClearingGates$Books", "balances", "[I", true)
  | 2 => ("ClearingGates$Books", "limits", "[I", true)
  | 3 => ("ClearingGates$Books", "gates", "[Z", true)
  | 4 => ("ClearingGates$Books", "entries", "[I", true)
  | 5 => ("ClearingGates$Books", "leavings", "[I", true)
  | 6 => ("ClearingGates$Books", "agains", "[I", true)
  | 7 => ("ClearingGates$Books", "accounts", "I", false)
  | 8 => ("ClearingGates$Books", "fees", "J", false)
  | 9 => ("ClearingGates$Books", "missed", "I", false)
  | 10 => ("ClearingGates$Books", "bells", "I", false)
  | 11 => ("ClearingGates$Books", "refused", "I", false)
  | _ => ("ClearingGates$Books", "caught", "I", false)
def tyX0 : Nat → FieldType := fun k => match k with
  | 0 => .array .int
  | 1 => .array .int
  | 2 => .array .int
  | 3 => .array .boolean
  | 4 => .array .int
  | 5 => .array .int
  | 6 => .array .int
  | 7 => .int
  | 8 => .long
  | 9 => .int
  | 10 => .int
  | 11 => .int
  | _ => .int
abbrev wsX00 : List Cond := u_ws RX0 TX0 13
theorem nmX0 : ∀ a, a < 13 → ∀ b, b < 13 → a ≠ b → (TX0 a).2.1 ≠ (TX0 b).2.1 := by decide +kernel
theorem tyX0_ok : ∀ k, k < 13 → parseFieldDescriptor (TX0 k).2.2.1 = some (tyX0 k) := by decide +kernel
abbrev cX0_init : ByteArray := prog_2_method_1_code
def yX0_init : MethodName := ⟨RX0, "<init>", "()V"⟩
abbrev cX0_has : ByteArray := prog_2_method_2_code
def yX0_has : MethodName := ⟨RX0, "has", "(I)Z"⟩
abbrev cX0_hasGate : ByteArray := prog_2_method_3_code
def yX0_hasGate : MethodName := ⟨RX0, "hasGate", "(I)Z"⟩
abbrev cX0_hasAllGates : ByteArray := prog_2_method_4_code
def yX0_hasAllGates : MethodName := ⟨RX0, "hasAllGates", "()Z"⟩
abbrev cX0_open : ByteArray := prog_2_method_5_code
def yX0_open : MethodName := ⟨RX0, "open", "(II)I"⟩
abbrev cX0_feeOf : ByteArray := prog_2_method_6_code
def yX0_feeOf : MethodName := ⟨RX0, "feeOf", "(II)I"⟩
abbrev cX0_floorOf : ByteArray := prog_2_method_7_code
def yX0_floorOf : MethodName := ⟨RX0, "floorOf", "(I)I"⟩
abbrev cX0_allMoney : ByteArray := prog_2_method_8_code
def yX0_allMoney : MethodName := ⟨RX0, "allMoney", "()J"⟩
abbrev cX0_allEntries : ByteArray := prog_2_method_9_code
def yX0_allEntries : MethodName := ⟨RX0, "allEntries", "()I"⟩
abbrev cX0_enterAll : ByteArray := prog_2_method_10_code
def yX0_enterAll : MethodName := ⟨RX0, "enterAll", "()V"⟩
abbrev cX0_leaveAll : ByteArray := prog_2_method_11_code
def yX0_leaveAll : MethodName := ⟨RX0, "leaveAll", "()V"⟩
abbrev cX0_becomeAs : ByteArray := prog_2_method_12_code
def yX0_becomeAs : MethodName := ⟨RX0, "becomeAs", "(LClearingGates$Books;)V"⟩
def RX1 : String := "ClearingGates$Debts"
def TX1 : u_T := fun k => match k with
  | _ => ("ClearingGates$Debts", "row", "[I", true)
def tyX1 : Nat → FieldType := fun k => match k with
  | _ => .array .int
abbrev wsX10 : List Cond := u_ws RX1 TX1 1
theorem nmX1 : ∀ a, a < 1 → ∀ b, b < 1 → a ≠ b → (TX1 a).2.1 ≠ (TX1 b).2.1 := by decide +kernel
theorem tyX1_ok : ∀ k, k < 1 → parseFieldDescriptor (TX1 k).2.2.1 = some (tyX1 k) := by decide +kernel
abbrev cX1_init : ByteArray := prog_3_method_1_code
def yX1_init : MethodName := ⟨RX1, "<init>", "()V"⟩
abbrev cX1_between : ByteArray := prog_3_method_2_code
def yX1_between : MethodName := ⟨RX1, "between", "(II)I"⟩
abbrev cX1_become : ByteArray := prog_3_method_3_code
def yX1_become : MethodName := ⟨RX1, "become", "(III)V"⟩
abbrev cX1_total : ByteArray := prog_3_method_4_code
def yX1_total : MethodName := ⟨RX1, "total", "()J"⟩
abbrev cX1_positionOf : ByteArray := prog_3_method_5_code
def yX1_positionOf : MethodName := ⟨RX1, "positionOf", "(I)J"⟩
abbrev cX1_becomeAs : ByteArray := prog_3_method_6_code
def yX1_becomeAs : MethodName := ⟨RX1, "becomeAs", "(LClearingGates$Debts;)V"⟩
def RX2 : String := "ClearingGates$Kinds"
abbrev cX2_isKind : ByteArray := prog_4_method_2_code
def yX2_isKind : MethodName := ⟨RX2, "isKind", "(I)Z"⟩
abbrev cX2_feeOf : ByteArray := prog_4_method_3_code
def yX2_feeOf : MethodName := ⟨RX2, "feeOf", "(II)I"⟩
abbrev cX2_floorOf : ByteArray := prog_4_method_4_code
def yX2_floorOf : MethodName := ⟨RX2, "floorOf", "(II)I"⟩
abbrev cX2_isOrIsUnder : ByteArray := prog_4_method_5_code
def yX2_isOrIsUnder : MethodName := ⟨RX2, "isOrIsUnder", "(II)Z"⟩
def RX3 : String := "ClearingGates$Program"
def TX3 : u_T := fun k => match k with
  | 0 => ("ClearingGates$Program", "bytes", "[I", true)
  | 1 => ("ClearingGates$Program", "behind", "[I", true)
  | _ => ("ClearingGates$Program", "size", "I", false)
def tyX3 : Nat → FieldType := fun k => match k with
  | 0 => .array .int
  | 1 => .array .int
  | _ => .int
abbrev wsX30 : List Cond := u_ws RX3 TX3 3
theorem nmX3 : ∀ a, a < 3 → ∀ b, b < 3 → a ≠ b → (TX3 a).2.1 ≠ (TX3 b).2.1 := by decide +kernel
theorem tyX3_ok : ∀ k, k < 3 → parseFieldDescriptor (TX3 k).2.2.1 = some (tyX3 k) := by decide +kernel
abbrev cX3_init : ByteArray := prog_5_method_1_code
def yX3_init : MethodName := ⟨RX3, "<init>", "()V"⟩
abbrev cX3_takeOver : ByteArray := prog_5_method_2_code
def yX3_takeOver : MethodName := ⟨RX3, "takeOver", "(LClearingGates$Tape;)V"⟩
abbrev cX3_byteAt : ByteArray := prog_5_method_3_code
def yX3_byteAt : MethodName := ⟨RX3, "byteAt", "(I)I"⟩
abbrev cX3_behindItem : ByteArray := prog_5_method_4_code
def yX3_behindItem : MethodName := ⟨RX3, "behindItem", "(I)I"⟩
abbrev cX3_figureAt : ByteArray := prog_5_method_5_code
def yX3_figureAt : MethodName := ⟨RX3, "figureAt", "(I)I"⟩
abbrev cX3_numberBetween : ByteArray := prog_5_method_6_code
def yX3_numberBetween : MethodName := ⟨RX3, "numberBetween", "(II)I"⟩
def RX4 : String := "ClearingGates$Reader"
def TX4 : u_T := fun k => match k with
  | 0 => ("ClearingGates$Reader", "opened", "[I", true)
  | 1 => ("ClearingGates$Reader", "open", "I", false)
  | 2 => ("ClearingGates$Reader", "loops", "I", false)
  | 3 => ("ClearingGates$Reader", "fault", "I", false)
  | _ => ("ClearingGates$Reader", "program", "LClearingGates$Program;", false)
def tyX4 : Nat → FieldType := fun k => match k with
  | 0 => .array .int
  | 1 => .int
  | 2 => .int
  | 3 => .int
  | _ => .object "ClearingGates$Program"
abbrev wsX40 : List Cond := u_ws RX4 TX4 5
theorem nmX4 : ∀ a, a < 5 → ∀ b, b < 5 → a ≠ b → (TX4 a).2.1 ≠ (TX4 b).2.1 := by decide +kernel
theorem tyX4_ok : ∀ k, k < 5 → parseFieldDescriptor (TX4 k).2.2.1 = some (tyX4 k) := by decide +kernel
abbrev cX4_init : ByteArray := prog_6_method_1_code
def yX4_init : MethodName := ⟨RX4, "<init>", "()V"⟩
abbrev cX4_faultOf : ByteArray := prog_6_method_2_code
def yX4_faultOf : MethodName := ⟨RX4, "faultOf", "(LClearingGates$Program;)I"⟩
abbrev cX4_step : ByteArray := prog_6_method_3_code
def yX4_step : MethodName := ⟨RX4, "step", "(I)I"⟩
abbrev cX4_openingWithFigure : ByteArray := prog_6_method_4_code
def yX4_openingWithFigure : MethodName := ⟨RX4, "openingWithFigure", "(III)I"⟩
abbrev cX4_opening : ByteArray := prog_6_method_5_code
def yX4_opening : MethodName := ⟨RX4, "opening", "(I)I"⟩
abbrev cX4_closing : ByteArray := prog_6_method_6_code
def yX4_closing : MethodName := ⟨RX4, "closing", "(II)I"⟩
abbrev cX4_payment : ByteArray := prog_6_method_7_code
def yX4_payment : MethodName := ⟨RX4, "payment", "(I)I"⟩
abbrev cX4_bell : ByteArray := prog_6_method_8_code
def yX4_bell : MethodName := ⟨RX4, "bell", "(I)I"⟩
abbrev cX4_isFigure : ByteArray := prog_6_method_9_code
def yX4_isFigure : MethodName := ⟨RX4, "isFigure", "(III)Z"⟩
abbrev cX4_ends : ByteArray := prog_6_method_10_code
def yX4_ends : MethodName := ⟨RX4, "ends", "(II)I"⟩
abbrev cX4_faultAt : ByteArray := prog_6_method_11_code
def yX4_faultAt : MethodName := ⟨RX4, "faultAt", "(I)I"⟩
def RX5 : String := "ClearingGates$Rings"
def TX5 : u_T := fun k => match k with
  | 0 => ("ClearingGates$Rings", "debts", "LClearingGates$Debts;", true)
  | 1 => ("ClearingGates$Rings", "way", "[I", true)
  | 2 => ("ClearingGates$Rings", "wayLength", "I", false)
  | _ => ("ClearingGates$Rings", "tried", "[Z", true)
def tyX5 : Nat → FieldType := fun k => match k with
  | 0 => .object "ClearingGates$Debts"
  | 1 => .array .int
  | 2 => .int
  | _ => .array .boolean
abbrev wsX50 : List Cond := u_ws RX5 TX5 4
theorem nmX5 : ∀ a, a < 4 → ∀ b, b < 4 → a ≠ b → (TX5 a).2.1 ≠ (TX5 b).2.1 := by decide +kernel
theorem tyX5_ok : ∀ k, k < 4 → parseFieldDescriptor (TX5 k).2.2.1 = some (tyX5 k) := by decide +kernel
abbrev cX5_init : ByteArray := prog_7_method_1_code
def yX5_init : MethodName := ⟨RX5, "<init>", "(LClearingGates$Debts;)V"⟩
abbrev cX5_cutAll : ByteArray := prog_7_method_2_code
def yX5_cutAll : MethodName := ⟨RX5, "cutAll", "(I)I"⟩
abbrev cX5_findsFirst : ByteArray := prog_7_method_3_code
def yX5_findsFirst : MethodName := ⟨RX5, "findsFirst", "(I)Z"⟩
abbrev cX5_leadsBack : ByteArray := prog_7_method_4_code
def yX5_leadsBack : MethodName := ⟨RX5, "leadsBack", "(IIII)Z"⟩
abbrev cX5_cutFound : ByteArray := prog_7_method_5_code
def yX5_cutFound : MethodName := ⟨RX5, "cutFound", "()V"⟩
abbrev cX5_behind : ByteArray := prog_7_method_6_code
def yX5_behind : MethodName := ⟨RX5, "behind", "(I)I"⟩
def RX6 : String := "ClearingGates$Runner"
def TX6 : u_T := fun k => match k with
  | 0 => ("ClearingGates$Runner", "books", "LClearingGates$Books;", true)
  | 1 => ("ClearingGates$Runner", "marks", "[I", true)
  | 2 => ("ClearingGates$Runner", "markCount", "I", false)
  | 3 => ("ClearingGates$Runner", "held", "[I", true)
  | 4 => ("ClearingGates$Runner", "keptBalances", "[[I", true)
  | 5 => ("ClearingGates$Runner", "keptFees", "[J", true)
  | 6 => ("ClearingGates$Runner", "begun", "I", false)
  | _ => ("ClearingGates$Runner", "program", "LClearingGates$Program;", false)
def tyX6 : Nat → FieldType := fun k => match k with
  | 0 => .object "ClearingGates$Books"
  | 1 => .array .int
  | 2 => .int
  | 3 => .array .int
  | 4 => .array (.array .int)
  | 5 => .array .long
  | 6 => .int
  | _ => .object "ClearingGates$Program"
abbrev wsX60 : List Cond := u_ws RX6 TX6 8
theorem nmX6 : ∀ a, a < 8 → ∀ b, b < 8 → a ≠ b → (TX6 a).2.1 ≠ (TX6 b).2.1 := by decide +kernel
theorem tyX6_ok : ∀ k, k < 8 → parseFieldDescriptor (TX6 k).2.2.1 = some (tyX6 k) := by decide +kernel
abbrev cX6_init : ByteArray := prog_8_method_1_code
def yX6_init : MethodName := ⟨RX6, "<init>", "(LClearingGates$Books;)V"⟩
abbrev cX6_keptMarks : ByteArray := prog_8_method_2_code
def yX6_keptMarks : MethodName := ⟨RX6, "keptMarks", "()I"⟩
abbrev cX6_outcomeOf : ByteArray := prog_8_method_3_code
def yX6_outcomeOf : MethodName := ⟨RX6, "outcomeOf", "(LClearingGates$Program;)I"⟩
abbrev cX6_items : ByteArray := prog_8_method_4_code
def yX6_items : MethodName := ⟨RX6, "items", "(III)I"⟩
abbrev cX6_item : ByteArray := prog_8_method_5_code
def yX6_item : MethodName := ⟨RX6, "item", "(II)I"⟩
abbrev cX6_inside : ByteArray := prog_8_method_6_code
def yX6_inside : MethodName := ⟨RX6, "inside", "(III)I"⟩
abbrev cX6_block : ByteArray := prog_8_method_7_code
def yX6_block : MethodName := ⟨RX6, "block", "(II)I"⟩
abbrev cX6_attempt : ByteArray := prog_8_method_8_code
def yX6_attempt : MethodName := ⟨RX6, "attempt", "(III)I"⟩
abbrev cX6_loop : ByteArray := prog_8_method_9_code
def yX6_loop : MethodName := ⟨RX6, "loop", "(II)I"⟩
abbrev cX6_payment : ByteArray := prog_8_method_10_code
def yX6_payment : MethodName := ⟨RX6, "payment", "(I)I"⟩
abbrev cX6_bell : ByteArray := prog_8_method_11_code
def yX6_bell : MethodName := ⟨RX6, "bell", "(II)I"⟩
abbrev cX6_isHeld : ByteArray := prog_8_method_12_code
def yX6_isHeld : MethodName := ⟨RX6, "isHeld", "(I)Z"⟩
abbrev cX6_isGreaterHeld : ByteArray := prog_8_method_13_code
def yX6_isGreaterHeld : MethodName := ⟨RX6, "isGreaterHeld", "(I)Z"⟩
abbrev cX6_mark : ByteArray := prog_8_method_14_code
def yX6_mark : MethodName := ⟨RX6, "mark", "(I)V"⟩
abbrev cX6_keep : ByteArray := prog_8_method_15_code
def yX6_keep : MethodName := ⟨RX6, "keep", "(I)V"⟩
abbrev cX6_undo : ByteArray := prog_8_method_16_code
def yX6_undo : MethodName := ⟨RX6, "undo", "(I)V"⟩
def RX7 : String := "ClearingGates$Sheet"
def TX7 : u_T := fun k => match k with
  | 0 => ("ClearingGates$Sheet", "sort", "I", false)
  | 1 => ("ClearingGates$Sheet", "size", "I", false)
  | _ => ("ClearingGates$Sheet", "items", "[I", true)
def tyX7 : Nat → FieldType := fun k => match k with
  | 0 => .int
  | 1 => .int
  | _ => .array .int
abbrev wsX70 : List Cond := u_ws RX7 TX7 3
theorem nmX7 : ∀ a, a < 3 → ∀ b, b < 3 → a ≠ b → (TX7 a).2.1 ≠ (TX7 b).2.1 := by decide +kernel
theorem tyX7_ok : ∀ k, k < 3 → parseFieldDescriptor (TX7 k).2.2.1 = some (tyX7 k) := by decide +kernel
abbrev cX7_init : ByteArray := prog_9_method_1_code
def yX7_init : MethodName := ⟨RX7, "<init>", "()V"⟩
abbrev cX7_isMissing : ByteArray := prog_9_method_2_code
def yX7_isMissing : MethodName := ⟨RX7, "isMissing", "()Z"⟩
abbrev cX7_hasPlace : ByteArray := prog_9_method_3_code
def yX7_hasPlace : MethodName := ⟨RX7, "hasPlace", "(I)Z"⟩
abbrev cX7_hasStretch : ByteArray := prog_9_method_4_code
def yX7_hasStretch : MethodName := ⟨RX7, "hasStretch", "(II)Z"⟩
abbrev cX7_become : ByteArray := prog_9_method_5_code
def yX7_become : MethodName := ⟨RX7, "become", "(II)V"⟩
abbrev cX7_write : ByteArray := prog_9_method_6_code
def yX7_write : MethodName := ⟨RX7, "write", "(II)V"⟩
abbrev cX7_takeOver : ByteArray := prog_9_method_7_code
def yX7_takeOver : MethodName := ⟨RX7, "takeOver", "([II)V"⟩
abbrev cX7_firstUnlike : ByteArray := prog_9_method_8_code
def yX7_firstUnlike : MethodName := ⟨RX7, "firstUnlike", "([II)I"⟩
def RX8 : String := "ClearingGates$Tape"
def TX8 : u_T := fun k => match k with
  | 0 => ("ClearingGates$Tape", "bytes", "[I", true)
  | _ => ("ClearingGates$Tape", "size", "I", false)
def tyX8 : Nat → FieldType := fun k => match k with
  | 0 => .array .int
  | _ => .int
abbrev wsX80 : List Cond := u_ws RX8 TX8 2
theorem nmX8 : ∀ a, a < 2 → ∀ b, b < 2 → a ≠ b → (TX8 a).2.1 ≠ (TX8 b).2.1 := by decide +kernel
theorem tyX8_ok : ∀ k, k < 2 → parseFieldDescriptor (TX8 k).2.2.1 = some (tyX8 k) := by decide +kernel
abbrev cX8_init : ByteArray := prog_10_method_1_code
def yX8_init : MethodName := ⟨RX8, "<init>", "()V"⟩
abbrev cX8_add : ByteArray := prog_10_method_2_code
def yX8_add : MethodName := ⟨RX8, "add", "(I)V"⟩
def RX9 : String := "ClearingGates"
def TX9 : u_T := fun k => match k with
  | 0 => ("ClearingGates", "books", "LClearingGates$Books;", true)
  | 1 => ("ClearingGates", "imageBooks", "LClearingGates$Books;", true)
  | 2 => ("ClearingGates", "debts", "LClearingGates$Debts;", true)
  | 3 => ("ClearingGates", "imageDebts", "LClearingGates$Debts;", true)
  | 4 => ("ClearingGates", "rings", "LClearingGates$Rings;", true)
  | 5 => ("ClearingGates", "programs", "[LClearingGates$Program;", true)
  | 6 => ("ClearingGates", "programCount", "I", false)
  | 7 => ("ClearingGates", "imagePrograms", "I", false)
  | 8 => ("ClearingGates", "tape", "LClearingGates$Tape;", true)
  | 9 => ("ClearingGates", "reader", "LClearingGates$Reader;", true)
  | 10 => ("ClearingGates", "truly", "LClearingGates$Runner;", true)
  | 11 => ("ClearingGates", "thought", "LClearingGates$Runner;", true)
  | _ => ("ClearingGates", "sheets", "[LClearingGates$Sheet;", true)
def tyX9 : Nat → FieldType := fun k => match k with
  | 0 => .object "ClearingGates$Books"
  | 1 => .object "ClearingGates$Books"
  | 2 => .object "ClearingGates$Debts"
  | 3 => .object "ClearingGates$Debts"
  | 4 => .object "ClearingGates$Rings"
  | 5 => .array (.object "ClearingGates$Program")
  | 6 => .int
  | 7 => .int
  | 8 => .object "ClearingGates$Tape"
  | 9 => .object "ClearingGates$Reader"
  | 10 => .object "ClearingGates$Runner"
  | 11 => .object "ClearingGates$Runner"
  | _ => .array (.object "ClearingGates$Sheet")
abbrev wsX90 : List Cond := u_ws RX9 TX9 13
theorem nmX9 : ∀ a, a < 13 → ∀ b, b < 13 → a ≠ b → (TX9 a).2.1 ≠ (TX9 b).2.1 := by decide +kernel
theorem tyX9_ok : ∀ k, k < 13 → parseFieldDescriptor (TX9 k).2.2.1 = some (tyX9 k) := by decide +kernel
abbrev cX9_init : ByteArray := prog_1_method_1_code
def yX9_init : MethodName := ⟨RX9, "<init>", "()V"⟩
abbrev cX9_account : ByteArray := prog_1_method_2_code
def yX9_account : MethodName := ⟨RX9, "account", "(II)I"⟩
abbrev cX9_set : ByteArray := prog_1_method_3_code
def yX9_set : MethodName := ⟨RX9, "set", "(III)J"⟩
abbrev cX9_gate : ByteArray := prog_1_method_4_code
def yX9_gate : MethodName := ⟨RX9, "gate", "(IZ)I"⟩
abbrev cX9_told : ByteArray := prog_1_method_5_code
def yX9_told : MethodName := ⟨RX9, "told", "(II)I"⟩
abbrev cX9_of : ByteArray := prog_1_method_6_code
def yX9_of : MethodName := ⟨RX9, "of", "(II)J"⟩
abbrev cX9_count : ByteArray := prog_1_method_7_code
def yX9_count : MethodName := ⟨RX9, "count", "(I)I"⟩
abbrev cX9_sum : ByteArray := prog_1_method_8_code
def yX9_sum : MethodName := ⟨RX9, "sum", "(I)J"⟩
abbrev cX9_taken : ByteArray := prog_1_method_9_code
def yX9_taken : MethodName := ⟨RX9, "taken", "(II)I"⟩
abbrev cX9_feed : ByteArray := prog_1_method_10_code
def yX9_feed : MethodName := ⟨RX9, "feed", "(IIIIII)I"⟩
abbrev cX9_program : ByteArray := prog_1_method_11_code
def yX9_program : MethodName := ⟨RX9, "program", "()I"⟩
abbrev cX9_run : ByteArray := prog_1_method_12_code
def yX9_run : MethodName := ⟨RX9, "run", "(I)I"⟩
abbrev cX9_trace : ByteArray := prog_1_method_13_code
def yX9_trace : MethodName := ⟨RX9, "trace", "(I)I"⟩
abbrev cX9_would : ByteArray := prog_1_method_14_code
def yX9_would : MethodName := ⟨RX9, "would", "(II)J"⟩
abbrev cX9_needed : ByteArray := prog_1_method_15_code
def yX9_needed : MethodName := ⟨RX9, "needed", "(II)I"⟩
abbrev cX9_hinges : ByteArray := prog_1_method_16_code
def yX9_hinges : MethodName := ⟨RX9, "hinges", "(I)I"⟩
abbrev cX9_owe : ByteArray := prog_1_method_17_code
def yX9_owe : MethodName := ⟨RX9, "owe", "(III)I"⟩
abbrev cX9_owed : ByteArray := prog_1_method_18_code
def yX9_owed : MethodName := ⟨RX9, "owed", "(II)I"⟩
abbrev cX9_net : ByteArray := prog_1_method_19_code
def yX9_net : MethodName := ⟨RX9, "net", "()I"⟩
abbrev cX9_tells : ByteArray := prog_1_method_20_code
def yX9_tells : MethodName := ⟨RX9, "tells", "(IIII)I"⟩
abbrev cX9_film : ByteArray := prog_1_method_21_code
def yX9_film : MethodName := ⟨RX9, "film", "(II)I"⟩
abbrev cX9_image : ByteArray := prog_1_method_22_code
def yX9_image : MethodName := ⟨RX9, "image", "()I"⟩
abbrev cX9_back : ByteArray := prog_1_method_23_code
def yX9_back : MethodName := ⟨RX9, "back", "()I"⟩
abbrev cX9_sheet : ByteArray := prog_1_method_24_code
def yX9_sheet : MethodName := ⟨RX9, "sheet", "(III)I"⟩
abbrev cX9_put : ByteArray := prog_1_method_25_code
def yX9_put : MethodName := ⟨RX9, "put", "(III)I"⟩
abbrev cX9_copy : ByteArray := prog_1_method_26_code
def yX9_copy : MethodName := ⟨RX9, "copy", "(IIIII)I"⟩
abbrev cX9_load : ByteArray := prog_1_method_27_code
def yX9_load : MethodName := ⟨RX9, "load", "(IIII)I"⟩
abbrev cX9_isWithin : ByteArray := prog_1_method_28_code
def yX9_isWithin : MethodName := ⟨RX9, "isWithin", "(II)Z"⟩
abbrev cX9_isByte : ByteArray := prog_1_method_29_code
def yX9_isByte : MethodName := ⟨RX9, "isByte", "(I)Z"⟩
abbrev cX9_isSheet : ByteArray := prog_1_method_30_code
def yX9_isSheet : MethodName := ⟨RX9, "isSheet", "(I)Z"⟩
abbrev cX9_isProgram : ByteArray := prog_1_method_31_code
def yX9_isProgram : MethodName := ⟨RX9, "isProgram", "(I)Z"⟩
abbrev cX9_isPair : ByteArray := prog_1_method_32_code
def yX9_isPair : MethodName := ⟨RX9, "isPair", "(II)Z"⟩
abbrev cX9_isOfWould : ByteArray := prog_1_method_33_code
def yX9_isOfWould : MethodName := ⟨RX9, "isOfWould", "(I)Z"⟩
abbrev cX9_outcomeInThought : ByteArray := prog_1_method_34_code
def yX9_outcomeInThought : MethodName := ⟨RX9, "outcomeInThought", "(I)I"⟩
abbrev cX9_kindsToldBy : ByteArray := prog_1_method_35_code
def yX9_kindsToldBy : MethodName := ⟨RX9, "kindsToldBy", "(LClearingGates$Sheet;II)I"⟩
def RX10 : String := "ClearingGatesModel"
def TX10 : u_T := fun k => match k with
  | 0 => ("ClearingGatesModel", "s", "[I", true)
  | 1 => ("ClearingGatesModel", "fees", "J", false)
  | 2 => ("ClearingGatesModel", "thought", "[I", true)
  | 3 => ("ClearingGatesModel", "thoughtFees", "J", false)
  | 4 => ("ClearingGatesModel", "image", "[I", true)
  | 5 => ("ClearingGatesModel", "imageFees", "J", false)
  | 6 => ("ClearingGatesModel", "hasImage", "Z", false)
  | 7 => ("ClearingGatesModel", "tape", "[I", true)
  | 8 => ("ClearingGatesModel", "taped", "I", false)
  | 9 => ("ClearingGatesModel", "texts", "[I", true)
  | 10 => ("ClearingGatesModel", "sizes", "[I", true)
  | 11 => ("ClearingGatesModel", "programs", "I", false)
  | 12 => ("ClearingGatesModel", "imageTexts", "[I", true)
  | 13 => ("ClearingGatesModel", "imageSizes", "[I", true)
  | 14 => ("ClearingGatesModel", "imagePrograms", "I", false)
  | 15 => ("ClearingGatesModel", "here", "I", false)
  | 16 => ("ClearingGatesModel", "open", "I", false)
  | 17 => ("ClearingGatesModel", "running", "I", false)
  | 18 => ("ClearingGatesModel", "begun", "I", false)
  | 19 => ("ClearingGatesModel", "held", "[I", true)
  | 20 => ("ClearingGatesModel", "marks", "[I", true)
  | 21 => ("ClearingGatesModel", "markMany", "I", false)
  | 22 => ("ClearingGatesModel", "trace", "[I", true)
  | 23 => ("ClearingGatesModel", "traced", "I", false)
  | 24 => ("ClearingGatesModel", "keptBalances", "[I", true)
  | 25 => ("ClearingGatesModel", "keptFees", "[J", true)
  | 26 => ("ClearingGatesModel", "deep", "I", false)
  | 27 => ("ClearingGatesModel", "way", "[I", true)
  | 28 => ("ClearingGatesModel", "sorts", "[I", true)
  | 29 => ("ClearingGatesModel", "rowMany", "[I", true)
  | 30 => ("ClearingGatesModel", "items", "[I", true)
  | _ => ("ClearingGatesModel", "moved", "[I", true)
def tyX10 : Nat → FieldType := fun k => match k with
  | 0 => .array .int
  | 1 => .long
  | 2 => .array .int
  | 3 => .long
  | 4 => .array .int
  | 5 => .long
  | 6 => .boolean
  | 7 => .array .int
  | 8 => .int
  | 9 => .array .int
  | 10 => .array .int
  | 11 => .int
  | 12 => .array .int
  | 13 => .array .int
  | 14 => .int
  | 15 => .int
  | 16 => .int
  | 17 => .int
  | 18 => .int
  | 19 => .array .int
  | 20 => .array .int
  | 21 => .int
  | 22 => .array .int
  | 23 => .int
  | 24 => .array .int
  | 25 => .array .long
  | 26 => .int
  | 27 => .array .int
  | 28 => .array .int
  | 29 => .array .int
  | 30 => .array .int
  | _ => .array .int
abbrev wsX100 : List Cond := u_ws RX10 TX10 32
theorem nmX10 : ∀ a, a < 32 → ∀ b, b < 32 → a ≠ b → (TX10 a).2.1 ≠ (TX10 b).2.1 := by decide +kernel
theorem tyX10_ok : ∀ k, k < 32 → parseFieldDescriptor (TX10 k).2.2.1 = some (tyX10 k) := by decide +kernel
abbrev cX10_init : ByteArray := prog_12_method_1_code
def yX10_init : MethodName := ⟨RX10, "<init>", "()V"⟩
abbrev cX10_isIn : ByteArray := prog_12_method_2_code
def yX10_isIn : MethodName := ⟨RX10, "isIn", "(JJJ)Z"⟩
abbrev cX10_isAccount : ByteArray := prog_12_method_3_code
def yX10_isAccount : MethodName := ⟨RX10, "isAccount", "(I)Z"⟩
abbrev cX10_account : ByteArray := prog_12_method_4_code
def yX10_account : MethodName := ⟨RX10, "account", "(II)I"⟩
abbrev cX10_set : ByteArray := prog_12_method_5_code
def yX10_set : MethodName := ⟨RX10, "set", "(III)J"⟩
abbrev cX10_gate : ByteArray := prog_12_method_6_code
def yX10_gate : MethodName := ⟨RX10, "gate", "(IZ)I"⟩
abbrev cX10_feeOf : ByteArray := prog_12_method_7_code
def yX10_feeOf : MethodName := ⟨RX10, "feeOf", "(II)I"⟩
abbrev cX10_floorOf : ByteArray := prog_12_method_8_code
def yX10_floorOf : MethodName := ⟨RX10, "floorOf", "(I)I"⟩
abbrev cX10_told : ByteArray := prog_12_method_9_code
def yX10_told : MethodName := ⟨RX10, "told", "(II)I"⟩
abbrev cX10_owedTo : ByteArray := prog_12_method_10_code
def yX10_owedTo : MethodName := ⟨RX10, "owedTo", "(II)I"⟩
abbrev cX10_positionOf : ByteArray := prog_12_method_11_code
def yX10_positionOf : MethodName := ⟨RX10, "positionOf", "(I)J"⟩
abbrev cX10_of : ByteArray := prog_12_method_12_code
def yX10_of : MethodName := ⟨RX10, "of", "(II)J"⟩
abbrev cX10_count : ByteArray := prog_12_method_13_code
def yX10_count : MethodName := ⟨RX10, "count", "(I)I"⟩
abbrev cX10_sum : ByteArray := prog_12_method_14_code
def yX10_sum : MethodName := ⟨RX10, "sum", "(I)J"⟩
abbrev cX10_above : ByteArray := prog_12_method_15_code
def yX10_above : MethodName := ⟨RX10, "above", "(I)I"⟩
abbrev cX10_taken : ByteArray := prog_12_method_16_code
def yX10_taken : MethodName := ⟨RX10, "taken", "(II)I"⟩
abbrev cX10_isByte : ByteArray := prog_12_method_17_code
def yX10_isByte : MethodName := ⟨RX10, "isByte", "(I)Z"⟩
abbrev cX10_feed : ByteArray := prog_12_method_18_code
def yX10_feed : MethodName := ⟨RX10, "feed", "(IIIIII)I"⟩
abbrev cX10_byteAt : ByteArray := prog_12_method_19_code
def yX10_byteAt : MethodName := ⟨RX10, "byteAt", "()I"⟩
abbrev cX10_takesFigure : ByteArray := prog_12_method_20_code
def yX10_takesFigure : MethodName := ⟨RX10, "takesFigure", "(II)Z"⟩
abbrev cX10_takesBracket : ByteArray := prog_12_method_21_code
def yX10_takesBracket : MethodName := ⟨RX10, "takesBracket", "(IZ)Z"⟩
abbrev cX10_takesPayment : ByteArray := prog_12_method_22_code
def yX10_takesPayment : MethodName := ⟨RX10, "takesPayment", "()Z"⟩
abbrev cX10_takesItem : ByteArray := prog_12_method_23_code
def yX10_takesItem : MethodName := ⟨RX10, "takesItem", "(Z)Z"⟩
abbrev cX10_program : ByteArray := prog_12_method_24_code
def yX10_program : MethodName := ⟨RX10, "program", "()I"⟩
abbrev cX10_marks : ByteArray := prog_12_method_25_code
def yX10_marks : MethodName := ⟨RX10, "marks", "(I)V"⟩
abbrev cX10_signAt : ByteArray := prog_12_method_26_code
def yX10_signAt : MethodName := ⟨RX10, "signAt", "(I)I"⟩
abbrev cX10_figureAt : ByteArray := prog_12_method_27_code
def yX10_figureAt : MethodName := ⟨RX10, "figureAt", "(I)I"⟩
abbrev cX10_hasGate : ByteArray := prog_12_method_28_code
def yX10_hasGate : MethodName := ⟨RX10, "hasGate", "(I)Z"⟩
abbrev cX10_behind : ByteArray := prog_12_method_29_code
def yX10_behind : MethodName := ⟨RX10, "behind", "(I)I"⟩
abbrev cX10_insideOf : ByteArray := prog_12_method_30_code
def yX10_insideOf : MethodName := ⟨RX10, "insideOf", "(I)I"⟩
abbrev cX10_isClosed : ByteArray := prog_12_method_31_code
def yX10_isClosed : MethodName := ⟨RX10, "isClosed", "(I)Z"⟩
abbrev cX10_keepsBooks : ByteArray := prog_12_method_32_code
def yX10_keepsBooks : MethodName := ⟨RX10, "keepsBooks", "()V"⟩
abbrev cX10_forgetsBooks : ByteArray := prog_12_method_33_code
def yX10_forgetsBooks : MethodName := ⟨RX10, "forgetsBooks", "(Z)V"⟩
abbrev cX10_does : ByteArray := prog_12_method_34_code
def yX10_does : MethodName := ⟨RX10, "does", "(I)I"⟩
abbrev cX10_block : ByteArray := prog_12_method_35_code
def yX10_block : MethodName := ⟨RX10, "block", "(I)I"⟩
abbrev cX10_pays : ByteArray := prog_12_method_36_code
def yX10_pays : MethodName := ⟨RX10, "pays", "(I)I"⟩
abbrev cX10_rings : ByteArray := prog_12_method_37_code
def yX10_rings : MethodName := ⟨RX10, "rings", "(II)I"⟩
abbrev cX10_loops : ByteArray := prog_12_method_38_code
def yX10_loops : MethodName := ⟨RX10, "loops", "(I)I"⟩
abbrev cX10_tries : ByteArray := prog_12_method_39_code
def yX10_tries : MethodName := ⟨RX10, "tries", "(IZ)I"⟩
abbrev cX10_doesItem : ByteArray := prog_12_method_40_code
def yX10_doesItem : MethodName := ⟨RX10, "doesItem", "(I)I"⟩
abbrev cX10_runs : ByteArray := prog_12_method_41_code
def yX10_runs : MethodName := ⟨RX10, "runs", "(I)I"⟩
abbrev cX10_isProgram : ByteArray := prog_12_method_42_code
def yX10_isProgram : MethodName := ⟨RX10, "isProgram", "(I)Z"⟩
abbrev cX10_run : ByteArray := prog_12_method_43_code
def yX10_run : MethodName := ⟨RX10, "run", "(I)I"⟩
abbrev cX10_trace : ByteArray := prog_12_method_44_code
def yX10_trace : MethodName := ⟨RX10, "trace", "(I)I"⟩
abbrev cX10_thinks : ByteArray := prog_12_method_45_code
def yX10_thinks : MethodName := ⟨RX10, "thinks", "()V"⟩
abbrev cX10_wakes : ByteArray := prog_12_method_46_code
def yX10_wakes : MethodName := ⟨RX10, "wakes", "()V"⟩
abbrev cX10_entries : ByteArray := prog_12_method_47_code
def yX10_entries : MethodName := ⟨RX10, "entries", "()J"⟩
abbrev cX10_would : ByteArray := prog_12_method_48_code
def yX10_would : MethodName := ⟨RX10, "would", "(II)J"⟩
abbrev cX10_outcomeOf : ByteArray := prog_12_method_49_code
def yX10_outcomeOf : MethodName := ⟨RX10, "outcomeOf", "(I)I"⟩
abbrev cX10_needed : ByteArray := prog_12_method_50_code
def yX10_needed : MethodName := ⟨RX10, "needed", "(II)I"⟩
abbrev cX10_hinges : ByteArray := prog_12_method_51_code
def yX10_hinges : MethodName := ⟨RX10, "hinges", "(I)I"⟩
abbrev cX10_areTwo : ByteArray := prog_12_method_52_code
def yX10_areTwo : MethodName := ⟨RX10, "areTwo", "(II)Z"⟩
abbrev cX10_owe : ByteArray := prog_12_method_53_code
def yX10_owe : MethodName := ⟨RX10, "owe", "(III)I"⟩
abbrev cX10_owed : ByteArray := prog_12_method_54_code
def yX10_owed : MethodName := ⟨RX10, "owed", "(II)I"⟩
abbrev cX10_ringFrom : ByteArray := prog_12_method_55_code
def yX10_ringFrom : MethodName := ⟨RX10, "ringFrom", "(II)I"⟩
abbrev cX10_firstRing : ByteArray := prog_12_method_56_code
def yX10_firstRing : MethodName := ⟨RX10, "firstRing", "()I"⟩
abbrev cX10_net : ByteArray := prog_12_method_57_code
def yX10_net : MethodName := ⟨RX10, "net", "()I"⟩
abbrev cX10_isSheet : ByteArray := prog_12_method_58_code
def yX10_isSheet : MethodName := ⟨RX10, "isSheet", "(I)Z"⟩
abbrev cX10_itemOf : ByteArray := prog_12_method_59_code
def yX10_itemOf : MethodName := ⟨RX10, "itemOf", "(II)I"⟩
abbrev cX10_otherIn : ByteArray := prog_12_method_60_code
def yX10_otherIn : MethodName := ⟨RX10, "otherIn", "(II)I"⟩
abbrev cX10_tells : ByteArray := prog_12_method_61_code
def yX10_tells : MethodName := ⟨RX10, "tells", "(IIII)I"⟩
abbrev cX10_film : ByteArray := prog_12_method_62_code
def yX10_film : MethodName := ⟨RX10, "film", "(II)I"⟩
abbrev cX10_image : ByteArray := prog_12_method_63_code
def yX10_image : MethodName := ⟨RX10, "image", "()I"⟩
abbrev cX10_back : ByteArray := prog_12_method_64_code
def yX10_back : MethodName := ⟨RX10, "back", "()I"⟩
abbrev cX10_sheet : ByteArray := prog_12_method_65_code
def yX10_sheet : MethodName := ⟨RX10, "sheet", "(III)I"⟩
abbrev cX10_put : ByteArray := prog_12_method_66_code
def yX10_put : MethodName := ⟨RX10, "put", "(III)I"⟩
abbrev cX10_copy : ByteArray := prog_12_method_67_code
def yX10_copy : MethodName := ⟨RX10, "copy", "(IIIII)I"⟩
abbrev cX10_load : ByteArray := prog_12_method_68_code
def yX10_load : MethodName := ⟨RX10, "load", "(IIII)I"⟩
def RL : String := "ClearingGatesLaw"
abbrev cL_law : ByteArray := code
def wsX0_init : List Cond := .code yX0_init cX0_init 1 none :: ([.methodLink RX0 3 objectInit, .instanceMethod objectInit, .code objectInit ⟨#[0xb1]⟩ 1 none, .arrayClass .int, .fieldLink RX0 9 "ClearingGates$Books" "kinds" "[I", .fieldLink RX0 15 "ClearingGates$Books" "balances" "[I", .fieldLink RX0 18 "ClearingGates$Books" "limits" "[I", .arrayClass .boolean, .fieldLink RX0 21 "ClearingGates$Books" "gates" "[Z", .fieldLink RX0 25 "ClearingGates$Books" "entries" "[I", .fieldLink RX0 28 "ClearingGates$Books" "leavings" "[I", .fieldLink RX0 31 "ClearingGates$Books" "agains" "[I"] ++ wsX00)
def wsX0_has : List Cond := .code yX0_has cX0_has 2 (some .boolean) :: ([.fieldLink RX0 34 "ClearingGates$Books" "accounts" "I"] ++ wsX00)
def wsX0_hasAllGates : List Cond := .code yX0_hasAllGates cX0_hasAllGates 2 (some .boolean) :: ([.fieldLink RX0 34 "ClearingGates$Books" "accounts" "I", .fieldLink RX0 21 "ClearingGates$Books" "gates" "[Z"] ++ wsX00)
def wsX0_open : List Cond := .code yX0_open cX0_open 4 (some .int) :: ([.fieldLink RX0 34 "ClearingGates$Books" "accounts" "I", .fieldLink RX0 9 "ClearingGates$Books" "kinds" "[I", .fieldLink RX0 15 "ClearingGates$Books" "balances" "[I", .fieldLink RX0 18 "ClearingGates$Books" "limits" "[I", .fieldLink RX0 21 "ClearingGates$Books" "gates" "[Z", .fieldLink RX0 25 "ClearingGates$Books" "entries" "[I", .fieldLink RX0 28 "ClearingGates$Books" "leavings" "[I", .fieldLink RX0 31 "ClearingGates$Books" "agains" "[I"] ++ wsX00)
def wsX0_allMoney : List Cond := .code yX0_allMoney cX0_allMoney 4 (some .long) :: ([.fieldLink RX0 51 "ClearingGates$Books" "fees" "J", .fieldLink RX0 34 "ClearingGates$Books" "accounts" "I", .fieldLink RX0 15 "ClearingGates$Books" "balances" "[I"] ++ wsX00)
def wsX0_enterAll : List Cond := .code yX0_enterAll cX0_enterAll 2 none :: ([.fieldLink RX0 34 "ClearingGates$Books" "accounts" "I", .fieldLink RX0 25 "ClearingGates$Books" "entries" "[I"] ++ wsX00)
def wsX0_leaveAll : List Cond := .code yX0_leaveAll cX0_leaveAll 2 none :: ([.fieldLink RX0 34 "ClearingGates$Books" "accounts" "I", .fieldLink RX0 28 "ClearingGates$Books" "leavings" "[I"] ++ wsX00)
def wsX0_becomeAs : List Cond := .code yX0_becomeAs cX0_becomeAs 3 none :: ([.fieldLink RX0 9 "ClearingGates$Books" "kinds" "[I", .methodLink RX0 55 arraycopyName, .native arraycopyName, .static arraycopyName, .initialized "java/lang/System", .fieldLink RX0 15 "ClearingGates$Books" "balances" "[I", .fieldLink RX0 18 "ClearingGates$Books" "limits" "[I", .fieldLink RX0 25 "ClearingGates$Books" "entries" "[I", .fieldLink RX0 28 "ClearingGates$Books" "leavings" "[I", .fieldLink RX0 31 "ClearingGates$Books" "agains" "[I", .fieldLink RX0 21 "ClearingGates$Books" "gates" "[Z", .fieldLink RX0 34 "ClearingGates$Books" "accounts" "I", .fieldLink RX0 51 "ClearingGates$Books" "fees" "J", .fieldLink RX0 61 "ClearingGates$Books" "missed" "I", .fieldLink RX0 64 "ClearingGates$Books" "bells" "I", .fieldLink RX0 67 "ClearingGates$Books" "refused" "I", .fieldLink RX0 70 "ClearingGates$Books" "caught" "I"] ++ wsX00)
def wsX1_init : List Cond := .code yX1_init cX1_init 1 none :: ([.methodLink RX1 3 objectInit, .instanceMethod objectInit, .code objectInit ⟨#[0xb1]⟩ 1 none, .arrayClass .int, .fieldLink RX1 9 "ClearingGates$Debts" "row" "[I"] ++ wsX10)
def wsX1_total : List Cond := .code yX1_total cX1_total 4 (some .long) :: ([.fieldLink RX1 9 "ClearingGates$Debts" "row" "[I"] ++ wsX10)
def wsX1_becomeAs : List Cond := .code yX1_becomeAs cX1_becomeAs 2 none :: ([.fieldLink RX1 9 "ClearingGates$Debts" "row" "[I", .methodLink RX1 19 arraycopyName, .native arraycopyName, .static arraycopyName, .initialized "java/lang/System"] ++ wsX10)
def wsX2_isKind : List Cond := .code yX2_isKind cX2_isKind 1 (some .boolean) :: ([])
def wsX3_init : List Cond := .code yX3_init cX3_init 1 none :: ([.methodLink RX3 3 objectInit, .instanceMethod objectInit, .code objectInit ⟨#[0xb1]⟩ 1 none, .arrayClass .int, .fieldLink RX3 9 "ClearingGates$Program" "bytes" "[I", .fieldLink RX3 15 "ClearingGates$Program" "behind" "[I"] ++ wsX30)
def wsX3_takeOver : List Cond := .code yX3_takeOver cX3_takeOver 2 none :: ([.fieldLink RX3 18 "ClearingGates$Tape" "bytes" "[I", .fieldLink RX3 9 "ClearingGates$Program" "bytes" "[I", .methodLink RX3 21 arraycopyName, .native arraycopyName, .static arraycopyName, .initialized "java/lang/System", .fieldLink RX3 27 "ClearingGates$Tape" "size" "I", .fieldLink RX3 31 "ClearingGates$Program" "size" "I"] ++ wsX80 ++ wsX30)
def wsX4_init : List Cond := .code yX4_init cX4_init 1 none :: ([.methodLink RX4 3 objectInit, .instanceMethod objectInit, .code objectInit ⟨#[0xb1]⟩ 1 none, .arrayClass .int, .fieldLink RX4 9 "ClearingGates$Reader" "opened" "[I"] ++ wsX40)
def wsX4_faultOf_r1 : List Cond := [Cond.fieldLink RX4 15 "ClearingGates$Reader" "program" "LClearingGates$Program;", Cond.fieldLink RX4 19 "ClearingGates$Reader" "open" "I", Cond.fieldLink RX4 23 "ClearingGates$Reader" "loops" "I", Cond.fieldLink RX4 26 "ClearingGates$Reader" "fault" "I", Cond.fieldLink RX4 29 "ClearingGates$Program" "size" "I", Cond.methodLink RX4 34 yX4_step, Cond.instanceMethod yX4_step, Cond.selects RX4 yX4_step yX4_step, Cond.initialized RX4, Cond.code yX4_step cX4_step 2 (some .int), Cond.methodLink RX4 38 yX3_byteAt, Cond.instanceMethod yX3_byteAt, Cond.selects RX3 yX3_byteAt yX3_byteAt, Cond.initialized RX3, Cond.code yX3_byteAt cX3_byteAt 2 (some .int), Cond.fieldLink RX3 31 "ClearingGates$Program" "size" "I", Cond.fieldLink RX3 9 "ClearingGates$Program" "bytes" "[I", Cond.methodLink RX4 41 yX4_openingWithFigure, Cond.instanceMethod yX4_openingWithFigure, Cond.selects RX4 yX4_openingWithFigure yX4_openingWithFigure, Cond.code yX4_openingWithFigure cX4_openingWithFigure 5 (some .int), Cond.methodLink RX4 45 yX4_opening, Cond.instanceMethod yX4_opening, Cond.selects RX4 yX4_opening yX4_opening]
def wsX4_faultOf_r2 : List Cond := [Cond.code yX4_opening cX4_opening 2 (some .int), Cond.fieldLink RX4 9 "ClearingGates$Reader" "opened" "[I", Cond.methodLink RX4 61 yX4_faultAt, Cond.instanceMethod yX4_faultAt, Cond.selects RX4 yX4_faultAt yX4_faultAt, Cond.code yX4_faultAt cX4_faultAt 2 (some .int), Cond.methodLink RX4 64 yX4_isFigure, Cond.instanceMethod yX4_isFigure, Cond.selects RX4 yX4_isFigure yX4_isFigure, Cond.code yX4_isFigure cX4_isFigure 4 (some .boolean), Cond.methodLink RX4 48 yX4_closing, Cond.instanceMethod yX4_closing, Cond.selects RX4 yX4_closing yX4_closing, Cond.code yX4_closing cX4_closing 3 (some .int), Cond.methodLink RX4 58 yX4_ends, Cond.instanceMethod yX4_ends, Cond.selects RX4 yX4_ends yX4_ends, Cond.code yX4_ends cX4_ends 3 (some .int), Cond.fieldLink RX4 68 "ClearingGates$Program" "behind" "[I", Cond.methodLink RX4 52 yX4_payment, Cond.instanceMethod yX4_payment, Cond.selects RX4 yX4_payment yX4_payment, Cond.code yX4_payment cX4_payment 4 (some .int), Cond.methodLink RX4 55 yX4_bell]
def wsX4_faultOf_r3 : List Cond := [Cond.instanceMethod yX4_bell, Cond.selects RX4 yX4_bell yX4_bell, Cond.code yX4_bell cX4_bell 2 (some .int)]
def wsX4_faultOf : List Cond := .code yX4_faultOf cX4_faultOf 4 (some .int) :: ((wsX4_faultOf_r1 ++ (wsX4_faultOf_r2 ++ wsX4_faultOf_r3)) ++ wsX40 ++ wsX30)
def wsX5_init : List Cond := .code yX5_init cX5_init 2 none :: ([.methodLink RX5 3 objectInit, .instanceMethod objectInit, .code objectInit ⟨#[0xb1]⟩ 1 none, .arrayClass .int, .fieldLink RX5 9 "ClearingGates$Rings" "way" "[I", .arrayClass .boolean, .fieldLink RX5 15 "ClearingGates$Rings" "tried" "[Z", .fieldLink RX5 19 "ClearingGates$Rings" "debts" "LClearingGates$Debts;"] ++ wsX50)
def wsX5_findsFirst : List Cond := .code yX5_findsFirst cX5_findsFirst 4 (some .boolean) :: ([.fieldLink RX5 15 "ClearingGates$Rings" "tried" "[Z", .methodLink RX5 30 yX5_leadsBack, .instanceMethod yX5_leadsBack, .selects RX5 yX5_leadsBack yX5_leadsBack, .initialized RX5, .code yX5_leadsBack cX5_leadsBack 6 (some .boolean), .fieldLink RX5 9 "ClearingGates$Rings" "way" "[I", .fieldLink RX5 19 "ClearingGates$Rings" "debts" "LClearingGates$Debts;", .fieldLink RX5 40 "ClearingGates$Rings" "wayLength" "I", .methodLink RX5 34 yX1_between, .instanceMethod yX1_between, .selects RX1 yX1_between yX1_between, .initialized RX1, .code yX1_between cX1_between 3 (some .int), .fieldLink RX1 9 "ClearingGates$Debts" "row" "[I"] ++ wsX50 ++ wsX10)
def wsX5_cutAll_r1 : List Cond := [Cond.methodLink RX5 23 yX5_findsFirst, Cond.instanceMethod yX5_findsFirst, Cond.selects RX5 yX5_findsFirst yX5_findsFirst, Cond.initialized RX5, Cond.code yX5_findsFirst cX5_findsFirst 4 (some .boolean), Cond.fieldLink RX5 15 "ClearingGates$Rings" "tried" "[Z", Cond.methodLink RX5 30 yX5_leadsBack, Cond.instanceMethod yX5_leadsBack, Cond.selects RX5 yX5_leadsBack yX5_leadsBack, Cond.code yX5_leadsBack cX5_leadsBack 6 (some .boolean), Cond.fieldLink RX5 9 "ClearingGates$Rings" "way" "[I", Cond.fieldLink RX5 19 "ClearingGates$Rings" "debts" "LClearingGates$Debts;", Cond.fieldLink RX5 40 "ClearingGates$Rings" "wayLength" "I", Cond.methodLink RX5 34 yX1_between, Cond.instanceMethod yX1_between, Cond.selects RX1 yX1_between yX1_between, Cond.initialized RX1, Cond.code yX1_between cX1_between 3 (some .int), Cond.fieldLink RX1 9 "ClearingGates$Debts" "row" "[I", Cond.methodLink RX5 27 yX5_cutFound, Cond.instanceMethod yX5_cutFound, Cond.selects RX5 yX5_cutFound yX5_cutFound, Cond.code yX5_cutFound cX5_cutFound 4 none, Cond.constant RX5 44 (99999)]
def wsX5_cutAll_r2 : List Cond := [Cond.methodLink RX5 49 Lib.Math.min.name, Cond.static Lib.Math.min.name, Cond.initialized "java/lang/Math", Cond.code Lib.Math.min.name Lib.Math.min.code 2 (some .int), Cond.methodLink RX5 45 yX5_behind, Cond.instanceMethod yX5_behind, Cond.selects RX5 yX5_behind yX5_behind, Cond.code yX5_behind cX5_behind 2 (some .int), Cond.methodLink RX5 54 yX1_become, Cond.instanceMethod yX1_become, Cond.selects RX1 yX1_become yX1_become, Cond.code yX1_become cX1_become 4 none]
def wsX5_cutAll : List Cond := .code yX5_cutAll cX5_cutAll 3 (some .int) :: ((wsX5_cutAll_r1 ++ wsX5_cutAll_r2) ++ wsX50 ++ wsX10)
def wsX6_init : List Cond := .code yX6_init cX6_init 2 none :: ([.methodLink RX6 3 objectInit, .instanceMethod objectInit, .code objectInit ⟨#[0xb1]⟩ 1 none, .arrayClass .int, .fieldLink RX6 9 "ClearingGates$Runner" "marks" "[I", .fieldLink RX6 15 "ClearingGates$Runner" "held" "[I", .classLink RX6 18 "[[I", .fieldLink RX6 20 "ClearingGates$Runner" "keptBalances" "[[I", .arrayClass .long, .fieldLink RX6 23 "ClearingGates$Runner" "keptFees" "[J", .fieldLink RX6 27 "ClearingGates$Runner" "books" "LClearingGates$Books;"] ++ wsX60)
def wsX6_keptMarks : List Cond := .code yX6_keptMarks cX6_keptMarks 1 (some .int) :: ([.fieldLink RX6 31 "ClearingGates$Runner" "markCount" "I", .methodLink RX6 35 Lib.Math.min.name, .static Lib.Math.min.name, .initialized "java/lang/Math", .code Lib.Math.min.name Lib.Math.min.code 2 (some .int)] ++ wsX60)
def wsX7_init : List Cond := .code yX7_init cX7_init 1 none :: ([.methodLink RX7 3 objectInit, .instanceMethod objectInit, .code objectInit ⟨#[0xb1]⟩ 1 none, .fieldLink RX7 11 "ClearingGates$Sheet" "sort" "I", .arrayClass .int, .fieldLink RX7 15 "ClearingGates$Sheet" "items" "[I"] ++ wsX70)
def wsX7_isMissing : List Cond := .code yX7_isMissing cX7_isMissing 1 (some .boolean) :: ([.fieldLink RX7 11 "ClearingGates$Sheet" "sort" "I"] ++ wsX70)
def wsX7_become : List Cond := .code yX7_become cX7_become 4 none :: ([.fieldLink RX7 11 "ClearingGates$Sheet" "sort" "I", .fieldLink RX7 19 "ClearingGates$Sheet" "size" "I", .fieldLink RX7 15 "ClearingGates$Sheet" "items" "[I"] ++ wsX70)
def wsX8_init : List Cond := .code yX8_init cX8_init 1 none :: ([.methodLink RX8 3 objectInit, .instanceMethod objectInit, .code objectInit ⟨#[0xb1]⟩ 1 none, .arrayClass .int, .fieldLink RX8 9 "ClearingGates$Tape" "bytes" "[I"] ++ wsX80)
def wsX8_add : List Cond := .code yX8_add cX8_add 2 none :: ([.fieldLink RX8 15 "ClearingGates$Tape" "size" "I", .fieldLink RX8 9 "ClearingGates$Tape" "bytes" "[I"] ++ wsX80)
def wsX9_init_r1 : List Cond := [Cond.methodLink RX9 3 objectInit, Cond.instanceMethod objectInit, Cond.code objectInit ⟨#[0xb1]⟩ 1 none, Cond.classLink RX9 9 RX0, Cond.instantiable RX0 13, Cond.initialized RX0, Cond.fieldLink RX9 12 "ClearingGates" "books" "LClearingGates$Books;", Cond.fieldLink RX9 18 "ClearingGates" "imageBooks" "LClearingGates$Books;", Cond.classLink RX9 21 RX1, Cond.instantiable RX1 1, Cond.initialized RX1, Cond.fieldLink RX9 24 "ClearingGates" "debts" "LClearingGates$Debts;", Cond.fieldLink RX9 28 "ClearingGates" "imageDebts" "LClearingGates$Debts;", Cond.classLink RX9 31 RX5, Cond.instantiable RX5 4, Cond.initialized RX5, Cond.fieldLink RX9 36 "ClearingGates" "rings" "LClearingGates$Rings;", Cond.classLink RX9 40 RX3, Cond.fieldLink RX9 42 "ClearingGates" "programs" "[LClearingGates$Program;", Cond.instantiable RX3 3, Cond.initialized RX3, Cond.fieldLink RX9 47 "ClearingGates" "imagePrograms" "I", Cond.classLink RX9 51 RX8, Cond.instantiable RX8 2]
def wsX9_init_r2 : List Cond := [Cond.initialized RX8, Cond.fieldLink RX9 54 "ClearingGates" "tape" "LClearingGates$Tape;", Cond.classLink RX9 58 RX4, Cond.instantiable RX4 5, Cond.initialized RX4, Cond.fieldLink RX9 61 "ClearingGates" "reader" "LClearingGates$Reader;", Cond.classLink RX9 65 RX6, Cond.instantiable RX6 8, Cond.initialized RX6, Cond.fieldLink RX9 70 "ClearingGates" "truly" "LClearingGates$Runner;", Cond.fieldLink RX9 74 "ClearingGates" "thought" "LClearingGates$Runner;", Cond.classLink RX9 77 RX7, Cond.fieldLink RX9 79 "ClearingGates" "sheets" "[LClearingGates$Sheet;", Cond.instantiable RX7 3, Cond.initialized RX7, Cond.instanceMethod yX0_init, Cond.code yX0_init cX0_init 1 none, Cond.methodLink RX0 3 objectInit, Cond.arrayClass .int, Cond.fieldLink RX0 9 "ClearingGates$Books" "kinds" "[I", Cond.fieldLink RX0 15 "ClearingGates$Books" "balances" "[I", Cond.fieldLink RX0 18 "ClearingGates$Books" "limits" "[I", Cond.arrayClass .boolean, Cond.fieldLink RX0 21 "ClearingGates$Books" "gates" "[Z"]
def wsX9_init_r3 : List Cond := [Cond.fieldLink RX0 25 "ClearingGates$Books" "entries" "[I", Cond.fieldLink RX0 28 "ClearingGates$Books" "leavings" "[I", Cond.fieldLink RX0 31 "ClearingGates$Books" "agains" "[I", Cond.instanceMethod yX1_init, Cond.code yX1_init cX1_init 1 none, Cond.methodLink RX1 3 objectInit, Cond.fieldLink RX1 9 "ClearingGates$Debts" "row" "[I", Cond.methodLink RX9 33 yX5_init, Cond.instanceMethod yX5_init, Cond.code yX5_init cX5_init 2 none, Cond.methodLink RX5 3 objectInit, Cond.fieldLink RX5 9 "ClearingGates$Rings" "way" "[I", Cond.fieldLink RX5 15 "ClearingGates$Rings" "tried" "[Z", Cond.fieldLink RX5 19 "ClearingGates$Rings" "debts" "LClearingGates$Debts;", Cond.instanceMethod yX3_init, Cond.code yX3_init cX3_init 1 none, Cond.methodLink RX3 3 objectInit, Cond.fieldLink RX3 9 "ClearingGates$Program" "bytes" "[I", Cond.fieldLink RX3 15 "ClearingGates$Program" "behind" "[I", Cond.instanceMethod yX8_init, Cond.code yX8_init cX8_init 1 none, Cond.methodLink RX8 3 objectInit, Cond.fieldLink RX8 9 "ClearingGates$Tape" "bytes" "[I", Cond.instanceMethod yX4_init]
def wsX9_init_r4 : List Cond := [Cond.code yX4_init cX4_init 1 none, Cond.methodLink RX4 3 objectInit, Cond.fieldLink RX4 9 "ClearingGates$Reader" "opened" "[I", Cond.methodLink RX9 67 yX6_init, Cond.instanceMethod yX6_init, Cond.code yX6_init cX6_init 2 none, Cond.methodLink RX6 3 objectInit, Cond.fieldLink RX6 9 "ClearingGates$Runner" "marks" "[I", Cond.fieldLink RX6 15 "ClearingGates$Runner" "held" "[I", Cond.classLink RX6 18 "[[I", Cond.fieldLink RX6 20 "ClearingGates$Runner" "keptBalances" "[[I", Cond.arrayClass .long, Cond.fieldLink RX6 23 "ClearingGates$Runner" "keptFees" "[J", Cond.fieldLink RX6 27 "ClearingGates$Runner" "books" "LClearingGates$Books;", Cond.instanceMethod yX7_init, Cond.code yX7_init cX7_init 1 none, Cond.methodLink RX7 3 objectInit, Cond.fieldLink RX7 11 "ClearingGates$Sheet" "sort" "I", Cond.fieldLink RX7 15 "ClearingGates$Sheet" "items" "[I"]
def wsX9_init : List Cond := .code yX9_init cX9_init 2 none :: ((wsX9_init_r1 ++ (wsX9_init_r2 ++ (wsX9_init_r3 ++ wsX9_init_r4))) ++ wsX00 ++ wsX90 ++ wsX10 ++ wsX50 ++ wsX30 ++ wsX80 ++ wsX40 ++ wsX60 ++ wsX70)
def wsX9_isWithin : List Cond := .code yX9_isWithin cX9_isWithin 2 (some .boolean) :: ([])
def wsX9_account : List Cond := .code yX9_account cX9_account 3 (some .int) :: ([.constant RX9 90 (1000000000), .fieldLink RX9 12 "ClearingGates" "books" "LClearingGates$Books;", .fieldLink RX9 95 "ClearingGates$Books" "accounts" "I", .methodLink RX9 84 yX2_isKind, .static yX2_isKind, .initialized RX2, .code yX2_isKind cX2_isKind 1 (some .boolean), .methodLink RX9 91 yX9_isWithin, .static yX9_isWithin, .initialized RX9, .code yX9_isWithin cX9_isWithin 2 (some .boolean), .methodLink RX9 98 yX0_open, .instanceMethod yX0_open, .selects RX0 yX0_open yX0_open, .initialized RX0, .code yX0_open cX0_open 4 (some .int), .fieldLink RX0 34 "ClearingGates$Books" "accounts" "I", .fieldLink RX0 9 "ClearingGates$Books" "kinds" "[I", .fieldLink RX0 15 "ClearingGates$Books" "balances" "[I", .fieldLink RX0 18 "ClearingGates$Books" "limits" "[I", .fieldLink RX0 21 "ClearingGates$Books" "gates" "[Z", .fieldLink RX0 25 "ClearingGates$Books" "entries" "[I", .fieldLink RX0 28 "ClearingGates$Books" "leavings" "[I", .fieldLink RX0 31 "ClearingGates$Books" "agains" "[I"] ++ wsX90 ++ wsX00)
def wsX9_set : List Cond := .code yX9_set cX9_set 5 (some .long) :: ([.fieldLink RX9 12 "ClearingGates" "books" "LClearingGates$Books;", .constantLong RX9 105 (-9223372036854775808), .constant RX9 90 (1000000000), .fieldLink RX9 107 "ClearingGates$Books" "balances" "[I", .fieldLink RX9 111 "ClearingGates$Books" "limits" "[I", .methodLink RX9 102 yX0_has, .instanceMethod yX0_has, .selects RX0 yX0_has yX0_has, .initialized RX0, .code yX0_has cX0_has 2 (some .boolean), .fieldLink RX0 34 "ClearingGates$Books" "accounts" "I", .methodLink RX9 91 yX9_isWithin, .static yX9_isWithin, .initialized RX9, .code yX9_isWithin cX9_isWithin 2 (some .boolean)] ++ wsX90 ++ wsX00)
def wsX9_gate : List Cond := .code yX9_gate cX9_gate 4 (some .int) :: ([.fieldLink RX9 12 "ClearingGates" "books" "LClearingGates$Books;", .fieldLink RX9 114 "ClearingGates$Books" "gates" "[Z", .methodLink RX9 102 yX0_has, .instanceMethod yX0_has, .selects RX0 yX0_has yX0_has, .initialized RX0, .code yX0_has cX0_has 2 (some .boolean), .fieldLink RX0 34 "ClearingGates$Books" "accounts" "I"] ++ wsX90 ++ wsX00)
def wsX9_told : List Cond := .code yX9_told cX9_told 3 (some .int) :: ([.fieldLink RX9 12 "ClearingGates" "books" "LClearingGates$Books;", .fieldLink RX9 118 "ClearingGates$Books" "kinds" "[I", .fieldLink RX9 111 "ClearingGates$Books" "limits" "[I", .fieldLink RX9 114 "ClearingGates$Books" "gates" "[Z", .fieldLink RX9 121 "ClearingGates$Books" "entries" "[I", .fieldLink RX9 124 "ClearingGates$Books" "leavings" "[I", .fieldLink RX9 127 "ClearingGates$Books" "agains" "[I", .methodLink RX9 102 yX0_has, .instanceMethod yX0_has, .selects RX0 yX0_has yX0_has, .initialized RX0, .code yX0_has cX0_has 2 (some .boolean), .fieldLink RX0 34 "ClearingGates$Books" "accounts" "I", .methodLink RX9 130 yX0_feeOf, .instanceMethod yX0_feeOf, .selects RX0 yX0_feeOf yX0_feeOf, .code yX0_feeOf cX0_feeOf 3 (some .int), .fieldLink RX0 9 "ClearingGates$Books" "kinds" "[I", .methodLink RX0 42 yX2_feeOf, .static yX2_feeOf, .initialized RX2, .code yX2_feeOf cX2_feeOf 2 (some .int)] ++ wsX90 ++ wsX00)
def wsX9_of_r1 : List Cond := [Cond.fieldLink RX9 12 "ClearingGates" "books" "LClearingGates$Books;", Cond.constantLong RX9 105 (-9223372036854775808), Cond.fieldLink RX9 107 "ClearingGates$Books" "balances" "[I", Cond.fieldLink RX9 24 "ClearingGates" "debts" "LClearingGates$Debts;", Cond.methodLink RX9 102 yX0_has, Cond.instanceMethod yX0_has, Cond.selects RX0 yX0_has yX0_has, Cond.initialized RX0, Cond.code yX0_has cX0_has 2 (some .boolean), Cond.fieldLink RX0 34 "ClearingGates$Books" "accounts" "I", Cond.methodLink RX9 133 yX0_floorOf, Cond.instanceMethod yX0_floorOf, Cond.selects RX0 yX0_floorOf yX0_floorOf, Cond.code yX0_floorOf cX0_floorOf 2 (some .int), Cond.fieldLink RX0 9 "ClearingGates$Books" "kinds" "[I", Cond.fieldLink RX0 18 "ClearingGates$Books" "limits" "[I", Cond.methodLink RX0 48 yX2_floorOf, Cond.static yX2_floorOf, Cond.initialized RX2, Cond.code yX2_floorOf cX2_floorOf 2 (some .int), Cond.methodLink RX9 137 yX1_positionOf, Cond.instanceMethod yX1_positionOf, Cond.selects RX1 yX1_positionOf yX1_positionOf, Cond.initialized RX1]
def wsX9_of_r2 : List Cond := [Cond.code yX1_positionOf cX1_positionOf 5 (some .long), Cond.methodLink RX1 15 yX1_between, Cond.instanceMethod yX1_between, Cond.selects RX1 yX1_between yX1_between, Cond.code yX1_between cX1_between 3 (some .int), Cond.fieldLink RX1 9 "ClearingGates$Debts" "row" "[I"]
def wsX9_of : List Cond := .code yX9_of cX9_of 3 (some .long) :: ((wsX9_of_r1 ++ wsX9_of_r2) ++ wsX90 ++ wsX00 ++ wsX10)
def wsX9_count : List Cond := .code yX9_count cX9_count 2 (some .int) :: ([.fieldLink RX9 12 "ClearingGates" "books" "LClearingGates$Books;", .fieldLink RX9 95 "ClearingGates$Books" "accounts" "I", .fieldLink RX9 141 "ClearingGates" "programCount" "I", .fieldLink RX9 144 "ClearingGates$Books" "missed" "I", .fieldLink RX9 147 "ClearingGates$Books" "bells" "I", .fieldLink RX9 150 "ClearingGates$Books" "refused" "I", .fieldLink RX9 153 "ClearingGates$Books" "caught" "I", .fieldLink RX9 70 "ClearingGates" "truly" "LClearingGates$Runner;", .fieldLink RX9 54 "ClearingGates" "tape" "LClearingGates$Tape;", .fieldLink RX9 160 "ClearingGates$Tape" "size" "I", .methodLink RX9 156 yX6_keptMarks, .instanceMethod yX6_keptMarks, .selects RX6 yX6_keptMarks yX6_keptMarks, .initialized RX6, .code yX6_keptMarks cX6_keptMarks 1 (some .int), .fieldLink RX6 31 "ClearingGates$Runner" "markCount" "I", .methodLink RX6 35 Lib.Math.min.name, .static Lib.Math.min.name, .initialized "java/lang/Math", .code Lib.Math.min.name Lib.Math.min.code 2 (some .int)] ++ wsX90 ++ wsX00 ++ wsX80 ++ wsX60)
def wsX9_sum : List Cond := .code yX9_sum cX9_sum 2 (some .long) :: ([.fieldLink RX9 12 "ClearingGates" "books" "LClearingGates$Books;", .fieldLink RX9 163 "ClearingGates$Books" "fees" "J", .fieldLink RX9 24 "ClearingGates" "debts" "LClearingGates$Debts;", .constantLong RX9 105 (-9223372036854775808), .methodLink RX9 167 yX0_allMoney, .instanceMethod yX0_allMoney, .selects RX0 yX0_allMoney yX0_allMoney, .initialized RX0, .code yX0_allMoney cX0_allMoney 4 (some .long), .fieldLink RX0 51 "ClearingGates$Books" "fees" "J", .fieldLink RX0 34 "ClearingGates$Books" "accounts" "I", .fieldLink RX0 15 "ClearingGates$Books" "balances" "[I", .methodLink RX9 171 yX1_total, .instanceMethod yX1_total, .selects RX1 yX1_total yX1_total, .initialized RX1, .code yX1_total cX1_total 4 (some .long), .fieldLink RX1 9 "ClearingGates$Debts" "row" "[I"] ++ wsX90 ++ wsX00 ++ wsX10)
def wsX9_taken : List Cond := .code yX9_taken cX9_taken 3 (some .int) :: ([.fieldLink RX9 12 "ClearingGates" "books" "LClearingGates$Books;", .fieldLink RX9 118 "ClearingGates$Books" "kinds" "[I", .fieldLink RX9 111 "ClearingGates$Books" "limits" "[I", .methodLink RX9 102 yX0_has, .instanceMethod yX0_has, .selects RX0 yX0_has yX0_has, .initialized RX0, .code yX0_has cX0_has 2 (some .boolean), .fieldLink RX0 34 "ClearingGates$Books" "accounts" "I", .methodLink RX9 84 yX2_isKind, .static yX2_isKind, .initialized RX2, .code yX2_isKind cX2_isKind 1 (some .boolean), .methodLink RX9 174 yX2_isOrIsUnder, .static yX2_isOrIsUnder, .code yX2_isOrIsUnder cX2_isOrIsUnder 2 (some .boolean)] ++ wsX90 ++ wsX00)
def wsX9_isByte : List Cond := .code yX9_isByte cX9_isByte 1 (some .boolean) :: ([.methodLink RX9 91 yX9_isWithin, .static yX9_isWithin, .initialized RX9, .code yX9_isWithin cX9_isWithin 2 (some .boolean)])
def wsX9_feed : List Cond := .code yX9_feed cX9_feed 7 (some .int) :: ([.fieldLink RX9 54 "ClearingGates" "tape" "LClearingGates$Tape;", .fieldLink RX9 160 "ClearingGates$Tape" "size" "I", .methodLink RX9 177 yX9_isByte, .static yX9_isByte, .initialized RX9, .code yX9_isByte cX9_isByte 1 (some .boolean), .methodLink RX9 91 yX9_isWithin, .static yX9_isWithin, .code yX9_isWithin cX9_isWithin 2 (some .boolean), .methodLink RX9 180 yX8_add, .instanceMethod yX8_add, .selects RX8 yX8_add yX8_add, .initialized RX8, .code yX8_add cX8_add 2 none, .fieldLink RX8 15 "ClearingGates$Tape" "size" "I", .fieldLink RX8 9 "ClearingGates$Tape" "bytes" "[I"] ++ wsX90 ++ wsX80)
def wsX9_program_r1 : List Cond := [Cond.fieldLink RX9 141 "ClearingGates" "programCount" "I", Cond.fieldLink RX9 42 "ClearingGates" "programs" "[LClearingGates$Program;", Cond.fieldLink RX9 54 "ClearingGates" "tape" "LClearingGates$Tape;", Cond.fieldLink RX9 160 "ClearingGates$Tape" "size" "I", Cond.fieldLink RX9 61 "ClearingGates" "reader" "LClearingGates$Reader;", Cond.methodLink RX9 184 yX3_takeOver, Cond.instanceMethod yX3_takeOver, Cond.selects RX3 yX3_takeOver yX3_takeOver, Cond.initialized RX3, Cond.code yX3_takeOver cX3_takeOver 2 none, Cond.fieldLink RX3 18 "ClearingGates$Tape" "bytes" "[I", Cond.fieldLink RX3 9 "ClearingGates$Program" "bytes" "[I", Cond.methodLink RX3 21 arraycopyName, Cond.native arraycopyName, Cond.static arraycopyName, Cond.initialized "java/lang/System", Cond.fieldLink RX3 27 "ClearingGates$Tape" "size" "I", Cond.fieldLink RX3 31 "ClearingGates$Program" "size" "I", Cond.methodLink RX9 188 yX4_faultOf, Cond.instanceMethod yX4_faultOf, Cond.selects RX4 yX4_faultOf yX4_faultOf, Cond.initialized RX4, Cond.code yX4_faultOf cX4_faultOf 4 (some .int), Cond.fieldLink RX4 15 "ClearingGates$Reader" "program" "LClearingGates$Program;"]
def wsX9_program_r2 : List Cond := [Cond.fieldLink RX4 19 "ClearingGates$Reader" "open" "I", Cond.fieldLink RX4 23 "ClearingGates$Reader" "loops" "I", Cond.fieldLink RX4 26 "ClearingGates$Reader" "fault" "I", Cond.fieldLink RX4 29 "ClearingGates$Program" "size" "I", Cond.methodLink RX4 34 yX4_step, Cond.instanceMethod yX4_step, Cond.selects RX4 yX4_step yX4_step, Cond.code yX4_step cX4_step 2 (some .int), Cond.methodLink RX4 38 yX3_byteAt, Cond.instanceMethod yX3_byteAt, Cond.selects RX3 yX3_byteAt yX3_byteAt, Cond.code yX3_byteAt cX3_byteAt 2 (some .int), Cond.methodLink RX4 41 yX4_openingWithFigure, Cond.instanceMethod yX4_openingWithFigure, Cond.selects RX4 yX4_openingWithFigure yX4_openingWithFigure, Cond.code yX4_openingWithFigure cX4_openingWithFigure 5 (some .int), Cond.methodLink RX4 45 yX4_opening, Cond.instanceMethod yX4_opening, Cond.selects RX4 yX4_opening yX4_opening, Cond.code yX4_opening cX4_opening 2 (some .int), Cond.fieldLink RX4 9 "ClearingGates$Reader" "opened" "[I", Cond.methodLink RX4 61 yX4_faultAt, Cond.instanceMethod yX4_faultAt, Cond.selects RX4 yX4_faultAt yX4_faultAt]
def wsX9_program_r3 : List Cond := [Cond.code yX4_faultAt cX4_faultAt 2 (some .int), Cond.methodLink RX4 64 yX4_isFigure, Cond.instanceMethod yX4_isFigure, Cond.selects RX4 yX4_isFigure yX4_isFigure, Cond.code yX4_isFigure cX4_isFigure 4 (some .boolean), Cond.methodLink RX4 48 yX4_closing, Cond.instanceMethod yX4_closing, Cond.selects RX4 yX4_closing yX4_closing, Cond.code yX4_closing cX4_closing 3 (some .int), Cond.methodLink RX4 58 yX4_ends, Cond.instanceMethod yX4_ends, Cond.selects RX4 yX4_ends yX4_ends, Cond.code yX4_ends cX4_ends 3 (some .int), Cond.fieldLink RX4 68 "ClearingGates$Program" "behind" "[I", Cond.methodLink RX4 52 yX4_payment, Cond.instanceMethod yX4_payment, Cond.selects RX4 yX4_payment yX4_payment, Cond.code yX4_payment cX4_payment 4 (some .int), Cond.methodLink RX4 55 yX4_bell, Cond.instanceMethod yX4_bell, Cond.selects RX4 yX4_bell yX4_bell, Cond.code yX4_bell cX4_bell 2 (some .int)]
def wsX9_program : List Cond := .code yX9_program cX9_program 3 (some .int) :: ((wsX9_program_r1 ++ (wsX9_program_r2 ++ wsX9_program_r3)) ++ wsX90 ++ wsX80 ++ wsX30 ++ wsX40)
def wsX9_isProgram : List Cond := .code yX9_isProgram cX9_isProgram 2 (some .boolean) :: ([.fieldLink RX9 141 "ClearingGates" "programCount" "I"] ++ wsX90)
def wsX9_run_r1 : List Cond := [Cond.fieldLink RX9 70 "ClearingGates" "truly" "LClearingGates$Runner;", Cond.fieldLink RX9 42 "ClearingGates" "programs" "[LClearingGates$Program;", Cond.methodLink RX9 192 yX9_isProgram, Cond.instanceMethod yX9_isProgram, Cond.selects RX9 yX9_isProgram yX9_isProgram, Cond.initialized RX9, Cond.code yX9_isProgram cX9_isProgram 2 (some .boolean), Cond.fieldLink RX9 141 "ClearingGates" "programCount" "I", Cond.methodLink RX9 195 yX6_outcomeOf, Cond.instanceMethod yX6_outcomeOf, Cond.selects RX6 yX6_outcomeOf yX6_outcomeOf, Cond.initialized RX6, Cond.code yX6_outcomeOf cX6_outcomeOf 3 (some .int), Cond.fieldLink RX6 41 "ClearingGates$Runner" "program" "LClearingGates$Program;", Cond.fieldLink RX6 31 "ClearingGates$Runner" "markCount" "I", Cond.fieldLink RX6 45 "ClearingGates$Runner" "begun" "I", Cond.fieldLink RX6 52 "ClearingGates$Program" "size" "I", Cond.methodLink RX6 48 yX6_keep, Cond.instanceMethod yX6_keep, Cond.selects RX6 yX6_keep yX6_keep, Cond.code yX6_keep cX6_keep 2 none, Cond.fieldLink RX6 27 "ClearingGates$Runner" "books" "LClearingGates$Books;", Cond.fieldLink RX6 134 "ClearingGates$Books" "balances" "[I", Cond.fieldLink RX6 20 "ClearingGates$Runner" "keptBalances" "[[I"]
def wsX9_run_r2 : List Cond := [Cond.methodLink RX6 154 arraycopyName, Cond.native arraycopyName, Cond.static arraycopyName, Cond.initialized "java/lang/System", Cond.fieldLink RX6 23 "ClearingGates$Runner" "keptFees" "[J", Cond.fieldLink RX6 141 "ClearingGates$Books" "fees" "J", Cond.methodLink RX6 57 yX6_items, Cond.instanceMethod yX6_items, Cond.selects RX6 yX6_items yX6_items, Cond.code yX6_items cX6_items 6 (some .int), Cond.methodLink RX6 71 Lib.Math.max.name, Cond.static Lib.Math.max.name, Cond.initialized "java/lang/Math", Cond.code Lib.Math.max.name Lib.Math.max.code 2 (some .int), Cond.methodLink RX6 64 yX6_item, Cond.instanceMethod yX6_item, Cond.selects RX6 yX6_item yX6_item, Cond.methodLink RX6 67 yX3_behindItem, Cond.instanceMethod yX3_behindItem, Cond.selects RX3 yX3_behindItem yX3_behindItem, Cond.initialized RX3, Cond.code yX3_behindItem cX3_behindItem 2 (some .int), Cond.fieldLink RX3 31 "ClearingGates$Program" "size" "I", Cond.fieldLink RX3 15 "ClearingGates$Program" "behind" "[I"]
def wsX9_run_r3 : List Cond := [Cond.code yX6_attempt cX6_attempt 5 (some .int), Cond.fieldLink RX6 122 "ClearingGates$Books" "caught" "I", Cond.methodLink RX6 116 yX6_inside, Cond.instanceMethod yX6_inside, Cond.selects RX6 yX6_inside yX6_inside, Cond.methodLink RX6 61 yX6_undo, Cond.instanceMethod yX6_undo, Cond.selects RX6 yX6_undo yX6_undo, Cond.code yX6_undo cX6_undo 2 none, Cond.methodLink RX6 113 yX6_mark, Cond.instanceMethod yX6_mark, Cond.selects RX6 yX6_mark yX6_mark, Cond.code yX6_mark cX6_mark 2 none, Cond.fieldLink RX6 9 "ClearingGates$Runner" "marks" "[I", Cond.code yX6_block cX6_block 5 (some .int), Cond.fieldLink RX6 101 "ClearingGates$Books" "missed" "I", Cond.fieldLink RX6 15 "ClearingGates$Runner" "held" "[I", Cond.fieldLink RX6 107 "ClearingGates$Books" "entries" "[I", Cond.fieldLink RX6 110 "ClearingGates$Books" "agains" "[I", Cond.fieldLink RX6 119 "ClearingGates$Books" "leavings" "[I", Cond.methodLink RX6 89 yX3_figureAt, Cond.instanceMethod yX3_figureAt, Cond.selects RX3 yX3_figureAt yX3_figureAt, Cond.code yX3_figureAt cX3_figureAt 2 (some .int)]
def wsX9_run_r4 : List Cond := [Cond.methodLink RX3 32 yX3_byteAt, Cond.instanceMethod yX3_byteAt, Cond.selects RX3 yX3_byteAt yX3_byteAt, Cond.code yX3_byteAt cX3_byteAt 2 (some .int), Cond.fieldLink RX3 9 "ClearingGates$Program" "bytes" "[I", Cond.methodLink RX6 95 yX0_hasGate, Cond.instanceMethod yX0_hasGate, Cond.selects RX0 yX0_hasGate yX0_hasGate, Cond.initialized RX0, Cond.code yX0_hasGate cX0_hasGate 2 (some .boolean), Cond.fieldLink RX0 21 "ClearingGates$Books" "gates" "[Z", Cond.methodLink RX0 38 yX0_has, Cond.instanceMethod yX0_has, Cond.selects RX0 yX0_has yX0_has, Cond.code yX0_has cX0_has 2 (some .boolean), Cond.fieldLink RX0 34 "ClearingGates$Books" "accounts" "I", Cond.methodLink RX6 104 yX6_isGreaterHeld, Cond.instanceMethod yX6_isGreaterHeld, Cond.selects RX6 yX6_isGreaterHeld yX6_isGreaterHeld, Cond.code yX6_isGreaterHeld cX6_isGreaterHeld 3 (some .boolean), Cond.code yX6_inside cX6_inside 4 (some .int), Cond.code yX6_item cX6_item 3 (some .int), Cond.methodLink RX6 74 yX3_byteAt, Cond.methodLink RX6 77 yX6_block]
def wsX9_run_r5 : List Cond := [Cond.instanceMethod yX6_block, Cond.selects RX6 yX6_block yX6_block, Cond.methodLink RX6 80 yX6_attempt, Cond.instanceMethod yX6_attempt, Cond.selects RX6 yX6_attempt yX6_attempt, Cond.methodLink RX6 83 yX6_loop, Cond.instanceMethod yX6_loop, Cond.selects RX6 yX6_loop yX6_loop, Cond.methodLink RX6 86 yX6_payment, Cond.instanceMethod yX6_payment, Cond.selects RX6 yX6_payment yX6_payment, Cond.code yX6_payment cX6_payment 7 (some .int), Cond.constant RX6 140 (1000000000), Cond.methodLink RX6 125 yX6_isHeld, Cond.instanceMethod yX6_isHeld, Cond.selects RX6 yX6_isHeld yX6_isHeld, Cond.code yX6_isHeld cX6_isHeld 2 (some .boolean), Cond.methodLink RX6 151 yX0_has, Cond.methodLink RX6 128 yX3_numberBetween, Cond.instanceMethod yX3_numberBetween, Cond.selects RX3 yX3_numberBetween yX3_numberBetween, Cond.code yX3_numberBetween cX3_numberBetween 5 (some .int), Cond.methodLink RX6 131 yX0_feeOf, Cond.instanceMethod yX0_feeOf]
def wsX9_run_r6 : List Cond := [Cond.selects RX0 yX0_feeOf yX0_feeOf, Cond.code yX0_feeOf cX0_feeOf 3 (some .int), Cond.fieldLink RX0 9 "ClearingGates$Books" "kinds" "[I", Cond.methodLink RX0 42 yX2_feeOf, Cond.static yX2_feeOf, Cond.initialized RX2, Cond.code yX2_feeOf cX2_feeOf 2 (some .int), Cond.methodLink RX6 137 yX0_floorOf, Cond.instanceMethod yX0_floorOf, Cond.selects RX0 yX0_floorOf yX0_floorOf, Cond.code yX0_floorOf cX0_floorOf 2 (some .int), Cond.fieldLink RX0 18 "ClearingGates$Books" "limits" "[I", Cond.methodLink RX0 48 yX2_floorOf, Cond.static yX2_floorOf, Cond.code yX2_floorOf cX2_floorOf 2 (some .int), Cond.methodLink RX6 92 yX6_bell, Cond.instanceMethod yX6_bell, Cond.selects RX6 yX6_bell yX6_bell, Cond.code yX6_bell cX6_bell 3 (some .int), Cond.fieldLink RX6 145 "ClearingGates$Books" "bells" "I", Cond.fieldLink RX6 148 "ClearingGates$Books" "refused" "I", Cond.code yX6_loop cX6_loop 6 (some .int)]
def wsX9_run : List Cond := .code yX9_run cX9_run 2 (some .int) :: ((wsX9_run_r1 ++ (wsX9_run_r2 ++ (wsX9_run_r3 ++ (wsX9_run_r4 ++ (wsX9_run_r5 ++ wsX9_run_r6))))) ++ wsX90 ++ wsX60 ++ wsX30 ++ wsX00)
def wsX9_trace : List Cond := .code yX9_trace cX9_trace 2 (some .int) :: ([.fieldLink RX9 70 "ClearingGates" "truly" "LClearingGates$Runner;", .fieldLink RX9 198 "ClearingGates$Runner" "marks" "[I", .methodLink RX9 156 yX6_keptMarks, .instanceMethod yX6_keptMarks, .selects RX6 yX6_keptMarks yX6_keptMarks, .initialized RX6, .code yX6_keptMarks cX6_keptMarks 1 (some .int), .fieldLink RX6 31 "ClearingGates$Runner" "markCount" "I", .methodLink RX6 35 Lib.Math.min.name, .static Lib.Math.min.name, .initialized "java/lang/Math", .code Lib.Math.min.name Lib.Math.min.code 2 (some .int)] ++ wsX90 ++ wsX60)
def wsX9_would_r1 : List Cond := [Cond.constantLong RX9 105 (-9223372036854775808), Cond.fieldLink RX9 74 "ClearingGates" "thought" "LClearingGates$Runner;", Cond.fieldLink RX9 207 "ClearingGates$Runner" "books" "LClearingGates$Books;", Cond.fieldLink RX9 163 "ClearingGates$Books" "fees" "J", Cond.fieldLink RX9 208 "ClearingGates$Runner" "markCount" "I", Cond.fieldLink RX9 12 "ClearingGates" "books" "LClearingGates$Books;", Cond.fieldLink RX9 107 "ClearingGates$Books" "balances" "[I", Cond.methodLink RX9 192 yX9_isProgram, Cond.instanceMethod yX9_isProgram, Cond.selects RX9 yX9_isProgram yX9_isProgram, Cond.initialized RX9, Cond.code yX9_isProgram cX9_isProgram 2 (some .boolean), Cond.fieldLink RX9 141 "ClearingGates" "programCount" "I", Cond.methodLink RX9 201 yX9_isOfWould, Cond.instanceMethod yX9_isOfWould, Cond.selects RX9 yX9_isOfWould yX9_isOfWould, Cond.code yX9_isOfWould cX9_isOfWould 2 (some .boolean), Cond.methodLink RX9 102 yX0_has, Cond.instanceMethod yX0_has, Cond.selects RX0 yX0_has yX0_has, Cond.initialized RX0, Cond.code yX0_has cX0_has 2 (some .boolean), Cond.fieldLink RX0 34 "ClearingGates$Books" "accounts" "I", Cond.methodLink RX9 91 yX9_isWithin]
def wsX9_would_r2 : List Cond := [Cond.static yX9_isWithin, Cond.code yX9_isWithin cX9_isWithin 2 (some .boolean), Cond.methodLink RX9 204 yX9_outcomeInThought, Cond.instanceMethod yX9_outcomeInThought, Cond.selects RX9 yX9_outcomeInThought yX9_outcomeInThought, Cond.code yX9_outcomeInThought cX9_outcomeInThought 2 (some .int), Cond.fieldLink RX9 42 "ClearingGates" "programs" "[LClearingGates$Program;", Cond.methodLink RX9 214 yX0_becomeAs, Cond.instanceMethod yX0_becomeAs, Cond.selects RX0 yX0_becomeAs yX0_becomeAs, Cond.code yX0_becomeAs cX0_becomeAs 3 none, Cond.fieldLink RX0 9 "ClearingGates$Books" "kinds" "[I", Cond.methodLink RX0 55 arraycopyName, Cond.native arraycopyName, Cond.static arraycopyName, Cond.initialized "java/lang/System", Cond.fieldLink RX0 15 "ClearingGates$Books" "balances" "[I", Cond.fieldLink RX0 18 "ClearingGates$Books" "limits" "[I", Cond.fieldLink RX0 25 "ClearingGates$Books" "entries" "[I", Cond.fieldLink RX0 28 "ClearingGates$Books" "leavings" "[I", Cond.fieldLink RX0 31 "ClearingGates$Books" "agains" "[I", Cond.fieldLink RX0 21 "ClearingGates$Books" "gates" "[Z", Cond.fieldLink RX0 51 "ClearingGates$Books" "fees" "J", Cond.fieldLink RX0 61 "ClearingGates$Books" "missed" "I"]
def wsX9_would_r3 : List Cond := [Cond.fieldLink RX0 64 "ClearingGates$Books" "bells" "I", Cond.fieldLink RX0 67 "ClearingGates$Books" "refused" "I", Cond.fieldLink RX0 70 "ClearingGates$Books" "caught" "I", Cond.methodLink RX9 195 yX6_outcomeOf, Cond.instanceMethod yX6_outcomeOf, Cond.selects RX6 yX6_outcomeOf yX6_outcomeOf, Cond.initialized RX6, Cond.code yX6_outcomeOf cX6_outcomeOf 3 (some .int), Cond.fieldLink RX6 41 "ClearingGates$Runner" "program" "LClearingGates$Program;", Cond.fieldLink RX6 31 "ClearingGates$Runner" "markCount" "I", Cond.fieldLink RX6 45 "ClearingGates$Runner" "begun" "I", Cond.fieldLink RX6 52 "ClearingGates$Program" "size" "I", Cond.methodLink RX6 48 yX6_keep, Cond.instanceMethod yX6_keep, Cond.selects RX6 yX6_keep yX6_keep, Cond.code yX6_keep cX6_keep 2 none, Cond.fieldLink RX6 27 "ClearingGates$Runner" "books" "LClearingGates$Books;", Cond.fieldLink RX6 134 "ClearingGates$Books" "balances" "[I", Cond.fieldLink RX6 20 "ClearingGates$Runner" "keptBalances" "[[I", Cond.methodLink RX6 154 arraycopyName, Cond.fieldLink RX6 23 "ClearingGates$Runner" "keptFees" "[J", Cond.fieldLink RX6 141 "ClearingGates$Books" "fees" "J", Cond.methodLink RX6 57 yX6_items, Cond.instanceMethod yX6_items]
def wsX9_would_r4 : List Cond := [Cond.selects RX6 yX6_items yX6_items, Cond.code yX6_items cX6_items 6 (some .int), Cond.methodLink RX6 71 Lib.Math.max.name, Cond.static Lib.Math.max.name, Cond.initialized "java/lang/Math", Cond.code Lib.Math.max.name Lib.Math.max.code 2 (some .int), Cond.methodLink RX6 64 yX6_item, Cond.instanceMethod yX6_item, Cond.selects RX6 yX6_item yX6_item, Cond.methodLink RX6 67 yX3_behindItem, Cond.instanceMethod yX3_behindItem, Cond.selects RX3 yX3_behindItem yX3_behindItem, Cond.initialized RX3, Cond.code yX3_behindItem cX3_behindItem 2 (some .int), Cond.fieldLink RX3 31 "ClearingGates$Program" "size" "I", Cond.fieldLink RX3 15 "ClearingGates$Program" "behind" "[I", Cond.code yX6_attempt cX6_attempt 5 (some .int), Cond.fieldLink RX6 122 "ClearingGates$Books" "caught" "I", Cond.methodLink RX6 116 yX6_inside, Cond.instanceMethod yX6_inside, Cond.selects RX6 yX6_inside yX6_inside, Cond.methodLink RX6 61 yX6_undo, Cond.instanceMethod yX6_undo, Cond.selects RX6 yX6_undo yX6_undo]
def wsX9_would_r5 : List Cond := [Cond.code yX6_undo cX6_undo 2 none, Cond.methodLink RX6 113 yX6_mark, Cond.instanceMethod yX6_mark, Cond.selects RX6 yX6_mark yX6_mark, Cond.code yX6_mark cX6_mark 2 none, Cond.fieldLink RX6 9 "ClearingGates$Runner" "marks" "[I", Cond.code yX6_block cX6_block 5 (some .int), Cond.fieldLink RX6 101 "ClearingGates$Books" "missed" "I", Cond.fieldLink RX6 15 "ClearingGates$Runner" "held" "[I", Cond.fieldLink RX6 107 "ClearingGates$Books" "entries" "[I", Cond.fieldLink RX6 110 "ClearingGates$Books" "agains" "[I", Cond.fieldLink RX6 119 "ClearingGates$Books" "leavings" "[I", Cond.methodLink RX6 89 yX3_figureAt, Cond.instanceMethod yX3_figureAt, Cond.selects RX3 yX3_figureAt yX3_figureAt, Cond.code yX3_figureAt cX3_figureAt 2 (some .int), Cond.methodLink RX3 32 yX3_byteAt, Cond.instanceMethod yX3_byteAt, Cond.selects RX3 yX3_byteAt yX3_byteAt, Cond.code yX3_byteAt cX3_byteAt 2 (some .int), Cond.fieldLink RX3 9 "ClearingGates$Program" "bytes" "[I", Cond.methodLink RX6 95 yX0_hasGate, Cond.instanceMethod yX0_hasGate, Cond.selects RX0 yX0_hasGate yX0_hasGate]
def wsX9_would_r6 : List Cond := [Cond.code yX0_hasGate cX0_hasGate 2 (some .boolean), Cond.methodLink RX0 38 yX0_has, Cond.methodLink RX6 104 yX6_isGreaterHeld, Cond.instanceMethod yX6_isGreaterHeld, Cond.selects RX6 yX6_isGreaterHeld yX6_isGreaterHeld, Cond.code yX6_isGreaterHeld cX6_isGreaterHeld 3 (some .boolean), Cond.code yX6_inside cX6_inside 4 (some .int), Cond.code yX6_item cX6_item 3 (some .int), Cond.methodLink RX6 74 yX3_byteAt, Cond.methodLink RX6 77 yX6_block, Cond.instanceMethod yX6_block, Cond.selects RX6 yX6_block yX6_block, Cond.methodLink RX6 80 yX6_attempt, Cond.instanceMethod yX6_attempt, Cond.selects RX6 yX6_attempt yX6_attempt, Cond.methodLink RX6 83 yX6_loop, Cond.instanceMethod yX6_loop, Cond.selects RX6 yX6_loop yX6_loop, Cond.methodLink RX6 86 yX6_payment, Cond.instanceMethod yX6_payment, Cond.selects RX6 yX6_payment yX6_payment, Cond.code yX6_payment cX6_payment 7 (some .int), Cond.constant RX6 140 (1000000000), Cond.methodLink RX6 125 yX6_isHeld]
def wsX9_would_r7 : List Cond := [Cond.instanceMethod yX6_isHeld, Cond.selects RX6 yX6_isHeld yX6_isHeld, Cond.code yX6_isHeld cX6_isHeld 2 (some .boolean), Cond.methodLink RX6 151 yX0_has, Cond.methodLink RX6 128 yX3_numberBetween, Cond.instanceMethod yX3_numberBetween, Cond.selects RX3 yX3_numberBetween yX3_numberBetween, Cond.code yX3_numberBetween cX3_numberBetween 5 (some .int), Cond.methodLink RX6 131 yX0_feeOf, Cond.instanceMethod yX0_feeOf, Cond.selects RX0 yX0_feeOf yX0_feeOf, Cond.code yX0_feeOf cX0_feeOf 3 (some .int), Cond.methodLink RX0 42 yX2_feeOf, Cond.static yX2_feeOf, Cond.initialized RX2, Cond.code yX2_feeOf cX2_feeOf 2 (some .int), Cond.methodLink RX6 137 yX0_floorOf, Cond.instanceMethod yX0_floorOf, Cond.selects RX0 yX0_floorOf yX0_floorOf, Cond.code yX0_floorOf cX0_floorOf 2 (some .int), Cond.methodLink RX0 48 yX2_floorOf, Cond.static yX2_floorOf, Cond.code yX2_floorOf cX2_floorOf 2 (some .int), Cond.methodLink RX6 92 yX6_bell]
def wsX9_would_r8 : List Cond := [Cond.instanceMethod yX6_bell, Cond.selects RX6 yX6_bell yX6_bell, Cond.code yX6_bell cX6_bell 3 (some .int), Cond.fieldLink RX6 145 "ClearingGates$Books" "bells" "I", Cond.fieldLink RX6 148 "ClearingGates$Books" "refused" "I", Cond.code yX6_loop cX6_loop 6 (some .int), Cond.methodLink RX9 211 yX0_allEntries, Cond.instanceMethod yX0_allEntries, Cond.selects RX0 yX0_allEntries yX0_allEntries, Cond.code yX0_allEntries cX0_allEntries 3 (some .int)]
def wsX9_would : List Cond := .code yX9_would cX9_would 4 (some .long) :: ((wsX9_would_r1 ++ (wsX9_would_r2 ++ (wsX9_would_r3 ++ (wsX9_would_r4 ++ (wsX9_would_r5 ++ (wsX9_would_r6 ++ (wsX9_would_r7 ++ wsX9_would_r8))))))) ++ wsX90 ++ wsX60 ++ wsX00 ++ wsX30)
def wsX9_needed_r1 : List Cond := [Cond.fieldLink RX9 12 "ClearingGates" "books" "LClearingGates$Books;", Cond.fieldLink RX9 74 "ClearingGates" "thought" "LClearingGates$Runner;", Cond.fieldLink RX9 207 "ClearingGates$Runner" "books" "LClearingGates$Books;", Cond.fieldLink RX9 107 "ClearingGates$Books" "balances" "[I", Cond.fieldLink RX9 42 "ClearingGates" "programs" "[LClearingGates$Program;", Cond.methodLink RX9 192 yX9_isProgram, Cond.instanceMethod yX9_isProgram, Cond.selects RX9 yX9_isProgram yX9_isProgram, Cond.initialized RX9, Cond.code yX9_isProgram cX9_isProgram 2 (some .boolean), Cond.fieldLink RX9 141 "ClearingGates" "programCount" "I", Cond.methodLink RX9 102 yX0_has, Cond.instanceMethod yX0_has, Cond.selects RX0 yX0_has yX0_has, Cond.initialized RX0, Cond.code yX0_has cX0_has 2 (some .boolean), Cond.fieldLink RX0 34 "ClearingGates$Books" "accounts" "I", Cond.methodLink RX9 214 yX0_becomeAs, Cond.instanceMethod yX0_becomeAs, Cond.selects RX0 yX0_becomeAs yX0_becomeAs, Cond.code yX0_becomeAs cX0_becomeAs 3 none, Cond.fieldLink RX0 9 "ClearingGates$Books" "kinds" "[I", Cond.methodLink RX0 55 arraycopyName, Cond.native arraycopyName]
def wsX9_needed_r2 : List Cond := [Cond.static arraycopyName, Cond.initialized "java/lang/System", Cond.fieldLink RX0 15 "ClearingGates$Books" "balances" "[I", Cond.fieldLink RX0 18 "ClearingGates$Books" "limits" "[I", Cond.fieldLink RX0 25 "ClearingGates$Books" "entries" "[I", Cond.fieldLink RX0 28 "ClearingGates$Books" "leavings" "[I", Cond.fieldLink RX0 31 "ClearingGates$Books" "agains" "[I", Cond.fieldLink RX0 21 "ClearingGates$Books" "gates" "[Z", Cond.fieldLink RX0 51 "ClearingGates$Books" "fees" "J", Cond.fieldLink RX0 61 "ClearingGates$Books" "missed" "I", Cond.fieldLink RX0 64 "ClearingGates$Books" "bells" "I", Cond.fieldLink RX0 67 "ClearingGates$Books" "refused" "I", Cond.fieldLink RX0 70 "ClearingGates$Books" "caught" "I", Cond.methodLink RX9 195 yX6_outcomeOf, Cond.instanceMethod yX6_outcomeOf, Cond.selects RX6 yX6_outcomeOf yX6_outcomeOf, Cond.initialized RX6, Cond.code yX6_outcomeOf cX6_outcomeOf 3 (some .int), Cond.fieldLink RX6 41 "ClearingGates$Runner" "program" "LClearingGates$Program;", Cond.fieldLink RX6 31 "ClearingGates$Runner" "markCount" "I", Cond.fieldLink RX6 45 "ClearingGates$Runner" "begun" "I", Cond.fieldLink RX6 52 "ClearingGates$Program" "size" "I", Cond.methodLink RX6 48 yX6_keep, Cond.instanceMethod yX6_keep]
def wsX9_needed_r3 : List Cond := [Cond.selects RX6 yX6_keep yX6_keep, Cond.code yX6_keep cX6_keep 2 none, Cond.fieldLink RX6 27 "ClearingGates$Runner" "books" "LClearingGates$Books;", Cond.fieldLink RX6 134 "ClearingGates$Books" "balances" "[I", Cond.fieldLink RX6 20 "ClearingGates$Runner" "keptBalances" "[[I", Cond.methodLink RX6 154 arraycopyName, Cond.fieldLink RX6 23 "ClearingGates$Runner" "keptFees" "[J", Cond.fieldLink RX6 141 "ClearingGates$Books" "fees" "J", Cond.methodLink RX6 57 yX6_items, Cond.instanceMethod yX6_items, Cond.selects RX6 yX6_items yX6_items, Cond.code yX6_items cX6_items 6 (some .int), Cond.methodLink RX6 71 Lib.Math.max.name, Cond.static Lib.Math.max.name, Cond.initialized "java/lang/Math", Cond.code Lib.Math.max.name Lib.Math.max.code 2 (some .int), Cond.methodLink RX6 64 yX6_item, Cond.instanceMethod yX6_item, Cond.selects RX6 yX6_item yX6_item, Cond.methodLink RX6 67 yX3_behindItem, Cond.instanceMethod yX3_behindItem, Cond.selects RX3 yX3_behindItem yX3_behindItem, Cond.initialized RX3, Cond.code yX3_behindItem cX3_behindItem 2 (some .int)]
def wsX9_needed_r4 : List Cond := [Cond.fieldLink RX3 31 "ClearingGates$Program" "size" "I", Cond.fieldLink RX3 15 "ClearingGates$Program" "behind" "[I", Cond.code yX6_attempt cX6_attempt 5 (some .int), Cond.fieldLink RX6 122 "ClearingGates$Books" "caught" "I", Cond.methodLink RX6 116 yX6_inside, Cond.instanceMethod yX6_inside, Cond.selects RX6 yX6_inside yX6_inside, Cond.methodLink RX6 61 yX6_undo, Cond.instanceMethod yX6_undo, Cond.selects RX6 yX6_undo yX6_undo, Cond.code yX6_undo cX6_undo 2 none, Cond.methodLink RX6 113 yX6_mark, Cond.instanceMethod yX6_mark, Cond.selects RX6 yX6_mark yX6_mark, Cond.code yX6_mark cX6_mark 2 none, Cond.fieldLink RX6 9 "ClearingGates$Runner" "marks" "[I", Cond.code yX6_block cX6_block 5 (some .int), Cond.fieldLink RX6 101 "ClearingGates$Books" "missed" "I", Cond.fieldLink RX6 15 "ClearingGates$Runner" "held" "[I", Cond.fieldLink RX6 107 "ClearingGates$Books" "entries" "[I", Cond.fieldLink RX6 110 "ClearingGates$Books" "agains" "[I", Cond.fieldLink RX6 119 "ClearingGates$Books" "leavings" "[I", Cond.methodLink RX6 89 yX3_figureAt, Cond.instanceMethod yX3_figureAt]
def wsX9_needed_r5 : List Cond := [Cond.selects RX3 yX3_figureAt yX3_figureAt, Cond.code yX3_figureAt cX3_figureAt 2 (some .int), Cond.methodLink RX3 32 yX3_byteAt, Cond.instanceMethod yX3_byteAt, Cond.selects RX3 yX3_byteAt yX3_byteAt, Cond.code yX3_byteAt cX3_byteAt 2 (some .int), Cond.fieldLink RX3 9 "ClearingGates$Program" "bytes" "[I", Cond.methodLink RX6 95 yX0_hasGate, Cond.instanceMethod yX0_hasGate, Cond.selects RX0 yX0_hasGate yX0_hasGate, Cond.code yX0_hasGate cX0_hasGate 2 (some .boolean), Cond.methodLink RX0 38 yX0_has, Cond.methodLink RX6 104 yX6_isGreaterHeld, Cond.instanceMethod yX6_isGreaterHeld, Cond.selects RX6 yX6_isGreaterHeld yX6_isGreaterHeld, Cond.code yX6_isGreaterHeld cX6_isGreaterHeld 3 (some .boolean), Cond.code yX6_inside cX6_inside 4 (some .int), Cond.code yX6_item cX6_item 3 (some .int), Cond.methodLink RX6 74 yX3_byteAt, Cond.methodLink RX6 77 yX6_block, Cond.instanceMethod yX6_block, Cond.selects RX6 yX6_block yX6_block, Cond.methodLink RX6 80 yX6_attempt, Cond.instanceMethod yX6_attempt]
def wsX9_needed_r6 : List Cond := [Cond.selects RX6 yX6_attempt yX6_attempt, Cond.methodLink RX6 83 yX6_loop, Cond.instanceMethod yX6_loop, Cond.selects RX6 yX6_loop yX6_loop, Cond.methodLink RX6 86 yX6_payment, Cond.instanceMethod yX6_payment, Cond.selects RX6 yX6_payment yX6_payment, Cond.code yX6_payment cX6_payment 7 (some .int), Cond.constant RX6 140 (1000000000), Cond.methodLink RX6 125 yX6_isHeld, Cond.instanceMethod yX6_isHeld, Cond.selects RX6 yX6_isHeld yX6_isHeld, Cond.code yX6_isHeld cX6_isHeld 2 (some .boolean), Cond.methodLink RX6 151 yX0_has, Cond.methodLink RX6 128 yX3_numberBetween, Cond.instanceMethod yX3_numberBetween, Cond.selects RX3 yX3_numberBetween yX3_numberBetween, Cond.code yX3_numberBetween cX3_numberBetween 5 (some .int), Cond.methodLink RX6 131 yX0_feeOf, Cond.instanceMethod yX0_feeOf, Cond.selects RX0 yX0_feeOf yX0_feeOf, Cond.code yX0_feeOf cX0_feeOf 3 (some .int), Cond.methodLink RX0 42 yX2_feeOf, Cond.static yX2_feeOf]
def wsX9_needed_r7 : List Cond := [Cond.initialized RX2, Cond.code yX2_feeOf cX2_feeOf 2 (some .int), Cond.methodLink RX6 137 yX0_floorOf, Cond.instanceMethod yX0_floorOf, Cond.selects RX0 yX0_floorOf yX0_floorOf, Cond.code yX0_floorOf cX0_floorOf 2 (some .int), Cond.methodLink RX0 48 yX2_floorOf, Cond.static yX2_floorOf, Cond.code yX2_floorOf cX2_floorOf 2 (some .int), Cond.methodLink RX6 92 yX6_bell, Cond.instanceMethod yX6_bell, Cond.selects RX6 yX6_bell yX6_bell, Cond.code yX6_bell cX6_bell 3 (some .int), Cond.fieldLink RX6 145 "ClearingGates$Books" "bells" "I", Cond.fieldLink RX6 148 "ClearingGates$Books" "refused" "I", Cond.code yX6_loop cX6_loop 6 (some .int)]
def wsX9_needed : List Cond := .code yX9_needed cX9_needed 5 (some .int) :: ((wsX9_needed_r1 ++ (wsX9_needed_r2 ++ (wsX9_needed_r3 ++ (wsX9_needed_r4 ++ (wsX9_needed_r5 ++ (wsX9_needed_r6 ++ wsX9_needed_r7)))))) ++ wsX90 ++ wsX60 ++ wsX00 ++ wsX30)
def wsX9_hinges_r1 : List Cond := [Cond.fieldLink RX9 12 "ClearingGates" "books" "LClearingGates$Books;", Cond.fieldLink RX9 95 "ClearingGates$Books" "accounts" "I", Cond.fieldLink RX9 74 "ClearingGates" "thought" "LClearingGates$Runner;", Cond.fieldLink RX9 207 "ClearingGates$Runner" "books" "LClearingGates$Books;", Cond.fieldLink RX9 114 "ClearingGates$Books" "gates" "[Z", Cond.fieldLink RX9 42 "ClearingGates" "programs" "[LClearingGates$Program;", Cond.methodLink RX9 192 yX9_isProgram, Cond.instanceMethod yX9_isProgram, Cond.selects RX9 yX9_isProgram yX9_isProgram, Cond.initialized RX9, Cond.code yX9_isProgram cX9_isProgram 2 (some .boolean), Cond.fieldLink RX9 141 "ClearingGates" "programCount" "I", Cond.methodLink RX9 204 yX9_outcomeInThought, Cond.instanceMethod yX9_outcomeInThought, Cond.selects RX9 yX9_outcomeInThought yX9_outcomeInThought, Cond.code yX9_outcomeInThought cX9_outcomeInThought 2 (some .int), Cond.methodLink RX9 214 yX0_becomeAs, Cond.instanceMethod yX0_becomeAs, Cond.selects RX0 yX0_becomeAs yX0_becomeAs, Cond.initialized RX0, Cond.code yX0_becomeAs cX0_becomeAs 3 none, Cond.fieldLink RX0 9 "ClearingGates$Books" "kinds" "[I", Cond.methodLink RX0 55 arraycopyName, Cond.native arraycopyName]
def wsX9_hinges_r2 : List Cond := [Cond.static arraycopyName, Cond.initialized "java/lang/System", Cond.fieldLink RX0 15 "ClearingGates$Books" "balances" "[I", Cond.fieldLink RX0 18 "ClearingGates$Books" "limits" "[I", Cond.fieldLink RX0 25 "ClearingGates$Books" "entries" "[I", Cond.fieldLink RX0 28 "ClearingGates$Books" "leavings" "[I", Cond.fieldLink RX0 31 "ClearingGates$Books" "agains" "[I", Cond.fieldLink RX0 21 "ClearingGates$Books" "gates" "[Z", Cond.fieldLink RX0 34 "ClearingGates$Books" "accounts" "I", Cond.fieldLink RX0 51 "ClearingGates$Books" "fees" "J", Cond.fieldLink RX0 61 "ClearingGates$Books" "missed" "I", Cond.fieldLink RX0 64 "ClearingGates$Books" "bells" "I", Cond.fieldLink RX0 67 "ClearingGates$Books" "refused" "I", Cond.fieldLink RX0 70 "ClearingGates$Books" "caught" "I", Cond.methodLink RX9 195 yX6_outcomeOf, Cond.instanceMethod yX6_outcomeOf, Cond.selects RX6 yX6_outcomeOf yX6_outcomeOf, Cond.initialized RX6, Cond.code yX6_outcomeOf cX6_outcomeOf 3 (some .int), Cond.fieldLink RX6 41 "ClearingGates$Runner" "program" "LClearingGates$Program;", Cond.fieldLink RX6 31 "ClearingGates$Runner" "markCount" "I", Cond.fieldLink RX6 45 "ClearingGates$Runner" "begun" "I", Cond.fieldLink RX6 52 "ClearingGates$Program" "size" "I", Cond.methodLink RX6 48 yX6_keep]
def wsX9_hinges_r3 : List Cond := [Cond.instanceMethod yX6_keep, Cond.selects RX6 yX6_keep yX6_keep, Cond.code yX6_keep cX6_keep 2 none, Cond.fieldLink RX6 27 "ClearingGates$Runner" "books" "LClearingGates$Books;", Cond.fieldLink RX6 134 "ClearingGates$Books" "balances" "[I", Cond.fieldLink RX6 20 "ClearingGates$Runner" "keptBalances" "[[I", Cond.methodLink RX6 154 arraycopyName, Cond.fieldLink RX6 23 "ClearingGates$Runner" "keptFees" "[J", Cond.fieldLink RX6 141 "ClearingGates$Books" "fees" "J", Cond.methodLink RX6 57 yX6_items, Cond.instanceMethod yX6_items, Cond.selects RX6 yX6_items yX6_items, Cond.code yX6_items cX6_items 6 (some .int), Cond.methodLink RX6 71 Lib.Math.max.name, Cond.static Lib.Math.max.name, Cond.initialized "java/lang/Math", Cond.code Lib.Math.max.name Lib.Math.max.code 2 (some .int), Cond.methodLink RX6 64 yX6_item, Cond.instanceMethod yX6_item, Cond.selects RX6 yX6_item yX6_item, Cond.methodLink RX6 67 yX3_behindItem, Cond.instanceMethod yX3_behindItem, Cond.selects RX3 yX3_behindItem yX3_behindItem, Cond.initialized RX3]
def wsX9_hinges_r4 : List Cond := [Cond.code yX3_behindItem cX3_behindItem 2 (some .int), Cond.fieldLink RX3 31 "ClearingGates$Program" "size" "I", Cond.fieldLink RX3 15 "ClearingGates$Program" "behind" "[I", Cond.code yX6_attempt cX6_attempt 5 (some .int), Cond.fieldLink RX6 122 "ClearingGates$Books" "caught" "I", Cond.methodLink RX6 116 yX6_inside, Cond.instanceMethod yX6_inside, Cond.selects RX6 yX6_inside yX6_inside, Cond.methodLink RX6 61 yX6_undo, Cond.instanceMethod yX6_undo, Cond.selects RX6 yX6_undo yX6_undo, Cond.code yX6_undo cX6_undo 2 none, Cond.methodLink RX6 113 yX6_mark, Cond.instanceMethod yX6_mark, Cond.selects RX6 yX6_mark yX6_mark, Cond.code yX6_mark cX6_mark 2 none, Cond.fieldLink RX6 9 "ClearingGates$Runner" "marks" "[I", Cond.code yX6_block cX6_block 5 (some .int), Cond.fieldLink RX6 101 "ClearingGates$Books" "missed" "I", Cond.fieldLink RX6 15 "ClearingGates$Runner" "held" "[I", Cond.fieldLink RX6 107 "ClearingGates$Books" "entries" "[I", Cond.fieldLink RX6 110 "ClearingGates$Books" "agains" "[I", Cond.fieldLink RX6 119 "ClearingGates$Books" "leavings" "[I", Cond.methodLink RX6 89 yX3_figureAt]
def wsX9_hinges_r5 : List Cond := [Cond.instanceMethod yX3_figureAt, Cond.selects RX3 yX3_figureAt yX3_figureAt, Cond.code yX3_figureAt cX3_figureAt 2 (some .int), Cond.methodLink RX3 32 yX3_byteAt, Cond.instanceMethod yX3_byteAt, Cond.selects RX3 yX3_byteAt yX3_byteAt, Cond.code yX3_byteAt cX3_byteAt 2 (some .int), Cond.fieldLink RX3 9 "ClearingGates$Program" "bytes" "[I", Cond.methodLink RX6 95 yX0_hasGate, Cond.instanceMethod yX0_hasGate, Cond.selects RX0 yX0_hasGate yX0_hasGate, Cond.code yX0_hasGate cX0_hasGate 2 (some .boolean), Cond.methodLink RX0 38 yX0_has, Cond.instanceMethod yX0_has, Cond.selects RX0 yX0_has yX0_has, Cond.code yX0_has cX0_has 2 (some .boolean), Cond.methodLink RX6 104 yX6_isGreaterHeld, Cond.instanceMethod yX6_isGreaterHeld, Cond.selects RX6 yX6_isGreaterHeld yX6_isGreaterHeld, Cond.code yX6_isGreaterHeld cX6_isGreaterHeld 3 (some .boolean), Cond.code yX6_inside cX6_inside 4 (some .int), Cond.code yX6_item cX6_item 3 (some .int), Cond.methodLink RX6 74 yX3_byteAt, Cond.methodLink RX6 77 yX6_block]
def wsX9_hinges_r6 : List Cond := [Cond.instanceMethod yX6_block, Cond.selects RX6 yX6_block yX6_block, Cond.methodLink RX6 80 yX6_attempt, Cond.instanceMethod yX6_attempt, Cond.selects RX6 yX6_attempt yX6_attempt, Cond.methodLink RX6 83 yX6_loop, Cond.instanceMethod yX6_loop, Cond.selects RX6 yX6_loop yX6_loop, Cond.methodLink RX6 86 yX6_payment, Cond.instanceMethod yX6_payment, Cond.selects RX6 yX6_payment yX6_payment, Cond.code yX6_payment cX6_payment 7 (some .int), Cond.constant RX6 140 (1000000000), Cond.methodLink RX6 125 yX6_isHeld, Cond.instanceMethod yX6_isHeld, Cond.selects RX6 yX6_isHeld yX6_isHeld, Cond.code yX6_isHeld cX6_isHeld 2 (some .boolean), Cond.methodLink RX6 151 yX0_has, Cond.methodLink RX6 128 yX3_numberBetween, Cond.instanceMethod yX3_numberBetween, Cond.selects RX3 yX3_numberBetween yX3_numberBetween, Cond.code yX3_numberBetween cX3_numberBetween 5 (some .int), Cond.methodLink RX6 131 yX0_feeOf, Cond.instanceMethod yX0_feeOf]
def wsX9_hinges_r7 : List Cond := [Cond.selects RX0 yX0_feeOf yX0_feeOf, Cond.code yX0_feeOf cX0_feeOf 3 (some .int), Cond.methodLink RX0 42 yX2_feeOf, Cond.static yX2_feeOf, Cond.initialized RX2, Cond.code yX2_feeOf cX2_feeOf 2 (some .int), Cond.methodLink RX6 137 yX0_floorOf, Cond.instanceMethod yX0_floorOf, Cond.selects RX0 yX0_floorOf yX0_floorOf, Cond.code yX0_floorOf cX0_floorOf 2 (some .int), Cond.methodLink RX0 48 yX2_floorOf, Cond.static yX2_floorOf, Cond.code yX2_floorOf cX2_floorOf 2 (some .int), Cond.methodLink RX6 92 yX6_bell, Cond.instanceMethod yX6_bell, Cond.selects RX6 yX6_bell yX6_bell, Cond.code yX6_bell cX6_bell 3 (some .int), Cond.fieldLink RX6 145 "ClearingGates$Books" "bells" "I", Cond.fieldLink RX6 148 "ClearingGates$Books" "refused" "I", Cond.code yX6_loop cX6_loop 6 (some .int)]
def wsX9_hinges : List Cond := .code yX9_hinges cX9_hinges 5 (some .int) :: ((wsX9_hinges_r1 ++ (wsX9_hinges_r2 ++ (wsX9_hinges_r3 ++ (wsX9_hinges_r4 ++ (wsX9_hinges_r5 ++ (wsX9_hinges_r6 ++ wsX9_hinges_r7)))))) ++ wsX90 ++ wsX00 ++ wsX60 ++ wsX30)
def wsX9_isPair : List Cond := .code yX9_isPair cX9_isPair 3 (some .boolean) :: ([.fieldLink RX9 12 "ClearingGates" "books" "LClearingGates$Books;", .methodLink RX9 102 yX0_has, .instanceMethod yX0_has, .selects RX0 yX0_has yX0_has, .initialized RX0, .code yX0_has cX0_has 2 (some .boolean), .fieldLink RX0 34 "ClearingGates$Books" "accounts" "I"] ++ wsX90 ++ wsX00)
def wsX9_owe_r1 : List Cond := [Cond.constant RX9 220 (99999), Cond.fieldLink RX9 24 "ClearingGates" "debts" "LClearingGates$Debts;", Cond.methodLink RX9 217 yX9_isPair, Cond.instanceMethod yX9_isPair, Cond.selects RX9 yX9_isPair yX9_isPair, Cond.initialized RX9, Cond.code yX9_isPair cX9_isPair 3 (some .boolean), Cond.fieldLink RX9 12 "ClearingGates" "books" "LClearingGates$Books;", Cond.methodLink RX9 102 yX0_has, Cond.instanceMethod yX0_has, Cond.selects RX0 yX0_has yX0_has, Cond.initialized RX0, Cond.code yX0_has cX0_has 2 (some .boolean), Cond.fieldLink RX0 34 "ClearingGates$Books" "accounts" "I", Cond.methodLink RX9 91 yX9_isWithin, Cond.static yX9_isWithin, Cond.code yX9_isWithin cX9_isWithin 2 (some .boolean), Cond.methodLink RX9 221 yX1_between, Cond.instanceMethod yX1_between, Cond.selects RX1 yX1_between yX1_between, Cond.initialized RX1, Cond.code yX1_between cX1_between 3 (some .int), Cond.fieldLink RX1 9 "ClearingGates$Debts" "row" "[I", Cond.methodLink RX9 224 yX1_become]
def wsX9_owe_r2 : List Cond := [Cond.instanceMethod yX1_become, Cond.selects RX1 yX1_become yX1_become, Cond.code yX1_become cX1_become 4 none]
def wsX9_owe : List Cond := .code yX9_owe cX9_owe 5 (some .int) :: ((wsX9_owe_r1 ++ wsX9_owe_r2) ++ wsX90 ++ wsX00 ++ wsX10)
def wsX9_owed : List Cond := .code yX9_owed cX9_owed 3 (some .int) :: ([.fieldLink RX9 24 "ClearingGates" "debts" "LClearingGates$Debts;", .methodLink RX9 217 yX9_isPair, .instanceMethod yX9_isPair, .selects RX9 yX9_isPair yX9_isPair, .initialized RX9, .code yX9_isPair cX9_isPair 3 (some .boolean), .fieldLink RX9 12 "ClearingGates" "books" "LClearingGates$Books;", .methodLink RX9 102 yX0_has, .instanceMethod yX0_has, .selects RX0 yX0_has yX0_has, .initialized RX0, .code yX0_has cX0_has 2 (some .boolean), .fieldLink RX0 34 "ClearingGates$Books" "accounts" "I", .methodLink RX9 221 yX1_between, .instanceMethod yX1_between, .selects RX1 yX1_between yX1_between, .initialized RX1, .code yX1_between cX1_between 3 (some .int), .fieldLink RX1 9 "ClearingGates$Debts" "row" "[I"] ++ wsX90 ++ wsX00 ++ wsX10)
def wsX9_net_r1 : List Cond := [Cond.fieldLink RX9 12 "ClearingGates" "books" "LClearingGates$Books;", Cond.fieldLink RX9 36 "ClearingGates" "rings" "LClearingGates$Rings;", Cond.fieldLink RX9 95 "ClearingGates$Books" "accounts" "I", Cond.methodLink RX9 228 yX0_hasAllGates, Cond.instanceMethod yX0_hasAllGates, Cond.selects RX0 yX0_hasAllGates yX0_hasAllGates, Cond.initialized RX0, Cond.code yX0_hasAllGates cX0_hasAllGates 2 (some .boolean), Cond.fieldLink RX0 34 "ClearingGates$Books" "accounts" "I", Cond.fieldLink RX0 21 "ClearingGates$Books" "gates" "[Z", Cond.methodLink RX9 232 yX0_enterAll, Cond.instanceMethod yX0_enterAll, Cond.selects RX0 yX0_enterAll yX0_enterAll, Cond.code yX0_enterAll cX0_enterAll 2 none, Cond.fieldLink RX0 25 "ClearingGates$Books" "entries" "[I", Cond.methodLink RX9 235 yX5_cutAll, Cond.instanceMethod yX5_cutAll, Cond.selects RX5 yX5_cutAll yX5_cutAll, Cond.initialized RX5, Cond.code yX5_cutAll cX5_cutAll 3 (some .int), Cond.methodLink RX5 23 yX5_findsFirst, Cond.instanceMethod yX5_findsFirst, Cond.selects RX5 yX5_findsFirst yX5_findsFirst, Cond.code yX5_findsFirst cX5_findsFirst 4 (some .boolean)]
def wsX9_net_r2 : List Cond := [Cond.fieldLink RX5 15 "ClearingGates$Rings" "tried" "[Z", Cond.methodLink RX5 30 yX5_leadsBack, Cond.instanceMethod yX5_leadsBack, Cond.selects RX5 yX5_leadsBack yX5_leadsBack, Cond.code yX5_leadsBack cX5_leadsBack 6 (some .boolean), Cond.fieldLink RX5 9 "ClearingGates$Rings" "way" "[I", Cond.fieldLink RX5 19 "ClearingGates$Rings" "debts" "LClearingGates$Debts;", Cond.fieldLink RX5 40 "ClearingGates$Rings" "wayLength" "I", Cond.methodLink RX5 34 yX1_between, Cond.instanceMethod yX1_between, Cond.selects RX1 yX1_between yX1_between, Cond.initialized RX1, Cond.code yX1_between cX1_between 3 (some .int), Cond.fieldLink RX1 9 "ClearingGates$Debts" "row" "[I", Cond.methodLink RX5 27 yX5_cutFound, Cond.instanceMethod yX5_cutFound, Cond.selects RX5 yX5_cutFound yX5_cutFound, Cond.code yX5_cutFound cX5_cutFound 4 none, Cond.constant RX5 44 (99999), Cond.methodLink RX5 49 Lib.Math.min.name, Cond.static Lib.Math.min.name, Cond.initialized "java/lang/Math", Cond.code Lib.Math.min.name Lib.Math.min.code 2 (some .int), Cond.methodLink RX5 45 yX5_behind]
def wsX9_net_r3 : List Cond := [Cond.instanceMethod yX5_behind, Cond.selects RX5 yX5_behind yX5_behind, Cond.code yX5_behind cX5_behind 2 (some .int), Cond.methodLink RX5 54 yX1_become, Cond.instanceMethod yX1_become, Cond.selects RX1 yX1_become yX1_become, Cond.code yX1_become cX1_become 4 none, Cond.methodLink RX9 238 yX0_leaveAll, Cond.instanceMethod yX0_leaveAll, Cond.selects RX0 yX0_leaveAll yX0_leaveAll, Cond.code yX0_leaveAll cX0_leaveAll 2 none, Cond.fieldLink RX0 28 "ClearingGates$Books" "leavings" "[I"]
def wsX9_net : List Cond := .code yX9_net cX9_net 2 (some .int) :: ((wsX9_net_r1 ++ (wsX9_net_r2 ++ wsX9_net_r3)) ++ wsX90 ++ wsX00 ++ wsX50 ++ wsX10)
def wsX9_isSheet : List Cond := .code yX9_isSheet cX9_isSheet 1 (some .boolean) :: ([])
def wsX9_tells_r1 : List Cond := [Cond.fieldLink RX9 12 "ClearingGates" "books" "LClearingGates$Books;", Cond.fieldLink RX9 79 "ClearingGates" "sheets" "[LClearingGates$Sheet;", Cond.fieldLink RX9 247 "ClearingGates$Sheet" "size" "I", Cond.fieldLink RX9 74 "ClearingGates" "thought" "LClearingGates$Runner;", Cond.fieldLink RX9 198 "ClearingGates$Runner" "marks" "[I", Cond.methodLink RX9 241 yX9_isSheet, Cond.static yX9_isSheet, Cond.initialized RX9, Cond.code yX9_isSheet cX9_isSheet 1 (some .boolean), Cond.methodLink RX9 192 yX9_isProgram, Cond.instanceMethod yX9_isProgram, Cond.selects RX9 yX9_isProgram yX9_isProgram, Cond.code yX9_isProgram cX9_isProgram 2 (some .boolean), Cond.fieldLink RX9 141 "ClearingGates" "programCount" "I", Cond.methodLink RX9 102 yX0_has, Cond.instanceMethod yX0_has, Cond.selects RX0 yX0_has yX0_has, Cond.initialized RX0, Cond.code yX0_has cX0_has 2 (some .boolean), Cond.fieldLink RX0 34 "ClearingGates$Books" "accounts" "I", Cond.methodLink RX9 244 yX7_isMissing, Cond.instanceMethod yX7_isMissing, Cond.selects RX7 yX7_isMissing yX7_isMissing, Cond.initialized RX7]
def wsX9_tells_r2 : List Cond := [Cond.code yX7_isMissing cX7_isMissing 1 (some .boolean), Cond.fieldLink RX7 11 "ClearingGates$Sheet" "sort" "I", Cond.methodLink RX9 248 yX9_kindsToldBy, Cond.instanceMethod yX9_kindsToldBy, Cond.selects RX9 yX9_kindsToldBy yX9_kindsToldBy, Cond.code yX9_kindsToldBy cX9_kindsToldBy 6 (some .int), Cond.fieldLink RX9 207 "ClearingGates$Runner" "books" "LClearingGates$Books;", Cond.fieldLink RX9 118 "ClearingGates$Books" "kinds" "[I", Cond.fieldLink RX9 42 "ClearingGates" "programs" "[LClearingGates$Program;", Cond.methodLink RX9 214 yX0_becomeAs, Cond.instanceMethod yX0_becomeAs, Cond.selects RX0 yX0_becomeAs yX0_becomeAs, Cond.code yX0_becomeAs cX0_becomeAs 3 none, Cond.fieldLink RX0 9 "ClearingGates$Books" "kinds" "[I", Cond.methodLink RX0 55 arraycopyName, Cond.native arraycopyName, Cond.static arraycopyName, Cond.initialized "java/lang/System", Cond.fieldLink RX0 15 "ClearingGates$Books" "balances" "[I", Cond.fieldLink RX0 18 "ClearingGates$Books" "limits" "[I", Cond.fieldLink RX0 25 "ClearingGates$Books" "entries" "[I", Cond.fieldLink RX0 28 "ClearingGates$Books" "leavings" "[I", Cond.fieldLink RX0 31 "ClearingGates$Books" "agains" "[I", Cond.fieldLink RX0 21 "ClearingGates$Books" "gates" "[Z"]
def wsX9_tells_r3 : List Cond := [Cond.fieldLink RX0 51 "ClearingGates$Books" "fees" "J", Cond.fieldLink RX0 61 "ClearingGates$Books" "missed" "I", Cond.fieldLink RX0 64 "ClearingGates$Books" "bells" "I", Cond.fieldLink RX0 67 "ClearingGates$Books" "refused" "I", Cond.fieldLink RX0 70 "ClearingGates$Books" "caught" "I", Cond.methodLink RX9 195 yX6_outcomeOf, Cond.instanceMethod yX6_outcomeOf, Cond.selects RX6 yX6_outcomeOf yX6_outcomeOf, Cond.initialized RX6, Cond.code yX6_outcomeOf cX6_outcomeOf 3 (some .int), Cond.fieldLink RX6 41 "ClearingGates$Runner" "program" "LClearingGates$Program;", Cond.fieldLink RX6 31 "ClearingGates$Runner" "markCount" "I", Cond.fieldLink RX6 45 "ClearingGates$Runner" "begun" "I", Cond.fieldLink RX6 52 "ClearingGates$Program" "size" "I", Cond.methodLink RX6 48 yX6_keep, Cond.instanceMethod yX6_keep, Cond.selects RX6 yX6_keep yX6_keep, Cond.code yX6_keep cX6_keep 2 none, Cond.fieldLink RX6 27 "ClearingGates$Runner" "books" "LClearingGates$Books;", Cond.fieldLink RX6 134 "ClearingGates$Books" "balances" "[I", Cond.fieldLink RX6 20 "ClearingGates$Runner" "keptBalances" "[[I", Cond.methodLink RX6 154 arraycopyName, Cond.fieldLink RX6 23 "ClearingGates$Runner" "keptFees" "[J", Cond.fieldLink RX6 141 "ClearingGates$Books" "fees" "J"]
def wsX9_tells_r4 : List Cond := [Cond.methodLink RX6 57 yX6_items, Cond.instanceMethod yX6_items, Cond.selects RX6 yX6_items yX6_items, Cond.code yX6_items cX6_items 6 (some .int), Cond.methodLink RX6 71 Lib.Math.max.name, Cond.static Lib.Math.max.name, Cond.initialized "java/lang/Math", Cond.code Lib.Math.max.name Lib.Math.max.code 2 (some .int), Cond.methodLink RX6 64 yX6_item, Cond.instanceMethod yX6_item, Cond.selects RX6 yX6_item yX6_item, Cond.methodLink RX6 67 yX3_behindItem, Cond.instanceMethod yX3_behindItem, Cond.selects RX3 yX3_behindItem yX3_behindItem, Cond.initialized RX3, Cond.code yX3_behindItem cX3_behindItem 2 (some .int), Cond.fieldLink RX3 31 "ClearingGates$Program" "size" "I", Cond.fieldLink RX3 15 "ClearingGates$Program" "behind" "[I", Cond.code yX6_attempt cX6_attempt 5 (some .int), Cond.fieldLink RX6 122 "ClearingGates$Books" "caught" "I", Cond.methodLink RX6 116 yX6_inside, Cond.instanceMethod yX6_inside, Cond.selects RX6 yX6_inside yX6_inside, Cond.methodLink RX6 61 yX6_undo]
def wsX9_tells_r5 : List Cond := [Cond.instanceMethod yX6_undo, Cond.selects RX6 yX6_undo yX6_undo, Cond.code yX6_undo cX6_undo 2 none, Cond.methodLink RX6 113 yX6_mark, Cond.instanceMethod yX6_mark, Cond.selects RX6 yX6_mark yX6_mark, Cond.code yX6_mark cX6_mark 2 none, Cond.fieldLink RX6 9 "ClearingGates$Runner" "marks" "[I", Cond.code yX6_block cX6_block 5 (some .int), Cond.fieldLink RX6 101 "ClearingGates$Books" "missed" "I", Cond.fieldLink RX6 15 "ClearingGates$Runner" "held" "[I", Cond.fieldLink RX6 107 "ClearingGates$Books" "entries" "[I", Cond.fieldLink RX6 110 "ClearingGates$Books" "agains" "[I", Cond.fieldLink RX6 119 "ClearingGates$Books" "leavings" "[I", Cond.methodLink RX6 89 yX3_figureAt, Cond.instanceMethod yX3_figureAt, Cond.selects RX3 yX3_figureAt yX3_figureAt, Cond.code yX3_figureAt cX3_figureAt 2 (some .int), Cond.methodLink RX3 32 yX3_byteAt, Cond.instanceMethod yX3_byteAt, Cond.selects RX3 yX3_byteAt yX3_byteAt, Cond.code yX3_byteAt cX3_byteAt 2 (some .int), Cond.fieldLink RX3 9 "ClearingGates$Program" "bytes" "[I", Cond.methodLink RX6 95 yX0_hasGate]
def wsX9_tells_r6 : List Cond := [Cond.instanceMethod yX0_hasGate, Cond.selects RX0 yX0_hasGate yX0_hasGate, Cond.code yX0_hasGate cX0_hasGate 2 (some .boolean), Cond.methodLink RX0 38 yX0_has, Cond.methodLink RX6 104 yX6_isGreaterHeld, Cond.instanceMethod yX6_isGreaterHeld, Cond.selects RX6 yX6_isGreaterHeld yX6_isGreaterHeld, Cond.code yX6_isGreaterHeld cX6_isGreaterHeld 3 (some .boolean), Cond.code yX6_inside cX6_inside 4 (some .int), Cond.code yX6_item cX6_item 3 (some .int), Cond.methodLink RX6 74 yX3_byteAt, Cond.methodLink RX6 77 yX6_block, Cond.instanceMethod yX6_block, Cond.selects RX6 yX6_block yX6_block, Cond.methodLink RX6 80 yX6_attempt, Cond.instanceMethod yX6_attempt, Cond.selects RX6 yX6_attempt yX6_attempt, Cond.methodLink RX6 83 yX6_loop, Cond.instanceMethod yX6_loop, Cond.selects RX6 yX6_loop yX6_loop, Cond.methodLink RX6 86 yX6_payment, Cond.instanceMethod yX6_payment, Cond.selects RX6 yX6_payment yX6_payment, Cond.code yX6_payment cX6_payment 7 (some .int)]
def wsX9_tells_r7 : List Cond := [Cond.constant RX6 140 (1000000000), Cond.methodLink RX6 125 yX6_isHeld, Cond.instanceMethod yX6_isHeld, Cond.selects RX6 yX6_isHeld yX6_isHeld, Cond.code yX6_isHeld cX6_isHeld 2 (some .boolean), Cond.methodLink RX6 151 yX0_has, Cond.methodLink RX6 128 yX3_numberBetween, Cond.instanceMethod yX3_numberBetween, Cond.selects RX3 yX3_numberBetween yX3_numberBetween, Cond.code yX3_numberBetween cX3_numberBetween 5 (some .int), Cond.methodLink RX6 131 yX0_feeOf, Cond.instanceMethod yX0_feeOf, Cond.selects RX0 yX0_feeOf yX0_feeOf, Cond.code yX0_feeOf cX0_feeOf 3 (some .int), Cond.methodLink RX0 42 yX2_feeOf, Cond.static yX2_feeOf, Cond.initialized RX2, Cond.code yX2_feeOf cX2_feeOf 2 (some .int), Cond.methodLink RX6 137 yX0_floorOf, Cond.instanceMethod yX0_floorOf, Cond.selects RX0 yX0_floorOf yX0_floorOf, Cond.code yX0_floorOf cX0_floorOf 2 (some .int), Cond.methodLink RX0 48 yX2_floorOf, Cond.static yX2_floorOf]
def wsX9_tells_r8 : List Cond := [Cond.code yX2_floorOf cX2_floorOf 2 (some .int), Cond.methodLink RX6 92 yX6_bell, Cond.instanceMethod yX6_bell, Cond.selects RX6 yX6_bell yX6_bell, Cond.code yX6_bell cX6_bell 3 (some .int), Cond.fieldLink RX6 145 "ClearingGates$Books" "bells" "I", Cond.fieldLink RX6 148 "ClearingGates$Books" "refused" "I", Cond.code yX6_loop cX6_loop 6 (some .int), Cond.methodLink RX9 156 yX6_keptMarks, Cond.instanceMethod yX6_keptMarks, Cond.selects RX6 yX6_keptMarks yX6_keptMarks, Cond.code yX6_keptMarks cX6_keptMarks 1 (some .int), Cond.methodLink RX6 35 Lib.Math.min.name, Cond.static Lib.Math.min.name, Cond.code Lib.Math.min.name Lib.Math.min.code 2 (some .int), Cond.methodLink RX9 252 yX7_firstUnlike, Cond.instanceMethod yX7_firstUnlike, Cond.selects RX7 yX7_firstUnlike yX7_firstUnlike, Cond.code yX7_firstUnlike cX7_firstUnlike 5 (some .int), Cond.fieldLink RX7 19 "ClearingGates$Sheet" "size" "I", Cond.methodLink RX7 32 Lib.Math.min.name, Cond.fieldLink RX7 15 "ClearingGates$Sheet" "items" "[I", Cond.methodLink RX9 204 yX9_outcomeInThought, Cond.instanceMethod yX9_outcomeInThought]
def wsX9_tells_r9 : List Cond := [Cond.selects RX9 yX9_outcomeInThought yX9_outcomeInThought, Cond.code yX9_outcomeInThought cX9_outcomeInThought 2 (some .int)]
def wsX9_tells : List Cond := .code yX9_tells cX9_tells 6 (some .int) :: ((wsX9_tells_r1 ++ (wsX9_tells_r2 ++ (wsX9_tells_r3 ++ (wsX9_tells_r4 ++ (wsX9_tells_r5 ++ (wsX9_tells_r6 ++ (wsX9_tells_r7 ++ (wsX9_tells_r8 ++ wsX9_tells_r9)))))))) ++ wsX90 ++ wsX70 ++ wsX60 ++ wsX00 ++ wsX30)
def wsX9_film_r1 : List Cond := [Cond.fieldLink RX9 79 "ClearingGates" "sheets" "[LClearingGates$Sheet;", Cond.fieldLink RX9 74 "ClearingGates" "thought" "LClearingGates$Runner;", Cond.fieldLink RX9 198 "ClearingGates$Runner" "marks" "[I", Cond.methodLink RX9 241 yX9_isSheet, Cond.static yX9_isSheet, Cond.initialized RX9, Cond.code yX9_isSheet cX9_isSheet 1 (some .boolean), Cond.methodLink RX9 192 yX9_isProgram, Cond.instanceMethod yX9_isProgram, Cond.selects RX9 yX9_isProgram yX9_isProgram, Cond.code yX9_isProgram cX9_isProgram 2 (some .boolean), Cond.fieldLink RX9 141 "ClearingGates" "programCount" "I", Cond.methodLink RX9 204 yX9_outcomeInThought, Cond.instanceMethod yX9_outcomeInThought, Cond.selects RX9 yX9_outcomeInThought yX9_outcomeInThought, Cond.code yX9_outcomeInThought cX9_outcomeInThought 2 (some .int), Cond.fieldLink RX9 207 "ClearingGates$Runner" "books" "LClearingGates$Books;", Cond.fieldLink RX9 12 "ClearingGates" "books" "LClearingGates$Books;", Cond.fieldLink RX9 42 "ClearingGates" "programs" "[LClearingGates$Program;", Cond.methodLink RX9 214 yX0_becomeAs, Cond.instanceMethod yX0_becomeAs, Cond.selects RX0 yX0_becomeAs yX0_becomeAs, Cond.initialized RX0, Cond.code yX0_becomeAs cX0_becomeAs 3 none]
def wsX9_film_r2 : List Cond := [Cond.fieldLink RX0 9 "ClearingGates$Books" "kinds" "[I", Cond.methodLink RX0 55 arraycopyName, Cond.native arraycopyName, Cond.static arraycopyName, Cond.initialized "java/lang/System", Cond.fieldLink RX0 15 "ClearingGates$Books" "balances" "[I", Cond.fieldLink RX0 18 "ClearingGates$Books" "limits" "[I", Cond.fieldLink RX0 25 "ClearingGates$Books" "entries" "[I", Cond.fieldLink RX0 28 "ClearingGates$Books" "leavings" "[I", Cond.fieldLink RX0 31 "ClearingGates$Books" "agains" "[I", Cond.fieldLink RX0 21 "ClearingGates$Books" "gates" "[Z", Cond.fieldLink RX0 34 "ClearingGates$Books" "accounts" "I", Cond.fieldLink RX0 51 "ClearingGates$Books" "fees" "J", Cond.fieldLink RX0 61 "ClearingGates$Books" "missed" "I", Cond.fieldLink RX0 64 "ClearingGates$Books" "bells" "I", Cond.fieldLink RX0 67 "ClearingGates$Books" "refused" "I", Cond.fieldLink RX0 70 "ClearingGates$Books" "caught" "I", Cond.methodLink RX9 195 yX6_outcomeOf, Cond.instanceMethod yX6_outcomeOf, Cond.selects RX6 yX6_outcomeOf yX6_outcomeOf, Cond.initialized RX6, Cond.code yX6_outcomeOf cX6_outcomeOf 3 (some .int), Cond.fieldLink RX6 41 "ClearingGates$Runner" "program" "LClearingGates$Program;", Cond.fieldLink RX6 31 "ClearingGates$Runner" "markCount" "I"]
def wsX9_film_r3 : List Cond := [Cond.fieldLink RX6 45 "ClearingGates$Runner" "begun" "I", Cond.fieldLink RX6 52 "ClearingGates$Program" "size" "I", Cond.methodLink RX6 48 yX6_keep, Cond.instanceMethod yX6_keep, Cond.selects RX6 yX6_keep yX6_keep, Cond.code yX6_keep cX6_keep 2 none, Cond.fieldLink RX6 27 "ClearingGates$Runner" "books" "LClearingGates$Books;", Cond.fieldLink RX6 134 "ClearingGates$Books" "balances" "[I", Cond.fieldLink RX6 20 "ClearingGates$Runner" "keptBalances" "[[I", Cond.methodLink RX6 154 arraycopyName, Cond.fieldLink RX6 23 "ClearingGates$Runner" "keptFees" "[J", Cond.fieldLink RX6 141 "ClearingGates$Books" "fees" "J", Cond.methodLink RX6 57 yX6_items, Cond.instanceMethod yX6_items, Cond.selects RX6 yX6_items yX6_items, Cond.code yX6_items cX6_items 6 (some .int), Cond.methodLink RX6 71 Lib.Math.max.name, Cond.static Lib.Math.max.name, Cond.initialized "java/lang/Math", Cond.code Lib.Math.max.name Lib.Math.max.code 2 (some .int), Cond.methodLink RX6 64 yX6_item, Cond.instanceMethod yX6_item, Cond.selects RX6 yX6_item yX6_item, Cond.methodLink RX6 67 yX3_behindItem]
def wsX9_film_r4 : List Cond := [Cond.instanceMethod yX3_behindItem, Cond.selects RX3 yX3_behindItem yX3_behindItem, Cond.initialized RX3, Cond.code yX3_behindItem cX3_behindItem 2 (some .int), Cond.fieldLink RX3 31 "ClearingGates$Program" "size" "I", Cond.fieldLink RX3 15 "ClearingGates$Program" "behind" "[I", Cond.code yX6_attempt cX6_attempt 5 (some .int), Cond.fieldLink RX6 122 "ClearingGates$Books" "caught" "I", Cond.methodLink RX6 116 yX6_inside, Cond.instanceMethod yX6_inside, Cond.selects RX6 yX6_inside yX6_inside, Cond.methodLink RX6 61 yX6_undo, Cond.instanceMethod yX6_undo, Cond.selects RX6 yX6_undo yX6_undo, Cond.code yX6_undo cX6_undo 2 none, Cond.methodLink RX6 113 yX6_mark, Cond.instanceMethod yX6_mark, Cond.selects RX6 yX6_mark yX6_mark, Cond.code yX6_mark cX6_mark 2 none, Cond.fieldLink RX6 9 "ClearingGates$Runner" "marks" "[I", Cond.code yX6_block cX6_block 5 (some .int), Cond.fieldLink RX6 101 "ClearingGates$Books" "missed" "I", Cond.fieldLink RX6 15 "ClearingGates$Runner" "held" "[I", Cond.fieldLink RX6 107 "ClearingGates$Books" "entries" "[I"]
def wsX9_film_r5 : List Cond := [Cond.fieldLink RX6 110 "ClearingGates$Books" "agains" "[I", Cond.fieldLink RX6 119 "ClearingGates$Books" "leavings" "[I", Cond.methodLink RX6 89 yX3_figureAt, Cond.instanceMethod yX3_figureAt, Cond.selects RX3 yX3_figureAt yX3_figureAt, Cond.code yX3_figureAt cX3_figureAt 2 (some .int), Cond.methodLink RX3 32 yX3_byteAt, Cond.instanceMethod yX3_byteAt, Cond.selects RX3 yX3_byteAt yX3_byteAt, Cond.code yX3_byteAt cX3_byteAt 2 (some .int), Cond.fieldLink RX3 9 "ClearingGates$Program" "bytes" "[I", Cond.methodLink RX6 95 yX0_hasGate, Cond.instanceMethod yX0_hasGate, Cond.selects RX0 yX0_hasGate yX0_hasGate, Cond.code yX0_hasGate cX0_hasGate 2 (some .boolean), Cond.methodLink RX0 38 yX0_has, Cond.instanceMethod yX0_has, Cond.selects RX0 yX0_has yX0_has, Cond.code yX0_has cX0_has 2 (some .boolean), Cond.methodLink RX6 104 yX6_isGreaterHeld, Cond.instanceMethod yX6_isGreaterHeld, Cond.selects RX6 yX6_isGreaterHeld yX6_isGreaterHeld, Cond.code yX6_isGreaterHeld cX6_isGreaterHeld 3 (some .boolean), Cond.code yX6_inside cX6_inside 4 (some .int)]
def wsX9_film_r6 : List Cond := [Cond.code yX6_item cX6_item 3 (some .int), Cond.methodLink RX6 74 yX3_byteAt, Cond.methodLink RX6 77 yX6_block, Cond.instanceMethod yX6_block, Cond.selects RX6 yX6_block yX6_block, Cond.methodLink RX6 80 yX6_attempt, Cond.instanceMethod yX6_attempt, Cond.selects RX6 yX6_attempt yX6_attempt, Cond.methodLink RX6 83 yX6_loop, Cond.instanceMethod yX6_loop, Cond.selects RX6 yX6_loop yX6_loop, Cond.methodLink RX6 86 yX6_payment, Cond.instanceMethod yX6_payment, Cond.selects RX6 yX6_payment yX6_payment, Cond.code yX6_payment cX6_payment 7 (some .int), Cond.constant RX6 140 (1000000000), Cond.methodLink RX6 125 yX6_isHeld, Cond.instanceMethod yX6_isHeld, Cond.selects RX6 yX6_isHeld yX6_isHeld, Cond.code yX6_isHeld cX6_isHeld 2 (some .boolean), Cond.methodLink RX6 151 yX0_has, Cond.methodLink RX6 128 yX3_numberBetween, Cond.instanceMethod yX3_numberBetween, Cond.selects RX3 yX3_numberBetween yX3_numberBetween]
def wsX9_film_r7 : List Cond := [Cond.code yX3_numberBetween cX3_numberBetween 5 (some .int), Cond.methodLink RX6 131 yX0_feeOf, Cond.instanceMethod yX0_feeOf, Cond.selects RX0 yX0_feeOf yX0_feeOf, Cond.code yX0_feeOf cX0_feeOf 3 (some .int), Cond.methodLink RX0 42 yX2_feeOf, Cond.static yX2_feeOf, Cond.initialized RX2, Cond.code yX2_feeOf cX2_feeOf 2 (some .int), Cond.methodLink RX6 137 yX0_floorOf, Cond.instanceMethod yX0_floorOf, Cond.selects RX0 yX0_floorOf yX0_floorOf, Cond.code yX0_floorOf cX0_floorOf 2 (some .int), Cond.methodLink RX0 48 yX2_floorOf, Cond.static yX2_floorOf, Cond.code yX2_floorOf cX2_floorOf 2 (some .int), Cond.methodLink RX6 92 yX6_bell, Cond.instanceMethod yX6_bell, Cond.selects RX6 yX6_bell yX6_bell, Cond.code yX6_bell cX6_bell 3 (some .int), Cond.fieldLink RX6 145 "ClearingGates$Books" "bells" "I", Cond.fieldLink RX6 148 "ClearingGates$Books" "refused" "I", Cond.code yX6_loop cX6_loop 6 (some .int), Cond.methodLink RX9 156 yX6_keptMarks]
def wsX9_film_r8 : List Cond := [Cond.instanceMethod yX6_keptMarks, Cond.selects RX6 yX6_keptMarks yX6_keptMarks, Cond.code yX6_keptMarks cX6_keptMarks 1 (some .int), Cond.methodLink RX6 35 Lib.Math.min.name, Cond.static Lib.Math.min.name, Cond.code Lib.Math.min.name Lib.Math.min.code 2 (some .int), Cond.methodLink RX9 256 yX7_takeOver, Cond.instanceMethod yX7_takeOver, Cond.selects RX7 yX7_takeOver yX7_takeOver, Cond.initialized RX7, Cond.code yX7_takeOver cX7_takeOver 3 none, Cond.fieldLink RX7 15 "ClearingGates$Sheet" "items" "[I", Cond.methodLink RX7 26 arraycopyName, Cond.methodLink RX7 22 yX7_become, Cond.instanceMethod yX7_become, Cond.selects RX7 yX7_become yX7_become, Cond.code yX7_become cX7_become 4 none, Cond.fieldLink RX7 11 "ClearingGates$Sheet" "sort" "I", Cond.fieldLink RX7 19 "ClearingGates$Sheet" "size" "I"]
def wsX9_film : List Cond := .code yX9_film cX9_film 3 (some .int) :: ((wsX9_film_r1 ++ (wsX9_film_r2 ++ (wsX9_film_r3 ++ (wsX9_film_r4 ++ (wsX9_film_r5 ++ (wsX9_film_r6 ++ (wsX9_film_r7 ++ wsX9_film_r8))))))) ++ wsX90 ++ wsX60 ++ wsX00 ++ wsX30 ++ wsX70)
def wsX9_image_r1 : List Cond := [Cond.fieldLink RX9 18 "ClearingGates" "imageBooks" "LClearingGates$Books;", Cond.fieldLink RX9 12 "ClearingGates" "books" "LClearingGates$Books;", Cond.fieldLink RX9 28 "ClearingGates" "imageDebts" "LClearingGates$Debts;", Cond.fieldLink RX9 24 "ClearingGates" "debts" "LClearingGates$Debts;", Cond.fieldLink RX9 141 "ClearingGates" "programCount" "I", Cond.fieldLink RX9 47 "ClearingGates" "imagePrograms" "I", Cond.fieldLink RX9 95 "ClearingGates$Books" "accounts" "I", Cond.methodLink RX9 214 yX0_becomeAs, Cond.instanceMethod yX0_becomeAs, Cond.selects RX0 yX0_becomeAs yX0_becomeAs, Cond.initialized RX0, Cond.code yX0_becomeAs cX0_becomeAs 3 none, Cond.fieldLink RX0 9 "ClearingGates$Books" "kinds" "[I", Cond.methodLink RX0 55 arraycopyName, Cond.native arraycopyName, Cond.static arraycopyName, Cond.initialized "java/lang/System", Cond.fieldLink RX0 15 "ClearingGates$Books" "balances" "[I", Cond.fieldLink RX0 18 "ClearingGates$Books" "limits" "[I", Cond.fieldLink RX0 25 "ClearingGates$Books" "entries" "[I", Cond.fieldLink RX0 28 "ClearingGates$Books" "leavings" "[I", Cond.fieldLink RX0 31 "ClearingGates$Books" "agains" "[I", Cond.fieldLink RX0 21 "ClearingGates$Books" "gates" "[Z", Cond.fieldLink RX0 34 "ClearingGates$Books" "accounts" "I"]
def wsX9_image_r2 : List Cond := [Cond.fieldLink RX0 51 "ClearingGates$Books" "fees" "J", Cond.fieldLink RX0 61 "ClearingGates$Books" "missed" "I", Cond.fieldLink RX0 64 "ClearingGates$Books" "bells" "I", Cond.fieldLink RX0 67 "ClearingGates$Books" "refused" "I", Cond.fieldLink RX0 70 "ClearingGates$Books" "caught" "I", Cond.methodLink RX9 259 yX1_becomeAs, Cond.instanceMethod yX1_becomeAs, Cond.selects RX1 yX1_becomeAs yX1_becomeAs, Cond.initialized RX1, Cond.code yX1_becomeAs cX1_becomeAs 2 none, Cond.fieldLink RX1 9 "ClearingGates$Debts" "row" "[I", Cond.methodLink RX1 19 arraycopyName]
def wsX9_image : List Cond := .code yX9_image cX9_image 1 (some .int) :: ((wsX9_image_r1 ++ wsX9_image_r2) ++ wsX90 ++ wsX00 ++ wsX10)
def wsX9_back_r1 : List Cond := [Cond.fieldLink RX9 47 "ClearingGates" "imagePrograms" "I", Cond.fieldLink RX9 12 "ClearingGates" "books" "LClearingGates$Books;", Cond.fieldLink RX9 18 "ClearingGates" "imageBooks" "LClearingGates$Books;", Cond.fieldLink RX9 24 "ClearingGates" "debts" "LClearingGates$Debts;", Cond.fieldLink RX9 28 "ClearingGates" "imageDebts" "LClearingGates$Debts;", Cond.fieldLink RX9 141 "ClearingGates" "programCount" "I", Cond.fieldLink RX9 95 "ClearingGates$Books" "accounts" "I", Cond.methodLink RX9 214 yX0_becomeAs, Cond.instanceMethod yX0_becomeAs, Cond.selects RX0 yX0_becomeAs yX0_becomeAs, Cond.initialized RX0, Cond.code yX0_becomeAs cX0_becomeAs 3 none, Cond.fieldLink RX0 9 "ClearingGates$Books" "kinds" "[I", Cond.methodLink RX0 55 arraycopyName, Cond.native arraycopyName, Cond.static arraycopyName, Cond.initialized "java/lang/System", Cond.fieldLink RX0 15 "ClearingGates$Books" "balances" "[I", Cond.fieldLink RX0 18 "ClearingGates$Books" "limits" "[I", Cond.fieldLink RX0 25 "ClearingGates$Books" "entries" "[I", Cond.fieldLink RX0 28 "ClearingGates$Books" "leavings" "[I", Cond.fieldLink RX0 31 "ClearingGates$Books" "agains" "[I", Cond.fieldLink RX0 21 "ClearingGates$Books" "gates" "[Z", Cond.fieldLink RX0 34 "ClearingGates$Books" "accounts" "I"]
def wsX9_back_r2 : List Cond := [Cond.fieldLink RX0 51 "ClearingGates$Books" "fees" "J", Cond.fieldLink RX0 61 "ClearingGates$Books" "missed" "I", Cond.fieldLink RX0 64 "ClearingGates$Books" "bells" "I", Cond.fieldLink RX0 67 "ClearingGates$Books" "refused" "I", Cond.fieldLink RX0 70 "ClearingGates$Books" "caught" "I", Cond.methodLink RX9 259 yX1_becomeAs, Cond.instanceMethod yX1_becomeAs, Cond.selects RX1 yX1_becomeAs yX1_becomeAs, Cond.initialized RX1, Cond.code yX1_becomeAs cX1_becomeAs 2 none, Cond.fieldLink RX1 9 "ClearingGates$Debts" "row" "[I", Cond.methodLink RX1 19 arraycopyName]
def wsX9_back : List Cond := .code yX9_back cX9_back 1 (some .int) :: ((wsX9_back_r1 ++ wsX9_back_r2) ++ wsX90 ++ wsX00 ++ wsX10)
def wsX9_sheet : List Cond := .code yX9_sheet cX9_sheet 4 (some .int) :: ([.fieldLink RX9 79 "ClearingGates" "sheets" "[LClearingGates$Sheet;", .methodLink RX9 241 yX9_isSheet, .static yX9_isSheet, .initialized RX9, .code yX9_isSheet cX9_isSheet 1 (some .boolean), .methodLink RX9 261 yX7_become, .instanceMethod yX7_become, .selects RX7 yX7_become yX7_become, .initialized RX7, .code yX7_become cX7_become 4 none, .fieldLink RX7 11 "ClearingGates$Sheet" "sort" "I", .fieldLink RX7 19 "ClearingGates$Sheet" "size" "I", .fieldLink RX7 15 "ClearingGates$Sheet" "items" "[I"] ++ wsX90 ++ wsX70)
def wsX9_put : List Cond := .code yX9_put cX9_put 5 (some .int) :: ([.fieldLink RX9 79 "ClearingGates" "sheets" "[LClearingGates$Sheet;", .methodLink RX9 241 yX9_isSheet, .static yX9_isSheet, .initialized RX9, .code yX9_isSheet cX9_isSheet 1 (some .boolean), .methodLink RX9 244 yX7_isMissing, .instanceMethod yX7_isMissing, .selects RX7 yX7_isMissing yX7_isMissing, .initialized RX7, .code yX7_isMissing cX7_isMissing 1 (some .boolean), .fieldLink RX7 11 "ClearingGates$Sheet" "sort" "I", .methodLink RX9 264 yX7_hasPlace, .instanceMethod yX7_hasPlace, .selects RX7 yX7_hasPlace yX7_hasPlace, .code yX7_hasPlace cX7_hasPlace 2 (some .boolean), .fieldLink RX7 19 "ClearingGates$Sheet" "size" "I", .methodLink RX9 267 yX7_write, .instanceMethod yX7_write, .selects RX7 yX7_write yX7_write, .code yX7_write cX7_write 3 none, .fieldLink RX7 15 "ClearingGates$Sheet" "items" "[I"] ++ wsX90 ++ wsX70)
def wsX9_copy : List Cond := .code yX9_copy cX9_copy 8 (some .int) :: ([.fieldLink RX9 79 "ClearingGates" "sheets" "[LClearingGates$Sheet;", .fieldLink RX9 270 "ClearingGates$Sheet" "sort" "I", .fieldLink RX9 276 "ClearingGates$Sheet" "items" "[I", .methodLink RX9 279 arraycopyName, .native arraycopyName, .static arraycopyName, .initialized "java/lang/System", .methodLink RX9 241 yX9_isSheet, .static yX9_isSheet, .initialized RX9, .code yX9_isSheet cX9_isSheet 1 (some .boolean), .methodLink RX9 244 yX7_isMissing, .instanceMethod yX7_isMissing, .selects RX7 yX7_isMissing yX7_isMissing, .initialized RX7, .code yX7_isMissing cX7_isMissing 1 (some .boolean), .fieldLink RX7 11 "ClearingGates$Sheet" "sort" "I", .methodLink RX9 273 yX7_hasStretch, .instanceMethod yX7_hasStretch, .selects RX7 yX7_hasStretch yX7_hasStretch, .code yX7_hasStretch cX7_hasStretch 3 (some .boolean), .fieldLink RX7 19 "ClearingGates$Sheet" "size" "I"] ++ wsX90 ++ wsX70)
def wsX9_load_r1 : List Cond := [Cond.fieldLink RX9 79 "ClearingGates" "sheets" "[LClearingGates$Sheet;", Cond.fieldLink RX9 270 "ClearingGates$Sheet" "sort" "I", Cond.fieldLink RX9 276 "ClearingGates$Sheet" "items" "[I", Cond.methodLink RX9 241 yX9_isSheet, Cond.static yX9_isSheet, Cond.initialized RX9, Cond.code yX9_isSheet cX9_isSheet 1 (some .boolean), Cond.methodLink RX9 91 yX9_isWithin, Cond.static yX9_isWithin, Cond.code yX9_isWithin cX9_isWithin 2 (some .boolean), Cond.methodLink RX9 244 yX7_isMissing, Cond.instanceMethod yX7_isMissing, Cond.selects RX7 yX7_isMissing yX7_isMissing, Cond.initialized RX7, Cond.code yX7_isMissing cX7_isMissing 1 (some .boolean), Cond.fieldLink RX7 11 "ClearingGates$Sheet" "sort" "I", Cond.methodLink RX9 273 yX7_hasStretch, Cond.instanceMethod yX7_hasStretch, Cond.selects RX7 yX7_hasStretch yX7_hasStretch, Cond.code yX7_hasStretch cX7_hasStretch 3 (some .boolean), Cond.fieldLink RX7 19 "ClearingGates$Sheet" "size" "I", Cond.methodLink RX9 285 yX9_owe, Cond.instanceMethod yX9_owe, Cond.selects RX9 yX9_owe yX9_owe]
def wsX9_load_r2 : List Cond := [Cond.code yX9_owe cX9_owe 5 (some .int), Cond.constant RX9 220 (99999), Cond.fieldLink RX9 24 "ClearingGates" "debts" "LClearingGates$Debts;", Cond.methodLink RX9 217 yX9_isPair, Cond.instanceMethod yX9_isPair, Cond.selects RX9 yX9_isPair yX9_isPair, Cond.code yX9_isPair cX9_isPair 3 (some .boolean), Cond.fieldLink RX9 12 "ClearingGates" "books" "LClearingGates$Books;", Cond.methodLink RX9 102 yX0_has, Cond.instanceMethod yX0_has, Cond.selects RX0 yX0_has yX0_has, Cond.initialized RX0, Cond.code yX0_has cX0_has 2 (some .boolean), Cond.fieldLink RX0 34 "ClearingGates$Books" "accounts" "I", Cond.methodLink RX9 221 yX1_between, Cond.instanceMethod yX1_between, Cond.selects RX1 yX1_between yX1_between, Cond.initialized RX1, Cond.code yX1_between cX1_between 3 (some .int), Cond.fieldLink RX1 9 "ClearingGates$Debts" "row" "[I", Cond.methodLink RX9 224 yX1_become, Cond.instanceMethod yX1_become, Cond.selects RX1 yX1_become yX1_become, Cond.code yX1_become cX1_become 4 none]
def wsX9_load : List Cond := .code yX9_load cX9_load 9 (some .int) :: ((wsX9_load_r1 ++ wsX9_load_r2) ++ wsX90 ++ wsX70 ++ wsX00 ++ wsX10)
def wsX10_init : List Cond := .code yX10_init cX10_init 1 none :: ([.methodLink RX10 5 objectInit, .instanceMethod objectInit, .code objectInit ⟨#[0xb1]⟩ 1 none, .arrayClass .int, .fieldLink RX10 11 "ClearingGatesModel" "s" "[I", .fieldLink RX10 15 "ClearingGatesModel" "thought" "[I", .fieldLink RX10 18 "ClearingGatesModel" "image" "[I", .fieldLink RX10 21 "ClearingGatesModel" "tape" "[I", .fieldLink RX10 24 "ClearingGatesModel" "texts" "[I", .fieldLink RX10 27 "ClearingGatesModel" "sizes" "[I", .fieldLink RX10 30 "ClearingGatesModel" "imageTexts" "[I", .fieldLink RX10 33 "ClearingGatesModel" "imageSizes" "[I", .fieldLink RX10 36 "ClearingGatesModel" "held" "[I", .fieldLink RX10 39 "ClearingGatesModel" "marks" "[I", .fieldLink RX10 42 "ClearingGatesModel" "trace" "[I", .fieldLink RX10 45 "ClearingGatesModel" "keptBalances" "[I", .arrayClass .long, .fieldLink RX10 48 "ClearingGatesModel" "keptFees" "[J", .fieldLink RX10 52 "ClearingGatesModel" "way" "[I", .fieldLink RX10 55 "ClearingGatesModel" "sorts" "[I", .fieldLink RX10 58 "ClearingGatesModel" "rowMany" "[I", .fieldLink RX10 61 "ClearingGatesModel" "items" "[I", .fieldLink RX10 64 "ClearingGatesModel" "moved" "[I"] ++ wsX100)
def wsX10_isIn : List Cond := .code yX10_isIn cX10_isIn 6 (some .boolean) :: ([])
def wsX10_isAccount : List Cond := .code yX10_isAccount cX10_isAccount 2 (some .boolean) :: ([.fieldLink RX10 11 "ClearingGatesModel" "s" "[I", .methodLink RX10 67 yX10_isIn, .static yX10_isIn, .initialized RX10, .code yX10_isIn cX10_isIn 6 (some .boolean)] ++ wsX100)
def wsX10_account : List Cond := .code yX10_account cX10_account 4 (some .int) :: ([.constantLong RX10 71 (4), .constantLong RX10 73 (1000000000), .fieldLink RX10 11 "ClearingGatesModel" "s" "[I", .methodLink RX10 67 yX10_isIn, .static yX10_isIn, .initialized RX10, .code yX10_isIn cX10_isIn 6 (some .boolean)] ++ wsX100)
def wsX10_set : List Cond := .code yX10_set cX10_set 6 (some .long) :: ([.constantLong RX10 73 (1000000000), .constantLong RX10 79 (9999), .constantLong RX10 81 (-9223372036854775808), .fieldLink RX10 11 "ClearingGatesModel" "s" "[I", .methodLink RX10 75 yX10_isAccount, .instanceMethod yX10_isAccount, .selects RX10 yX10_isAccount yX10_isAccount, .initialized RX10, .code yX10_isAccount cX10_isAccount 2 (some .boolean), .methodLink RX10 67 yX10_isIn, .static yX10_isIn, .code yX10_isIn cX10_isIn 6 (some .boolean)] ++ wsX100)
def wsX10_gate : List Cond := .code yX10_gate cX10_gate 4 (some .int) :: ([.fieldLink RX10 11 "ClearingGatesModel" "s" "[I", .methodLink RX10 75 yX10_isAccount, .instanceMethod yX10_isAccount, .selects RX10 yX10_isAccount yX10_isAccount, .initialized RX10, .code yX10_isAccount cX10_isAccount 2 (some .boolean), .methodLink RX10 67 yX10_isIn, .static yX10_isIn, .code yX10_isIn cX10_isIn 6 (some .boolean)] ++ wsX100)
def wsX10_told : List Cond := .code yX10_told cX10_told 3 (some .int) :: ([.fieldLink RX10 11 "ClearingGatesModel" "s" "[I", .methodLink RX10 75 yX10_isAccount, .instanceMethod yX10_isAccount, .selects RX10 yX10_isAccount yX10_isAccount, .initialized RX10, .code yX10_isAccount cX10_isAccount 2 (some .boolean), .methodLink RX10 67 yX10_isIn, .static yX10_isIn, .code yX10_isIn cX10_isIn 6 (some .boolean), .methodLink RX10 83 yX10_feeOf, .instanceMethod yX10_feeOf, .selects RX10 yX10_feeOf yX10_feeOf, .code yX10_feeOf cX10_feeOf 4 (some .int)] ++ wsX100)
def wsX10_of : List Cond := .code yX10_of cX10_of 3 (some .long) :: ([.constantLong RX10 90 (2), .constantLong RX10 81 (-9223372036854775808), .fieldLink RX10 11 "ClearingGatesModel" "s" "[I", .methodLink RX10 75 yX10_isAccount, .instanceMethod yX10_isAccount, .selects RX10 yX10_isAccount yX10_isAccount, .initialized RX10, .code yX10_isAccount cX10_isAccount 2 (some .boolean), .methodLink RX10 67 yX10_isIn, .static yX10_isIn, .code yX10_isIn cX10_isIn 6 (some .boolean), .methodLink RX10 92 yX10_floorOf, .instanceMethod yX10_floorOf, .selects RX10 yX10_floorOf yX10_floorOf, .code yX10_floorOf cX10_floorOf 2 (some .int), .methodLink RX10 96 yX10_positionOf, .instanceMethod yX10_positionOf, .selects RX10 yX10_positionOf yX10_positionOf, .code yX10_positionOf cX10_positionOf 5 (some .long), .methodLink RX10 87 yX10_owedTo, .instanceMethod yX10_owedTo, .selects RX10 yX10_owedTo yX10_owedTo, .code yX10_owedTo cX10_owedTo 3 (some .int)] ++ wsX100)
def wsX10_count : List Cond := .code yX10_count cX10_count 2 (some .int) :: ([.fieldLink RX10 11 "ClearingGatesModel" "s" "[I", .fieldLink RX10 100 "ClearingGatesModel" "programs" "I", .fieldLink RX10 104 "ClearingGatesModel" "traced" "I", .fieldLink RX10 107 "ClearingGatesModel" "taped" "I"] ++ wsX100)
def wsX10_sum : List Cond := .code yX10_sum cX10_sum 5 (some .long) :: ([.constantLong RX10 90 (2), .constantLong RX10 81 (-9223372036854775808), .fieldLink RX10 110 "ClearingGatesModel" "fees" "J", .fieldLink RX10 11 "ClearingGatesModel" "s" "[I", .methodLink RX10 67 yX10_isIn, .static yX10_isIn, .initialized RX10, .code yX10_isIn cX10_isIn 6 (some .boolean)] ++ wsX100)
def wsX10_taken : List Cond := .code yX10_taken cX10_taken 4 (some .int) :: ([.constantLong RX10 71 (4), .fieldLink RX10 11 "ClearingGatesModel" "s" "[I", .methodLink RX10 75 yX10_isAccount, .instanceMethod yX10_isAccount, .selects RX10 yX10_isAccount yX10_isAccount, .initialized RX10, .code yX10_isAccount cX10_isAccount 2 (some .boolean), .methodLink RX10 67 yX10_isIn, .static yX10_isIn, .code yX10_isIn cX10_isIn 6 (some .boolean), .methodLink RX10 114 yX10_above, .static yX10_above, .code yX10_above cX10_above 1 (some .int)] ++ wsX100)
def wsX10_isByte : List Cond := .code yX10_isByte cX10_isByte 1 (some .boolean) :: ([.constantLong RX10 117 (255), .methodLink RX10 67 yX10_isIn, .static yX10_isIn, .initialized RX10, .code yX10_isIn cX10_isIn 6 (some .boolean)])
def wsX10_feed : List Cond := .code yX10_feed cX10_feed 8 (some .int) :: ([.constantLong RX10 119 (5), .fieldLink RX10 107 "ClearingGatesModel" "taped" "I", .fieldLink RX10 21 "ClearingGatesModel" "tape" "[I", .methodLink RX10 67 yX10_isIn, .static yX10_isIn, .initialized RX10, .code yX10_isIn cX10_isIn 6 (some .boolean), .methodLink RX10 121 yX10_isByte, .static yX10_isByte, .code yX10_isByte cX10_isByte 1 (some .boolean), .constantLong RX10 117 (255)] ++ wsX100)
def wsX10_byteAt : List Cond := .code yX10_byteAt cX10_byteAt 1 (some .int) :: ([.fieldLink RX10 124 "ClearingGatesModel" "here" "I", .fieldLink RX10 107 "ClearingGatesModel" "taped" "I", .fieldLink RX10 21 "ClearingGatesModel" "tape" "[I"] ++ wsX100)
def wsX10_takesItem_r1 : List Cond := [Cond.fieldLink RX10 124 "ClearingGatesModel" "here" "I", Cond.methodLink RX10 127 yX10_byteAt, Cond.instanceMethod yX10_byteAt, Cond.selects RX10 yX10_byteAt yX10_byteAt, Cond.initialized RX10, Cond.code yX10_byteAt cX10_byteAt 1 (some .int), Cond.fieldLink RX10 107 "ClearingGatesModel" "taped" "I", Cond.fieldLink RX10 21 "ClearingGatesModel" "tape" "[I", Cond.methodLink RX10 146 yX10_takesBracket, Cond.instanceMethod yX10_takesBracket, Cond.selects RX10 yX10_takesBracket yX10_takesBracket, Cond.methodLink RX10 150 yX10_takesPayment, Cond.instanceMethod yX10_takesPayment, Cond.selects RX10 yX10_takesPayment yX10_takesPayment, Cond.code yX10_takesPayment cX10_takesPayment 2 (some .boolean), Cond.constantLong RX10 142 (48), Cond.constantLong RX10 144 (57), Cond.methodLink RX10 134 yX10_takesFigure, Cond.instanceMethod yX10_takesFigure, Cond.selects RX10 yX10_takesFigure yX10_takesFigure, Cond.code yX10_takesFigure cX10_takesFigure 3 (some .boolean), Cond.methodLink RX10 67 yX10_isIn, Cond.static yX10_isIn, Cond.code yX10_isIn cX10_isIn 6 (some .boolean)]
def wsX10_takesItem_r2 : List Cond := [Cond.code yX10_takesBracket cX10_takesBracket 5 (some .boolean), Cond.fieldLink RX10 131 "ClearingGatesModel" "open" "I", Cond.methodLink RX10 138 yX10_takesItem, Cond.instanceMethod yX10_takesItem, Cond.selects RX10 yX10_takesItem yX10_takesItem]
def wsX10_takesItem : List Cond := .code yX10_takesItem cX10_takesItem 3 (some .boolean) :: ((wsX10_takesItem_r1 ++ wsX10_takesItem_r2) ++ wsX100)
def wsX10_program_r1 : List Cond := [Cond.fieldLink RX10 100 "ClearingGatesModel" "programs" "I", Cond.fieldLink RX10 124 "ClearingGatesModel" "here" "I", Cond.fieldLink RX10 131 "ClearingGatesModel" "open" "I", Cond.fieldLink RX10 107 "ClearingGatesModel" "taped" "I", Cond.fieldLink RX10 24 "ClearingGatesModel" "texts" "[I", Cond.fieldLink RX10 21 "ClearingGatesModel" "tape" "[I", Cond.fieldLink RX10 27 "ClearingGatesModel" "sizes" "[I", Cond.methodLink RX10 138 yX10_takesItem, Cond.instanceMethod yX10_takesItem, Cond.selects RX10 yX10_takesItem yX10_takesItem, Cond.initialized RX10, Cond.code yX10_takesItem cX10_takesItem 3 (some .boolean), Cond.methodLink RX10 127 yX10_byteAt, Cond.instanceMethod yX10_byteAt, Cond.selects RX10 yX10_byteAt yX10_byteAt, Cond.code yX10_byteAt cX10_byteAt 1 (some .int), Cond.methodLink RX10 146 yX10_takesBracket, Cond.instanceMethod yX10_takesBracket, Cond.selects RX10 yX10_takesBracket yX10_takesBracket, Cond.methodLink RX10 150 yX10_takesPayment, Cond.instanceMethod yX10_takesPayment, Cond.selects RX10 yX10_takesPayment yX10_takesPayment, Cond.code yX10_takesPayment cX10_takesPayment 2 (some .boolean), Cond.constantLong RX10 142 (48)]
def wsX10_program_r2 : List Cond := [Cond.constantLong RX10 144 (57), Cond.methodLink RX10 134 yX10_takesFigure, Cond.instanceMethod yX10_takesFigure, Cond.selects RX10 yX10_takesFigure yX10_takesFigure, Cond.code yX10_takesFigure cX10_takesFigure 3 (some .boolean), Cond.methodLink RX10 67 yX10_isIn, Cond.static yX10_isIn, Cond.code yX10_isIn cX10_isIn 6 (some .boolean), Cond.code yX10_takesBracket cX10_takesBracket 5 (some .boolean)]
def wsX10_program : List Cond := .code yX10_program cX10_program 4 (some .int) :: ((wsX10_program_r1 ++ wsX10_program_r2) ++ wsX100)
def wsX10_isProgram : List Cond := .code yX10_isProgram cX10_isProgram 2 (some .boolean) :: ([.fieldLink RX10 100 "ClearingGatesModel" "programs" "I", .methodLink RX10 67 yX10_isIn, .static yX10_isIn, .initialized RX10, .code yX10_isIn cX10_isIn 6 (some .boolean)] ++ wsX100)
def wsX10_run_r1 : List Cond := [Cond.fieldLink RX10 154 "ClearingGatesModel" "markMany" "I", Cond.methodLink RX10 222 Lib.Math.min.name, Cond.static Lib.Math.min.name, Cond.initialized "java/lang/Math", Cond.code Lib.Math.min.name Lib.Math.min.code 2 (some .int), Cond.fieldLink RX10 104 "ClearingGatesModel" "traced" "I", Cond.fieldLink RX10 42 "ClearingGatesModel" "trace" "[I", Cond.fieldLink RX10 39 "ClearingGatesModel" "marks" "[I", Cond.methodLink RX10 216 yX10_isProgram, Cond.instanceMethod yX10_isProgram, Cond.selects RX10 yX10_isProgram yX10_isProgram, Cond.initialized RX10, Cond.code yX10_isProgram cX10_isProgram 2 (some .boolean), Cond.fieldLink RX10 100 "ClearingGatesModel" "programs" "I", Cond.methodLink RX10 67 yX10_isIn, Cond.static yX10_isIn, Cond.code yX10_isIn cX10_isIn 6 (some .boolean), Cond.methodLink RX10 219 yX10_runs, Cond.instanceMethod yX10_runs, Cond.selects RX10 yX10_runs yX10_runs, Cond.code yX10_runs cX10_runs 3 (some .int), Cond.fieldLink RX10 157 "ClearingGatesModel" "running" "I", Cond.fieldLink RX10 197 "ClearingGatesModel" "begun" "I", Cond.fieldLink RX10 172 "ClearingGatesModel" "deep" "I"]
def wsX10_run_r2 : List Cond := [Cond.fieldLink RX10 36 "ClearingGatesModel" "held" "[I", Cond.methodLink RX10 190 yX10_keepsBooks, Cond.instanceMethod yX10_keepsBooks, Cond.selects RX10 yX10_keepsBooks yX10_keepsBooks, Cond.code yX10_keepsBooks cX10_keepsBooks 2 none, Cond.fieldLink RX10 45 "ClearingGatesModel" "keptBalances" "[I", Cond.fieldLink RX10 11 "ClearingGatesModel" "s" "[I", Cond.fieldLink RX10 48 "ClearingGatesModel" "keptFees" "[J", Cond.fieldLink RX10 110 "ClearingGatesModel" "fees" "J", Cond.methodLink RX10 187 yX10_does, Cond.instanceMethod yX10_does, Cond.selects RX10 yX10_does yX10_does, Cond.code yX10_does cX10_does 4 (some .int), Cond.methodLink RX10 166 yX10_isClosed, Cond.instanceMethod yX10_isClosed, Cond.selects RX10 yX10_isClosed yX10_isClosed, Cond.code yX10_isClosed cX10_isClosed 2 (some .boolean), Cond.fieldLink RX10 27 "ClearingGatesModel" "sizes" "[I", Cond.methodLink RX10 160 yX10_signAt, Cond.instanceMethod yX10_signAt, Cond.selects RX10 yX10_signAt yX10_signAt, Cond.code yX10_signAt cX10_signAt 2 (some .int), Cond.fieldLink RX10 24 "ClearingGatesModel" "texts" "[I", Cond.methodLink RX10 175 yX10_doesItem]
def wsX10_run_r3 : List Cond := [Cond.instanceMethod yX10_doesItem, Cond.selects RX10 yX10_doesItem yX10_doesItem, Cond.methodLink RX10 169 yX10_behind, Cond.instanceMethod yX10_behind, Cond.selects RX10 yX10_behind yX10_behind, Cond.code yX10_behind cX10_behind 4 (some .int), Cond.constantLong RX10 142 (48), Cond.constantLong RX10 144 (57), Cond.methodLink RX10 163 yX10_insideOf, Cond.instanceMethod yX10_insideOf, Cond.selects RX10 yX10_insideOf yX10_insideOf, Cond.code yX10_insideOf cX10_insideOf 2 (some .int), Cond.code yX10_block cX10_block 4 (some .int), Cond.methodLink RX10 178 yX10_figureAt, Cond.instanceMethod yX10_figureAt, Cond.selects RX10 yX10_figureAt yX10_figureAt, Cond.code yX10_figureAt cX10_figureAt 2 (some .int), Cond.methodLink RX10 181 yX10_hasGate, Cond.instanceMethod yX10_hasGate, Cond.selects RX10 yX10_hasGate yX10_hasGate, Cond.code yX10_hasGate cX10_hasGate 2 (some .boolean), Cond.methodLink RX10 75 yX10_isAccount, Cond.instanceMethod yX10_isAccount, Cond.selects RX10 yX10_isAccount yX10_isAccount]
def wsX10_run_r4 : List Cond := [Cond.code yX10_isAccount cX10_isAccount 2 (some .boolean), Cond.methodLink RX10 184 yX10_marks, Cond.instanceMethod yX10_marks, Cond.selects RX10 yX10_marks yX10_marks, Cond.code yX10_marks cX10_marks 2 none, Cond.code yX10_doesItem cX10_doesItem 2 (some .int), Cond.methodLink RX10 200 yX10_block, Cond.instanceMethod yX10_block, Cond.selects RX10 yX10_block yX10_block, Cond.methodLink RX10 203 yX10_tries, Cond.instanceMethod yX10_tries, Cond.selects RX10 yX10_tries yX10_tries, Cond.methodLink RX10 207 yX10_loops, Cond.instanceMethod yX10_loops, Cond.selects RX10 yX10_loops yX10_loops, Cond.methodLink RX10 210 yX10_pays, Cond.instanceMethod yX10_pays, Cond.selects RX10 yX10_pays yX10_pays, Cond.code yX10_pays cX10_pays 7 (some .int), Cond.constantLong RX10 73 (1000000000), Cond.methodLink RX10 83 yX10_feeOf, Cond.instanceMethod yX10_feeOf, Cond.selects RX10 yX10_feeOf yX10_feeOf, Cond.code yX10_feeOf cX10_feeOf 4 (some .int)]
def wsX10_run_r5 : List Cond := [Cond.methodLink RX10 92 yX10_floorOf, Cond.instanceMethod yX10_floorOf, Cond.selects RX10 yX10_floorOf yX10_floorOf, Cond.code yX10_floorOf cX10_floorOf 2 (some .int), Cond.methodLink RX10 213 yX10_rings, Cond.instanceMethod yX10_rings, Cond.selects RX10 yX10_rings yX10_rings, Cond.code yX10_rings cX10_rings 3 (some .int), Cond.code yX10_loops cX10_loops 4 (some .int), Cond.code yX10_tries cX10_tries 5 (some .int), Cond.constantLong RX10 90 (2), Cond.constantLong RX10 71 (4), Cond.methodLink RX10 193 yX10_forgetsBooks, Cond.instanceMethod yX10_forgetsBooks, Cond.selects RX10 yX10_forgetsBooks yX10_forgetsBooks, Cond.code yX10_forgetsBooks cX10_forgetsBooks 3 none]
def wsX10_run : List Cond := .code yX10_run cX10_run 4 (some .int) :: ((wsX10_run_r1 ++ (wsX10_run_r2 ++ (wsX10_run_r3 ++ (wsX10_run_r4 ++ wsX10_run_r5)))) ++ wsX100)
def wsX10_trace : List Cond := .code yX10_trace cX10_trace 2 (some .int) :: ([.fieldLink RX10 104 "ClearingGatesModel" "traced" "I", .fieldLink RX10 42 "ClearingGatesModel" "trace" "[I", .methodLink RX10 67 yX10_isIn, .static yX10_isIn, .initialized RX10, .code yX10_isIn cX10_isIn 6 (some .boolean)] ++ wsX100)
def wsX10_would_r1 : List Cond := [Cond.constantLong RX10 236 (3), Cond.constantLong RX10 238 (10), Cond.fieldLink RX10 11 "ClearingGatesModel" "s" "[I", Cond.constantLong RX10 81 (-9223372036854775808), Cond.fieldLink RX10 110 "ClearingGatesModel" "fees" "J", Cond.fieldLink RX10 154 "ClearingGatesModel" "markMany" "I", Cond.methodLink RX10 216 yX10_isProgram, Cond.instanceMethod yX10_isProgram, Cond.selects RX10 yX10_isProgram yX10_isProgram, Cond.initialized RX10, Cond.code yX10_isProgram cX10_isProgram 2 (some .boolean), Cond.fieldLink RX10 100 "ClearingGatesModel" "programs" "I", Cond.methodLink RX10 67 yX10_isIn, Cond.static yX10_isIn, Cond.code yX10_isIn cX10_isIn 6 (some .boolean), Cond.methodLink RX10 240 yX10_entries, Cond.instanceMethod yX10_entries, Cond.selects RX10 yX10_entries yX10_entries, Cond.code yX10_entries cX10_entries 4 (some .long), Cond.methodLink RX10 244 yX10_thinks, Cond.instanceMethod yX10_thinks, Cond.selects RX10 yX10_thinks yX10_thinks, Cond.code yX10_thinks cX10_thinks 1 none, Cond.fieldLink RX10 15 "ClearingGatesModel" "thought" "[I"]
def wsX10_would_r2 : List Cond := [Cond.methodLink RX10 227 arraycopyName, Cond.native arraycopyName, Cond.static arraycopyName, Cond.initialized "java/lang/System", Cond.fieldLink RX10 233 "ClearingGatesModel" "thoughtFees" "J", Cond.methodLink RX10 219 yX10_runs, Cond.instanceMethod yX10_runs, Cond.selects RX10 yX10_runs yX10_runs, Cond.code yX10_runs cX10_runs 3 (some .int), Cond.fieldLink RX10 157 "ClearingGatesModel" "running" "I", Cond.fieldLink RX10 197 "ClearingGatesModel" "begun" "I", Cond.fieldLink RX10 172 "ClearingGatesModel" "deep" "I", Cond.fieldLink RX10 36 "ClearingGatesModel" "held" "[I", Cond.methodLink RX10 190 yX10_keepsBooks, Cond.instanceMethod yX10_keepsBooks, Cond.selects RX10 yX10_keepsBooks yX10_keepsBooks, Cond.code yX10_keepsBooks cX10_keepsBooks 2 none, Cond.fieldLink RX10 45 "ClearingGatesModel" "keptBalances" "[I", Cond.fieldLink RX10 48 "ClearingGatesModel" "keptFees" "[J", Cond.methodLink RX10 187 yX10_does, Cond.instanceMethod yX10_does, Cond.selects RX10 yX10_does yX10_does, Cond.code yX10_does cX10_does 4 (some .int), Cond.methodLink RX10 166 yX10_isClosed]
def wsX10_would_r3 : List Cond := [Cond.instanceMethod yX10_isClosed, Cond.selects RX10 yX10_isClosed yX10_isClosed, Cond.code yX10_isClosed cX10_isClosed 2 (some .boolean), Cond.fieldLink RX10 27 "ClearingGatesModel" "sizes" "[I", Cond.methodLink RX10 160 yX10_signAt, Cond.instanceMethod yX10_signAt, Cond.selects RX10 yX10_signAt yX10_signAt, Cond.code yX10_signAt cX10_signAt 2 (some .int), Cond.fieldLink RX10 24 "ClearingGatesModel" "texts" "[I", Cond.methodLink RX10 175 yX10_doesItem, Cond.instanceMethod yX10_doesItem, Cond.selects RX10 yX10_doesItem yX10_doesItem, Cond.methodLink RX10 169 yX10_behind, Cond.instanceMethod yX10_behind, Cond.selects RX10 yX10_behind yX10_behind, Cond.code yX10_behind cX10_behind 4 (some .int), Cond.constantLong RX10 142 (48), Cond.constantLong RX10 144 (57), Cond.methodLink RX10 163 yX10_insideOf, Cond.instanceMethod yX10_insideOf, Cond.selects RX10 yX10_insideOf yX10_insideOf, Cond.code yX10_insideOf cX10_insideOf 2 (some .int), Cond.code yX10_block cX10_block 4 (some .int), Cond.methodLink RX10 178 yX10_figureAt]
def wsX10_would_r4 : List Cond := [Cond.instanceMethod yX10_figureAt, Cond.selects RX10 yX10_figureAt yX10_figureAt, Cond.code yX10_figureAt cX10_figureAt 2 (some .int), Cond.methodLink RX10 181 yX10_hasGate, Cond.instanceMethod yX10_hasGate, Cond.selects RX10 yX10_hasGate yX10_hasGate, Cond.code yX10_hasGate cX10_hasGate 2 (some .boolean), Cond.methodLink RX10 75 yX10_isAccount, Cond.instanceMethod yX10_isAccount, Cond.selects RX10 yX10_isAccount yX10_isAccount, Cond.code yX10_isAccount cX10_isAccount 2 (some .boolean), Cond.methodLink RX10 184 yX10_marks, Cond.instanceMethod yX10_marks, Cond.selects RX10 yX10_marks yX10_marks, Cond.code yX10_marks cX10_marks 2 none, Cond.fieldLink RX10 39 "ClearingGatesModel" "marks" "[I", Cond.code yX10_doesItem cX10_doesItem 2 (some .int), Cond.methodLink RX10 200 yX10_block, Cond.instanceMethod yX10_block, Cond.selects RX10 yX10_block yX10_block, Cond.methodLink RX10 203 yX10_tries, Cond.instanceMethod yX10_tries, Cond.selects RX10 yX10_tries yX10_tries, Cond.methodLink RX10 207 yX10_loops]
def wsX10_would_r5 : List Cond := [Cond.instanceMethod yX10_loops, Cond.selects RX10 yX10_loops yX10_loops, Cond.methodLink RX10 210 yX10_pays, Cond.instanceMethod yX10_pays, Cond.selects RX10 yX10_pays yX10_pays, Cond.code yX10_pays cX10_pays 7 (some .int), Cond.constantLong RX10 73 (1000000000), Cond.methodLink RX10 83 yX10_feeOf, Cond.instanceMethod yX10_feeOf, Cond.selects RX10 yX10_feeOf yX10_feeOf, Cond.code yX10_feeOf cX10_feeOf 4 (some .int), Cond.methodLink RX10 92 yX10_floorOf, Cond.instanceMethod yX10_floorOf, Cond.selects RX10 yX10_floorOf yX10_floorOf, Cond.code yX10_floorOf cX10_floorOf 2 (some .int), Cond.methodLink RX10 213 yX10_rings, Cond.instanceMethod yX10_rings, Cond.selects RX10 yX10_rings yX10_rings, Cond.code yX10_rings cX10_rings 3 (some .int), Cond.code yX10_loops cX10_loops 4 (some .int), Cond.code yX10_tries cX10_tries 5 (some .int), Cond.constantLong RX10 90 (2), Cond.constantLong RX10 71 (4), Cond.methodLink RX10 193 yX10_forgetsBooks]
def wsX10_would_r6 : List Cond := [Cond.instanceMethod yX10_forgetsBooks, Cond.selects RX10 yX10_forgetsBooks yX10_forgetsBooks, Cond.code yX10_forgetsBooks cX10_forgetsBooks 3 none, Cond.methodLink RX10 247 yX10_wakes, Cond.instanceMethod yX10_wakes, Cond.selects RX10 yX10_wakes yX10_wakes, Cond.code yX10_wakes cX10_wakes 1 none]
def wsX10_would : List Cond := .code yX10_would cX10_would 8 (some .long) :: ((wsX10_would_r1 ++ (wsX10_would_r2 ++ (wsX10_would_r3 ++ (wsX10_would_r4 ++ (wsX10_would_r5 ++ wsX10_would_r6))))) ++ wsX100)
def wsX10_needed_r1 : List Cond := [Cond.fieldLink RX10 11 "ClearingGatesModel" "s" "[I", Cond.constant RX10 254 (1048576), Cond.methodLink RX10 216 yX10_isProgram, Cond.instanceMethod yX10_isProgram, Cond.selects RX10 yX10_isProgram yX10_isProgram, Cond.initialized RX10, Cond.code yX10_isProgram cX10_isProgram 2 (some .boolean), Cond.fieldLink RX10 100 "ClearingGatesModel" "programs" "I", Cond.methodLink RX10 67 yX10_isIn, Cond.static yX10_isIn, Cond.code yX10_isIn cX10_isIn 6 (some .boolean), Cond.methodLink RX10 75 yX10_isAccount, Cond.instanceMethod yX10_isAccount, Cond.selects RX10 yX10_isAccount yX10_isAccount, Cond.code yX10_isAccount cX10_isAccount 2 (some .boolean), Cond.methodLink RX10 255 yX10_outcomeOf, Cond.instanceMethod yX10_outcomeOf, Cond.selects RX10 yX10_outcomeOf yX10_outcomeOf, Cond.code yX10_outcomeOf cX10_outcomeOf 2 (some .int), Cond.methodLink RX10 250 yX10_would, Cond.instanceMethod yX10_would, Cond.selects RX10 yX10_would yX10_would, Cond.code yX10_would cX10_would 8 (some .long), Cond.constantLong RX10 236 (3)]
def wsX10_needed_r2 : List Cond := [Cond.constantLong RX10 238 (10), Cond.constantLong RX10 81 (-9223372036854775808), Cond.fieldLink RX10 110 "ClearingGatesModel" "fees" "J", Cond.fieldLink RX10 154 "ClearingGatesModel" "markMany" "I", Cond.methodLink RX10 240 yX10_entries, Cond.instanceMethod yX10_entries, Cond.selects RX10 yX10_entries yX10_entries, Cond.code yX10_entries cX10_entries 4 (some .long), Cond.methodLink RX10 244 yX10_thinks, Cond.instanceMethod yX10_thinks, Cond.selects RX10 yX10_thinks yX10_thinks, Cond.code yX10_thinks cX10_thinks 1 none, Cond.fieldLink RX10 15 "ClearingGatesModel" "thought" "[I", Cond.methodLink RX10 227 arraycopyName, Cond.native arraycopyName, Cond.static arraycopyName, Cond.initialized "java/lang/System", Cond.fieldLink RX10 233 "ClearingGatesModel" "thoughtFees" "J", Cond.methodLink RX10 219 yX10_runs, Cond.instanceMethod yX10_runs, Cond.selects RX10 yX10_runs yX10_runs, Cond.code yX10_runs cX10_runs 3 (some .int), Cond.fieldLink RX10 157 "ClearingGatesModel" "running" "I", Cond.fieldLink RX10 197 "ClearingGatesModel" "begun" "I"]
def wsX10_needed_r3 : List Cond := [Cond.fieldLink RX10 172 "ClearingGatesModel" "deep" "I", Cond.fieldLink RX10 36 "ClearingGatesModel" "held" "[I", Cond.methodLink RX10 190 yX10_keepsBooks, Cond.instanceMethod yX10_keepsBooks, Cond.selects RX10 yX10_keepsBooks yX10_keepsBooks, Cond.code yX10_keepsBooks cX10_keepsBooks 2 none, Cond.fieldLink RX10 45 "ClearingGatesModel" "keptBalances" "[I", Cond.fieldLink RX10 48 "ClearingGatesModel" "keptFees" "[J", Cond.methodLink RX10 187 yX10_does, Cond.instanceMethod yX10_does, Cond.selects RX10 yX10_does yX10_does, Cond.code yX10_does cX10_does 4 (some .int), Cond.methodLink RX10 166 yX10_isClosed, Cond.instanceMethod yX10_isClosed, Cond.selects RX10 yX10_isClosed yX10_isClosed, Cond.code yX10_isClosed cX10_isClosed 2 (some .boolean), Cond.fieldLink RX10 27 "ClearingGatesModel" "sizes" "[I", Cond.methodLink RX10 160 yX10_signAt, Cond.instanceMethod yX10_signAt, Cond.selects RX10 yX10_signAt yX10_signAt, Cond.code yX10_signAt cX10_signAt 2 (some .int), Cond.fieldLink RX10 24 "ClearingGatesModel" "texts" "[I", Cond.methodLink RX10 175 yX10_doesItem, Cond.instanceMethod yX10_doesItem]
def wsX10_needed_r4 : List Cond := [Cond.selects RX10 yX10_doesItem yX10_doesItem, Cond.methodLink RX10 169 yX10_behind, Cond.instanceMethod yX10_behind, Cond.selects RX10 yX10_behind yX10_behind, Cond.code yX10_behind cX10_behind 4 (some .int), Cond.constantLong RX10 142 (48), Cond.constantLong RX10 144 (57), Cond.methodLink RX10 163 yX10_insideOf, Cond.instanceMethod yX10_insideOf, Cond.selects RX10 yX10_insideOf yX10_insideOf, Cond.code yX10_insideOf cX10_insideOf 2 (some .int), Cond.code yX10_block cX10_block 4 (some .int), Cond.methodLink RX10 178 yX10_figureAt, Cond.instanceMethod yX10_figureAt, Cond.selects RX10 yX10_figureAt yX10_figureAt, Cond.code yX10_figureAt cX10_figureAt 2 (some .int), Cond.methodLink RX10 181 yX10_hasGate, Cond.instanceMethod yX10_hasGate, Cond.selects RX10 yX10_hasGate yX10_hasGate, Cond.code yX10_hasGate cX10_hasGate 2 (some .boolean), Cond.methodLink RX10 184 yX10_marks, Cond.instanceMethod yX10_marks, Cond.selects RX10 yX10_marks yX10_marks, Cond.code yX10_marks cX10_marks 2 none]
def wsX10_needed_r5 : List Cond := [Cond.fieldLink RX10 39 "ClearingGatesModel" "marks" "[I", Cond.code yX10_doesItem cX10_doesItem 2 (some .int), Cond.methodLink RX10 200 yX10_block, Cond.instanceMethod yX10_block, Cond.selects RX10 yX10_block yX10_block, Cond.methodLink RX10 203 yX10_tries, Cond.instanceMethod yX10_tries, Cond.selects RX10 yX10_tries yX10_tries, Cond.methodLink RX10 207 yX10_loops, Cond.instanceMethod yX10_loops, Cond.selects RX10 yX10_loops yX10_loops, Cond.methodLink RX10 210 yX10_pays, Cond.instanceMethod yX10_pays, Cond.selects RX10 yX10_pays yX10_pays, Cond.code yX10_pays cX10_pays 7 (some .int), Cond.constantLong RX10 73 (1000000000), Cond.methodLink RX10 83 yX10_feeOf, Cond.instanceMethod yX10_feeOf, Cond.selects RX10 yX10_feeOf yX10_feeOf, Cond.code yX10_feeOf cX10_feeOf 4 (some .int), Cond.methodLink RX10 92 yX10_floorOf, Cond.instanceMethod yX10_floorOf, Cond.selects RX10 yX10_floorOf yX10_floorOf, Cond.code yX10_floorOf cX10_floorOf 2 (some .int)]
def wsX10_needed_r6 : List Cond := [Cond.methodLink RX10 213 yX10_rings, Cond.instanceMethod yX10_rings, Cond.selects RX10 yX10_rings yX10_rings, Cond.code yX10_rings cX10_rings 3 (some .int), Cond.code yX10_loops cX10_loops 4 (some .int), Cond.code yX10_tries cX10_tries 5 (some .int), Cond.constantLong RX10 90 (2), Cond.constantLong RX10 71 (4), Cond.methodLink RX10 193 yX10_forgetsBooks, Cond.instanceMethod yX10_forgetsBooks, Cond.selects RX10 yX10_forgetsBooks yX10_forgetsBooks, Cond.code yX10_forgetsBooks cX10_forgetsBooks 3 none, Cond.methodLink RX10 247 yX10_wakes, Cond.instanceMethod yX10_wakes, Cond.selects RX10 yX10_wakes yX10_wakes, Cond.code yX10_wakes cX10_wakes 1 none]
def wsX10_needed : List Cond := .code yX10_needed cX10_needed 6 (some .int) :: ((wsX10_needed_r1 ++ (wsX10_needed_r2 ++ (wsX10_needed_r3 ++ (wsX10_needed_r4 ++ (wsX10_needed_r5 ++ wsX10_needed_r6))))) ++ wsX100)
def wsX10_hinges_r1 : List Cond := [Cond.fieldLink RX10 11 "ClearingGatesModel" "s" "[I", Cond.methodLink RX10 216 yX10_isProgram, Cond.instanceMethod yX10_isProgram, Cond.selects RX10 yX10_isProgram yX10_isProgram, Cond.initialized RX10, Cond.code yX10_isProgram cX10_isProgram 2 (some .boolean), Cond.fieldLink RX10 100 "ClearingGatesModel" "programs" "I", Cond.methodLink RX10 67 yX10_isIn, Cond.static yX10_isIn, Cond.code yX10_isIn cX10_isIn 6 (some .boolean), Cond.methodLink RX10 255 yX10_outcomeOf, Cond.instanceMethod yX10_outcomeOf, Cond.selects RX10 yX10_outcomeOf yX10_outcomeOf, Cond.code yX10_outcomeOf cX10_outcomeOf 2 (some .int), Cond.methodLink RX10 250 yX10_would, Cond.instanceMethod yX10_would, Cond.selects RX10 yX10_would yX10_would, Cond.code yX10_would cX10_would 8 (some .long), Cond.constantLong RX10 236 (3), Cond.constantLong RX10 238 (10), Cond.constantLong RX10 81 (-9223372036854775808), Cond.fieldLink RX10 110 "ClearingGatesModel" "fees" "J", Cond.fieldLink RX10 154 "ClearingGatesModel" "markMany" "I", Cond.methodLink RX10 240 yX10_entries]
def wsX10_hinges_r2 : List Cond := [Cond.instanceMethod yX10_entries, Cond.selects RX10 yX10_entries yX10_entries, Cond.code yX10_entries cX10_entries 4 (some .long), Cond.methodLink RX10 244 yX10_thinks, Cond.instanceMethod yX10_thinks, Cond.selects RX10 yX10_thinks yX10_thinks, Cond.code yX10_thinks cX10_thinks 1 none, Cond.fieldLink RX10 15 "ClearingGatesModel" "thought" "[I", Cond.methodLink RX10 227 arraycopyName, Cond.native arraycopyName, Cond.static arraycopyName, Cond.initialized "java/lang/System", Cond.fieldLink RX10 233 "ClearingGatesModel" "thoughtFees" "J", Cond.methodLink RX10 219 yX10_runs, Cond.instanceMethod yX10_runs, Cond.selects RX10 yX10_runs yX10_runs, Cond.code yX10_runs cX10_runs 3 (some .int), Cond.fieldLink RX10 157 "ClearingGatesModel" "running" "I", Cond.fieldLink RX10 197 "ClearingGatesModel" "begun" "I", Cond.fieldLink RX10 172 "ClearingGatesModel" "deep" "I", Cond.fieldLink RX10 36 "ClearingGatesModel" "held" "[I", Cond.methodLink RX10 190 yX10_keepsBooks, Cond.instanceMethod yX10_keepsBooks, Cond.selects RX10 yX10_keepsBooks yX10_keepsBooks]
def wsX10_hinges_r3 : List Cond := [Cond.code yX10_keepsBooks cX10_keepsBooks 2 none, Cond.fieldLink RX10 45 "ClearingGatesModel" "keptBalances" "[I", Cond.fieldLink RX10 48 "ClearingGatesModel" "keptFees" "[J", Cond.methodLink RX10 187 yX10_does, Cond.instanceMethod yX10_does, Cond.selects RX10 yX10_does yX10_does, Cond.code yX10_does cX10_does 4 (some .int), Cond.methodLink RX10 166 yX10_isClosed, Cond.instanceMethod yX10_isClosed, Cond.selects RX10 yX10_isClosed yX10_isClosed, Cond.code yX10_isClosed cX10_isClosed 2 (some .boolean), Cond.fieldLink RX10 27 "ClearingGatesModel" "sizes" "[I", Cond.methodLink RX10 160 yX10_signAt, Cond.instanceMethod yX10_signAt, Cond.selects RX10 yX10_signAt yX10_signAt, Cond.code yX10_signAt cX10_signAt 2 (some .int), Cond.fieldLink RX10 24 "ClearingGatesModel" "texts" "[I", Cond.methodLink RX10 175 yX10_doesItem, Cond.instanceMethod yX10_doesItem, Cond.selects RX10 yX10_doesItem yX10_doesItem, Cond.methodLink RX10 169 yX10_behind, Cond.instanceMethod yX10_behind, Cond.selects RX10 yX10_behind yX10_behind, Cond.code yX10_behind cX10_behind 4 (some .int)]
def wsX10_hinges_r4 : List Cond := [Cond.constantLong RX10 142 (48), Cond.constantLong RX10 144 (57), Cond.methodLink RX10 163 yX10_insideOf, Cond.instanceMethod yX10_insideOf, Cond.selects RX10 yX10_insideOf yX10_insideOf, Cond.code yX10_insideOf cX10_insideOf 2 (some .int), Cond.code yX10_block cX10_block 4 (some .int), Cond.methodLink RX10 178 yX10_figureAt, Cond.instanceMethod yX10_figureAt, Cond.selects RX10 yX10_figureAt yX10_figureAt, Cond.code yX10_figureAt cX10_figureAt 2 (some .int), Cond.methodLink RX10 181 yX10_hasGate, Cond.instanceMethod yX10_hasGate, Cond.selects RX10 yX10_hasGate yX10_hasGate, Cond.code yX10_hasGate cX10_hasGate 2 (some .boolean), Cond.methodLink RX10 75 yX10_isAccount, Cond.instanceMethod yX10_isAccount, Cond.selects RX10 yX10_isAccount yX10_isAccount, Cond.code yX10_isAccount cX10_isAccount 2 (some .boolean), Cond.methodLink RX10 184 yX10_marks, Cond.instanceMethod yX10_marks, Cond.selects RX10 yX10_marks yX10_marks, Cond.code yX10_marks cX10_marks 2 none, Cond.fieldLink RX10 39 "ClearingGatesModel" "marks" "[I"]
def wsX10_hinges_r5 : List Cond := [Cond.code yX10_doesItem cX10_doesItem 2 (some .int), Cond.methodLink RX10 200 yX10_block, Cond.instanceMethod yX10_block, Cond.selects RX10 yX10_block yX10_block, Cond.methodLink RX10 203 yX10_tries, Cond.instanceMethod yX10_tries, Cond.selects RX10 yX10_tries yX10_tries, Cond.methodLink RX10 207 yX10_loops, Cond.instanceMethod yX10_loops, Cond.selects RX10 yX10_loops yX10_loops, Cond.methodLink RX10 210 yX10_pays, Cond.instanceMethod yX10_pays, Cond.selects RX10 yX10_pays yX10_pays, Cond.code yX10_pays cX10_pays 7 (some .int), Cond.constantLong RX10 73 (1000000000), Cond.methodLink RX10 83 yX10_feeOf, Cond.instanceMethod yX10_feeOf, Cond.selects RX10 yX10_feeOf yX10_feeOf, Cond.code yX10_feeOf cX10_feeOf 4 (some .int), Cond.methodLink RX10 92 yX10_floorOf, Cond.instanceMethod yX10_floorOf, Cond.selects RX10 yX10_floorOf yX10_floorOf, Cond.code yX10_floorOf cX10_floorOf 2 (some .int), Cond.methodLink RX10 213 yX10_rings]
def wsX10_hinges_r6 : List Cond := [Cond.instanceMethod yX10_rings, Cond.selects RX10 yX10_rings yX10_rings, Cond.code yX10_rings cX10_rings 3 (some .int), Cond.code yX10_loops cX10_loops 4 (some .int), Cond.code yX10_tries cX10_tries 5 (some .int), Cond.constantLong RX10 90 (2), Cond.constantLong RX10 71 (4), Cond.methodLink RX10 193 yX10_forgetsBooks, Cond.instanceMethod yX10_forgetsBooks, Cond.selects RX10 yX10_forgetsBooks yX10_forgetsBooks, Cond.code yX10_forgetsBooks cX10_forgetsBooks 3 none, Cond.methodLink RX10 247 yX10_wakes, Cond.instanceMethod yX10_wakes, Cond.selects RX10 yX10_wakes yX10_wakes, Cond.code yX10_wakes cX10_wakes 1 none]
def wsX10_hinges : List Cond := .code yX10_hinges cX10_hinges 5 (some .int) :: ((wsX10_hinges_r1 ++ (wsX10_hinges_r2 ++ (wsX10_hinges_r3 ++ (wsX10_hinges_r4 ++ (wsX10_hinges_r5 ++ wsX10_hinges_r6))))) ++ wsX100)
def wsX10_areTwo : List Cond := .code yX10_areTwo cX10_areTwo 3 (some .boolean) :: ([.methodLink RX10 75 yX10_isAccount, .instanceMethod yX10_isAccount, .selects RX10 yX10_isAccount yX10_isAccount, .initialized RX10, .code yX10_isAccount cX10_isAccount 2 (some .boolean), .fieldLink RX10 11 "ClearingGatesModel" "s" "[I", .methodLink RX10 67 yX10_isIn, .static yX10_isIn, .code yX10_isIn cX10_isIn 6 (some .boolean)] ++ wsX100)
def wsX10_owe : List Cond := .code yX10_owe cX10_owe 5 (some .int) :: ([.constantLong RX10 261 (99999), .fieldLink RX10 11 "ClearingGatesModel" "s" "[I", .methodLink RX10 258 yX10_areTwo, .instanceMethod yX10_areTwo, .selects RX10 yX10_areTwo yX10_areTwo, .initialized RX10, .code yX10_areTwo cX10_areTwo 3 (some .boolean), .methodLink RX10 75 yX10_isAccount, .instanceMethod yX10_isAccount, .selects RX10 yX10_isAccount yX10_isAccount, .code yX10_isAccount cX10_isAccount 2 (some .boolean), .methodLink RX10 67 yX10_isIn, .static yX10_isIn, .code yX10_isIn cX10_isIn 6 (some .boolean), .methodLink RX10 87 yX10_owedTo, .instanceMethod yX10_owedTo, .selects RX10 yX10_owedTo yX10_owedTo, .code yX10_owedTo cX10_owedTo 3 (some .int)] ++ wsX100)
def wsX10_owed : List Cond := .code yX10_owed cX10_owed 3 (some .int) :: ([.methodLink RX10 258 yX10_areTwo, .instanceMethod yX10_areTwo, .selects RX10 yX10_areTwo yX10_areTwo, .initialized RX10, .code yX10_areTwo cX10_areTwo 3 (some .boolean), .methodLink RX10 75 yX10_isAccount, .instanceMethod yX10_isAccount, .selects RX10 yX10_isAccount yX10_isAccount, .code yX10_isAccount cX10_isAccount 2 (some .boolean), .fieldLink RX10 11 "ClearingGatesModel" "s" "[I", .methodLink RX10 67 yX10_isIn, .static yX10_isIn, .code yX10_isIn cX10_isIn 6 (some .boolean), .methodLink RX10 87 yX10_owedTo, .instanceMethod yX10_owedTo, .selects RX10 yX10_owedTo yX10_owedTo, .code yX10_owedTo cX10_owedTo 3 (some .int)] ++ wsX100)
def wsX10_firstRing : List Cond := .code yX10_firstRing cX10_firstRing 3 (some .int) :: ([.fieldLink RX10 11 "ClearingGatesModel" "s" "[I", .fieldLink RX10 52 "ClearingGatesModel" "way" "[I", .methodLink RX10 263 yX10_ringFrom, .instanceMethod yX10_ringFrom, .selects RX10 yX10_ringFrom yX10_ringFrom, .initialized RX10, .code yX10_ringFrom cX10_ringFrom 6 (some .int), .methodLink RX10 87 yX10_owedTo, .instanceMethod yX10_owedTo, .selects RX10 yX10_owedTo yX10_owedTo, .code yX10_owedTo cX10_owedTo 3 (some .int)] ++ wsX100)
def wsX10_net : List Cond := .code yX10_net cX10_net 5 (some .int) :: ([.fieldLink RX10 11 "ClearingGatesModel" "s" "[I", .constant RX10 269 (99999), .fieldLink RX10 52 "ClearingGatesModel" "way" "[I", .methodLink RX10 222 Lib.Math.min.name, .static Lib.Math.min.name, .initialized "java/lang/Math", .code Lib.Math.min.name Lib.Math.min.code 2 (some .int), .methodLink RX10 266 yX10_firstRing, .instanceMethod yX10_firstRing, .selects RX10 yX10_firstRing yX10_firstRing, .initialized RX10, .code yX10_firstRing cX10_firstRing 3 (some .int), .methodLink RX10 263 yX10_ringFrom, .instanceMethod yX10_ringFrom, .selects RX10 yX10_ringFrom yX10_ringFrom, .code yX10_ringFrom cX10_ringFrom 6 (some .int), .methodLink RX10 87 yX10_owedTo, .instanceMethod yX10_owedTo, .selects RX10 yX10_owedTo yX10_owedTo, .code yX10_owedTo cX10_owedTo 3 (some .int)] ++ wsX100)
def wsX10_isSheet : List Cond := .code yX10_isSheet cX10_isSheet 1 (some .boolean) :: ([.constantLong RX10 236 (3), .methodLink RX10 67 yX10_isIn, .static yX10_isIn, .initialized RX10, .code yX10_isIn cX10_isIn 6 (some .boolean)])
def wsX10_tells_r1 : List Cond := [Cond.fieldLink RX10 55 "ClearingGatesModel" "sorts" "[I", Cond.fieldLink RX10 11 "ClearingGatesModel" "s" "[I", Cond.methodLink RX10 273 yX10_isSheet, Cond.static yX10_isSheet, Cond.initialized RX10, Cond.code yX10_isSheet cX10_isSheet 1 (some .boolean), Cond.constantLong RX10 236 (3), Cond.methodLink RX10 67 yX10_isIn, Cond.static yX10_isIn, Cond.code yX10_isIn cX10_isIn 6 (some .boolean), Cond.methodLink RX10 216 yX10_isProgram, Cond.instanceMethod yX10_isProgram, Cond.selects RX10 yX10_isProgram yX10_isProgram, Cond.code yX10_isProgram cX10_isProgram 2 (some .boolean), Cond.fieldLink RX10 100 "ClearingGatesModel" "programs" "I", Cond.methodLink RX10 75 yX10_isAccount, Cond.instanceMethod yX10_isAccount, Cond.selects RX10 yX10_isAccount yX10_isAccount, Cond.code yX10_isAccount cX10_isAccount 2 (some .boolean), Cond.methodLink RX10 276 yX10_otherIn, Cond.instanceMethod yX10_otherIn, Cond.selects RX10 yX10_otherIn yX10_otherIn, Cond.code yX10_otherIn cX10_otherIn 6 (some .int), Cond.fieldLink RX10 154 "ClearingGatesModel" "markMany" "I"]
def wsX10_tells_r2 : List Cond := [Cond.methodLink RX10 222 Lib.Math.min.name, Cond.static Lib.Math.min.name, Cond.initialized "java/lang/Math", Cond.code Lib.Math.min.name Lib.Math.min.code 2 (some .int), Cond.fieldLink RX10 58 "ClearingGatesModel" "rowMany" "[I", Cond.fieldLink RX10 39 "ClearingGatesModel" "marks" "[I", Cond.methodLink RX10 244 yX10_thinks, Cond.instanceMethod yX10_thinks, Cond.selects RX10 yX10_thinks yX10_thinks, Cond.code yX10_thinks cX10_thinks 1 none, Cond.fieldLink RX10 15 "ClearingGatesModel" "thought" "[I", Cond.methodLink RX10 227 arraycopyName, Cond.native arraycopyName, Cond.static arraycopyName, Cond.initialized "java/lang/System", Cond.fieldLink RX10 110 "ClearingGatesModel" "fees" "J", Cond.fieldLink RX10 233 "ClearingGatesModel" "thoughtFees" "J", Cond.methodLink RX10 219 yX10_runs, Cond.instanceMethod yX10_runs, Cond.selects RX10 yX10_runs yX10_runs, Cond.code yX10_runs cX10_runs 3 (some .int), Cond.fieldLink RX10 157 "ClearingGatesModel" "running" "I", Cond.fieldLink RX10 197 "ClearingGatesModel" "begun" "I", Cond.fieldLink RX10 172 "ClearingGatesModel" "deep" "I"]
def wsX10_tells_r3 : List Cond := [Cond.fieldLink RX10 36 "ClearingGatesModel" "held" "[I", Cond.methodLink RX10 190 yX10_keepsBooks, Cond.instanceMethod yX10_keepsBooks, Cond.selects RX10 yX10_keepsBooks yX10_keepsBooks, Cond.code yX10_keepsBooks cX10_keepsBooks 2 none, Cond.fieldLink RX10 45 "ClearingGatesModel" "keptBalances" "[I", Cond.fieldLink RX10 48 "ClearingGatesModel" "keptFees" "[J", Cond.methodLink RX10 187 yX10_does, Cond.instanceMethod yX10_does, Cond.selects RX10 yX10_does yX10_does, Cond.code yX10_does cX10_does 4 (some .int), Cond.methodLink RX10 166 yX10_isClosed, Cond.instanceMethod yX10_isClosed, Cond.selects RX10 yX10_isClosed yX10_isClosed, Cond.code yX10_isClosed cX10_isClosed 2 (some .boolean), Cond.fieldLink RX10 27 "ClearingGatesModel" "sizes" "[I", Cond.methodLink RX10 160 yX10_signAt, Cond.instanceMethod yX10_signAt, Cond.selects RX10 yX10_signAt yX10_signAt, Cond.code yX10_signAt cX10_signAt 2 (some .int), Cond.fieldLink RX10 24 "ClearingGatesModel" "texts" "[I", Cond.methodLink RX10 175 yX10_doesItem, Cond.instanceMethod yX10_doesItem, Cond.selects RX10 yX10_doesItem yX10_doesItem]
def wsX10_tells_r4 : List Cond := [Cond.methodLink RX10 169 yX10_behind, Cond.instanceMethod yX10_behind, Cond.selects RX10 yX10_behind yX10_behind, Cond.code yX10_behind cX10_behind 4 (some .int), Cond.constantLong RX10 142 (48), Cond.constantLong RX10 144 (57), Cond.methodLink RX10 163 yX10_insideOf, Cond.instanceMethod yX10_insideOf, Cond.selects RX10 yX10_insideOf yX10_insideOf, Cond.code yX10_insideOf cX10_insideOf 2 (some .int), Cond.code yX10_block cX10_block 4 (some .int), Cond.methodLink RX10 178 yX10_figureAt, Cond.instanceMethod yX10_figureAt, Cond.selects RX10 yX10_figureAt yX10_figureAt, Cond.code yX10_figureAt cX10_figureAt 2 (some .int), Cond.methodLink RX10 181 yX10_hasGate, Cond.instanceMethod yX10_hasGate, Cond.selects RX10 yX10_hasGate yX10_hasGate, Cond.code yX10_hasGate cX10_hasGate 2 (some .boolean), Cond.methodLink RX10 184 yX10_marks, Cond.instanceMethod yX10_marks, Cond.selects RX10 yX10_marks yX10_marks, Cond.code yX10_marks cX10_marks 2 none, Cond.code yX10_doesItem cX10_doesItem 2 (some .int)]
def wsX10_tells_r5 : List Cond := [Cond.methodLink RX10 200 yX10_block, Cond.instanceMethod yX10_block, Cond.selects RX10 yX10_block yX10_block, Cond.methodLink RX10 203 yX10_tries, Cond.instanceMethod yX10_tries, Cond.selects RX10 yX10_tries yX10_tries, Cond.methodLink RX10 207 yX10_loops, Cond.instanceMethod yX10_loops, Cond.selects RX10 yX10_loops yX10_loops, Cond.methodLink RX10 210 yX10_pays, Cond.instanceMethod yX10_pays, Cond.selects RX10 yX10_pays yX10_pays, Cond.code yX10_pays cX10_pays 7 (some .int), Cond.constantLong RX10 73 (1000000000), Cond.methodLink RX10 83 yX10_feeOf, Cond.instanceMethod yX10_feeOf, Cond.selects RX10 yX10_feeOf yX10_feeOf, Cond.code yX10_feeOf cX10_feeOf 4 (some .int), Cond.methodLink RX10 92 yX10_floorOf, Cond.instanceMethod yX10_floorOf, Cond.selects RX10 yX10_floorOf yX10_floorOf, Cond.code yX10_floorOf cX10_floorOf 2 (some .int), Cond.methodLink RX10 213 yX10_rings, Cond.instanceMethod yX10_rings]
def wsX10_tells_r6 : List Cond := [Cond.selects RX10 yX10_rings yX10_rings, Cond.code yX10_rings cX10_rings 3 (some .int), Cond.code yX10_loops cX10_loops 4 (some .int), Cond.code yX10_tries cX10_tries 5 (some .int), Cond.constantLong RX10 90 (2), Cond.constantLong RX10 71 (4), Cond.methodLink RX10 193 yX10_forgetsBooks, Cond.instanceMethod yX10_forgetsBooks, Cond.selects RX10 yX10_forgetsBooks yX10_forgetsBooks, Cond.code yX10_forgetsBooks cX10_forgetsBooks 3 none, Cond.methodLink RX10 247 yX10_wakes, Cond.instanceMethod yX10_wakes, Cond.selects RX10 yX10_wakes yX10_wakes, Cond.code yX10_wakes cX10_wakes 1 none, Cond.methodLink RX10 270 yX10_itemOf, Cond.instanceMethod yX10_itemOf, Cond.selects RX10 yX10_itemOf yX10_itemOf, Cond.code yX10_itemOf cX10_itemOf 3 (some .int), Cond.fieldLink RX10 61 "ClearingGatesModel" "items" "[I"]
def wsX10_tells : List Cond := .code yX10_tells cX10_tells 8 (some .int) :: ((wsX10_tells_r1 ++ (wsX10_tells_r2 ++ (wsX10_tells_r3 ++ (wsX10_tells_r4 ++ (wsX10_tells_r5 ++ wsX10_tells_r6))))) ++ wsX100)
def wsX10_sheet : List Cond := .code yX10_sheet cX10_sheet 5 (some .int) :: ([.constantLong RX10 293 (-1), .fieldLink RX10 55 "ClearingGatesModel" "sorts" "[I", .fieldLink RX10 58 "ClearingGatesModel" "rowMany" "[I", .fieldLink RX10 61 "ClearingGatesModel" "items" "[I", .methodLink RX10 273 yX10_isSheet, .static yX10_isSheet, .initialized RX10, .code yX10_isSheet cX10_isSheet 1 (some .boolean), .constantLong RX10 236 (3), .methodLink RX10 67 yX10_isIn, .static yX10_isIn, .code yX10_isIn cX10_isIn 6 (some .boolean)] ++ wsX100)
def wsX10_film_r1 : List Cond := [Cond.fieldLink RX10 154 "ClearingGatesModel" "markMany" "I", Cond.methodLink RX10 222 Lib.Math.min.name, Cond.static Lib.Math.min.name, Cond.initialized "java/lang/Math", Cond.code Lib.Math.min.name Lib.Math.min.code 2 (some .int), Cond.fieldLink RX10 61 "ClearingGatesModel" "items" "[I", Cond.fieldLink RX10 39 "ClearingGatesModel" "marks" "[I", Cond.methodLink RX10 273 yX10_isSheet, Cond.static yX10_isSheet, Cond.initialized RX10, Cond.code yX10_isSheet cX10_isSheet 1 (some .boolean), Cond.constantLong RX10 236 (3), Cond.methodLink RX10 67 yX10_isIn, Cond.static yX10_isIn, Cond.code yX10_isIn cX10_isIn 6 (some .boolean), Cond.methodLink RX10 216 yX10_isProgram, Cond.instanceMethod yX10_isProgram, Cond.selects RX10 yX10_isProgram yX10_isProgram, Cond.code yX10_isProgram cX10_isProgram 2 (some .boolean), Cond.fieldLink RX10 100 "ClearingGatesModel" "programs" "I", Cond.methodLink RX10 244 yX10_thinks, Cond.instanceMethod yX10_thinks, Cond.selects RX10 yX10_thinks yX10_thinks, Cond.code yX10_thinks cX10_thinks 1 none]
def wsX10_film_r2 : List Cond := [Cond.fieldLink RX10 11 "ClearingGatesModel" "s" "[I", Cond.fieldLink RX10 15 "ClearingGatesModel" "thought" "[I", Cond.methodLink RX10 227 arraycopyName, Cond.native arraycopyName, Cond.static arraycopyName, Cond.initialized "java/lang/System", Cond.fieldLink RX10 110 "ClearingGatesModel" "fees" "J", Cond.fieldLink RX10 233 "ClearingGatesModel" "thoughtFees" "J", Cond.methodLink RX10 219 yX10_runs, Cond.instanceMethod yX10_runs, Cond.selects RX10 yX10_runs yX10_runs, Cond.code yX10_runs cX10_runs 3 (some .int), Cond.fieldLink RX10 157 "ClearingGatesModel" "running" "I", Cond.fieldLink RX10 197 "ClearingGatesModel" "begun" "I", Cond.fieldLink RX10 172 "ClearingGatesModel" "deep" "I", Cond.fieldLink RX10 36 "ClearingGatesModel" "held" "[I", Cond.methodLink RX10 190 yX10_keepsBooks, Cond.instanceMethod yX10_keepsBooks, Cond.selects RX10 yX10_keepsBooks yX10_keepsBooks, Cond.code yX10_keepsBooks cX10_keepsBooks 2 none, Cond.fieldLink RX10 45 "ClearingGatesModel" "keptBalances" "[I", Cond.fieldLink RX10 48 "ClearingGatesModel" "keptFees" "[J", Cond.methodLink RX10 187 yX10_does, Cond.instanceMethod yX10_does]
def wsX10_film_r3 : List Cond := [Cond.selects RX10 yX10_does yX10_does, Cond.code yX10_does cX10_does 4 (some .int), Cond.methodLink RX10 166 yX10_isClosed, Cond.instanceMethod yX10_isClosed, Cond.selects RX10 yX10_isClosed yX10_isClosed, Cond.code yX10_isClosed cX10_isClosed 2 (some .boolean), Cond.fieldLink RX10 27 "ClearingGatesModel" "sizes" "[I", Cond.methodLink RX10 160 yX10_signAt, Cond.instanceMethod yX10_signAt, Cond.selects RX10 yX10_signAt yX10_signAt, Cond.code yX10_signAt cX10_signAt 2 (some .int), Cond.fieldLink RX10 24 "ClearingGatesModel" "texts" "[I", Cond.methodLink RX10 175 yX10_doesItem, Cond.instanceMethod yX10_doesItem, Cond.selects RX10 yX10_doesItem yX10_doesItem, Cond.methodLink RX10 169 yX10_behind, Cond.instanceMethod yX10_behind, Cond.selects RX10 yX10_behind yX10_behind, Cond.code yX10_behind cX10_behind 4 (some .int), Cond.constantLong RX10 142 (48), Cond.constantLong RX10 144 (57), Cond.methodLink RX10 163 yX10_insideOf, Cond.instanceMethod yX10_insideOf, Cond.selects RX10 yX10_insideOf yX10_insideOf]
def wsX10_film_r4 : List Cond := [Cond.code yX10_insideOf cX10_insideOf 2 (some .int), Cond.code yX10_block cX10_block 4 (some .int), Cond.methodLink RX10 178 yX10_figureAt, Cond.instanceMethod yX10_figureAt, Cond.selects RX10 yX10_figureAt yX10_figureAt, Cond.code yX10_figureAt cX10_figureAt 2 (some .int), Cond.methodLink RX10 181 yX10_hasGate, Cond.instanceMethod yX10_hasGate, Cond.selects RX10 yX10_hasGate yX10_hasGate, Cond.code yX10_hasGate cX10_hasGate 2 (some .boolean), Cond.methodLink RX10 75 yX10_isAccount, Cond.instanceMethod yX10_isAccount, Cond.selects RX10 yX10_isAccount yX10_isAccount, Cond.code yX10_isAccount cX10_isAccount 2 (some .boolean), Cond.methodLink RX10 184 yX10_marks, Cond.instanceMethod yX10_marks, Cond.selects RX10 yX10_marks yX10_marks, Cond.code yX10_marks cX10_marks 2 none, Cond.code yX10_doesItem cX10_doesItem 2 (some .int), Cond.methodLink RX10 200 yX10_block, Cond.instanceMethod yX10_block, Cond.selects RX10 yX10_block yX10_block, Cond.methodLink RX10 203 yX10_tries, Cond.instanceMethod yX10_tries]
def wsX10_film_r5 : List Cond := [Cond.selects RX10 yX10_tries yX10_tries, Cond.methodLink RX10 207 yX10_loops, Cond.instanceMethod yX10_loops, Cond.selects RX10 yX10_loops yX10_loops, Cond.methodLink RX10 210 yX10_pays, Cond.instanceMethod yX10_pays, Cond.selects RX10 yX10_pays yX10_pays, Cond.code yX10_pays cX10_pays 7 (some .int), Cond.constantLong RX10 73 (1000000000), Cond.methodLink RX10 83 yX10_feeOf, Cond.instanceMethod yX10_feeOf, Cond.selects RX10 yX10_feeOf yX10_feeOf, Cond.code yX10_feeOf cX10_feeOf 4 (some .int), Cond.methodLink RX10 92 yX10_floorOf, Cond.instanceMethod yX10_floorOf, Cond.selects RX10 yX10_floorOf yX10_floorOf, Cond.code yX10_floorOf cX10_floorOf 2 (some .int), Cond.methodLink RX10 213 yX10_rings, Cond.instanceMethod yX10_rings, Cond.selects RX10 yX10_rings yX10_rings, Cond.code yX10_rings cX10_rings 3 (some .int), Cond.code yX10_loops cX10_loops 4 (some .int), Cond.code yX10_tries cX10_tries 5 (some .int), Cond.constantLong RX10 90 (2)]
def wsX10_film_r6 : List Cond := [Cond.constantLong RX10 71 (4), Cond.methodLink RX10 193 yX10_forgetsBooks, Cond.instanceMethod yX10_forgetsBooks, Cond.selects RX10 yX10_forgetsBooks yX10_forgetsBooks, Cond.code yX10_forgetsBooks cX10_forgetsBooks 3 none, Cond.methodLink RX10 247 yX10_wakes, Cond.instanceMethod yX10_wakes, Cond.selects RX10 yX10_wakes yX10_wakes, Cond.code yX10_wakes cX10_wakes 1 none, Cond.methodLink RX10 279 yX10_sheet, Cond.instanceMethod yX10_sheet, Cond.selects RX10 yX10_sheet yX10_sheet, Cond.code yX10_sheet cX10_sheet 5 (some .int), Cond.constantLong RX10 293 (-1), Cond.fieldLink RX10 55 "ClearingGatesModel" "sorts" "[I", Cond.fieldLink RX10 58 "ClearingGatesModel" "rowMany" "[I"]
def wsX10_film : List Cond := .code yX10_film cX10_film 6 (some .int) :: ((wsX10_film_r1 ++ (wsX10_film_r2 ++ (wsX10_film_r3 ++ (wsX10_film_r4 ++ (wsX10_film_r5 ++ wsX10_film_r6))))) ++ wsX100)
def wsX10_image : List Cond := .code yX10_image cX10_image 1 (some .int) :: ([.fieldLink RX10 11 "ClearingGatesModel" "s" "[I", .fieldLink RX10 18 "ClearingGatesModel" "image" "[I", .methodLink RX10 227 arraycopyName, .native arraycopyName, .static arraycopyName, .initialized "java/lang/System", .fieldLink RX10 24 "ClearingGatesModel" "texts" "[I", .fieldLink RX10 30 "ClearingGatesModel" "imageTexts" "[I", .fieldLink RX10 27 "ClearingGatesModel" "sizes" "[I", .fieldLink RX10 33 "ClearingGatesModel" "imageSizes" "[I", .fieldLink RX10 100 "ClearingGatesModel" "programs" "I", .fieldLink RX10 283 "ClearingGatesModel" "imagePrograms" "I", .fieldLink RX10 110 "ClearingGatesModel" "fees" "J", .fieldLink RX10 286 "ClearingGatesModel" "imageFees" "J", .fieldLink RX10 289 "ClearingGatesModel" "hasImage" "Z"] ++ wsX100)
def wsX10_back : List Cond := .code yX10_back cX10_back 1 (some .int) :: ([.fieldLink RX10 289 "ClearingGatesModel" "hasImage" "Z", .fieldLink RX10 18 "ClearingGatesModel" "image" "[I", .fieldLink RX10 11 "ClearingGatesModel" "s" "[I", .methodLink RX10 227 arraycopyName, .native arraycopyName, .static arraycopyName, .initialized "java/lang/System", .fieldLink RX10 30 "ClearingGatesModel" "imageTexts" "[I", .fieldLink RX10 24 "ClearingGatesModel" "texts" "[I", .fieldLink RX10 33 "ClearingGatesModel" "imageSizes" "[I", .fieldLink RX10 27 "ClearingGatesModel" "sizes" "[I", .fieldLink RX10 283 "ClearingGatesModel" "imagePrograms" "I", .fieldLink RX10 100 "ClearingGatesModel" "programs" "I", .fieldLink RX10 286 "ClearingGatesModel" "imageFees" "J", .fieldLink RX10 110 "ClearingGatesModel" "fees" "J"] ++ wsX100)
def wsX10_put : List Cond := .code yX10_put cX10_put 4 (some .int) :: ([.fieldLink RX10 55 "ClearingGatesModel" "sorts" "[I", .fieldLink RX10 58 "ClearingGatesModel" "rowMany" "[I", .fieldLink RX10 61 "ClearingGatesModel" "items" "[I", .methodLink RX10 273 yX10_isSheet, .static yX10_isSheet, .initialized RX10, .code yX10_isSheet cX10_isSheet 1 (some .boolean), .constantLong RX10 236 (3), .methodLink RX10 67 yX10_isIn, .static yX10_isIn, .code yX10_isIn cX10_isIn 6 (some .boolean)] ++ wsX100)
def wsX10_copy : List Cond := .code yX10_copy cX10_copy 6 (some .int) :: ([.fieldLink RX10 55 "ClearingGatesModel" "sorts" "[I", .fieldLink RX10 58 "ClearingGatesModel" "rowMany" "[I", .fieldLink RX10 61 "ClearingGatesModel" "items" "[I", .fieldLink RX10 64 "ClearingGatesModel" "moved" "[I", .methodLink RX10 227 arraycopyName, .native arraycopyName, .static arraycopyName, .initialized "java/lang/System", .methodLink RX10 273 yX10_isSheet, .static yX10_isSheet, .initialized RX10, .code yX10_isSheet cX10_isSheet 1 (some .boolean), .constantLong RX10 236 (3), .methodLink RX10 67 yX10_isIn, .static yX10_isIn, .code yX10_isIn cX10_isIn 6 (some .boolean)] ++ wsX100)
def wsX10_load_r1 : List Cond := [Cond.constantLong RX10 295 (20), Cond.fieldLink RX10 55 "ClearingGatesModel" "sorts" "[I", Cond.constantLong RX10 236 (3), Cond.fieldLink RX10 58 "ClearingGatesModel" "rowMany" "[I", Cond.methodLink RX10 273 yX10_isSheet, Cond.static yX10_isSheet, Cond.initialized RX10, Cond.code yX10_isSheet cX10_isSheet 1 (some .boolean), Cond.methodLink RX10 67 yX10_isIn, Cond.static yX10_isIn, Cond.code yX10_isIn cX10_isIn 6 (some .boolean), Cond.methodLink RX10 270 yX10_itemOf, Cond.instanceMethod yX10_itemOf, Cond.selects RX10 yX10_itemOf yX10_itemOf, Cond.code yX10_itemOf cX10_itemOf 3 (some .int), Cond.fieldLink RX10 61 "ClearingGatesModel" "items" "[I", Cond.methodLink RX10 297 yX10_owe, Cond.instanceMethod yX10_owe, Cond.selects RX10 yX10_owe yX10_owe, Cond.code yX10_owe cX10_owe 5 (some .int), Cond.constantLong RX10 261 (99999), Cond.fieldLink RX10 11 "ClearingGatesModel" "s" "[I", Cond.methodLink RX10 258 yX10_areTwo, Cond.instanceMethod yX10_areTwo]
def wsX10_load_r2 : List Cond := [Cond.selects RX10 yX10_areTwo yX10_areTwo, Cond.code yX10_areTwo cX10_areTwo 3 (some .boolean), Cond.methodLink RX10 75 yX10_isAccount, Cond.instanceMethod yX10_isAccount, Cond.selects RX10 yX10_isAccount yX10_isAccount, Cond.code yX10_isAccount cX10_isAccount 2 (some .boolean), Cond.methodLink RX10 87 yX10_owedTo, Cond.instanceMethod yX10_owedTo, Cond.selects RX10 yX10_owedTo yX10_owedTo, Cond.code yX10_owedTo cX10_owedTo 3 (some .int)]
def wsX10_load : List Cond := .code yX10_load cX10_load 10 (some .int) :: ((wsX10_load_r1 ++ wsX10_load_r2) ++ wsX100)
def wsL_law_r1 : List Cond := [Cond.classLink RL 7 RX9, Cond.instantiable RX9 13, Cond.initialized RX9, Cond.classLink RL 10 RX10, Cond.instantiable RX10 32, Cond.initialized RX10, Cond.methodLink RL 9 yX9_init, Cond.instanceMethod yX9_init, Cond.code yX9_init cX9_init 2 none, Cond.methodLink RX9 3 objectInit, Cond.instanceMethod objectInit, Cond.code objectInit ⟨#[0xb1]⟩ 1 none, Cond.classLink RX9 9 RX0, Cond.instantiable RX0 13, Cond.initialized RX0, Cond.fieldLink RX9 12 "ClearingGates" "books" "LClearingGates$Books;", Cond.fieldLink RX9 18 "ClearingGates" "imageBooks" "LClearingGates$Books;", Cond.classLink RX9 21 RX1, Cond.instantiable RX1 1, Cond.initialized RX1, Cond.fieldLink RX9 24 "ClearingGates" "debts" "LClearingGates$Debts;", Cond.fieldLink RX9 28 "ClearingGates" "imageDebts" "LClearingGates$Debts;", Cond.classLink RX9 31 RX5, Cond.instantiable RX5 4]
def wsL_law_r2 : List Cond := [Cond.initialized RX5, Cond.fieldLink RX9 36 "ClearingGates" "rings" "LClearingGates$Rings;", Cond.classLink RX9 40 RX3, Cond.fieldLink RX9 42 "ClearingGates" "programs" "[LClearingGates$Program;", Cond.instantiable RX3 3, Cond.initialized RX3, Cond.fieldLink RX9 47 "ClearingGates" "imagePrograms" "I", Cond.classLink RX9 51 RX8, Cond.instantiable RX8 2, Cond.initialized RX8, Cond.fieldLink RX9 54 "ClearingGates" "tape" "LClearingGates$Tape;", Cond.classLink RX9 58 RX4, Cond.instantiable RX4 5, Cond.initialized RX4, Cond.fieldLink RX9 61 "ClearingGates" "reader" "LClearingGates$Reader;", Cond.classLink RX9 65 RX6, Cond.instantiable RX6 8, Cond.initialized RX6, Cond.fieldLink RX9 70 "ClearingGates" "truly" "LClearingGates$Runner;", Cond.fieldLink RX9 74 "ClearingGates" "thought" "LClearingGates$Runner;", Cond.classLink RX9 77 RX7, Cond.fieldLink RX9 79 "ClearingGates" "sheets" "[LClearingGates$Sheet;", Cond.instantiable RX7 3, Cond.initialized RX7]
def wsL_law_r3 : List Cond := [Cond.instanceMethod yX0_init, Cond.code yX0_init cX0_init 1 none, Cond.methodLink RX0 3 objectInit, Cond.arrayClass .int, Cond.fieldLink RX0 9 "ClearingGates$Books" "kinds" "[I", Cond.fieldLink RX0 15 "ClearingGates$Books" "balances" "[I", Cond.fieldLink RX0 18 "ClearingGates$Books" "limits" "[I", Cond.arrayClass .boolean, Cond.fieldLink RX0 21 "ClearingGates$Books" "gates" "[Z", Cond.fieldLink RX0 25 "ClearingGates$Books" "entries" "[I", Cond.fieldLink RX0 28 "ClearingGates$Books" "leavings" "[I", Cond.fieldLink RX0 31 "ClearingGates$Books" "agains" "[I", Cond.instanceMethod yX1_init, Cond.code yX1_init cX1_init 1 none, Cond.methodLink RX1 3 objectInit, Cond.fieldLink RX1 9 "ClearingGates$Debts" "row" "[I", Cond.methodLink RX9 33 yX5_init, Cond.instanceMethod yX5_init, Cond.code yX5_init cX5_init 2 none, Cond.methodLink RX5 3 objectInit, Cond.fieldLink RX5 9 "ClearingGates$Rings" "way" "[I", Cond.fieldLink RX5 15 "ClearingGates$Rings" "tried" "[Z", Cond.fieldLink RX5 19 "ClearingGates$Rings" "debts" "LClearingGates$Debts;", Cond.instanceMethod yX3_init]
def wsL_law_r4 : List Cond := [Cond.code yX3_init cX3_init 1 none, Cond.methodLink RX3 3 objectInit, Cond.fieldLink RX3 9 "ClearingGates$Program" "bytes" "[I", Cond.fieldLink RX3 15 "ClearingGates$Program" "behind" "[I", Cond.instanceMethod yX8_init, Cond.code yX8_init cX8_init 1 none, Cond.methodLink RX8 3 objectInit, Cond.fieldLink RX8 9 "ClearingGates$Tape" "bytes" "[I", Cond.instanceMethod yX4_init, Cond.code yX4_init cX4_init 1 none, Cond.methodLink RX4 3 objectInit, Cond.fieldLink RX4 9 "ClearingGates$Reader" "opened" "[I", Cond.methodLink RX9 67 yX6_init, Cond.instanceMethod yX6_init, Cond.code yX6_init cX6_init 2 none, Cond.methodLink RX6 3 objectInit, Cond.fieldLink RX6 9 "ClearingGates$Runner" "marks" "[I", Cond.fieldLink RX6 15 "ClearingGates$Runner" "held" "[I", Cond.classLink RX6 18 "[[I", Cond.fieldLink RX6 20 "ClearingGates$Runner" "keptBalances" "[[I", Cond.arrayClass .long, Cond.fieldLink RX6 23 "ClearingGates$Runner" "keptFees" "[J", Cond.fieldLink RX6 27 "ClearingGates$Runner" "books" "LClearingGates$Books;", Cond.instanceMethod yX7_init]
def wsL_law_r5 : List Cond := [Cond.code yX7_init cX7_init 1 none, Cond.methodLink RX7 3 objectInit, Cond.fieldLink RX7 11 "ClearingGates$Sheet" "sort" "I", Cond.fieldLink RX7 15 "ClearingGates$Sheet" "items" "[I", Cond.methodLink RL 12 yX10_init, Cond.instanceMethod yX10_init, Cond.code yX10_init cX10_init 1 none, Cond.methodLink RX10 5 objectInit, Cond.fieldLink RX10 11 "ClearingGatesModel" "s" "[I", Cond.fieldLink RX10 15 "ClearingGatesModel" "thought" "[I", Cond.fieldLink RX10 18 "ClearingGatesModel" "image" "[I", Cond.fieldLink RX10 21 "ClearingGatesModel" "tape" "[I", Cond.fieldLink RX10 24 "ClearingGatesModel" "texts" "[I", Cond.fieldLink RX10 27 "ClearingGatesModel" "sizes" "[I", Cond.fieldLink RX10 30 "ClearingGatesModel" "imageTexts" "[I", Cond.fieldLink RX10 33 "ClearingGatesModel" "imageSizes" "[I", Cond.fieldLink RX10 36 "ClearingGatesModel" "held" "[I", Cond.fieldLink RX10 39 "ClearingGatesModel" "marks" "[I", Cond.fieldLink RX10 42 "ClearingGatesModel" "trace" "[I", Cond.fieldLink RX10 45 "ClearingGatesModel" "keptBalances" "[I", Cond.fieldLink RX10 48 "ClearingGatesModel" "keptFees" "[J", Cond.fieldLink RX10 52 "ClearingGatesModel" "way" "[I", Cond.fieldLink RX10 55 "ClearingGatesModel" "sorts" "[I", Cond.fieldLink RX10 58 "ClearingGatesModel" "rowMany" "[I"]
def wsL_law_r6 : List Cond := [Cond.fieldLink RX10 61 "ClearingGatesModel" "items" "[I", Cond.fieldLink RX10 64 "ClearingGatesModel" "moved" "[I", Cond.methodLink RL 13 yX9_account, Cond.instanceMethod yX9_account, Cond.selects RX9 yX9_account yX9_account, Cond.code yX9_account cX9_account 3 (some .int), Cond.constant RX9 90 (1000000000), Cond.fieldLink RX9 95 "ClearingGates$Books" "accounts" "I", Cond.methodLink RX9 84 yX2_isKind, Cond.static yX2_isKind, Cond.initialized RX2, Cond.code yX2_isKind cX2_isKind 1 (some .boolean), Cond.methodLink RX9 91 yX9_isWithin, Cond.static yX9_isWithin, Cond.code yX9_isWithin cX9_isWithin 2 (some .boolean), Cond.methodLink RX9 98 yX0_open, Cond.instanceMethod yX0_open, Cond.selects RX0 yX0_open yX0_open, Cond.code yX0_open cX0_open 4 (some .int), Cond.fieldLink RX0 34 "ClearingGates$Books" "accounts" "I", Cond.methodLink RL 17 yX10_account, Cond.instanceMethod yX10_account, Cond.selects RX10 yX10_account yX10_account, Cond.code yX10_account cX10_account 4 (some .int)]
def wsL_law_r7 : List Cond := [Cond.constantLong RX10 71 (4), Cond.constantLong RX10 73 (1000000000), Cond.methodLink RX10 67 yX10_isIn, Cond.static yX10_isIn, Cond.code yX10_isIn cX10_isIn 6 (some .boolean), Cond.methodLink RL 18 yX9_set, Cond.instanceMethod yX9_set, Cond.selects RX9 yX9_set yX9_set, Cond.code yX9_set cX9_set 5 (some .long), Cond.constantLong RX9 105 (-9223372036854775808), Cond.fieldLink RX9 107 "ClearingGates$Books" "balances" "[I", Cond.fieldLink RX9 111 "ClearingGates$Books" "limits" "[I", Cond.methodLink RX9 102 yX0_has, Cond.instanceMethod yX0_has, Cond.selects RX0 yX0_has yX0_has, Cond.code yX0_has cX0_has 2 (some .boolean), Cond.methodLink RL 22 yX10_set, Cond.instanceMethod yX10_set, Cond.selects RX10 yX10_set yX10_set, Cond.code yX10_set cX10_set 6 (some .long), Cond.constantLong RX10 79 (9999), Cond.constantLong RX10 81 (-9223372036854775808), Cond.methodLink RX10 75 yX10_isAccount, Cond.instanceMethod yX10_isAccount]
def wsL_law_r8 : List Cond := [Cond.selects RX10 yX10_isAccount yX10_isAccount, Cond.code yX10_isAccount cX10_isAccount 2 (some .boolean), Cond.methodLink RL 23 yX9_gate, Cond.instanceMethod yX9_gate, Cond.selects RX9 yX9_gate yX9_gate, Cond.code yX9_gate cX9_gate 4 (some .int), Cond.fieldLink RX9 114 "ClearingGates$Books" "gates" "[Z", Cond.methodLink RL 27 yX10_gate, Cond.instanceMethod yX10_gate, Cond.selects RX10 yX10_gate yX10_gate, Cond.code yX10_gate cX10_gate 4 (some .int), Cond.methodLink RL 28 yX9_told, Cond.instanceMethod yX9_told, Cond.selects RX9 yX9_told yX9_told, Cond.code yX9_told cX9_told 3 (some .int), Cond.fieldLink RX9 118 "ClearingGates$Books" "kinds" "[I", Cond.fieldLink RX9 121 "ClearingGates$Books" "entries" "[I", Cond.fieldLink RX9 124 "ClearingGates$Books" "leavings" "[I", Cond.fieldLink RX9 127 "ClearingGates$Books" "agains" "[I", Cond.methodLink RX9 130 yX0_feeOf, Cond.instanceMethod yX0_feeOf, Cond.selects RX0 yX0_feeOf yX0_feeOf, Cond.code yX0_feeOf cX0_feeOf 3 (some .int), Cond.methodLink RX0 42 yX2_feeOf]
def wsL_law_r9 : List Cond := [Cond.static yX2_feeOf, Cond.code yX2_feeOf cX2_feeOf 2 (some .int), Cond.methodLink RL 31 yX10_told, Cond.instanceMethod yX10_told, Cond.selects RX10 yX10_told yX10_told, Cond.code yX10_told cX10_told 3 (some .int), Cond.methodLink RX10 83 yX10_feeOf, Cond.instanceMethod yX10_feeOf, Cond.selects RX10 yX10_feeOf yX10_feeOf, Cond.code yX10_feeOf cX10_feeOf 4 (some .int), Cond.methodLink RL 32 yX9_of, Cond.instanceMethod yX9_of, Cond.selects RX9 yX9_of yX9_of, Cond.code yX9_of cX9_of 3 (some .long), Cond.methodLink RX9 133 yX0_floorOf, Cond.instanceMethod yX0_floorOf, Cond.selects RX0 yX0_floorOf yX0_floorOf, Cond.code yX0_floorOf cX0_floorOf 2 (some .int), Cond.methodLink RX0 48 yX2_floorOf, Cond.static yX2_floorOf, Cond.code yX2_floorOf cX2_floorOf 2 (some .int), Cond.methodLink RX9 137 yX1_positionOf, Cond.instanceMethod yX1_positionOf, Cond.selects RX1 yX1_positionOf yX1_positionOf]
def wsL_law_r10 : List Cond := [Cond.code yX1_positionOf cX1_positionOf 5 (some .long), Cond.methodLink RX1 15 yX1_between, Cond.instanceMethod yX1_between, Cond.selects RX1 yX1_between yX1_between, Cond.code yX1_between cX1_between 3 (some .int), Cond.methodLink RL 36 yX10_of, Cond.instanceMethod yX10_of, Cond.selects RX10 yX10_of yX10_of, Cond.code yX10_of cX10_of 3 (some .long), Cond.constantLong RX10 90 (2), Cond.methodLink RX10 92 yX10_floorOf, Cond.instanceMethod yX10_floorOf, Cond.selects RX10 yX10_floorOf yX10_floorOf, Cond.code yX10_floorOf cX10_floorOf 2 (some .int), Cond.methodLink RX10 96 yX10_positionOf, Cond.instanceMethod yX10_positionOf, Cond.selects RX10 yX10_positionOf yX10_positionOf, Cond.code yX10_positionOf cX10_positionOf 5 (some .long), Cond.methodLink RX10 87 yX10_owedTo, Cond.instanceMethod yX10_owedTo, Cond.selects RX10 yX10_owedTo yX10_owedTo, Cond.code yX10_owedTo cX10_owedTo 3 (some .int), Cond.methodLink RL 37 yX9_count, Cond.instanceMethod yX9_count]
def wsL_law_r11 : List Cond := [Cond.selects RX9 yX9_count yX9_count, Cond.code yX9_count cX9_count 2 (some .int), Cond.fieldLink RX9 141 "ClearingGates" "programCount" "I", Cond.fieldLink RX9 144 "ClearingGates$Books" "missed" "I", Cond.fieldLink RX9 147 "ClearingGates$Books" "bells" "I", Cond.fieldLink RX9 150 "ClearingGates$Books" "refused" "I", Cond.fieldLink RX9 153 "ClearingGates$Books" "caught" "I", Cond.fieldLink RX9 160 "ClearingGates$Tape" "size" "I", Cond.methodLink RX9 156 yX6_keptMarks, Cond.instanceMethod yX6_keptMarks, Cond.selects RX6 yX6_keptMarks yX6_keptMarks, Cond.code yX6_keptMarks cX6_keptMarks 1 (some .int), Cond.fieldLink RX6 31 "ClearingGates$Runner" "markCount" "I", Cond.methodLink RX6 35 Lib.Math.min.name, Cond.static Lib.Math.min.name, Cond.initialized "java/lang/Math", Cond.code Lib.Math.min.name Lib.Math.min.code 2 (some .int), Cond.methodLink RL 41 yX10_count, Cond.instanceMethod yX10_count, Cond.selects RX10 yX10_count yX10_count, Cond.code yX10_count cX10_count 2 (some .int), Cond.fieldLink RX10 100 "ClearingGatesModel" "programs" "I", Cond.fieldLink RX10 104 "ClearingGatesModel" "traced" "I", Cond.fieldLink RX10 107 "ClearingGatesModel" "taped" "I"]
def wsL_law_r12 : List Cond := [Cond.methodLink RL 42 yX9_sum, Cond.instanceMethod yX9_sum, Cond.selects RX9 yX9_sum yX9_sum, Cond.code yX9_sum cX9_sum 2 (some .long), Cond.fieldLink RX9 163 "ClearingGates$Books" "fees" "J", Cond.methodLink RX9 167 yX0_allMoney, Cond.instanceMethod yX0_allMoney, Cond.selects RX0 yX0_allMoney yX0_allMoney, Cond.code yX0_allMoney cX0_allMoney 4 (some .long), Cond.fieldLink RX0 51 "ClearingGates$Books" "fees" "J", Cond.methodLink RX9 171 yX1_total, Cond.instanceMethod yX1_total, Cond.selects RX1 yX1_total yX1_total, Cond.code yX1_total cX1_total 4 (some .long), Cond.methodLink RL 46 yX10_sum, Cond.instanceMethod yX10_sum, Cond.selects RX10 yX10_sum yX10_sum, Cond.code yX10_sum cX10_sum 5 (some .long), Cond.fieldLink RX10 110 "ClearingGatesModel" "fees" "J", Cond.methodLink RL 47 yX9_taken, Cond.instanceMethod yX9_taken, Cond.selects RX9 yX9_taken yX9_taken, Cond.code yX9_taken cX9_taken 3 (some .int), Cond.methodLink RX9 174 yX2_isOrIsUnder]
def wsL_law_r13 : List Cond := [Cond.static yX2_isOrIsUnder, Cond.code yX2_isOrIsUnder cX2_isOrIsUnder 2 (some .boolean), Cond.methodLink RL 50 yX10_taken, Cond.instanceMethod yX10_taken, Cond.selects RX10 yX10_taken yX10_taken, Cond.code yX10_taken cX10_taken 4 (some .int), Cond.methodLink RX10 114 yX10_above, Cond.static yX10_above, Cond.code yX10_above cX10_above 1 (some .int), Cond.methodLink RL 51 yX9_feed, Cond.instanceMethod yX9_feed, Cond.selects RX9 yX9_feed yX9_feed, Cond.code yX9_feed cX9_feed 7 (some .int), Cond.methodLink RX9 177 yX9_isByte, Cond.static yX9_isByte, Cond.code yX9_isByte cX9_isByte 1 (some .boolean), Cond.methodLink RX9 180 yX8_add, Cond.instanceMethod yX8_add, Cond.selects RX8 yX8_add yX8_add, Cond.code yX8_add cX8_add 2 none, Cond.fieldLink RX8 15 "ClearingGates$Tape" "size" "I", Cond.methodLink RL 55 yX10_feed, Cond.instanceMethod yX10_feed, Cond.selects RX10 yX10_feed yX10_feed]
def wsL_law_r14 : List Cond := [Cond.code yX10_feed cX10_feed 8 (some .int), Cond.constantLong RX10 119 (5), Cond.methodLink RX10 121 yX10_isByte, Cond.static yX10_isByte, Cond.code yX10_isByte cX10_isByte 1 (some .boolean), Cond.constantLong RX10 117 (255), Cond.methodLink RL 56 yX9_program, Cond.instanceMethod yX9_program, Cond.selects RX9 yX9_program yX9_program, Cond.code yX9_program cX9_program 3 (some .int), Cond.methodLink RX9 184 yX3_takeOver, Cond.instanceMethod yX3_takeOver, Cond.selects RX3 yX3_takeOver yX3_takeOver, Cond.code yX3_takeOver cX3_takeOver 2 none, Cond.fieldLink RX3 18 "ClearingGates$Tape" "bytes" "[I", Cond.methodLink RX3 21 arraycopyName, Cond.native arraycopyName, Cond.static arraycopyName, Cond.initialized "java/lang/System", Cond.fieldLink RX3 27 "ClearingGates$Tape" "size" "I", Cond.fieldLink RX3 31 "ClearingGates$Program" "size" "I", Cond.methodLink RX9 188 yX4_faultOf, Cond.instanceMethod yX4_faultOf, Cond.selects RX4 yX4_faultOf yX4_faultOf]
def wsL_law_r15 : List Cond := [Cond.code yX4_faultOf cX4_faultOf 4 (some .int), Cond.fieldLink RX4 15 "ClearingGates$Reader" "program" "LClearingGates$Program;", Cond.fieldLink RX4 19 "ClearingGates$Reader" "open" "I", Cond.fieldLink RX4 23 "ClearingGates$Reader" "loops" "I", Cond.fieldLink RX4 26 "ClearingGates$Reader" "fault" "I", Cond.fieldLink RX4 29 "ClearingGates$Program" "size" "I", Cond.methodLink RX4 34 yX4_step, Cond.instanceMethod yX4_step, Cond.selects RX4 yX4_step yX4_step, Cond.code yX4_step cX4_step 2 (some .int), Cond.methodLink RX4 38 yX3_byteAt, Cond.instanceMethod yX3_byteAt, Cond.selects RX3 yX3_byteAt yX3_byteAt, Cond.code yX3_byteAt cX3_byteAt 2 (some .int), Cond.methodLink RX4 41 yX4_openingWithFigure, Cond.instanceMethod yX4_openingWithFigure, Cond.selects RX4 yX4_openingWithFigure yX4_openingWithFigure, Cond.code yX4_openingWithFigure cX4_openingWithFigure 5 (some .int), Cond.methodLink RX4 45 yX4_opening, Cond.instanceMethod yX4_opening, Cond.selects RX4 yX4_opening yX4_opening, Cond.code yX4_opening cX4_opening 2 (some .int), Cond.methodLink RX4 61 yX4_faultAt, Cond.instanceMethod yX4_faultAt]
def wsL_law_r16 : List Cond := [Cond.selects RX4 yX4_faultAt yX4_faultAt, Cond.code yX4_faultAt cX4_faultAt 2 (some .int), Cond.methodLink RX4 64 yX4_isFigure, Cond.instanceMethod yX4_isFigure, Cond.selects RX4 yX4_isFigure yX4_isFigure, Cond.code yX4_isFigure cX4_isFigure 4 (some .boolean), Cond.methodLink RX4 48 yX4_closing, Cond.instanceMethod yX4_closing, Cond.selects RX4 yX4_closing yX4_closing, Cond.code yX4_closing cX4_closing 3 (some .int), Cond.methodLink RX4 58 yX4_ends, Cond.instanceMethod yX4_ends, Cond.selects RX4 yX4_ends yX4_ends, Cond.code yX4_ends cX4_ends 3 (some .int), Cond.fieldLink RX4 68 "ClearingGates$Program" "behind" "[I", Cond.methodLink RX4 52 yX4_payment, Cond.instanceMethod yX4_payment, Cond.selects RX4 yX4_payment yX4_payment, Cond.code yX4_payment cX4_payment 4 (some .int), Cond.methodLink RX4 55 yX4_bell, Cond.instanceMethod yX4_bell, Cond.selects RX4 yX4_bell yX4_bell, Cond.code yX4_bell cX4_bell 2 (some .int), Cond.methodLink RL 60 yX10_program]
def wsL_law_r17 : List Cond := [Cond.instanceMethod yX10_program, Cond.selects RX10 yX10_program yX10_program, Cond.code yX10_program cX10_program 4 (some .int), Cond.fieldLink RX10 124 "ClearingGatesModel" "here" "I", Cond.fieldLink RX10 131 "ClearingGatesModel" "open" "I", Cond.methodLink RX10 138 yX10_takesItem, Cond.instanceMethod yX10_takesItem, Cond.selects RX10 yX10_takesItem yX10_takesItem, Cond.code yX10_takesItem cX10_takesItem 3 (some .boolean), Cond.methodLink RX10 127 yX10_byteAt, Cond.instanceMethod yX10_byteAt, Cond.selects RX10 yX10_byteAt yX10_byteAt, Cond.code yX10_byteAt cX10_byteAt 1 (some .int), Cond.methodLink RX10 146 yX10_takesBracket, Cond.instanceMethod yX10_takesBracket, Cond.selects RX10 yX10_takesBracket yX10_takesBracket, Cond.methodLink RX10 150 yX10_takesPayment, Cond.instanceMethod yX10_takesPayment, Cond.selects RX10 yX10_takesPayment yX10_takesPayment, Cond.code yX10_takesPayment cX10_takesPayment 2 (some .boolean), Cond.constantLong RX10 142 (48), Cond.constantLong RX10 144 (57), Cond.methodLink RX10 134 yX10_takesFigure, Cond.instanceMethod yX10_takesFigure]
def wsL_law_r18 : List Cond := [Cond.selects RX10 yX10_takesFigure yX10_takesFigure, Cond.code yX10_takesFigure cX10_takesFigure 3 (some .boolean), Cond.code yX10_takesBracket cX10_takesBracket 5 (some .boolean), Cond.methodLink RL 61 yX9_run, Cond.instanceMethod yX9_run, Cond.selects RX9 yX9_run yX9_run, Cond.code yX9_run cX9_run 2 (some .int), Cond.methodLink RX9 192 yX9_isProgram, Cond.instanceMethod yX9_isProgram, Cond.selects RX9 yX9_isProgram yX9_isProgram, Cond.code yX9_isProgram cX9_isProgram 2 (some .boolean), Cond.methodLink RX9 195 yX6_outcomeOf, Cond.instanceMethod yX6_outcomeOf, Cond.selects RX6 yX6_outcomeOf yX6_outcomeOf, Cond.code yX6_outcomeOf cX6_outcomeOf 3 (some .int), Cond.fieldLink RX6 41 "ClearingGates$Runner" "program" "LClearingGates$Program;", Cond.fieldLink RX6 45 "ClearingGates$Runner" "begun" "I", Cond.fieldLink RX6 52 "ClearingGates$Program" "size" "I", Cond.methodLink RX6 48 yX6_keep, Cond.instanceMethod yX6_keep, Cond.selects RX6 yX6_keep yX6_keep, Cond.code yX6_keep cX6_keep 2 none, Cond.fieldLink RX6 134 "ClearingGates$Books" "balances" "[I", Cond.methodLink RX6 154 arraycopyName]
def wsL_law_r19 : List Cond := [Cond.fieldLink RX6 141 "ClearingGates$Books" "fees" "J", Cond.methodLink RX6 57 yX6_items, Cond.instanceMethod yX6_items, Cond.selects RX6 yX6_items yX6_items, Cond.code yX6_items cX6_items 6 (some .int), Cond.methodLink RX6 71 Lib.Math.max.name, Cond.static Lib.Math.max.name, Cond.code Lib.Math.max.name Lib.Math.max.code 2 (some .int), Cond.methodLink RX6 64 yX6_item, Cond.instanceMethod yX6_item, Cond.selects RX6 yX6_item yX6_item, Cond.methodLink RX6 67 yX3_behindItem, Cond.instanceMethod yX3_behindItem, Cond.selects RX3 yX3_behindItem yX3_behindItem, Cond.code yX3_behindItem cX3_behindItem 2 (some .int), Cond.code yX6_attempt cX6_attempt 5 (some .int), Cond.fieldLink RX6 122 "ClearingGates$Books" "caught" "I", Cond.methodLink RX6 116 yX6_inside, Cond.instanceMethod yX6_inside, Cond.selects RX6 yX6_inside yX6_inside, Cond.methodLink RX6 61 yX6_undo, Cond.instanceMethod yX6_undo, Cond.selects RX6 yX6_undo yX6_undo, Cond.code yX6_undo cX6_undo 2 none]
def wsL_law_r20 : List Cond := [Cond.methodLink RX6 113 yX6_mark, Cond.instanceMethod yX6_mark, Cond.selects RX6 yX6_mark yX6_mark, Cond.code yX6_mark cX6_mark 2 none, Cond.code yX6_block cX6_block 5 (some .int), Cond.fieldLink RX6 101 "ClearingGates$Books" "missed" "I", Cond.fieldLink RX6 107 "ClearingGates$Books" "entries" "[I", Cond.fieldLink RX6 110 "ClearingGates$Books" "agains" "[I", Cond.fieldLink RX6 119 "ClearingGates$Books" "leavings" "[I", Cond.methodLink RX6 89 yX3_figureAt, Cond.instanceMethod yX3_figureAt, Cond.selects RX3 yX3_figureAt yX3_figureAt, Cond.code yX3_figureAt cX3_figureAt 2 (some .int), Cond.methodLink RX3 32 yX3_byteAt, Cond.methodLink RX6 95 yX0_hasGate, Cond.instanceMethod yX0_hasGate, Cond.selects RX0 yX0_hasGate yX0_hasGate, Cond.code yX0_hasGate cX0_hasGate 2 (some .boolean), Cond.methodLink RX0 38 yX0_has, Cond.methodLink RX6 104 yX6_isGreaterHeld, Cond.instanceMethod yX6_isGreaterHeld, Cond.selects RX6 yX6_isGreaterHeld yX6_isGreaterHeld, Cond.code yX6_isGreaterHeld cX6_isGreaterHeld 3 (some .boolean), Cond.code yX6_inside cX6_inside 4 (some .int)]
def wsL_law_r21 : List Cond := [Cond.code yX6_item cX6_item 3 (some .int), Cond.methodLink RX6 74 yX3_byteAt, Cond.methodLink RX6 77 yX6_block, Cond.instanceMethod yX6_block, Cond.selects RX6 yX6_block yX6_block, Cond.methodLink RX6 80 yX6_attempt, Cond.instanceMethod yX6_attempt, Cond.selects RX6 yX6_attempt yX6_attempt, Cond.methodLink RX6 83 yX6_loop, Cond.instanceMethod yX6_loop, Cond.selects RX6 yX6_loop yX6_loop, Cond.methodLink RX6 86 yX6_payment, Cond.instanceMethod yX6_payment, Cond.selects RX6 yX6_payment yX6_payment, Cond.code yX6_payment cX6_payment 7 (some .int), Cond.constant RX6 140 (1000000000), Cond.methodLink RX6 125 yX6_isHeld, Cond.instanceMethod yX6_isHeld, Cond.selects RX6 yX6_isHeld yX6_isHeld, Cond.code yX6_isHeld cX6_isHeld 2 (some .boolean), Cond.methodLink RX6 151 yX0_has, Cond.methodLink RX6 128 yX3_numberBetween, Cond.instanceMethod yX3_numberBetween, Cond.selects RX3 yX3_numberBetween yX3_numberBetween]
def wsL_law_r22 : List Cond := [Cond.code yX3_numberBetween cX3_numberBetween 5 (some .int), Cond.methodLink RX6 131 yX0_feeOf, Cond.methodLink RX6 137 yX0_floorOf, Cond.methodLink RX6 92 yX6_bell, Cond.instanceMethod yX6_bell, Cond.selects RX6 yX6_bell yX6_bell, Cond.code yX6_bell cX6_bell 3 (some .int), Cond.fieldLink RX6 145 "ClearingGates$Books" "bells" "I", Cond.fieldLink RX6 148 "ClearingGates$Books" "refused" "I", Cond.code yX6_loop cX6_loop 6 (some .int), Cond.methodLink RL 64 yX10_run, Cond.instanceMethod yX10_run, Cond.selects RX10 yX10_run yX10_run, Cond.code yX10_run cX10_run 4 (some .int), Cond.fieldLink RX10 154 "ClearingGatesModel" "markMany" "I", Cond.methodLink RX10 222 Lib.Math.min.name, Cond.methodLink RX10 216 yX10_isProgram, Cond.instanceMethod yX10_isProgram, Cond.selects RX10 yX10_isProgram yX10_isProgram, Cond.code yX10_isProgram cX10_isProgram 2 (some .boolean), Cond.methodLink RX10 219 yX10_runs, Cond.instanceMethod yX10_runs, Cond.selects RX10 yX10_runs yX10_runs, Cond.code yX10_runs cX10_runs 3 (some .int)]
def wsL_law_r23 : List Cond := [Cond.fieldLink RX10 157 "ClearingGatesModel" "running" "I", Cond.fieldLink RX10 197 "ClearingGatesModel" "begun" "I", Cond.fieldLink RX10 172 "ClearingGatesModel" "deep" "I", Cond.methodLink RX10 190 yX10_keepsBooks, Cond.instanceMethod yX10_keepsBooks, Cond.selects RX10 yX10_keepsBooks yX10_keepsBooks, Cond.code yX10_keepsBooks cX10_keepsBooks 2 none, Cond.methodLink RX10 187 yX10_does, Cond.instanceMethod yX10_does, Cond.selects RX10 yX10_does yX10_does, Cond.code yX10_does cX10_does 4 (some .int), Cond.methodLink RX10 166 yX10_isClosed, Cond.instanceMethod yX10_isClosed, Cond.selects RX10 yX10_isClosed yX10_isClosed, Cond.code yX10_isClosed cX10_isClosed 2 (some .boolean), Cond.methodLink RX10 160 yX10_signAt, Cond.instanceMethod yX10_signAt, Cond.selects RX10 yX10_signAt yX10_signAt, Cond.code yX10_signAt cX10_signAt 2 (some .int), Cond.methodLink RX10 175 yX10_doesItem, Cond.instanceMethod yX10_doesItem, Cond.selects RX10 yX10_doesItem yX10_doesItem, Cond.methodLink RX10 169 yX10_behind, Cond.instanceMethod yX10_behind]
def wsL_law_r24 : List Cond := [Cond.selects RX10 yX10_behind yX10_behind, Cond.code yX10_behind cX10_behind 4 (some .int), Cond.methodLink RX10 163 yX10_insideOf, Cond.instanceMethod yX10_insideOf, Cond.selects RX10 yX10_insideOf yX10_insideOf, Cond.code yX10_insideOf cX10_insideOf 2 (some .int), Cond.code yX10_block cX10_block 4 (some .int), Cond.methodLink RX10 178 yX10_figureAt, Cond.instanceMethod yX10_figureAt, Cond.selects RX10 yX10_figureAt yX10_figureAt, Cond.code yX10_figureAt cX10_figureAt 2 (some .int), Cond.methodLink RX10 181 yX10_hasGate, Cond.instanceMethod yX10_hasGate, Cond.selects RX10 yX10_hasGate yX10_hasGate, Cond.code yX10_hasGate cX10_hasGate 2 (some .boolean), Cond.methodLink RX10 184 yX10_marks, Cond.instanceMethod yX10_marks, Cond.selects RX10 yX10_marks yX10_marks, Cond.code yX10_marks cX10_marks 2 none, Cond.code yX10_doesItem cX10_doesItem 2 (some .int), Cond.methodLink RX10 200 yX10_block, Cond.instanceMethod yX10_block, Cond.selects RX10 yX10_block yX10_block, Cond.methodLink RX10 203 yX10_tries]
def wsL_law_r25 : List Cond := [Cond.instanceMethod yX10_tries, Cond.selects RX10 yX10_tries yX10_tries, Cond.methodLink RX10 207 yX10_loops, Cond.instanceMethod yX10_loops, Cond.selects RX10 yX10_loops yX10_loops, Cond.methodLink RX10 210 yX10_pays, Cond.instanceMethod yX10_pays, Cond.selects RX10 yX10_pays yX10_pays, Cond.code yX10_pays cX10_pays 7 (some .int), Cond.methodLink RX10 213 yX10_rings, Cond.instanceMethod yX10_rings, Cond.selects RX10 yX10_rings yX10_rings, Cond.code yX10_rings cX10_rings 3 (some .int), Cond.code yX10_loops cX10_loops 4 (some .int), Cond.code yX10_tries cX10_tries 5 (some .int), Cond.methodLink RX10 193 yX10_forgetsBooks, Cond.instanceMethod yX10_forgetsBooks, Cond.selects RX10 yX10_forgetsBooks yX10_forgetsBooks, Cond.code yX10_forgetsBooks cX10_forgetsBooks 3 none, Cond.methodLink RL 65 yX9_trace, Cond.instanceMethod yX9_trace, Cond.selects RX9 yX9_trace yX9_trace, Cond.code yX9_trace cX9_trace 2 (some .int), Cond.fieldLink RX9 198 "ClearingGates$Runner" "marks" "[I"]
def wsL_law_r26 : List Cond := [Cond.methodLink RL 68 yX10_trace, Cond.instanceMethod yX10_trace, Cond.selects RX10 yX10_trace yX10_trace, Cond.code yX10_trace cX10_trace 2 (some .int), Cond.methodLink RL 69 yX9_would, Cond.instanceMethod yX9_would, Cond.selects RX9 yX9_would yX9_would, Cond.code yX9_would cX9_would 4 (some .long), Cond.fieldLink RX9 207 "ClearingGates$Runner" "books" "LClearingGates$Books;", Cond.fieldLink RX9 208 "ClearingGates$Runner" "markCount" "I", Cond.methodLink RX9 201 yX9_isOfWould, Cond.instanceMethod yX9_isOfWould, Cond.selects RX9 yX9_isOfWould yX9_isOfWould, Cond.code yX9_isOfWould cX9_isOfWould 2 (some .boolean), Cond.methodLink RX9 204 yX9_outcomeInThought, Cond.instanceMethod yX9_outcomeInThought, Cond.selects RX9 yX9_outcomeInThought yX9_outcomeInThought, Cond.code yX9_outcomeInThought cX9_outcomeInThought 2 (some .int), Cond.methodLink RX9 214 yX0_becomeAs, Cond.instanceMethod yX0_becomeAs, Cond.selects RX0 yX0_becomeAs yX0_becomeAs, Cond.code yX0_becomeAs cX0_becomeAs 3 none, Cond.methodLink RX0 55 arraycopyName, Cond.fieldLink RX0 61 "ClearingGates$Books" "missed" "I"]
def wsL_law_r27 : List Cond := [Cond.fieldLink RX0 64 "ClearingGates$Books" "bells" "I", Cond.fieldLink RX0 67 "ClearingGates$Books" "refused" "I", Cond.fieldLink RX0 70 "ClearingGates$Books" "caught" "I", Cond.methodLink RX9 211 yX0_allEntries, Cond.instanceMethod yX0_allEntries, Cond.selects RX0 yX0_allEntries yX0_allEntries, Cond.code yX0_allEntries cX0_allEntries 3 (some .int), Cond.methodLink RL 72 yX10_would, Cond.instanceMethod yX10_would, Cond.selects RX10 yX10_would yX10_would, Cond.code yX10_would cX10_would 8 (some .long), Cond.constantLong RX10 236 (3), Cond.constantLong RX10 238 (10), Cond.methodLink RX10 240 yX10_entries, Cond.instanceMethod yX10_entries, Cond.selects RX10 yX10_entries yX10_entries, Cond.code yX10_entries cX10_entries 4 (some .long), Cond.methodLink RX10 244 yX10_thinks, Cond.instanceMethod yX10_thinks, Cond.selects RX10 yX10_thinks yX10_thinks, Cond.code yX10_thinks cX10_thinks 1 none, Cond.methodLink RX10 227 arraycopyName, Cond.fieldLink RX10 233 "ClearingGatesModel" "thoughtFees" "J", Cond.methodLink RX10 247 yX10_wakes]
def wsL_law_r28 : List Cond := [Cond.instanceMethod yX10_wakes, Cond.selects RX10 yX10_wakes yX10_wakes, Cond.code yX10_wakes cX10_wakes 1 none, Cond.methodLink RL 73 yX9_needed, Cond.instanceMethod yX9_needed, Cond.selects RX9 yX9_needed yX9_needed, Cond.code yX9_needed cX9_needed 5 (some .int), Cond.methodLink RL 76 yX10_needed, Cond.instanceMethod yX10_needed, Cond.selects RX10 yX10_needed yX10_needed, Cond.code yX10_needed cX10_needed 6 (some .int), Cond.constant RX10 254 (1048576), Cond.methodLink RX10 255 yX10_outcomeOf, Cond.instanceMethod yX10_outcomeOf, Cond.selects RX10 yX10_outcomeOf yX10_outcomeOf, Cond.code yX10_outcomeOf cX10_outcomeOf 2 (some .int), Cond.methodLink RX10 250 yX10_would, Cond.methodLink RL 77 yX9_hinges, Cond.instanceMethod yX9_hinges, Cond.selects RX9 yX9_hinges yX9_hinges, Cond.code yX9_hinges cX9_hinges 5 (some .int), Cond.methodLink RL 80 yX10_hinges, Cond.instanceMethod yX10_hinges, Cond.selects RX10 yX10_hinges yX10_hinges]
def wsL_law_r29 : List Cond := [Cond.code yX10_hinges cX10_hinges 5 (some .int), Cond.methodLink RL 81 yX9_owe, Cond.instanceMethod yX9_owe, Cond.selects RX9 yX9_owe yX9_owe, Cond.code yX9_owe cX9_owe 5 (some .int), Cond.constant RX9 220 (99999), Cond.methodLink RX9 217 yX9_isPair, Cond.instanceMethod yX9_isPair, Cond.selects RX9 yX9_isPair yX9_isPair, Cond.code yX9_isPair cX9_isPair 3 (some .boolean), Cond.methodLink RX9 221 yX1_between, Cond.methodLink RX9 224 yX1_become, Cond.instanceMethod yX1_become, Cond.selects RX1 yX1_become yX1_become, Cond.code yX1_become cX1_become 4 none, Cond.methodLink RL 85 yX10_owe, Cond.instanceMethod yX10_owe, Cond.selects RX10 yX10_owe yX10_owe, Cond.code yX10_owe cX10_owe 5 (some .int), Cond.constantLong RX10 261 (99999), Cond.methodLink RX10 258 yX10_areTwo, Cond.instanceMethod yX10_areTwo, Cond.selects RX10 yX10_areTwo yX10_areTwo, Cond.code yX10_areTwo cX10_areTwo 3 (some .boolean)]
def wsL_law_r30 : List Cond := [Cond.methodLink RL 86 yX9_owed, Cond.instanceMethod yX9_owed, Cond.selects RX9 yX9_owed yX9_owed, Cond.code yX9_owed cX9_owed 3 (some .int), Cond.methodLink RL 89 yX10_owed, Cond.instanceMethod yX10_owed, Cond.selects RX10 yX10_owed yX10_owed, Cond.code yX10_owed cX10_owed 3 (some .int), Cond.methodLink RL 90 yX9_net, Cond.instanceMethod yX9_net, Cond.selects RX9 yX9_net yX9_net, Cond.code yX9_net cX9_net 2 (some .int), Cond.methodLink RX9 228 yX0_hasAllGates, Cond.instanceMethod yX0_hasAllGates, Cond.selects RX0 yX0_hasAllGates yX0_hasAllGates, Cond.code yX0_hasAllGates cX0_hasAllGates 2 (some .boolean), Cond.methodLink RX9 232 yX0_enterAll, Cond.instanceMethod yX0_enterAll, Cond.selects RX0 yX0_enterAll yX0_enterAll, Cond.code yX0_enterAll cX0_enterAll 2 none, Cond.methodLink RX9 235 yX5_cutAll, Cond.instanceMethod yX5_cutAll, Cond.selects RX5 yX5_cutAll yX5_cutAll, Cond.code yX5_cutAll cX5_cutAll 3 (some .int)]
def wsL_law_r31 : List Cond := [Cond.methodLink RX5 23 yX5_findsFirst, Cond.instanceMethod yX5_findsFirst, Cond.selects RX5 yX5_findsFirst yX5_findsFirst, Cond.code yX5_findsFirst cX5_findsFirst 4 (some .boolean), Cond.methodLink RX5 30 yX5_leadsBack, Cond.instanceMethod yX5_leadsBack, Cond.selects RX5 yX5_leadsBack yX5_leadsBack, Cond.code yX5_leadsBack cX5_leadsBack 6 (some .boolean), Cond.fieldLink RX5 40 "ClearingGates$Rings" "wayLength" "I", Cond.methodLink RX5 34 yX1_between, Cond.methodLink RX5 27 yX5_cutFound, Cond.instanceMethod yX5_cutFound, Cond.selects RX5 yX5_cutFound yX5_cutFound, Cond.code yX5_cutFound cX5_cutFound 4 none, Cond.constant RX5 44 (99999), Cond.methodLink RX5 49 Lib.Math.min.name, Cond.methodLink RX5 45 yX5_behind, Cond.instanceMethod yX5_behind, Cond.selects RX5 yX5_behind yX5_behind, Cond.code yX5_behind cX5_behind 2 (some .int), Cond.methodLink RX5 54 yX1_become, Cond.methodLink RX9 238 yX0_leaveAll, Cond.instanceMethod yX0_leaveAll, Cond.selects RX0 yX0_leaveAll yX0_leaveAll]
def wsL_law_r32 : List Cond := [Cond.code yX0_leaveAll cX0_leaveAll 2 none, Cond.methodLink RL 93 yX10_net, Cond.instanceMethod yX10_net, Cond.selects RX10 yX10_net yX10_net, Cond.code yX10_net cX10_net 5 (some .int), Cond.constant RX10 269 (99999), Cond.methodLink RX10 266 yX10_firstRing, Cond.instanceMethod yX10_firstRing, Cond.selects RX10 yX10_firstRing yX10_firstRing, Cond.code yX10_firstRing cX10_firstRing 3 (some .int), Cond.methodLink RX10 263 yX10_ringFrom, Cond.instanceMethod yX10_ringFrom, Cond.selects RX10 yX10_ringFrom yX10_ringFrom, Cond.code yX10_ringFrom cX10_ringFrom 6 (some .int), Cond.methodLink RL 94 yX9_tells, Cond.instanceMethod yX9_tells, Cond.selects RX9 yX9_tells yX9_tells, Cond.code yX9_tells cX9_tells 6 (some .int), Cond.fieldLink RX9 247 "ClearingGates$Sheet" "size" "I", Cond.methodLink RX9 241 yX9_isSheet, Cond.static yX9_isSheet, Cond.code yX9_isSheet cX9_isSheet 1 (some .boolean), Cond.methodLink RX9 244 yX7_isMissing, Cond.instanceMethod yX7_isMissing]
def wsL_law_r33 : List Cond := [Cond.selects RX7 yX7_isMissing yX7_isMissing, Cond.code yX7_isMissing cX7_isMissing 1 (some .boolean), Cond.methodLink RX9 248 yX9_kindsToldBy, Cond.instanceMethod yX9_kindsToldBy, Cond.selects RX9 yX9_kindsToldBy yX9_kindsToldBy, Cond.code yX9_kindsToldBy cX9_kindsToldBy 6 (some .int), Cond.methodLink RX9 252 yX7_firstUnlike, Cond.instanceMethod yX7_firstUnlike, Cond.selects RX7 yX7_firstUnlike yX7_firstUnlike, Cond.code yX7_firstUnlike cX7_firstUnlike 5 (some .int), Cond.fieldLink RX7 19 "ClearingGates$Sheet" "size" "I", Cond.methodLink RX7 32 Lib.Math.min.name, Cond.methodLink RL 98 yX10_tells, Cond.instanceMethod yX10_tells, Cond.selects RX10 yX10_tells yX10_tells, Cond.code yX10_tells cX10_tells 8 (some .int), Cond.methodLink RX10 273 yX10_isSheet, Cond.static yX10_isSheet, Cond.code yX10_isSheet cX10_isSheet 1 (some .boolean), Cond.methodLink RX10 276 yX10_otherIn, Cond.instanceMethod yX10_otherIn, Cond.selects RX10 yX10_otherIn yX10_otherIn, Cond.code yX10_otherIn cX10_otherIn 6 (some .int), Cond.methodLink RX10 270 yX10_itemOf]
def wsL_law_r34 : List Cond := [Cond.instanceMethod yX10_itemOf, Cond.selects RX10 yX10_itemOf yX10_itemOf, Cond.code yX10_itemOf cX10_itemOf 3 (some .int), Cond.methodLink RL 99 yX9_film, Cond.instanceMethod yX9_film, Cond.selects RX9 yX9_film yX9_film, Cond.code yX9_film cX9_film 3 (some .int), Cond.methodLink RX9 256 yX7_takeOver, Cond.instanceMethod yX7_takeOver, Cond.selects RX7 yX7_takeOver yX7_takeOver, Cond.code yX7_takeOver cX7_takeOver 3 none, Cond.methodLink RX7 26 arraycopyName, Cond.methodLink RX7 22 yX7_become, Cond.instanceMethod yX7_become, Cond.selects RX7 yX7_become yX7_become, Cond.code yX7_become cX7_become 4 none, Cond.methodLink RL 102 yX10_film, Cond.instanceMethod yX10_film, Cond.selects RX10 yX10_film yX10_film, Cond.code yX10_film cX10_film 6 (some .int), Cond.methodLink RX10 279 yX10_sheet, Cond.instanceMethod yX10_sheet, Cond.selects RX10 yX10_sheet yX10_sheet, Cond.code yX10_sheet cX10_sheet 5 (some .int)]
def wsL_law_r35 : List Cond := [Cond.constantLong RX10 293 (-1), Cond.methodLink RL 103 yX9_image, Cond.instanceMethod yX9_image, Cond.selects RX9 yX9_image yX9_image, Cond.code yX9_image cX9_image 1 (some .int), Cond.methodLink RX9 259 yX1_becomeAs, Cond.instanceMethod yX1_becomeAs, Cond.selects RX1 yX1_becomeAs yX1_becomeAs, Cond.code yX1_becomeAs cX1_becomeAs 2 none, Cond.methodLink RX1 19 arraycopyName, Cond.methodLink RL 106 yX10_image, Cond.instanceMethod yX10_image, Cond.selects RX10 yX10_image yX10_image, Cond.code yX10_image cX10_image 1 (some .int), Cond.fieldLink RX10 283 "ClearingGatesModel" "imagePrograms" "I", Cond.fieldLink RX10 286 "ClearingGatesModel" "imageFees" "J", Cond.fieldLink RX10 289 "ClearingGatesModel" "hasImage" "Z", Cond.methodLink RL 107 yX9_back, Cond.instanceMethod yX9_back, Cond.selects RX9 yX9_back yX9_back, Cond.code yX9_back cX9_back 1 (some .int), Cond.methodLink RL 110 yX10_back, Cond.instanceMethod yX10_back, Cond.selects RX10 yX10_back yX10_back]
def wsL_law_r36 : List Cond := [Cond.code yX10_back cX10_back 1 (some .int), Cond.methodLink RL 111 yX9_sheet, Cond.instanceMethod yX9_sheet, Cond.selects RX9 yX9_sheet yX9_sheet, Cond.code yX9_sheet cX9_sheet 4 (some .int), Cond.methodLink RX9 261 yX7_become, Cond.methodLink RL 114 yX10_sheet, Cond.methodLink RL 115 yX9_put, Cond.instanceMethod yX9_put, Cond.selects RX9 yX9_put yX9_put, Cond.code yX9_put cX9_put 5 (some .int), Cond.methodLink RX9 264 yX7_hasPlace, Cond.instanceMethod yX7_hasPlace, Cond.selects RX7 yX7_hasPlace yX7_hasPlace, Cond.code yX7_hasPlace cX7_hasPlace 2 (some .boolean), Cond.methodLink RX9 267 yX7_write, Cond.instanceMethod yX7_write, Cond.selects RX7 yX7_write yX7_write, Cond.code yX7_write cX7_write 3 none, Cond.methodLink RL 118 yX10_put, Cond.instanceMethod yX10_put, Cond.selects RX10 yX10_put yX10_put, Cond.code yX10_put cX10_put 4 (some .int), Cond.methodLink RL 119 yX9_copy]
def wsL_law_r37 : List Cond := [Cond.instanceMethod yX9_copy, Cond.selects RX9 yX9_copy yX9_copy, Cond.code yX9_copy cX9_copy 8 (some .int), Cond.fieldLink RX9 270 "ClearingGates$Sheet" "sort" "I", Cond.fieldLink RX9 276 "ClearingGates$Sheet" "items" "[I", Cond.methodLink RX9 279 arraycopyName, Cond.methodLink RX9 273 yX7_hasStretch, Cond.instanceMethod yX7_hasStretch, Cond.selects RX7 yX7_hasStretch yX7_hasStretch, Cond.code yX7_hasStretch cX7_hasStretch 3 (some .boolean), Cond.methodLink RL 123 yX10_copy, Cond.instanceMethod yX10_copy, Cond.selects RX10 yX10_copy yX10_copy, Cond.code yX10_copy cX10_copy 6 (some .int), Cond.methodLink RL 124 yX9_load, Cond.instanceMethod yX9_load, Cond.selects RX9 yX9_load yX9_load, Cond.code yX9_load cX9_load 9 (some .int), Cond.methodLink RX9 285 yX9_owe, Cond.methodLink RL 127 yX10_load, Cond.instanceMethod yX10_load, Cond.selects RX10 yX10_load yX10_load, Cond.code yX10_load cX10_load 10 (some .int), Cond.constantLong RX10 295 (20)]
def wsL_law_r38 : List Cond := [Cond.methodLink RX10 297 yX10_owe]
def wsL_law : List Cond := (wsL_law_r1 ++ (wsL_law_r2 ++ (wsL_law_r3 ++ (wsL_law_r4 ++ (wsL_law_r5 ++ (wsL_law_r6 ++ (wsL_law_r7 ++ (wsL_law_r8 ++ (wsL_law_r9 ++ (wsL_law_r10 ++ (wsL_law_r11 ++ (wsL_law_r12 ++ (wsL_law_r13 ++ (wsL_law_r14 ++ (wsL_law_r15 ++ (wsL_law_r16 ++ (wsL_law_r17 ++ (wsL_law_r18 ++ (wsL_law_r19 ++ (wsL_law_r20 ++ (wsL_law_r21 ++ (wsL_law_r22 ++ (wsL_law_r23 ++ (wsL_law_r24 ++ (wsL_law_r25 ++ (wsL_law_r26 ++ (wsL_law_r27 ++ (wsL_law_r28 ++ (wsL_law_r29 ++ (wsL_law_r30 ++ (wsL_law_r31 ++ (wsL_law_r32 ++ (wsL_law_r33 ++ (wsL_law_r34 ++ (wsL_law_r35 ++ (wsL_law_r36 ++ (wsL_law_r37 ++ wsL_law_r38))))))))))))))))))))))))))))))))))))) ++ wsX90 ++ wsX100 ++ wsX00 ++ wsX10 ++ wsX50 ++ wsX30 ++ wsX80 ++ wsX40 ++ wsX60 ++ wsX70 ++ ([] : List Cond)
theorem mem_r {big : List Cond} (ws : List Cond) (ps : List Nat) (hp : ws = ps.filterMap (fun i => big[i]?)) : ∀ w ∈ ws, w ∈ big := by
  intro w hw
  rw [hp] at hw
  obtain ⟨i, -, hi⟩ := List.mem_filterMap.mp hw
  exact List.mem_of_getElem? hi
theorem in_wsL_law_r1 : ∀ w ∈ wsL_law_r1, w ∈ lw_tbl := mem_r _ [82, 83, 69, 757, 758, 78, 84, 85, 86, 87, 88, 89, 90, 91, 70, 304, 305, 160, 161, 71, 306, 307, 170, 171] (by decide +kernel)
theorem in_wsL_law_r2 : ∀ w ∈ wsL_law_r2, w ∈ lw_tbl := mem_r _ [72, 308, 189, 309, 191, 73, 311, 209, 210, 74, 312, 225, 226, 75, 313, 247, 248, 76, 314, 315, 284, 316, 286, 77] (by decide +kernel)
theorem in_wsL_law_r3 : ∀ w ∈ wsL_law_r3, w ∈ lw_tbl := mem_r _ [93, 94, 95, 158, 96, 98, 101, 159, 103, 105, 108, 111, 163, 164, 165, 166, 172, 173, 174, 175, 177, 179, 176, 193] (by decide +kernel)
theorem in_wsL_law_r4 : ∀ w ∈ wsL_law_r4, w ∈ lw_tbl := mem_r _ [194, 195, 196, 197, 212, 213, 214, 215, 228, 229, 230, 231, 249, 250, 251, 252, 257, 261, 253, 262, 283, 263, 255, 288] (by decide +kernel)
theorem in_wsL_law_r5 : ∀ w ∈ wsL_law_r5, w ∈ lw_tbl := mem_r _ [289, 290, 291, 295, 759, 760, 761, 762, 763, 765, 767, 770, 772, 773, 775, 776, 782, 783, 785, 787, 788, 790, 791, 792] (by decide +kernel)
theorem in_wsL_law_r6 : ∀ w ∈ wsL_law_r6, w ∈ lw_tbl := mem_r _ [793, 794, 344, 345, 346, 347, 351, 115, 348, 349, 79, 350, 352, 353, 354, 355, 356, 357, 358, 114, 860, 861, 862, 863] (by decide +kernel)
theorem in_wsL_law_r7 : ∀ w ∈ wsL_law_r7, w ∈ lw_tbl := mem_r _ [864, 868, 865, 866, 867, 359, 360, 361, 362, 367, 99, 102, 363, 364, 365, 366, 869, 870, 871, 872, 877, 878, 873, 875] (by decide +kernel)
theorem in_wsL_law_r8 : ∀ w ∈ wsL_law_r8, w ∈ lw_tbl := mem_r _ [31, 876, 368, 369, 370, 371, 104, 879, 880, 881, 882, 372, 373, 374, 375, 97, 106, 109, 112, 376, 377, 378, 379, 380] (by decide +kernel)
theorem in_wsL_law_r9 : ∀ w ∈ wsL_law_r9, w ∈ lw_tbl := mem_r _ [381, 382, 883, 884, 885, 886, 887, 889, 32, 890, 383, 384, 385, 386, 387, 388, 389, 390, 391, 392, 393, 394, 395, 396] (by decide +kernel)
theorem in_wsL_law_r10 : ∀ w ∈ wsL_law_r10, w ∈ lw_tbl := mem_r _ [397, 398, 399, 400, 401, 891, 892, 893, 894, 895, 896, 898, 33, 899, 900, 902, 34, 903, 904, 906, 35, 907, 402, 403] (by decide +kernel)
theorem in_wsL_law_r11 : ∀ w ∈ wsL_law_r11, w ∈ lw_tbl := mem_r _ [404, 405, 310, 120, 122, 125, 128, 219, 406, 407, 408, 409, 259, 410, 411, 80, 412, 908, 909, 910, 911, 774, 786, 771] (by decide +kernel)
theorem in_wsL_law_r12 : ∀ w ∈ wsL_law_r12, w ∈ lw_tbl := mem_r _ [413, 414, 415, 416, 117, 417, 418, 419, 420, 116, 421, 422, 423, 424, 912, 913, 914, 915, 764, 425, 426, 427, 428, 429] (by decide +kernel)
theorem in_wsL_law_r13 : ∀ w ∈ wsL_law_r13, w ∈ lw_tbl := mem_r _ [430, 431, 916, 917, 918, 919, 920, 921, 922, 432, 433, 434, 435, 436, 437, 438, 439, 440, 441, 442, 217, 923, 924, 925] (by decide +kernel)
theorem in_wsL_law_r14 : ∀ w ∈ wsL_law_r14, w ∈ lw_tbl := mem_r _ [926, 927, 928, 929, 930, 931, 443, 444, 445, 446, 447, 448, 449, 450, 216, 451, 453, 452, 81, 218, 199, 454, 455, 456] (by decide +kernel)
theorem in_wsL_law_r15 : ∀ w ∈ wsL_law_r15, w ∈ lw_tbl := mem_r _ [457, 235, 232, 233, 234, 200, 458, 460, 0, 461, 462, 463, 464, 465, 466, 468, 1, 469, 470, 472, 2, 473, 474, 476] (by decide +kernel)
theorem in_wsL_law_r16 : ∀ w ∈ wsL_law_r16, w ∈ lw_tbl := mem_r _ [3, 477, 478, 480, 4, 481, 482, 484, 5, 485, 486, 488, 6, 489, 198, 490, 492, 7, 493, 494, 496, 8, 497, 932] (by decide +kernel)
theorem in_wsL_law_r17 : ∀ w ∈ wsL_law_r17, w ∈ lw_tbl := mem_r _ [933, 934, 935, 778, 779, 936, 938, 36, 939, 940, 942, 37, 943, 944, 946, 38, 952, 954, 40, 955, 956, 957, 948, 950] (by decide +kernel)
theorem in_wsL_law_r18 : ∀ w ∈ wsL_law_r18, w ∈ lw_tbl := mem_r _ [39, 951, 947, 498, 499, 500, 501, 502, 504, 9, 505, 506, 507, 508, 509, 265, 264, 201, 510, 512, 10, 513, 100, 514] (by decide +kernel)
theorem in_wsL_law_r19 : ∀ w ∈ wsL_law_r19, w ∈ lw_tbl := mem_r _ [118, 515, 517, 11, 518, 586, 587, 588, 519, 521, 12, 550, 551, 552, 553, 557, 129, 546, 548, 16, 558, 560, 18, 561] (by decide +kernel)
theorem in_wsL_law_r20 : ∀ w ∈ wsL_law_r20, w ∈ lw_tbl := mem_r _ [542, 544, 15, 545, 527, 119, 107, 113, 110, 528, 529, 530, 531, 532, 533, 534, 535, 536, 537, 538, 540, 14, 541, 549] (by decide +kernel)
theorem in_wsL_law_r21 : ∀ w ∈ wsL_law_r21, w ∈ lw_tbl := mem_r _ [522, 523, 524, 526, 13, 554, 556, 17, 562, 564, 19, 566, 568, 20, 569, 581, 570, 572, 21, 573, 574, 575, 576, 577] (by decide +kernel)
theorem in_wsL_law_r22 : ∀ w ∈ wsL_law_r22, w ∈ lw_tbl := mem_r _ [578, 579, 580, 582, 584, 22, 585, 123, 126, 565, 958, 959, 960, 961, 784, 1034, 962, 964, 41, 965, 966, 968, 42, 969] (by decide +kernel)
theorem in_wsL_law_r23 : ∀ w ∈ wsL_law_r23, w ∈ lw_tbl := mem_r _ [780, 781, 789, 970, 972, 43, 973, 974, 976, 44, 977, 978, 980, 45, 981, 982, 984, 46, 985, 986, 988, 47, 1026, 1028] (by decide +kernel)
theorem in_wsL_law_r24 : ∀ w ∈ wsL_law_r24, w ∈ lw_tbl := mem_r _ [57, 1029, 1006, 1008, 52, 1009, 993, 994, 996, 49, 997, 998, 1000, 50, 1001, 1002, 1004, 51, 1005, 989, 990, 992, 48, 1010] (by decide +kernel)
theorem in_wsL_law_r25 : ∀ w ∈ wsL_law_r25, w ∈ lw_tbl := mem_r _ [1012, 53, 1018, 1020, 55, 1022, 1024, 56, 1025, 1030, 1032, 58, 1033, 1021, 1013, 1014, 1016, 54, 1017, 589, 590, 591, 592, 258] (by decide +kernel)
theorem in_wsL_law_r26 : ∀ w ∈ wsL_law_r26, w ∈ lw_tbl := mem_r _ [1035, 1036, 1037, 1038, 593, 594, 595, 596, 256, 260, 597, 599, 23, 600, 601, 603, 24, 604, 605, 606, 607, 608, 609, 121] (by decide +kernel)
theorem in_wsL_law_r27 : ∀ w ∈ wsL_law_r27, w ∈ lw_tbl := mem_r _ [124, 127, 130, 610, 611, 612, 613, 1039, 1040, 1041, 1042, 1043, 1044, 1045, 1047, 59, 1048, 1049, 1051, 60, 1052, 1053, 766, 1054] (by decide +kernel)
theorem in_wsL_law_r28 : ∀ w ∈ wsL_law_r28, w ∈ lw_tbl := mem_r _ [1056, 61, 1057, 614, 615, 616, 617, 1058, 1059, 1060, 1061, 1062, 1063, 1065, 62, 1066, 1067, 618, 619, 620, 621, 1068, 1069, 1070] (by decide +kernel)
theorem in_wsL_law_r29 : ∀ w ∈ wsL_law_r29, w ∈ lw_tbl := mem_r _ [1071, 622, 623, 624, 625, 630, 626, 628, 25, 629, 631, 632, 633, 634, 635, 1072, 1073, 1074, 1075, 1080, 1076, 1078, 63, 1079] (by decide +kernel)
theorem in_wsL_law_r30 : ∀ w ∈ wsL_law_r30, w ∈ lw_tbl := mem_r _ [636, 637, 638, 639, 1081, 1082, 1083, 1084, 640, 641, 642, 643, 644, 645, 646, 647, 648, 649, 650, 651, 652, 653, 654, 655] (by decide +kernel)
theorem in_wsL_law_r31 : ∀ w ∈ wsL_law_r31, w ∈ lw_tbl := mem_r _ [656, 658, 26, 659, 660, 662, 27, 663, 178, 664, 665, 667, 28, 668, 669, 674, 670, 672, 29, 673, 675, 676, 677, 678] (by decide +kernel)
theorem in_wsL_law_r32 : ∀ w ∈ wsL_law_r32, w ∈ lw_tbl := mem_r _ [679, 1085, 1086, 1087, 1088, 1097, 1089, 1091, 64, 1092, 1093, 1095, 65, 1096, 680, 681, 682, 683, 294, 684, 685, 686, 687, 688] (by decide +kernel)
theorem in_wsL_law_r33 : ∀ w ∈ wsL_law_r33, w ∈ lw_tbl := mem_r _ [689, 690, 691, 693, 30, 694, 695, 696, 697, 698, 293, 699, 1098, 1099, 1100, 1101, 1102, 1103, 1104, 1105, 1107, 66, 1108, 1109] (by decide +kernel)
theorem in_wsL_law_r34 : ∀ w ∈ wsL_law_r34, w ∈ lw_tbl := mem_r _ [1111, 67, 1112, 700, 701, 702, 703, 704, 705, 706, 707, 712, 708, 709, 710, 711, 1113, 1114, 1115, 1116, 1117, 1118, 1119, 1120] (by decide +kernel)
theorem in_wsL_law_r35 : ∀ w ∈ wsL_law_r35, w ∈ lw_tbl := mem_r _ [1121, 713, 714, 715, 716, 717, 718, 719, 720, 721, 1122, 1123, 1124, 1125, 777, 768, 769, 722, 723, 724, 725, 1126, 1127, 1128] (by decide +kernel)
theorem in_wsL_law_r36 : ∀ w ∈ wsL_law_r36, w ∈ lw_tbl := mem_r _ [1129, 726, 727, 728, 729, 730, 1130, 731, 732, 733, 734, 735, 736, 737, 738, 739, 740, 741, 742, 1131, 1132, 1133, 1134, 743] (by decide +kernel)
theorem in_wsL_law_r37 : ∀ w ∈ wsL_law_r37, w ∈ lw_tbl := mem_r _ [744, 745, 746, 292, 296, 751, 747, 748, 749, 750, 1135, 1136, 1137, 1138, 752, 753, 754, 755, 756, 1139, 1140, 1141, 1142, 1143] (by decide +kernel)
theorem in_wsL_law_r38 : ∀ w ∈ wsL_law_r38, w ∈ lw_tbl := mem_r _ [1144] (by decide +kernel)
theorem in_wsX90 : ∀ w ∈ wsX90, w ∈ lw_tbl := mem_r _ [317, 319, 321, 323, 325, 327, 329, 331, 333, 335, 337, 339, 341] (by decide +kernel)
theorem in_wsX100 : ∀ w ∈ wsX100, w ∈ lw_tbl := mem_r _ [795, 797, 799, 801, 803, 805, 807, 809, 811, 813, 815, 817, 819, 821, 823, 825, 827, 829, 831, 833, 835, 837, 839, 841, 843, 845, 847, 849, 851, 853, 855, 857] (by decide +kernel)
theorem in_wsX00 : ∀ w ∈ wsX00, w ∈ lw_tbl := mem_r _ [131, 133, 135, 137, 139, 141, 143, 145, 147, 149, 151, 153, 155] (by decide +kernel)
theorem in_wsX10 : ∀ w ∈ wsX10, w ∈ lw_tbl := mem_r _ [167] (by decide +kernel)
theorem in_wsX50 : ∀ w ∈ wsX50, w ∈ lw_tbl := mem_r _ [180, 182, 184, 186] (by decide +kernel)
theorem in_wsX30 : ∀ w ∈ wsX30, w ∈ lw_tbl := mem_r _ [202, 204, 206] (by decide +kernel)
theorem in_wsX80 : ∀ w ∈ wsX80, w ∈ lw_tbl := mem_r _ [220, 222] (by decide +kernel)
theorem in_wsX40 : ∀ w ∈ wsX40, w ∈ lw_tbl := mem_r _ [236, 238, 240, 242, 244] (by decide +kernel)
theorem in_wsX60 : ∀ w ∈ wsX60, w ∈ lw_tbl := mem_r _ [266, 268, 270, 272, 274, 276, 278, 280] (by decide +kernel)
theorem in_wsX70 : ∀ w ∈ wsX70, w ∈ lw_tbl := mem_r _ [297, 299, 301] (by decide +kernel)
theorem wsL_law_in : ∀ w ∈ wsL_law, w ∈ lw_tbl := by
  unfold wsL_law
  exact List.forall_mem_append.mpr ⟨List.forall_mem_append.mpr ⟨List.forall_mem_append.mpr ⟨List.forall_mem_append.mpr ⟨List.forall_mem_append.mpr ⟨List.forall_mem_append.mpr ⟨List.forall_mem_append.mpr ⟨List.forall_mem_append.mpr ⟨List.forall_mem_append.mpr ⟨List.forall_mem_append.mpr ⟨List.forall_mem_append.mpr ⟨List.forall_mem_append.mpr ⟨in_wsL_law_r1, List.forall_mem_append.mpr ⟨in_wsL_law_r2, List.forall_mem_append.mpr ⟨in_wsL_law_r3, List.forall_mem_append.mpr ⟨in_wsL_law_r4, List.forall_mem_append.mpr ⟨in_wsL_law_r5, List.forall_mem_append.mpr ⟨in_wsL_law_r6, List.forall_mem_append.mpr ⟨in_wsL_law_r7, List.forall_mem_append.mpr ⟨in_wsL_law_r8, List.forall_mem_append.mpr ⟨in_wsL_law_r9, List.forall_mem_append.mpr ⟨in_wsL_law_r10, List.forall_mem_append.mpr ⟨in_wsL_law_r11, List.forall_mem_append.mpr ⟨in_wsL_law_r12, List.forall_mem_append.mpr ⟨in_wsL_law_r13, List.forall_mem_append.mpr ⟨in_wsL_law_r14, List.forall_mem_append.mpr ⟨in_wsL_law_r15, List.forall_mem_append.mpr ⟨in_wsL_law_r16, List.forall_mem_append.mpr ⟨in_wsL_law_r17, List.forall_mem_append.mpr ⟨in_wsL_law_r18, List.forall_mem_append.mpr ⟨in_wsL_law_r19, List.forall_mem_append.mpr ⟨in_wsL_law_r20, List.forall_mem_append.mpr ⟨in_wsL_law_r21, List.forall_mem_append.mpr ⟨in_wsL_law_r22, List.forall_mem_append.mpr ⟨in_wsL_law_r23, List.forall_mem_append.mpr ⟨in_wsL_law_r24, List.forall_mem_append.mpr ⟨in_wsL_law_r25, List.forall_mem_append.mpr ⟨in_wsL_law_r26, List.forall_mem_append.mpr ⟨in_wsL_law_r27, List.forall_mem_append.mpr ⟨in_wsL_law_r28, List.forall_mem_append.mpr ⟨in_wsL_law_r29, List.forall_mem_append.mpr ⟨in_wsL_law_r30, List.forall_mem_append.mpr ⟨in_wsL_law_r31, List.forall_mem_append.mpr ⟨in_wsL_law_r32, List.forall_mem_append.mpr ⟨in_wsL_law_r33, List.forall_mem_append.mpr ⟨in_wsL_law_r34, List.forall_mem_append.mpr ⟨in_wsL_law_r35, List.forall_mem_append.mpr ⟨in_wsL_law_r36, List.forall_mem_append.mpr ⟨in_wsL_law_r37, in_wsL_law_r38⟩⟩⟩⟩⟩⟩⟩⟩⟩⟩⟩⟩⟩⟩⟩⟩⟩⟩⟩⟩⟩⟩⟩⟩⟩⟩⟩⟩⟩⟩⟩⟩⟩⟩⟩⟩⟩, in_wsX90⟩, in_wsX100⟩, in_wsX00⟩, in_wsX10⟩, in_wsX50⟩, in_wsX30⟩, in_wsX80⟩, in_wsX40⟩, in_wsX60⟩, in_wsX70⟩, fun _ h => absurd h List.not_mem_nil⟩
theorem inlX0 : ∀ w ∈ wsX00, w ∈ wsL_law := fun _ h => List.mem_append_left _ (List.mem_append_left _ (List.mem_append_left _ (List.mem_append_left _ (List.mem_append_left _ (List.mem_append_left _ (List.mem_append_left _ (List.mem_append_left _ (List.mem_append_right _ h))))))))
theorem inX0 : ∀ w ∈ wsX00, w ∈ lw_tbl := fun w h => wsL_law_in w (inlX0 w h)
theorem inlX1 : ∀ w ∈ wsX10, w ∈ wsL_law := fun _ h => List.mem_append_left _ (List.mem_append_left _ (List.mem_append_left _ (List.mem_append_left _ (List.mem_append_left _ (List.mem_append_left _ (List.mem_append_left _ (List.mem_append_right _ h)))))))
theorem inX1 : ∀ w ∈ wsX10, w ∈ lw_tbl := fun w h => wsL_law_in w (inlX1 w h)
theorem inlX3 : ∀ w ∈ wsX30, w ∈ wsL_law := fun _ h => List.mem_append_left _ (List.mem_append_left _ (List.mem_append_left _ (List.mem_append_left _ (List.mem_append_left _ (List.mem_append_right _ h)))))
theorem inX3 : ∀ w ∈ wsX30, w ∈ lw_tbl := fun w h => wsL_law_in w (inlX3 w h)
theorem inlX4 : ∀ w ∈ wsX40, w ∈ wsL_law := fun _ h => List.mem_append_left _ (List.mem_append_left _ (List.mem_append_left _ (List.mem_append_right _ h)))
theorem inX4 : ∀ w ∈ wsX40, w ∈ lw_tbl := fun w h => wsL_law_in w (inlX4 w h)
theorem inlX5 : ∀ w ∈ wsX50, w ∈ wsL_law := fun _ h => List.mem_append_left _ (List.mem_append_left _ (List.mem_append_left _ (List.mem_append_left _ (List.mem_append_left _ (List.mem_append_left _ (List.mem_append_right _ h))))))
theorem inX5 : ∀ w ∈ wsX50, w ∈ lw_tbl := fun w h => wsL_law_in w (inlX5 w h)
theorem inlX6 : ∀ w ∈ wsX60, w ∈ wsL_law := fun _ h => List.mem_append_left _ (List.mem_append_left _ (List.mem_append_right _ h))
theorem inX6 : ∀ w ∈ wsX60, w ∈ lw_tbl := fun w h => wsL_law_in w (inlX6 w h)
theorem inlX7 : ∀ w ∈ wsX70, w ∈ wsL_law := fun _ h => List.mem_append_left _ (List.mem_append_right _ h)
theorem inX7 : ∀ w ∈ wsX70, w ∈ lw_tbl := fun w h => wsL_law_in w (inlX7 w h)
theorem inlX8 : ∀ w ∈ wsX80, w ∈ wsL_law := fun _ h => List.mem_append_left _ (List.mem_append_left _ (List.mem_append_left _ (List.mem_append_left _ (List.mem_append_right _ h))))
theorem inX8 : ∀ w ∈ wsX80, w ∈ lw_tbl := fun w h => wsL_law_in w (inlX8 w h)
theorem inlX9 : ∀ w ∈ wsX90, w ∈ wsL_law := fun _ h => List.mem_append_left _ (List.mem_append_left _ (List.mem_append_left _ (List.mem_append_left _ (List.mem_append_left _ (List.mem_append_left _ (List.mem_append_left _ (List.mem_append_left _ (List.mem_append_left _ (List.mem_append_left _ (List.mem_append_right _ h))))))))))
theorem inX9 : ∀ w ∈ wsX90, w ∈ lw_tbl := fun w h => wsL_law_in w (inlX9 w h)
theorem inlX10 : ∀ w ∈ wsX100, w ∈ wsL_law := fun _ h => List.mem_append_left _ (List.mem_append_left _ (List.mem_append_left _ (List.mem_append_left _ (List.mem_append_left _ (List.mem_append_left _ (List.mem_append_left _ (List.mem_append_left _ (List.mem_append_left _ (List.mem_append_right _ h)))))))))
theorem inX10 : ∀ w ∈ wsX100, w ∈ lw_tbl := fun w h => wsL_law_in w (inlX10 w h)
theorem dX0_init_0 : decode cX0_init 0 = .ok (.aload_n 0, 1) := by decide +kernel
theorem dX0_init_1 : decode cX0_init 1 = .ok (.invokespecial 3, 3) := by decide +kernel
theorem dX0_init_4 : decode cX0_init 4 = .ok (.aload_n 0, 1) := by decide +kernel
theorem dX0_init_5 : decode cX0_init 5 = .ok (.bipush 8, 2) := by decide +kernel
theorem dX0_init_7 : decode cX0_init 7 = .ok (.newarray .int, 2) := by decide +kernel
theorem dX0_init_9 : decode cX0_init 9 = .ok (.putfield 9, 3) := by decide +kernel
theorem dX0_init_12 : decode cX0_init 12 = .ok (.aload_n 0, 1) := by decide +kernel
theorem dX0_init_13 : decode cX0_init 13 = .ok (.bipush 8, 2) := by decide +kernel
theorem dX0_init_15 : decode cX0_init 15 = .ok (.newarray .int, 2) := by decide +kernel
theorem dX0_init_17 : decode cX0_init 17 = .ok (.putfield 15, 3) := by decide +kernel
theorem dX0_init_20 : decode cX0_init 20 = .ok (.aload_n 0, 1) := by decide +kernel
theorem dX0_init_21 : decode cX0_init 21 = .ok (.bipush 8, 2) := by decide +kernel
theorem dX0_init_23 : decode cX0_init 23 = .ok (.newarray .int, 2) := by decide +kernel
theorem dX0_init_25 : decode cX0_init 25 = .ok (.putfield 18, 3) := by decide +kernel
theorem dX0_init_28 : decode cX0_init 28 = .ok (.aload_n 0, 1) := by decide +kernel
theorem dX0_init_29 : decode cX0_init 29 = .ok (.bipush 8, 2) := by decide +kernel
theorem dX0_init_31 : decode cX0_init 31 = .ok (.newarray .boolean, 2) := by decide +kernel
theorem dX0_init_33 : decode cX0_init 33 = .ok (.putfield 21, 3) := by decide +kernel
theorem dX0_init_36 : decode cX0_init 36 = .ok (.aload_n 0, 1) := by decide +kernel
theorem dX0_init_37 : decode cX0_init 37 = .ok (.bipush 8, 2) := by decide +kernel
theorem dX0_init_39 : decode cX0_init 39 = .ok (.newarray .int, 2) := by decide +kernel
theorem dX0_init_41 : decode cX0_init 41 = .ok (.putfield 25, 3) := by decide +kernel
theorem dX0_init_44 : decode cX0_init 44 = .ok (.aload_n 0, 1) := by decide +kernel
theorem dX0_init_45 : decode cX0_init 45 = .ok (.bipush 8, 2) := by decide +kernel
theorem dX0_init_47 : decode cX0_init 47 = .ok (.newarray .int, 2) := by decide +kernel
theorem dX0_init_49 : decode cX0_init 49 = .ok (.putfield 28, 3) := by decide +kernel
theorem dX0_init_52 : decode cX0_init 52 = .ok (.aload_n 0, 1) := by decide +kernel
theorem dX0_init_53 : decode cX0_init 53 = .ok (.bipush 8, 2) := by decide +kernel
theorem dX0_init_55 : decode cX0_init 55 = .ok (.newarray .int, 2) := by decide +kernel
theorem dX0_init_57 : decode cX0_init 57 = .ok (.putfield 31, 3) := by decide +kernel
theorem dX0_init_60 : decode cX0_init 60 = .ok (.return_, 1) := by decide +kernel
theorem dX0_has_0 : decode cX0_has 0 = .ok (.iload_n 1, 1) := by decide +kernel
theorem dX0_has_1 : decode cX0_has 1 = .ok (.ifCond .lt 15, 3) := by decide +kernel
theorem dX0_has_4 : decode cX0_has 4 = .ok (.iload_n 1, 1) := by decide +kernel
theorem dX0_has_5 : decode cX0_has 5 = .ok (.aload_n 0, 1) := by decide +kernel
theorem dX0_has_6 : decode cX0_has 6 = .ok (.getfield 34, 3) := by decide +kernel
theorem dX0_has_9 : decode cX0_has 9 = .ok (.if_icmp .ge 7, 3) := by decide +kernel
theorem dX0_has_12 : decode cX0_has 12 = .ok (.iconst 1, 1) := by decide +kernel
theorem dX0_has_13 : decode cX0_has 13 = .ok (.goto 4, 3) := by decide +kernel
theorem dX0_has_16 : decode cX0_has 16 = .ok (.iconst 0, 1) := by decide +kernel
theorem dX0_has_17 : decode cX0_has 17 = .ok (.ireturn, 1) := by decide +kernel
theorem dX0_hasAllGates_0 : decode cX0_hasAllGates 0 = .ok (.iconst 0, 1) := by decide +kernel
theorem dX0_hasAllGates_1 : decode cX0_hasAllGates 1 = .ok (.istore_n 1, 1) := by decide +kernel
theorem dX0_hasAllGates_2 : decode cX0_hasAllGates 2 = .ok (.iload_n 1, 1) := by decide +kernel
theorem dX0_hasAllGates_3 : decode cX0_hasAllGates 3 = .ok (.aload_n 0, 1) := by decide +kernel
theorem dX0_hasAllGates_4 : decode cX0_hasAllGates 4 = .ok (.getfield 34, 3) := by decide +kernel
theorem dX0_hasAllGates_7 : decode cX0_hasAllGates 7 = .ok (.if_icmp .ge 20, 3) := by decide +kernel
theorem dX0_hasAllGates_27 : decode cX0_hasAllGates 27 = .ok (.iconst 1, 1) := by decide +kernel
theorem dX0_hasAllGates_28 : decode cX0_hasAllGates 28 = .ok (.ireturn, 1) := by decide +kernel
theorem dX0_open_0 : decode cX0_open 0 = .ok (.aload_n 0, 1) := by decide +kernel
theorem dX0_open_1 : decode cX0_open 1 = .ok (.getfield 34, 3) := by decide +kernel
theorem dX0_open_4 : decode cX0_open 4 = .ok (.istore_n 3, 1) := by decide +kernel
theorem dX0_open_5 : decode cX0_open 5 = .ok (.aload_n 0, 1) := by decide +kernel
theorem dX0_open_6 : decode cX0_open 6 = .ok (.getfield 9, 3) := by decide +kernel
theorem dX0_open_9 : decode cX0_open 9 = .ok (.iload_n 3, 1) := by decide +kernel
theorem dX0_open_10 : decode cX0_open 10 = .ok (.iload_n 1, 1) := by decide +kernel
theorem dX0_open_11 : decode cX0_open 11 = .ok (.iastore, 1) := by decide +kernel
theorem dX0_open_12 : decode cX0_open 12 = .ok (.aload_n 0, 1) := by decide +kernel
theorem dX0_open_13 : decode cX0_open 13 = .ok (.getfield 15, 3) := by decide +kernel
theorem dX0_open_16 : decode cX0_open 16 = .ok (.iload_n 3, 1) := by decide +kernel
theorem dX0_open_17 : decode cX0_open 17 = .ok (.iload_n 2, 1) := by decide +kernel
theorem dX0_open_18 : decode cX0_open 18 = .ok (.iastore, 1) := by decide +kernel
theorem dX0_open_19 : decode cX0_open 19 = .ok (.aload_n 0, 1) := by decide +kernel
theorem dX0_open_20 : decode cX0_open 20 = .ok (.getfield 18, 3) := by decide +kernel
theorem dX0_open_23 : decode cX0_open 23 = .ok (.iload_n 3, 1) := by decide +kernel
theorem dX0_open_24 : decode cX0_open 24 = .ok (.iconst 0, 1) := by decide +kernel
theorem dX0_open_25 : decode cX0_open 25 = .ok (.iastore, 1) := by decide +kernel
theorem dX0_open_26 : decode cX0_open 26 = .ok (.aload_n 0, 1) := by decide +kernel
theorem dX0_open_27 : decode cX0_open 27 = .ok (.getfield 21, 3) := by decide +kernel
theorem dX0_open_30 : decode cX0_open 30 = .ok (.iload_n 3, 1) := by decide +kernel
theorem dX0_open_31 : decode cX0_open 31 = .ok (.iconst 1, 1) := by decide +kernel
theorem dX0_open_32 : decode cX0_open 32 = .ok (.bastore, 1) := by decide +kernel
theorem dX0_open_33 : decode cX0_open 33 = .ok (.aload_n 0, 1) := by decide +kernel
theorem dX0_open_34 : decode cX0_open 34 = .ok (.getfield 25, 3) := by decide +kernel
theorem dX0_open_37 : decode cX0_open 37 = .ok (.iload_n 3, 1) := by decide +kernel
theorem dX0_open_38 : decode cX0_open 38 = .ok (.iconst 0, 1) := by decide +kernel
theorem dX0_open_39 : decode cX0_open 39 = .ok (.iastore, 1) := by decide +kernel
theorem dX0_open_40 : decode cX0_open 40 = .ok (.aload_n 0, 1) := by decide +kernel
theorem dX0_open_41 : decode cX0_open 41 = .ok (.getfield 28, 3) := by decide +kernel
theorem dX0_open_44 : decode cX0_open 44 = .ok (.iload_n 3, 1) := by decide +kernel
theorem dX0_open_45 : decode cX0_open 45 = .ok (.iconst 0, 1) := by decide +kernel
theorem dX0_open_46 : decode cX0_open 46 = .ok (.iastore, 1) := by decide +kernel
theorem dX0_open_47 : decode cX0_open 47 = .ok (.aload_n 0, 1) := by decide +kernel
theorem dX0_open_48 : decode cX0_open 48 = .ok (.getfield 31, 3) := by decide +kernel
theorem dX0_open_51 : decode cX0_open 51 = .ok (.iload_n 3, 1) := by decide +kernel
theorem dX0_open_52 : decode cX0_open 52 = .ok (.iconst 0, 1) := by decide +kernel
theorem dX0_open_53 : decode cX0_open 53 = .ok (.iastore, 1) := by decide +kernel
theorem dX0_open_54 : decode cX0_open 54 = .ok (.aload_n 0, 1) := by decide +kernel
theorem dX0_open_55 : decode cX0_open 55 = .ok (.dup, 1) := by decide +kernel
theorem dX0_open_56 : decode cX0_open 56 = .ok (.getfield 34, 3) := by decide +kernel
theorem dX0_open_59 : decode cX0_open 59 = .ok (.iconst 1, 1) := by decide +kernel
theorem dX0_open_60 : decode cX0_open 60 = .ok (.iadd, 1) := by decide +kernel
theorem dX0_open_61 : decode cX0_open 61 = .ok (.putfield 34, 3) := by decide +kernel
theorem dX0_open_64 : decode cX0_open 64 = .ok (.iload_n 3, 1) := by decide +kernel
theorem dX0_open_65 : decode cX0_open 65 = .ok (.ireturn, 1) := by decide +kernel
theorem dX0_allMoney_0 : decode cX0_allMoney 0 = .ok (.aload_n 0, 1) := by decide +kernel
theorem dX0_allMoney_1 : decode cX0_allMoney 1 = .ok (.getfield 51, 3) := by decide +kernel
theorem dX0_allMoney_4 : decode cX0_allMoney 4 = .ok (.lstore_n 1, 1) := by decide +kernel
theorem dX0_allMoney_5 : decode cX0_allMoney 5 = .ok (.iconst 0, 1) := by decide +kernel
theorem dX0_allMoney_6 : decode cX0_allMoney 6 = .ok (.istore_n 3, 1) := by decide +kernel
theorem dX0_allMoney_7 : decode cX0_allMoney 7 = .ok (.iload_n 3, 1) := by decide +kernel
theorem dX0_allMoney_8 : decode cX0_allMoney 8 = .ok (.aload_n 0, 1) := by decide +kernel
theorem dX0_allMoney_9 : decode cX0_allMoney 9 = .ok (.getfield 34, 3) := by decide +kernel
theorem dX0_allMoney_12 : decode cX0_allMoney 12 = .ok (.if_icmp .ge 19, 3) := by decide +kernel
theorem dX0_allMoney_31 : decode cX0_allMoney 31 = .ok (.lload_n 1, 1) := by decide +kernel
theorem dX0_allMoney_32 : decode cX0_allMoney 32 = .ok (.lreturn, 1) := by decide +kernel
theorem dX0_enterAll_0 : decode cX0_enterAll 0 = .ok (.iconst 0, 1) := by decide +kernel
theorem dX0_enterAll_1 : decode cX0_enterAll 1 = .ok (.istore_n 1, 1) := by decide +kernel
theorem dX0_enterAll_2 : decode cX0_enterAll 2 = .ok (.iload_n 1, 1) := by decide +kernel
theorem dX0_enterAll_3 : decode cX0_enterAll 3 = .ok (.aload_n 0, 1) := by decide +kernel
theorem dX0_enterAll_4 : decode cX0_enterAll 4 = .ok (.getfield 34, 3) := by decide +kernel
theorem dX0_enterAll_7 : decode cX0_enterAll 7 = .ok (.if_icmp .ge 19, 3) := by decide +kernel
theorem dX0_enterAll_26 : decode cX0_enterAll 26 = .ok (.return_, 1) := by decide +kernel
theorem dX0_leaveAll_0 : decode cX0_leaveAll 0 = .ok (.aload_n 0, 1) := by decide +kernel
theorem dX0_leaveAll_1 : decode cX0_leaveAll 1 = .ok (.getfield 34, 3) := by decide +kernel
theorem dX0_leaveAll_4 : decode cX0_leaveAll 4 = .ok (.iconst 1, 1) := by decide +kernel
theorem dX0_leaveAll_5 : decode cX0_leaveAll 5 = .ok (.isub, 1) := by decide +kernel
theorem dX0_leaveAll_6 : decode cX0_leaveAll 6 = .ok (.istore_n 1, 1) := by decide +kernel
theorem dX0_leaveAll_7 : decode cX0_leaveAll 7 = .ok (.iload_n 1, 1) := by decide +kernel
theorem dX0_leaveAll_8 : decode cX0_leaveAll 8 = .ok (.ifCond .lt 19, 3) := by decide +kernel
theorem dX0_leaveAll_27 : decode cX0_leaveAll 27 = .ok (.return_, 1) := by decide +kernel
theorem dX0_becomeAs_0 : decode cX0_becomeAs 0 = .ok (.aload_n 1, 1) := by decide +kernel
theorem dX0_becomeAs_1 : decode cX0_becomeAs 1 = .ok (.getfield 9, 3) := by decide +kernel
theorem dX0_becomeAs_4 : decode cX0_becomeAs 4 = .ok (.iconst 0, 1) := by decide +kernel
theorem dX0_becomeAs_5 : decode cX0_becomeAs 5 = .ok (.aload_n 0, 1) := by decide +kernel
theorem dX0_becomeAs_6 : decode cX0_becomeAs 6 = .ok (.getfield 9, 3) := by decide +kernel
theorem dX0_becomeAs_9 : decode cX0_becomeAs 9 = .ok (.iconst 0, 1) := by decide +kernel
theorem dX0_becomeAs_10 : decode cX0_becomeAs 10 = .ok (.bipush 8, 2) := by decide +kernel
theorem dX0_becomeAs_12 : decode cX0_becomeAs 12 = .ok (.invokestatic 55, 3) := by decide +kernel
theorem dX0_becomeAs_15 : decode cX0_becomeAs 15 = .ok (.aload_n 1, 1) := by decide +kernel
theorem dX0_becomeAs_16 : decode cX0_becomeAs 16 = .ok (.getfield 15, 3) := by decide +kernel
theorem dX0_becomeAs_19 : decode cX0_becomeAs 19 = .ok (.iconst 0, 1) := by decide +kernel
theorem dX0_becomeAs_20 : decode cX0_becomeAs 20 = .ok (.aload_n 0, 1) := by decide +kernel
theorem dX0_becomeAs_21 : decode cX0_becomeAs 21 = .ok (.getfield 15, 3) := by decide +kernel
theorem dX0_becomeAs_24 : decode cX0_becomeAs 24 = .ok (.iconst 0, 1) := by decide +kernel
theorem dX0_becomeAs_25 : decode cX0_becomeAs 25 = .ok (.bipush 8, 2) := by decide +kernel
theorem dX0_becomeAs_27 : decode cX0_becomeAs 27 = .ok (.invokestatic 55, 3) := by decide +kernel
theorem dX0_becomeAs_30 : decode cX0_becomeAs 30 = .ok (.aload_n 1, 1) := by decide +kernel
theorem dX0_becomeAs_31 : decode cX0_becomeAs 31 = .ok (.getfield 18, 3) := by decide +kernel
theorem dX0_becomeAs_34 : decode cX0_becomeAs 34 = .ok (.iconst 0, 1) := by decide +kernel
theorem dX0_becomeAs_35 : decode cX0_becomeAs 35 = .ok (.aload_n 0, 1) := by decide +kernel
theorem dX0_becomeAs_36 : decode cX0_becomeAs 36 = .ok (.getfield 18, 3) := by decide +kernel
theorem dX0_becomeAs_39 : decode cX0_becomeAs 39 = .ok (.iconst 0, 1) := by decide +kernel
theorem dX0_becomeAs_40 : decode cX0_becomeAs 40 = .ok (.bipush 8, 2) := by decide +kernel
theorem dX0_becomeAs_42 : decode cX0_becomeAs 42 = .ok (.invokestatic 55, 3) := by decide +kernel
theorem dX0_becomeAs_45 : decode cX0_becomeAs 45 = .ok (.aload_n 1, 1) := by decide +kernel
theorem dX0_becomeAs_46 : decode cX0_becomeAs 46 = .ok (.getfield 25, 3) := by decide +kernel
theorem dX0_becomeAs_49 : decode cX0_becomeAs 49 = .ok (.iconst 0, 1) := by decide +kernel
theorem dX0_becomeAs_50 : decode cX0_becomeAs 50 = .ok (.aload_n 0, 1) := by decide +kernel
theorem dX0_becomeAs_51 : decode cX0_becomeAs 51 = .ok (.getfield 25, 3) := by decide +kernel
theorem dX0_becomeAs_54 : decode cX0_becomeAs 54 = .ok (.iconst 0, 1) := by decide +kernel
theorem dX0_becomeAs_55 : decode cX0_becomeAs 55 = .ok (.bipush 8, 2) := by decide +kernel
theorem dX0_becomeAs_57 : decode cX0_becomeAs 57 = .ok (.invokestatic 55, 3) := by decide +kernel
theorem dX0_becomeAs_60 : decode cX0_becomeAs 60 = .ok (.aload_n 1, 1) := by decide +kernel
theorem dX0_becomeAs_61 : decode cX0_becomeAs 61 = .ok (.getfield 28, 3) := by decide +kernel
theorem dX0_becomeAs_64 : decode cX0_becomeAs 64 = .ok (.iconst 0, 1) := by decide +kernel
theorem dX0_becomeAs_65 : decode cX0_becomeAs 65 = .ok (.aload_n 0, 1) := by decide +kernel
theorem dX0_becomeAs_66 : decode cX0_becomeAs 66 = .ok (.getfield 28, 3) := by decide +kernel
theorem dX0_becomeAs_69 : decode cX0_becomeAs 69 = .ok (.iconst 0, 1) := by decide +kernel
theorem dX0_becomeAs_70 : decode cX0_becomeAs 70 = .ok (.bipush 8, 2) := by decide +kernel
theorem dX0_becomeAs_72 : decode cX0_becomeAs 72 = .ok (.invokestatic 55, 3) := by decide +kernel
theorem dX0_becomeAs_75 : decode cX0_becomeAs 75 = .ok (.aload_n 1, 1) := by decide +kernel
theorem dX0_becomeAs_76 : decode cX0_becomeAs 76 = .ok (.getfield 31, 3) := by decide +kernel
theorem dX0_becomeAs_79 : decode cX0_becomeAs 79 = .ok (.iconst 0, 1) := by decide +kernel
theorem dX0_becomeAs_80 : decode cX0_becomeAs 80 = .ok (.aload_n 0, 1) := by decide +kernel
theorem dX0_becomeAs_81 : decode cX0_becomeAs 81 = .ok (.getfield 31, 3) := by decide +kernel
theorem dX0_becomeAs_84 : decode cX0_becomeAs 84 = .ok (.iconst 0, 1) := by decide +kernel
theorem dX0_becomeAs_85 : decode cX0_becomeAs 85 = .ok (.bipush 8, 2) := by decide +kernel
theorem dX0_becomeAs_87 : decode cX0_becomeAs 87 = .ok (.invokestatic 55, 3) := by decide +kernel
theorem dX0_becomeAs_90 : decode cX0_becomeAs 90 = .ok (.iconst 0, 1) := by decide +kernel
theorem dX0_becomeAs_91 : decode cX0_becomeAs 91 = .ok (.istore_n 2, 1) := by decide +kernel
theorem dX0_becomeAs_92 : decode cX0_becomeAs 92 = .ok (.iload_n 2, 1) := by decide +kernel
theorem dX0_becomeAs_93 : decode cX0_becomeAs 93 = .ok (.bipush 8, 2) := by decide +kernel
theorem dX0_becomeAs_95 : decode cX0_becomeAs 95 = .ok (.if_icmp .ge 21, 3) := by decide +kernel
theorem dX0_becomeAs_98 : decode cX0_becomeAs 98 = .ok (.aload_n 0, 1) := by decide +kernel
theorem dX0_becomeAs_99 : decode cX0_becomeAs 99 = .ok (.getfield 21, 3) := by decide +kernel
theorem dX0_becomeAs_102 : decode cX0_becomeAs 102 = .ok (.iload_n 2, 1) := by decide +kernel
theorem dX0_becomeAs_103 : decode cX0_becomeAs 103 = .ok (.aload_n 1, 1) := by decide +kernel
theorem dX0_becomeAs_104 : decode cX0_becomeAs 104 = .ok (.getfield 21, 3) := by decide +kernel
theorem dX0_becomeAs_107 : decode cX0_becomeAs 107 = .ok (.iload_n 2, 1) := by decide +kernel
theorem dX0_becomeAs_108 : decode cX0_becomeAs 108 = .ok (.baload, 1) := by decide +kernel
theorem dX0_becomeAs_109 : decode cX0_becomeAs 109 = .ok (.bastore, 1) := by decide +kernel
theorem dX0_becomeAs_110 : decode cX0_becomeAs 110 = .ok (.iinc 2 1, 3) := by decide +kernel
theorem dX0_becomeAs_113 : decode cX0_becomeAs 113 = .ok (.goto (-21), 3) := by decide +kernel
theorem dX0_becomeAs_116 : decode cX0_becomeAs 116 = .ok (.aload_n 0, 1) := by decide +kernel
theorem dX0_becomeAs_117 : decode cX0_becomeAs 117 = .ok (.aload_n 1, 1) := by decide +kernel
theorem dX0_becomeAs_118 : decode cX0_becomeAs 118 = .ok (.getfield 34, 3) := by decide +kernel
theorem dX0_becomeAs_121 : decode cX0_becomeAs 121 = .ok (.putfield 34, 3) := by decide +kernel
theorem dX0_becomeAs_124 : decode cX0_becomeAs 124 = .ok (.aload_n 0, 1) := by decide +kernel
theorem dX0_becomeAs_125 : decode cX0_becomeAs 125 = .ok (.aload_n 1, 1) := by decide +kernel
theorem dX0_becomeAs_126 : decode cX0_becomeAs 126 = .ok (.getfield 51, 3) := by decide +kernel
theorem dX0_becomeAs_129 : decode cX0_becomeAs 129 = .ok (.putfield 51, 3) := by decide +kernel
theorem dX0_becomeAs_132 : decode cX0_becomeAs 132 = .ok (.aload_n 0, 1) := by decide +kernel
theorem dX0_becomeAs_133 : decode cX0_becomeAs 133 = .ok (.aload_n 1, 1) := by decide +kernel
theorem dX0_becomeAs_134 : decode cX0_becomeAs 134 = .ok (.getfield 61, 3) := by decide +kernel
theorem dX0_becomeAs_137 : decode cX0_becomeAs 137 = .ok (.putfield 61, 3) := by decide +kernel
theorem dX0_becomeAs_140 : decode cX0_becomeAs 140 = .ok (.aload_n 0, 1) := by decide +kernel
theorem dX0_becomeAs_141 : decode cX0_becomeAs 141 = .ok (.aload_n 1, 1) := by decide +kernel
theorem dX0_becomeAs_142 : decode cX0_becomeAs 142 = .ok (.getfield 64, 3) := by decide +kernel
theorem dX0_becomeAs_145 : decode cX0_becomeAs 145 = .ok (.putfield 64, 3) := by decide +kernel
theorem dX0_becomeAs_148 : decode cX0_becomeAs 148 = .ok (.aload_n 0, 1) := by decide +kernel
theorem dX0_becomeAs_149 : decode cX0_becomeAs 149 = .ok (.aload_n 1, 1) := by decide +kernel
theorem dX0_becomeAs_150 : decode cX0_becomeAs 150 = .ok (.getfield 67, 3) := by decide +kernel
theorem dX0_becomeAs_153 : decode cX0_becomeAs 153 = .ok (.putfield 67, 3) := by decide +kernel
theorem dX0_becomeAs_156 : decode cX0_becomeAs 156 = .ok (.aload_n 0, 1) := by decide +kernel
theorem dX0_becomeAs_157 : decode cX0_becomeAs 157 = .ok (.aload_n 1, 1) := by decide +kernel
theorem dX0_becomeAs_158 : decode cX0_becomeAs 158 = .ok (.getfield 70, 3) := by decide +kernel
theorem dX0_becomeAs_161 : decode cX0_becomeAs 161 = .ok (.putfield 70, 3) := by decide +kernel
theorem dX0_becomeAs_164 : decode cX0_becomeAs 164 = .ok (.return_, 1) := by decide +kernel
theorem dX1_init_0 : decode cX1_init 0 = .ok (.aload_n 0, 1) := by decide +kernel
theorem dX1_init_1 : decode cX1_init 1 = .ok (.invokespecial 3, 3) := by decide +kernel
theorem dX1_init_4 : decode cX1_init 4 = .ok (.aload_n 0, 1) := by decide +kernel
theorem dX1_init_5 : decode cX1_init 5 = .ok (.bipush 64, 2) := by decide +kernel
theorem dX1_init_7 : decode cX1_init 7 = .ok (.newarray .int, 2) := by decide +kernel
theorem dX1_init_9 : decode cX1_init 9 = .ok (.putfield 9, 3) := by decide +kernel
theorem dX1_init_12 : decode cX1_init 12 = .ok (.return_, 1) := by decide +kernel
theorem dX1_total_0 : decode cX1_total 0 = .ok (.lconst 0, 1) := by decide +kernel
theorem dX1_total_1 : decode cX1_total 1 = .ok (.lstore_n 1, 1) := by decide +kernel
theorem dX1_total_2 : decode cX1_total 2 = .ok (.iconst 0, 1) := by decide +kernel
theorem dX1_total_3 : decode cX1_total 3 = .ok (.istore_n 3, 1) := by decide +kernel
theorem dX1_total_4 : decode cX1_total 4 = .ok (.iload_n 3, 1) := by decide +kernel
theorem dX1_total_5 : decode cX1_total 5 = .ok (.aload_n 0, 1) := by decide +kernel
theorem dX1_total_6 : decode cX1_total 6 = .ok (.getfield 9, 3) := by decide +kernel
theorem dX1_total_9 : decode cX1_total 9 = .ok (.arraylength, 1) := by decide +kernel
theorem dX1_total_10 : decode cX1_total 10 = .ok (.if_icmp .ge 19, 3) := by decide +kernel
theorem dX1_total_13 : decode cX1_total 13 = .ok (.lload_n 1, 1) := by decide +kernel
theorem dX1_total_14 : decode cX1_total 14 = .ok (.aload_n 0, 1) := by decide +kernel
theorem dX1_total_15 : decode cX1_total 15 = .ok (.getfield 9, 3) := by decide +kernel
theorem dX1_total_18 : decode cX1_total 18 = .ok (.iload_n 3, 1) := by decide +kernel
theorem dX1_total_19 : decode cX1_total 19 = .ok (.iaload, 1) := by decide +kernel
theorem dX1_total_20 : decode cX1_total 20 = .ok (.i2l, 1) := by decide +kernel
theorem dX1_total_21 : decode cX1_total 21 = .ok (.ladd, 1) := by decide +kernel
theorem dX1_total_22 : decode cX1_total 22 = .ok (.lstore_n 1, 1) := by decide +kernel
theorem dX1_total_23 : decode cX1_total 23 = .ok (.iinc 3 1, 3) := by decide +kernel
theorem dX1_total_26 : decode cX1_total 26 = .ok (.goto (-22), 3) := by decide +kernel
theorem dX1_total_29 : decode cX1_total 29 = .ok (.lload_n 1, 1) := by decide +kernel
theorem dX1_total_30 : decode cX1_total 30 = .ok (.lreturn, 1) := by decide +kernel
theorem dX1_becomeAs_0 : decode cX1_becomeAs 0 = .ok (.aload_n 1, 1) := by decide +kernel
theorem dX1_becomeAs_1 : decode cX1_becomeAs 1 = .ok (.getfield 9, 3) := by decide +kernel
theorem dX1_becomeAs_4 : decode cX1_becomeAs 4 = .ok (.iconst 0, 1) := by decide +kernel
theorem dX1_becomeAs_5 : decode cX1_becomeAs 5 = .ok (.aload_n 0, 1) := by decide +kernel
theorem dX1_becomeAs_6 : decode cX1_becomeAs 6 = .ok (.getfield 9, 3) := by decide +kernel
theorem dX1_becomeAs_9 : decode cX1_becomeAs 9 = .ok (.iconst 0, 1) := by decide +kernel
theorem dX1_becomeAs_10 : decode cX1_becomeAs 10 = .ok (.aload_n 0, 1) := by decide +kernel
theorem dX1_becomeAs_11 : decode cX1_becomeAs 11 = .ok (.getfield 9, 3) := by decide +kernel
theorem dX1_becomeAs_14 : decode cX1_becomeAs 14 = .ok (.arraylength, 1) := by decide +kernel
theorem dX1_becomeAs_15 : decode cX1_becomeAs 15 = .ok (.invokestatic 19, 3) := by decide +kernel
theorem dX1_becomeAs_18 : decode cX1_becomeAs 18 = .ok (.return_, 1) := by decide +kernel
theorem dX2_isKind_0 : decode cX2_isKind 0 = .ok (.iload_n 0, 1) := by decide +kernel
theorem dX2_isKind_1 : decode cX2_isKind 1 = .ok (.ifCond .lt 12, 3) := by decide +kernel
theorem dX2_isKind_4 : decode cX2_isKind 4 = .ok (.iload_n 0, 1) := by decide +kernel
theorem dX2_isKind_5 : decode cX2_isKind 5 = .ok (.iconst 5, 1) := by decide +kernel
theorem dX2_isKind_6 : decode cX2_isKind 6 = .ok (.if_icmp .ge 7, 3) := by decide +kernel
theorem dX2_isKind_9 : decode cX2_isKind 9 = .ok (.iconst 1, 1) := by decide +kernel
theorem dX2_isKind_10 : decode cX2_isKind 10 = .ok (.goto 4, 3) := by decide +kernel
theorem dX2_isKind_13 : decode cX2_isKind 13 = .ok (.iconst 0, 1) := by decide +kernel
theorem dX2_isKind_14 : decode cX2_isKind 14 = .ok (.ireturn, 1) := by decide +kernel
theorem dX3_init_0 : decode cX3_init 0 = .ok (.aload_n 0, 1) := by decide +kernel
theorem dX3_init_1 : decode cX3_init 1 = .ok (.invokespecial 3, 3) := by decide +kernel
theorem dX3_init_4 : decode cX3_init 4 = .ok (.aload_n 0, 1) := by decide +kernel
theorem dX3_init_5 : decode cX3_init 5 = .ok (.bipush 80, 2) := by decide +kernel
theorem dX3_init_7 : decode cX3_init 7 = .ok (.newarray .int, 2) := by decide +kernel
theorem dX3_init_9 : decode cX3_init 9 = .ok (.putfield 9, 3) := by decide +kernel
theorem dX3_init_12 : decode cX3_init 12 = .ok (.aload_n 0, 1) := by decide +kernel
theorem dX3_init_13 : decode cX3_init 13 = .ok (.bipush 80, 2) := by decide +kernel
theorem dX3_init_15 : decode cX3_init 15 = .ok (.newarray .int, 2) := by decide +kernel
theorem dX3_init_17 : decode cX3_init 17 = .ok (.putfield 15, 3) := by decide +kernel
theorem dX3_init_20 : decode cX3_init 20 = .ok (.return_, 1) := by decide +kernel
theorem dX3_takeOver_0 : decode cX3_takeOver 0 = .ok (.aload_n 1, 1) := by decide +kernel
theorem dX3_takeOver_1 : decode cX3_takeOver 1 = .ok (.getfield 18, 3) := by decide +kernel
theorem dX3_takeOver_4 : decode cX3_takeOver 4 = .ok (.iconst 0, 1) := by decide +kernel
theorem dX3_takeOver_5 : decode cX3_takeOver 5 = .ok (.aload_n 0, 1) := by decide +kernel
theorem dX3_takeOver_6 : decode cX3_takeOver 6 = .ok (.getfield 9, 3) := by decide +kernel
theorem dX3_takeOver_9 : decode cX3_takeOver 9 = .ok (.iconst 0, 1) := by decide +kernel
theorem dX3_takeOver_10 : decode cX3_takeOver 10 = .ok (.bipush 80, 2) := by decide +kernel
theorem dX3_takeOver_12 : decode cX3_takeOver 12 = .ok (.invokestatic 21, 3) := by decide +kernel
theorem dX3_takeOver_15 : decode cX3_takeOver 15 = .ok (.aload_n 0, 1) := by decide +kernel
theorem dX3_takeOver_16 : decode cX3_takeOver 16 = .ok (.aload_n 1, 1) := by decide +kernel
theorem dX3_takeOver_17 : decode cX3_takeOver 17 = .ok (.getfield 27, 3) := by decide +kernel
theorem dX3_takeOver_20 : decode cX3_takeOver 20 = .ok (.putfield 31, 3) := by decide +kernel
theorem dX3_takeOver_23 : decode cX3_takeOver 23 = .ok (.return_, 1) := by decide +kernel
theorem dX4_init_0 : decode cX4_init 0 = .ok (.aload_n 0, 1) := by decide +kernel
theorem dX4_init_1 : decode cX4_init 1 = .ok (.invokespecial 3, 3) := by decide +kernel
theorem dX4_init_4 : decode cX4_init 4 = .ok (.aload_n 0, 1) := by decide +kernel
theorem dX4_init_5 : decode cX4_init 5 = .ok (.bipush 8, 2) := by decide +kernel
theorem dX4_init_7 : decode cX4_init 7 = .ok (.newarray .int, 2) := by decide +kernel
theorem dX4_init_9 : decode cX4_init 9 = .ok (.putfield 9, 3) := by decide +kernel
theorem dX4_init_12 : decode cX4_init 12 = .ok (.return_, 1) := by decide +kernel
theorem dX4_faultOf_0 : decode cX4_faultOf 0 = .ok (.aload_n 0, 1) := by decide +kernel
theorem dX4_faultOf_1 : decode cX4_faultOf 1 = .ok (.aload_n 1, 1) := by decide +kernel
theorem dX4_faultOf_2 : decode cX4_faultOf 2 = .ok (.putfield 15, 3) := by decide +kernel
theorem dX4_faultOf_5 : decode cX4_faultOf 5 = .ok (.aload_n 0, 1) := by decide +kernel
theorem dX4_faultOf_6 : decode cX4_faultOf 6 = .ok (.iconst 0, 1) := by decide +kernel
theorem dX4_faultOf_7 : decode cX4_faultOf 7 = .ok (.putfield 19, 3) := by decide +kernel
theorem dX4_faultOf_10 : decode cX4_faultOf 10 = .ok (.aload_n 0, 1) := by decide +kernel
theorem dX4_faultOf_11 : decode cX4_faultOf 11 = .ok (.iconst 0, 1) := by decide +kernel
theorem dX4_faultOf_12 : decode cX4_faultOf 12 = .ok (.putfield 23, 3) := by decide +kernel
theorem dX4_faultOf_15 : decode cX4_faultOf 15 = .ok (.aload_n 0, 1) := by decide +kernel
theorem dX4_faultOf_16 : decode cX4_faultOf 16 = .ok (.iconst (-1), 1) := by decide +kernel
theorem dX4_faultOf_17 : decode cX4_faultOf 17 = .ok (.putfield 26, 3) := by decide +kernel
theorem dX4_faultOf_20 : decode cX4_faultOf 20 = .ok (.iconst 0, 1) := by decide +kernel
theorem dX4_faultOf_21 : decode cX4_faultOf 21 = .ok (.istore_n 2, 1) := by decide +kernel
theorem dX4_faultOf_22 : decode cX4_faultOf 22 = .ok (.iconst 0, 1) := by decide +kernel
theorem dX4_faultOf_23 : decode cX4_faultOf 23 = .ok (.istore_n 3, 1) := by decide +kernel
theorem dX4_faultOf_24 : decode cX4_faultOf 24 = .ok (.iload_n 3, 1) := by decide +kernel
theorem dX4_faultOf_25 : decode cX4_faultOf 25 = .ok (.aload_n 1, 1) := by decide +kernel
theorem dX4_faultOf_26 : decode cX4_faultOf 26 = .ok (.getfield 29, 3) := by decide +kernel
theorem dX4_faultOf_29 : decode cX4_faultOf 29 = .ok (.if_icmp .ge 31, 3) := by decide +kernel
theorem dX4_faultOf_60 : decode cX4_faultOf 60 = .ok (.aload_n 0, 1) := by decide +kernel
theorem dX4_faultOf_61 : decode cX4_faultOf 61 = .ok (.getfield 26, 3) := by decide +kernel
theorem dX4_faultOf_64 : decode cX4_faultOf 64 = .ok (.iconst (-1), 1) := by decide +kernel
theorem dX4_faultOf_65 : decode cX4_faultOf 65 = .ok (.if_icmp .ne 25, 3) := by decide +kernel
theorem dX4_faultOf_68 : decode cX4_faultOf 68 = .ok (.aload_n 0, 1) := by decide +kernel
theorem dX4_faultOf_69 : decode cX4_faultOf 69 = .ok (.getfield 19, 3) := by decide +kernel
theorem dX4_faultOf_72 : decode cX4_faultOf 72 = .ok (.ifCond .gt 10, 3) := by decide +kernel
theorem dX4_faultOf_75 : decode cX4_faultOf 75 = .ok (.aload_n 1, 1) := by decide +kernel
theorem dX4_faultOf_76 : decode cX4_faultOf 76 = .ok (.getfield 29, 3) := by decide +kernel
theorem dX4_faultOf_79 : decode cX4_faultOf 79 = .ok (.ifCond .ne 11, 3) := by decide +kernel
theorem dX4_faultOf_82 : decode cX4_faultOf 82 = .ok (.aload_n 0, 1) := by decide +kernel
theorem dX4_faultOf_83 : decode cX4_faultOf 83 = .ok (.aload_n 1, 1) := by decide +kernel
theorem dX4_faultOf_84 : decode cX4_faultOf 84 = .ok (.getfield 29, 3) := by decide +kernel
theorem dX4_faultOf_87 : decode cX4_faultOf 87 = .ok (.putfield 26, 3) := by decide +kernel
theorem dX4_faultOf_90 : decode cX4_faultOf 90 = .ok (.aload_n 0, 1) := by decide +kernel
theorem dX4_faultOf_91 : decode cX4_faultOf 91 = .ok (.getfield 26, 3) := by decide +kernel
theorem dX4_faultOf_94 : decode cX4_faultOf 94 = .ok (.ireturn, 1) := by decide +kernel
theorem dX5_init_0 : decode cX5_init 0 = .ok (.aload_n 0, 1) := by decide +kernel
theorem dX5_init_1 : decode cX5_init 1 = .ok (.invokespecial 3, 3) := by decide +kernel
theorem dX5_init_4 : decode cX5_init 4 = .ok (.aload_n 0, 1) := by decide +kernel
theorem dX5_init_5 : decode cX5_init 5 = .ok (.bipush 8, 2) := by decide +kernel
theorem dX5_init_7 : decode cX5_init 7 = .ok (.newarray .int, 2) := by decide +kernel
theorem dX5_init_9 : decode cX5_init 9 = .ok (.putfield 9, 3) := by decide +kernel
theorem dX5_init_12 : decode cX5_init 12 = .ok (.aload_n 0, 1) := by decide +kernel
theorem dX5_init_13 : decode cX5_init 13 = .ok (.bipush 8, 2) := by decide +kernel
theorem dX5_init_15 : decode cX5_init 15 = .ok (.newarray .boolean, 2) := by decide +kernel
theorem dX5_init_17 : decode cX5_init 17 = .ok (.putfield 15, 3) := by decide +kernel
theorem dX5_init_20 : decode cX5_init 20 = .ok (.aload_n 0, 1) := by decide +kernel
theorem dX5_init_21 : decode cX5_init 21 = .ok (.aload_n 1, 1) := by decide +kernel
theorem dX5_init_22 : decode cX5_init 22 = .ok (.putfield 19, 3) := by decide +kernel
theorem dX5_init_25 : decode cX5_init 25 = .ok (.return_, 1) := by decide +kernel
set_option maxRecDepth 20000 in
theorem ggX5_cutAll_X5_findsFirst : GoodIn wsX5_cutAll wsX5_findsFirst := goodIn_r _ [5, 6, 7, 8, 9, 4, 10, 11, 12, 13, 14, 15, 16, 17, 18, 19, 37, 38, 39, 40, 41] (by decide +kernel) (by decide +kernel)
set_option maxRecDepth 20000 in
theorem gX5_cutAll_X5_findsFirst : GoodIn wsX5_cutAll (wsV RX5 23 RX5 yX5_findsFirst wsX5_findsFirst) := goodIn_app (goodIn_of _ (by decide +kernel)) ggX5_cutAll_X5_findsFirst
theorem dX5_cutAll_0 : decode cX5_cutAll 0 = .ok (.iconst 0, 1) := by decide +kernel
theorem dX5_cutAll_1 : decode cX5_cutAll 1 = .ok (.istore_n 2, 1) := by decide +kernel
theorem dX5_cutAll_2 : decode cX5_cutAll 2 = .ok (.iload_n 2, 1) := by decide +kernel
theorem dX5_cutAll_3 : decode cX5_cutAll 3 = .ok (.bipush 64, 2) := by decide +kernel
theorem dX5_cutAll_5 : decode cX5_cutAll 5 = .ok (.if_icmp .ge 23, 3) := by decide +kernel
theorem dX5_cutAll_8 : decode cX5_cutAll 8 = .ok (.aload_n 0, 1) := by decide +kernel
theorem dX5_cutAll_9 : decode cX5_cutAll 9 = .ok (.iload_n 1, 1) := by decide +kernel
theorem dX5_cutAll_10 : decode cX5_cutAll 10 = .ok (.invokevirtual 23, 3) := by decide +kernel
theorem dX5_cutAll_13 : decode cX5_cutAll 13 = .ok (.ifCond .ne 5, 3) := by decide +kernel
theorem dX5_cutAll_16 : decode cX5_cutAll 16 = .ok (.iload_n 2, 1) := by decide +kernel
theorem dX5_cutAll_17 : decode cX5_cutAll 17 = .ok (.ireturn, 1) := by decide +kernel
theorem dX5_findsFirst_0 : decode cX5_findsFirst 0 = .ok (.iconst 0, 1) := by decide +kernel
theorem dX5_findsFirst_1 : decode cX5_findsFirst 1 = .ok (.istore_n 2, 1) := by decide +kernel
theorem dX5_findsFirst_2 : decode cX5_findsFirst 2 = .ok (.iload_n 2, 1) := by decide +kernel
theorem dX5_findsFirst_3 : decode cX5_findsFirst 3 = .ok (.iload_n 1, 1) := by decide +kernel
theorem dX5_findsFirst_4 : decode cX5_findsFirst 4 = .ok (.if_icmp .ge 42, 3) := by decide +kernel
theorem dX5_findsFirst_46 : decode cX5_findsFirst 46 = .ok (.iconst 0, 1) := by decide +kernel
theorem dX5_findsFirst_47 : decode cX5_findsFirst 47 = .ok (.ireturn, 1) := by decide +kernel
theorem dX6_init_0 : decode cX6_init 0 = .ok (.aload_n 0, 1) := by decide +kernel
theorem dX6_init_1 : decode cX6_init 1 = .ok (.invokespecial 3, 3) := by decide +kernel
theorem dX6_init_4 : decode cX6_init 4 = .ok (.aload_n 0, 1) := by decide +kernel
theorem dX6_init_5 : decode cX6_init 5 = .ok (.bipush 60, 2) := by decide +kernel
theorem dX6_init_7 : decode cX6_init 7 = .ok (.newarray .int, 2) := by decide +kernel
theorem dX6_init_9 : decode cX6_init 9 = .ok (.putfield 9, 3) := by decide +kernel
theorem dX6_init_12 : decode cX6_init 12 = .ok (.aload_n 0, 1) := by decide +kernel
theorem dX6_init_13 : decode cX6_init 13 = .ok (.bipush 8, 2) := by decide +kernel
theorem dX6_init_15 : decode cX6_init 15 = .ok (.newarray .int, 2) := by decide +kernel
theorem dX6_init_17 : decode cX6_init 17 = .ok (.putfield 15, 3) := by decide +kernel
theorem dX6_init_20 : decode cX6_init 20 = .ok (.aload_n 0, 1) := by decide +kernel
theorem dX6_init_21 : decode cX6_init 21 = .ok (.bipush 9, 2) := by decide +kernel
theorem dX6_init_23 : decode cX6_init 23 = .ok (.bipush 8, 2) := by decide +kernel
theorem dX6_init_25 : decode cX6_init 25 = .ok (.multianewarray 18 2, 4) := by decide +kernel
theorem dX6_init_29 : decode cX6_init 29 = .ok (.putfield 20, 3) := by decide +kernel
theorem dX6_init_32 : decode cX6_init 32 = .ok (.aload_n 0, 1) := by decide +kernel
theorem dX6_init_33 : decode cX6_init 33 = .ok (.bipush 9, 2) := by decide +kernel
theorem dX6_init_35 : decode cX6_init 35 = .ok (.newarray .long, 2) := by decide +kernel
theorem dX6_init_37 : decode cX6_init 37 = .ok (.putfield 23, 3) := by decide +kernel
theorem dX6_init_40 : decode cX6_init 40 = .ok (.aload_n 0, 1) := by decide +kernel
theorem dX6_init_41 : decode cX6_init 41 = .ok (.aload_n 1, 1) := by decide +kernel
theorem dX6_init_42 : decode cX6_init 42 = .ok (.putfield 27, 3) := by decide +kernel
theorem dX6_init_45 : decode cX6_init 45 = .ok (.return_, 1) := by decide +kernel
theorem dX6_keptMarks_0 : decode cX6_keptMarks 0 = .ok (.aload_n 0, 1) := by decide +kernel
theorem dX6_keptMarks_1 : decode cX6_keptMarks 1 = .ok (.getfield 31, 3) := by decide +kernel
theorem dX6_keptMarks_4 : decode cX6_keptMarks 4 = .ok (.bipush 60, 2) := by decide +kernel
theorem dX6_keptMarks_6 : decode cX6_keptMarks 6 = .ok (.invokestatic 35, 3) := by decide +kernel
theorem dX6_keptMarks_9 : decode cX6_keptMarks 9 = .ok (.ireturn, 1) := by decide +kernel
theorem dX7_init_0 : decode cX7_init 0 = .ok (.aload_n 0, 1) := by decide +kernel
theorem dX7_init_1 : decode cX7_init 1 = .ok (.invokespecial 3, 3) := by decide +kernel
theorem dX7_init_4 : decode cX7_init 4 = .ok (.aload_n 0, 1) := by decide +kernel
theorem dX7_init_5 : decode cX7_init 5 = .ok (.iconst (-1), 1) := by decide +kernel
theorem dX7_init_6 : decode cX7_init 6 = .ok (.putfield 11, 3) := by decide +kernel
theorem dX7_init_9 : decode cX7_init 9 = .ok (.aload_n 0, 1) := by decide +kernel
theorem dX7_init_10 : decode cX7_init 10 = .ok (.bipush 60, 2) := by decide +kernel
theorem dX7_init_12 : decode cX7_init 12 = .ok (.newarray .int, 2) := by decide +kernel
theorem dX7_init_14 : decode cX7_init 14 = .ok (.putfield 15, 3) := by decide +kernel
theorem dX7_init_17 : decode cX7_init 17 = .ok (.return_, 1) := by decide +kernel
theorem dX7_isMissing_0 : decode cX7_isMissing 0 = .ok (.aload_n 0, 1) := by decide +kernel
theorem dX7_isMissing_1 : decode cX7_isMissing 1 = .ok (.getfield 11, 3) := by decide +kernel
theorem dX7_isMissing_4 : decode cX7_isMissing 4 = .ok (.iconst (-1), 1) := by decide +kernel
theorem dX7_isMissing_5 : decode cX7_isMissing 5 = .ok (.if_icmp .ne 7, 3) := by decide +kernel
theorem dX7_isMissing_8 : decode cX7_isMissing 8 = .ok (.iconst 1, 1) := by decide +kernel
theorem dX7_isMissing_9 : decode cX7_isMissing 9 = .ok (.goto 4, 3) := by decide +kernel
theorem dX7_isMissing_13 : decode cX7_isMissing 13 = .ok (.ireturn, 1) := by decide +kernel
theorem dX7_become_0 : decode cX7_become 0 = .ok (.aload_n 0, 1) := by decide +kernel
theorem dX7_become_1 : decode cX7_become 1 = .ok (.iload_n 1, 1) := by decide +kernel
theorem dX7_become_2 : decode cX7_become 2 = .ok (.putfield 11, 3) := by decide +kernel
theorem dX7_become_5 : decode cX7_become 5 = .ok (.aload_n 0, 1) := by decide +kernel
theorem dX7_become_6 : decode cX7_become 6 = .ok (.iload_n 2, 1) := by decide +kernel
theorem dX7_become_7 : decode cX7_become 7 = .ok (.putfield 19, 3) := by decide +kernel
theorem dX7_become_10 : decode cX7_become 10 = .ok (.iconst 0, 1) := by decide +kernel
theorem dX7_become_11 : decode cX7_become 11 = .ok (.istore_n 3, 1) := by decide +kernel
theorem dX7_become_12 : decode cX7_become 12 = .ok (.iload_n 3, 1) := by decide +kernel
theorem dX7_become_13 : decode cX7_become 13 = .ok (.bipush 60, 2) := by decide +kernel
theorem dX7_become_15 : decode cX7_become 15 = .ok (.if_icmp .ge 16, 3) := by decide +kernel
theorem dX7_become_18 : decode cX7_become 18 = .ok (.aload_n 0, 1) := by decide +kernel
theorem dX7_become_19 : decode cX7_become 19 = .ok (.getfield 15, 3) := by decide +kernel
theorem dX7_become_22 : decode cX7_become 22 = .ok (.iload_n 3, 1) := by decide +kernel
theorem dX7_become_23 : decode cX7_become 23 = .ok (.iconst 0, 1) := by decide +kernel
theorem dX7_become_24 : decode cX7_become 24 = .ok (.iastore, 1) := by decide +kernel
theorem dX7_become_25 : decode cX7_become 25 = .ok (.iinc 3 1, 3) := by decide +kernel
theorem dX7_become_28 : decode cX7_become 28 = .ok (.goto (-16), 3) := by decide +kernel
theorem dX7_become_31 : decode cX7_become 31 = .ok (.return_, 1) := by decide +kernel
theorem dX8_init_0 : decode cX8_init 0 = .ok (.aload_n 0, 1) := by decide +kernel
theorem dX8_init_1 : decode cX8_init 1 = .ok (.invokespecial 3, 3) := by decide +kernel
theorem dX8_init_4 : decode cX8_init 4 = .ok (.aload_n 0, 1) := by decide +kernel
theorem dX8_init_5 : decode cX8_init 5 = .ok (.bipush 80, 2) := by decide +kernel
theorem dX8_init_7 : decode cX8_init 7 = .ok (.newarray .int, 2) := by decide +kernel
theorem dX8_init_9 : decode cX8_init 9 = .ok (.putfield 9, 3) := by decide +kernel
theorem dX8_init_12 : decode cX8_init 12 = .ok (.return_, 1) := by decide +kernel
theorem dX8_add_0 : decode cX8_add 0 = .ok (.aload_n 0, 1) := by decide +kernel
theorem dX8_add_1 : decode cX8_add 1 = .ok (.getfield 15, 3) := by decide +kernel
theorem dX8_add_4 : decode cX8_add 4 = .ok (.bipush 80, 2) := by decide +kernel
theorem dX8_add_6 : decode cX8_add 6 = .ok (.if_icmp .ge 23, 3) := by decide +kernel
theorem dX8_add_9 : decode cX8_add 9 = .ok (.aload_n 0, 1) := by decide +kernel
theorem dX8_add_10 : decode cX8_add 10 = .ok (.getfield 9, 3) := by decide +kernel
theorem dX8_add_13 : decode cX8_add 13 = .ok (.aload_n 0, 1) := by decide +kernel
theorem dX8_add_14 : decode cX8_add 14 = .ok (.getfield 15, 3) := by decide +kernel
theorem dX8_add_17 : decode cX8_add 17 = .ok (.iload_n 1, 1) := by decide +kernel
theorem dX8_add_18 : decode cX8_add 18 = .ok (.iastore, 1) := by decide +kernel
theorem dX8_add_19 : decode cX8_add 19 = .ok (.aload_n 0, 1) := by decide +kernel
theorem dX8_add_20 : decode cX8_add 20 = .ok (.dup, 1) := by decide +kernel
theorem dX8_add_21 : decode cX8_add 21 = .ok (.getfield 15, 3) := by decide +kernel
theorem dX8_add_24 : decode cX8_add 24 = .ok (.iconst 1, 1) := by decide +kernel
theorem dX8_add_25 : decode cX8_add 25 = .ok (.iadd, 1) := by decide +kernel
theorem dX8_add_26 : decode cX8_add 26 = .ok (.putfield 15, 3) := by decide +kernel
theorem dX8_add_29 : decode cX8_add 29 = .ok (.return_, 1) := by decide +kernel
set_option maxRecDepth 20000 in
theorem ggX9_init_X0_init : GoodIn wsX9_init wsX0_init := goodIn_r _ [41, 42, 2, 3, 43, 44, 45, 46, 47, 48, 49, 50, 51, 92, 93, 94, 95, 96, 97, 98, 99, 100, 101, 102, 103, 104] (by decide +kernel) (by decide +kernel)
set_option maxRecDepth 20000 in
theorem gX9_init_X0_init_n11 : GoodIn wsX9_init (wsX0_init) := ggX9_init_X0_init
set_option maxRecDepth 20000 in
theorem ggX9_init_X1_init : GoodIn wsX9_init wsX1_init := goodIn_r _ [53, 54, 2, 3, 43, 55, 118] (by decide +kernel) (by decide +kernel)
set_option maxRecDepth 20000 in
theorem gX9_init_X1_init_n23 : GoodIn wsX9_init (wsX1_init) := ggX9_init_X1_init
set_option maxRecDepth 20000 in
theorem ggX9_init_X5_init : GoodIn wsX9_init wsX5_init := goodIn_r _ [58, 59, 2, 3, 43, 60, 47, 61, 62, 119, 120, 121, 122] (by decide +kernel) (by decide +kernel)
set_option maxRecDepth 20000 in
theorem gX9_init_X5_init : GoodIn wsX9_init (wsX5_init) := ggX9_init_X5_init
set_option maxRecDepth 20000 in
theorem ggX9_init_X3_init : GoodIn wsX9_init wsX3_init := goodIn_r _ [64, 65, 2, 3, 43, 66, 67, 123, 124, 125] (by decide +kernel) (by decide +kernel)
set_option maxRecDepth 20000 in
theorem gX9_init_X3_init_n46 : GoodIn wsX9_init (wsX3_init) := ggX9_init_X3_init
set_option maxRecDepth 20000 in
theorem ggX9_init_X8_init : GoodIn wsX9_init wsX8_init := goodIn_r _ [69, 70, 2, 3, 43, 71, 126, 127] (by decide +kernel) (by decide +kernel)
set_option maxRecDepth 20000 in
theorem gX9_init_X8_init_n53 : GoodIn wsX9_init (wsX8_init) := ggX9_init_X8_init
set_option maxRecDepth 20000 in
theorem ggX9_init_X4_init : GoodIn wsX9_init wsX4_init := goodIn_r _ [73, 74, 2, 3, 43, 75, 128, 129, 130, 131, 132] (by decide +kernel) (by decide +kernel)
set_option maxRecDepth 20000 in
theorem gX9_init_X4_init_n60 : GoodIn wsX9_init (wsX4_init) := ggX9_init_X4_init
set_option maxRecDepth 20000 in
theorem ggX9_init_X6_init : GoodIn wsX9_init wsX6_init := goodIn_r _ [78, 79, 2, 3, 43, 80, 81, 82, 83, 84, 85, 86, 133, 134, 135, 136, 137, 138, 139, 140] (by decide +kernel) (by decide +kernel)
set_option maxRecDepth 20000 in
theorem gX9_init_X6_init : GoodIn wsX9_init (wsX6_init) := ggX9_init_X6_init
set_option maxRecDepth 20000 in
theorem ggX9_init_X7_init : GoodIn wsX9_init wsX7_init := goodIn_r _ [88, 89, 2, 3, 90, 43, 91, 141, 142, 143] (by decide +kernel) (by decide +kernel)
set_option maxRecDepth 20000 in
theorem gX9_init_X7_init_n83 : GoodIn wsX9_init (wsX7_init) := ggX9_init_X7_init
theorem dX9_init_0 : decode cX9_init 0 = .ok (.aload_n 0, 1) := by decide +kernel
theorem dX9_init_1 : decode cX9_init 1 = .ok (.invokespecial 3, 3) := by decide +kernel
theorem dX9_init_4 : decode cX9_init 4 = .ok (.aload_n 0, 1) := by decide +kernel
theorem dX9_init_5 : decode cX9_init 5 = .ok (.new 9, 3) := by decide +kernel
theorem dX9_init_8 : decode cX9_init 8 = .ok (.dup, 1) := by decide +kernel
theorem dX9_init_9 : decode cX9_init 9 = .ok (.invokespecial 11, 3) := by decide +kernel
theorem dX9_init_12 : decode cX9_init 12 = .ok (.putfield 12, 3) := by decide +kernel
theorem dX9_init_15 : decode cX9_init 15 = .ok (.aload_n 0, 1) := by decide +kernel
theorem dX9_init_16 : decode cX9_init 16 = .ok (.new 9, 3) := by decide +kernel
theorem dX9_init_19 : decode cX9_init 19 = .ok (.dup, 1) := by decide +kernel
theorem dX9_init_20 : decode cX9_init 20 = .ok (.invokespecial 11, 3) := by decide +kernel
theorem dX9_init_23 : decode cX9_init 23 = .ok (.putfield 18, 3) := by decide +kernel
theorem dX9_init_26 : decode cX9_init 26 = .ok (.aload_n 0, 1) := by decide +kernel
theorem dX9_init_27 : decode cX9_init 27 = .ok (.new 21, 3) := by decide +kernel
theorem dX9_init_30 : decode cX9_init 30 = .ok (.dup, 1) := by decide +kernel
theorem dX9_init_31 : decode cX9_init 31 = .ok (.invokespecial 23, 3) := by decide +kernel
theorem dX9_init_34 : decode cX9_init 34 = .ok (.putfield 24, 3) := by decide +kernel
theorem dX9_init_37 : decode cX9_init 37 = .ok (.aload_n 0, 1) := by decide +kernel
theorem dX9_init_38 : decode cX9_init 38 = .ok (.new 21, 3) := by decide +kernel
theorem dX9_init_41 : decode cX9_init 41 = .ok (.dup, 1) := by decide +kernel
theorem dX9_init_42 : decode cX9_init 42 = .ok (.invokespecial 23, 3) := by decide +kernel
theorem dX9_init_45 : decode cX9_init 45 = .ok (.putfield 28, 3) := by decide +kernel
theorem dX9_init_48 : decode cX9_init 48 = .ok (.aload_n 0, 1) := by decide +kernel
theorem dX9_init_49 : decode cX9_init 49 = .ok (.new 31, 3) := by decide +kernel
theorem dX9_init_52 : decode cX9_init 52 = .ok (.dup, 1) := by decide +kernel
theorem dX9_init_53 : decode cX9_init 53 = .ok (.aload_n 0, 1) := by decide +kernel
theorem dX9_init_54 : decode cX9_init 54 = .ok (.getfield 24, 3) := by decide +kernel
theorem dX9_init_57 : decode cX9_init 57 = .ok (.invokespecial 33, 3) := by decide +kernel
theorem dX9_init_60 : decode cX9_init 60 = .ok (.putfield 36, 3) := by decide +kernel
theorem dX9_init_63 : decode cX9_init 63 = .ok (.aload_n 0, 1) := by decide +kernel
theorem dX9_init_64 : decode cX9_init 64 = .ok (.iconst 4, 1) := by decide +kernel
theorem dX9_init_65 : decode cX9_init 65 = .ok (.anewarray 40, 3) := by decide +kernel
theorem dX9_init_68 : decode cX9_init 68 = .ok (.putfield 42, 3) := by decide +kernel
theorem dX9_init_71 : decode cX9_init 71 = .ok (.iconst 0, 1) := by decide +kernel
theorem dX9_init_72 : decode cX9_init 72 = .ok (.istore_n 1, 1) := by decide +kernel
theorem dX9_init_73 : decode cX9_init 73 = .ok (.iload_n 1, 1) := by decide +kernel
theorem dX9_init_74 : decode cX9_init 74 = .ok (.iconst 4, 1) := by decide +kernel
theorem dX9_init_75 : decode cX9_init 75 = .ok (.if_icmp .ge 22, 3) := by decide +kernel
theorem dX9_init_78 : decode cX9_init 78 = .ok (.aload_n 0, 1) := by decide +kernel
theorem dX9_init_79 : decode cX9_init 79 = .ok (.getfield 42, 3) := by decide +kernel
theorem dX9_init_82 : decode cX9_init 82 = .ok (.iload_n 1, 1) := by decide +kernel
theorem dX9_init_83 : decode cX9_init 83 = .ok (.new 40, 3) := by decide +kernel
theorem dX9_init_86 : decode cX9_init 86 = .ok (.dup, 1) := by decide +kernel
theorem dX9_init_87 : decode cX9_init 87 = .ok (.invokespecial 46, 3) := by decide +kernel
theorem dX9_init_90 : decode cX9_init 90 = .ok (.aastore, 1) := by decide +kernel
theorem dX9_init_91 : decode cX9_init 91 = .ok (.iinc 1 1, 3) := by decide +kernel
theorem dX9_init_94 : decode cX9_init 94 = .ok (.goto (-21), 3) := by decide +kernel
theorem dX9_init_97 : decode cX9_init 97 = .ok (.aload_n 0, 1) := by decide +kernel
theorem dX9_init_98 : decode cX9_init 98 = .ok (.iconst (-1), 1) := by decide +kernel
theorem dX9_init_99 : decode cX9_init 99 = .ok (.putfield 47, 3) := by decide +kernel
theorem dX9_init_102 : decode cX9_init 102 = .ok (.aload_n 0, 1) := by decide +kernel
theorem dX9_init_103 : decode cX9_init 103 = .ok (.new 51, 3) := by decide +kernel
theorem dX9_init_106 : decode cX9_init 106 = .ok (.dup, 1) := by decide +kernel
theorem dX9_init_107 : decode cX9_init 107 = .ok (.invokespecial 53, 3) := by decide +kernel
theorem dX9_init_110 : decode cX9_init 110 = .ok (.putfield 54, 3) := by decide +kernel
theorem dX9_init_113 : decode cX9_init 113 = .ok (.aload_n 0, 1) := by decide +kernel
theorem dX9_init_114 : decode cX9_init 114 = .ok (.new 58, 3) := by decide +kernel
theorem dX9_init_117 : decode cX9_init 117 = .ok (.dup, 1) := by decide +kernel
theorem dX9_init_118 : decode cX9_init 118 = .ok (.invokespecial 60, 3) := by decide +kernel
theorem dX9_init_121 : decode cX9_init 121 = .ok (.putfield 61, 3) := by decide +kernel
theorem dX9_init_124 : decode cX9_init 124 = .ok (.aload_n 0, 1) := by decide +kernel
end
section
theorem dX9_init_125 : decode cX9_init 125 = .ok (.new 65, 3) := by decide +kernel
theorem dX9_init_128 : decode cX9_init 128 = .ok (.dup, 1) := by decide +kernel
theorem dX9_init_129 : decode cX9_init 129 = .ok (.aload_n 0, 1) := by decide +kernel
theorem dX9_init_130 : decode cX9_init 130 = .ok (.getfield 12, 3) := by decide +kernel
theorem dX9_init_133 : decode cX9_init 133 = .ok (.invokespecial 67, 3) := by decide +kernel
theorem dX9_init_136 : decode cX9_init 136 = .ok (.putfield 70, 3) := by decide +kernel
theorem dX9_init_139 : decode cX9_init 139 = .ok (.aload_n 0, 1) := by decide +kernel
theorem dX9_init_140 : decode cX9_init 140 = .ok (.new 65, 3) := by decide +kernel
theorem dX9_init_143 : decode cX9_init 143 = .ok (.dup, 1) := by decide +kernel
theorem dX9_init_144 : decode cX9_init 144 = .ok (.new 9, 3) := by decide +kernel
theorem dX9_init_147 : decode cX9_init 147 = .ok (.dup, 1) := by decide +kernel
theorem dX9_init_148 : decode cX9_init 148 = .ok (.invokespecial 11, 3) := by decide +kernel
theorem dX9_init_151 : decode cX9_init 151 = .ok (.invokespecial 67, 3) := by decide +kernel
theorem dX9_init_154 : decode cX9_init 154 = .ok (.putfield 74, 3) := by decide +kernel
theorem dX9_init_157 : decode cX9_init 157 = .ok (.aload_n 0, 1) := by decide +kernel
theorem dX9_init_158 : decode cX9_init 158 = .ok (.iconst 4, 1) := by decide +kernel
theorem dX9_init_159 : decode cX9_init 159 = .ok (.anewarray 77, 3) := by decide +kernel
theorem dX9_init_162 : decode cX9_init 162 = .ok (.putfield 79, 3) := by decide +kernel
theorem dX9_init_165 : decode cX9_init 165 = .ok (.iconst 0, 1) := by decide +kernel
theorem dX9_init_166 : decode cX9_init 166 = .ok (.istore_n 1, 1) := by decide +kernel
theorem dX9_init_167 : decode cX9_init 167 = .ok (.iload_n 1, 1) := by decide +kernel
theorem dX9_init_168 : decode cX9_init 168 = .ok (.iconst 4, 1) := by decide +kernel
theorem dX9_init_169 : decode cX9_init 169 = .ok (.if_icmp .ge 22, 3) := by decide +kernel
theorem dX9_init_172 : decode cX9_init 172 = .ok (.aload_n 0, 1) := by decide +kernel
theorem dX9_init_173 : decode cX9_init 173 = .ok (.getfield 79, 3) := by decide +kernel
theorem dX9_init_176 : decode cX9_init 176 = .ok (.iload_n 1, 1) := by decide +kernel
theorem dX9_init_177 : decode cX9_init 177 = .ok (.new 77, 3) := by decide +kernel
theorem dX9_init_180 : decode cX9_init 180 = .ok (.dup, 1) := by decide +kernel
theorem dX9_init_181 : decode cX9_init 181 = .ok (.invokespecial 83, 3) := by decide +kernel
theorem dX9_init_184 : decode cX9_init 184 = .ok (.aastore, 1) := by decide +kernel
theorem dX9_init_185 : decode cX9_init 185 = .ok (.iinc 1 1, 3) := by decide +kernel
theorem dX9_init_188 : decode cX9_init 188 = .ok (.goto (-21), 3) := by decide +kernel
theorem dX9_init_191 : decode cX9_init 191 = .ok (.return_, 1) := by decide +kernel
set_option maxRecDepth 20000 in
theorem ggX9_account_X2_isKind : GoodIn wsX9_account wsX2_isKind := goodIn_r _ [7] (by decide +kernel) (by decide +kernel)
set_option maxRecDepth 20000 in
theorem gX9_account_X2_isKind : GoodIn wsX9_account (va_wsS RX9 84 yX2_isKind wsX2_isKind) := goodIn_app (goodIn_of _ (by decide +kernel)) ggX9_account_X2_isKind
set_option maxRecDepth 20000 in
theorem ggX9_account_X9_isWithin : GoodIn wsX9_account wsX9_isWithin := goodIn_r _ [11] (by decide +kernel) (by decide +kernel)
set_option maxRecDepth 20000 in
theorem gX9_account_X9_isWithin : GoodIn wsX9_account (va_wsS RX9 91 yX9_isWithin wsX9_isWithin) := goodIn_app (goodIn_of _ (by decide +kernel)) ggX9_account_X9_isWithin
set_option maxRecDepth 20000 in
theorem ggX9_account_X0_open : GoodIn wsX9_account wsX0_open := goodIn_r _ [16, 17, 18, 19, 20, 21, 22, 23, 24, 38, 39, 40, 41, 42, 43, 44, 45, 46, 47, 48, 49, 50] (by decide +kernel) (by decide +kernel)
set_option maxRecDepth 20000 in
theorem gX9_account_X0_open : GoodIn wsX9_account (wsV RX9 98 RX0 yX0_open wsX0_open) := goodIn_app (goodIn_of _ (by decide +kernel)) ggX9_account_X0_open
theorem dX9_account_0 : decode cX9_account 0 = .ok (.iload_n 1, 1) := by decide +kernel
theorem dX9_account_1 : decode cX9_account 1 = .ok (.invokestatic 84, 3) := by decide +kernel
theorem dX9_account_4 : decode cX9_account 4 = .ok (.ifCond .eq 12, 3) := by decide +kernel
theorem dX9_account_7 : decode cX9_account 7 = .ok (.iload_n 2, 1) := by decide +kernel
theorem dX9_account_8 : decode cX9_account 8 = .ok (.ldc 90, 2) := by decide +kernel
theorem dX9_account_10 : decode cX9_account 10 = .ok (.invokestatic 91, 3) := by decide +kernel
theorem dX9_account_13 : decode cX9_account 13 = .ok (.ifCond .ne 6, 3) := by decide +kernel
theorem dX9_account_16 : decode cX9_account 16 = .ok (.bipush (-2), 2) := by decide +kernel
theorem dX9_account_18 : decode cX9_account 18 = .ok (.ireturn, 1) := by decide +kernel
theorem dX9_account_19 : decode cX9_account 19 = .ok (.aload_n 0, 1) := by decide +kernel
theorem dX9_account_20 : decode cX9_account 20 = .ok (.getfield 12, 3) := by decide +kernel
theorem dX9_account_23 : decode cX9_account 23 = .ok (.getfield 95, 3) := by decide +kernel
theorem dX9_account_26 : decode cX9_account 26 = .ok (.bipush 8, 2) := by decide +kernel
theorem dX9_account_28 : decode cX9_account 28 = .ok (.if_icmp .lt 6, 3) := by decide +kernel
theorem dX9_account_34 : decode cX9_account 34 = .ok (.aload_n 0, 1) := by decide +kernel
theorem dX9_account_35 : decode cX9_account 35 = .ok (.getfield 12, 3) := by decide +kernel
theorem dX9_account_38 : decode cX9_account 38 = .ok (.iload_n 1, 1) := by decide +kernel
theorem dX9_account_39 : decode cX9_account 39 = .ok (.iload_n 2, 1) := by decide +kernel
theorem dX9_account_40 : decode cX9_account 40 = .ok (.invokevirtual 98, 3) := by decide +kernel
theorem dX9_account_43 : decode cX9_account 43 = .ok (.ireturn, 1) := by decide +kernel
set_option maxRecDepth 20000 in
theorem ggX9_set_X0_has : GoodIn wsX9_set wsX0_has := goodIn_r _ [10, 11, 29, 30, 31, 32, 33, 34, 35, 36, 37, 38, 39, 40, 41] (by decide +kernel) (by decide +kernel)
set_option maxRecDepth 20000 in
theorem gX9_set_X0_has : GoodIn wsX9_set (wsV RX9 102 RX0 yX0_has wsX0_has) := goodIn_app (goodIn_of _ (by decide +kernel)) ggX9_set_X0_has
theorem dX9_set_0 : decode cX9_set 0 = .ok (.aload_n 0, 1) := by decide +kernel
theorem dX9_set_1 : decode cX9_set 1 = .ok (.getfield 12, 3) := by decide +kernel
theorem dX9_set_4 : decode cX9_set 4 = .ok (.iload_n 1, 1) := by decide +kernel
theorem dX9_set_5 : decode cX9_set 5 = .ok (.invokevirtual 102, 3) := by decide +kernel
theorem dX9_set_8 : decode cX9_set 8 = .ok (.ifCond .ne 7, 3) := by decide +kernel
theorem dX9_set_11 : decode cX9_set 11 = .ok (.ldc2_w 105, 3) := by decide +kernel
theorem dX9_set_14 : decode cX9_set 14 = .ok (.lreturn, 1) := by decide +kernel
set_option maxRecDepth 20000 in
theorem ggX9_gate_X0_has : GoodIn wsX9_gate wsX0_has := goodIn_r _ [7, 8, 22, 23, 24, 25, 26, 27, 28, 29, 30, 31, 32, 33, 34] (by decide +kernel) (by decide +kernel)
set_option maxRecDepth 20000 in
theorem gX9_gate_X0_has : GoodIn wsX9_gate (wsV RX9 102 RX0 yX0_has wsX0_has) := goodIn_app (goodIn_of _ (by decide +kernel)) ggX9_gate_X0_has
theorem dX9_gate_0 : decode cX9_gate 0 = .ok (.aload_n 0, 1) := by decide +kernel
theorem dX9_gate_1 : decode cX9_gate 1 = .ok (.getfield 12, 3) := by decide +kernel
theorem dX9_gate_4 : decode cX9_gate 4 = .ok (.iload_n 1, 1) := by decide +kernel
theorem dX9_gate_5 : decode cX9_gate 5 = .ok (.invokevirtual 102, 3) := by decide +kernel
theorem dX9_gate_8 : decode cX9_gate 8 = .ok (.ifCond .ne 6, 3) := by decide +kernel
theorem dX9_gate_11 : decode cX9_gate 11 = .ok (.bipush (-2), 2) := by decide +kernel
theorem dX9_gate_13 : decode cX9_gate 13 = .ok (.ireturn, 1) := by decide +kernel
set_option maxRecDepth 20000 in
theorem ggX9_told_X0_has : GoodIn wsX9_told wsX0_has := goodIn_r _ [12, 13, 36, 37, 38, 39, 40, 41, 42, 43, 44, 45, 46, 47, 48] (by decide +kernel) (by decide +kernel)
set_option maxRecDepth 20000 in
theorem gX9_told_X0_has : GoodIn wsX9_told (wsV RX9 102 RX0 yX0_has wsX0_has) := goodIn_app (goodIn_of _ (by decide +kernel)) ggX9_told_X0_has
theorem dX9_told_0 : decode cX9_told 0 = .ok (.aload_n 0, 1) := by decide +kernel
theorem dX9_told_1 : decode cX9_told 1 = .ok (.getfield 12, 3) := by decide +kernel
theorem dX9_told_4 : decode cX9_told 4 = .ok (.iload_n 1, 1) := by decide +kernel
theorem dX9_told_5 : decode cX9_told 5 = .ok (.invokevirtual 102, 3) := by decide +kernel
theorem dX9_told_8 : decode cX9_told 8 = .ok (.ifCond .ne 6, 3) := by decide +kernel
theorem dX9_told_11 : decode cX9_told 11 = .ok (.bipush (-2), 2) := by decide +kernel
theorem dX9_told_13 : decode cX9_told 13 = .ok (.ireturn, 1) := by decide +kernel
set_option maxRecDepth 20000 in
theorem ggX9_of_X0_has : GoodIn wsX9_of wsX0_has := goodIn_r _ [9, 10, 44, 45, 46, 47, 48, 49, 50, 51, 52, 53, 54, 55, 56] (by decide +kernel) (by decide +kernel)
set_option maxRecDepth 20000 in
theorem gX9_of_X0_has : GoodIn wsX9_of (wsV RX9 102 RX0 yX0_has wsX0_has) := goodIn_app (goodIn_of _ (by decide +kernel)) ggX9_of_X0_has
theorem dX9_of_0 : decode cX9_of 0 = .ok (.aload_n 0, 1) := by decide +kernel
theorem dX9_of_1 : decode cX9_of 1 = .ok (.getfield 12, 3) := by decide +kernel
theorem dX9_of_4 : decode cX9_of 4 = .ok (.iload_n 1, 1) := by decide +kernel
theorem dX9_of_5 : decode cX9_of 5 = .ok (.invokevirtual 102, 3) := by decide +kernel
theorem dX9_of_8 : decode cX9_of 8 = .ok (.ifCond .ne 7, 3) := by decide +kernel
theorem dX9_of_11 : decode cX9_of 11 = .ok (.ldc2_w 105, 3) := by decide +kernel
theorem dX9_of_14 : decode cX9_of 14 = .ok (.lreturn, 1) := by decide +kernel
set_option maxRecDepth 20000 in
theorem ggX9_count_X6_keptMarks : GoodIn wsX9_count wsX6_keptMarks := goodIn_r _ [15, 16, 17, 18, 19, 20, 49, 50, 51, 52, 53, 54, 55, 56] (by decide +kernel) (by decide +kernel)
set_option maxRecDepth 20000 in
theorem gX9_count_X6_keptMarks : GoodIn wsX9_count (wsV RX9 156 RX6 yX6_keptMarks wsX6_keptMarks) := goodIn_app (goodIn_of _ (by decide +kernel)) ggX9_count_X6_keptMarks
theorem dX9_count_0 : decode cX9_count 0 = .ok (.iload_n 1, 1) := by decide +kernel
theorem dX9_count_1 : decode cX9_count 1 = .ok (.tableswitch 108 0 7 #[47, 55, 60, 68, 76, 84, 92, 100], 47) := by decide +kernel
theorem dX9_count_48 : decode cX9_count 48 = .ok (.aload_n 0, 1) := by decide +kernel
theorem dX9_count_49 : decode cX9_count 49 = .ok (.getfield 12, 3) := by decide +kernel
theorem dX9_count_52 : decode cX9_count 52 = .ok (.getfield 95, 3) := by decide +kernel
theorem dX9_count_55 : decode cX9_count 55 = .ok (.ireturn, 1) := by decide +kernel
theorem dX9_count_56 : decode cX9_count 56 = .ok (.aload_n 0, 1) := by decide +kernel
theorem dX9_count_57 : decode cX9_count 57 = .ok (.getfield 141, 3) := by decide +kernel
theorem dX9_count_60 : decode cX9_count 60 = .ok (.ireturn, 1) := by decide +kernel
theorem dX9_count_61 : decode cX9_count 61 = .ok (.aload_n 0, 1) := by decide +kernel
theorem dX9_count_62 : decode cX9_count 62 = .ok (.getfield 12, 3) := by decide +kernel
theorem dX9_count_65 : decode cX9_count 65 = .ok (.getfield 144, 3) := by decide +kernel
theorem dX9_count_68 : decode cX9_count 68 = .ok (.ireturn, 1) := by decide +kernel
theorem dX9_count_69 : decode cX9_count 69 = .ok (.aload_n 0, 1) := by decide +kernel
theorem dX9_count_70 : decode cX9_count 70 = .ok (.getfield 12, 3) := by decide +kernel
theorem dX9_count_73 : decode cX9_count 73 = .ok (.getfield 147, 3) := by decide +kernel
theorem dX9_count_76 : decode cX9_count 76 = .ok (.ireturn, 1) := by decide +kernel
theorem dX9_count_77 : decode cX9_count 77 = .ok (.aload_n 0, 1) := by decide +kernel
theorem dX9_count_78 : decode cX9_count 78 = .ok (.getfield 12, 3) := by decide +kernel
theorem dX9_count_81 : decode cX9_count 81 = .ok (.getfield 150, 3) := by decide +kernel
theorem dX9_count_84 : decode cX9_count 84 = .ok (.ireturn, 1) := by decide +kernel
theorem dX9_count_85 : decode cX9_count 85 = .ok (.aload_n 0, 1) := by decide +kernel
theorem dX9_count_86 : decode cX9_count 86 = .ok (.getfield 12, 3) := by decide +kernel
theorem dX9_count_89 : decode cX9_count 89 = .ok (.getfield 153, 3) := by decide +kernel
theorem dX9_count_92 : decode cX9_count 92 = .ok (.ireturn, 1) := by decide +kernel
theorem dX9_count_93 : decode cX9_count 93 = .ok (.aload_n 0, 1) := by decide +kernel
theorem dX9_count_94 : decode cX9_count 94 = .ok (.getfield 70, 3) := by decide +kernel
theorem dX9_count_97 : decode cX9_count 97 = .ok (.invokevirtual 156, 3) := by decide +kernel
theorem dX9_count_100 : decode cX9_count 100 = .ok (.ireturn, 1) := by decide +kernel
theorem dX9_count_101 : decode cX9_count 101 = .ok (.aload_n 0, 1) := by decide +kernel
theorem dX9_count_102 : decode cX9_count 102 = .ok (.getfield 54, 3) := by decide +kernel
theorem dX9_count_105 : decode cX9_count 105 = .ok (.getfield 160, 3) := by decide +kernel
theorem dX9_count_108 : decode cX9_count 108 = .ok (.ireturn, 1) := by decide +kernel
theorem dX9_count_109 : decode cX9_count 109 = .ok (.bipush (-2), 2) := by decide +kernel
theorem dX9_count_111 : decode cX9_count 111 = .ok (.ireturn, 1) := by decide +kernel
set_option maxRecDepth 20000 in
theorem ggX9_sum_X0_allMoney : GoodIn wsX9_sum wsX0_allMoney := goodIn_r _ [9, 10, 11, 12, 32, 33, 34, 35, 36, 37, 38, 39, 40, 41, 42, 43, 44] (by decide +kernel) (by decide +kernel)
set_option maxRecDepth 20000 in
theorem gX9_sum_X0_allMoney : GoodIn wsX9_sum (wsV RX9 167 RX0 yX0_allMoney wsX0_allMoney) := goodIn_app (goodIn_of _ (by decide +kernel)) ggX9_sum_X0_allMoney
set_option maxRecDepth 20000 in
theorem ggX9_sum_X1_total : GoodIn wsX9_sum wsX1_total := goodIn_r _ [17, 18, 45] (by decide +kernel) (by decide +kernel)
set_option maxRecDepth 20000 in
theorem gX9_sum_X1_total : GoodIn wsX9_sum (wsV RX9 171 RX1 yX1_total wsX1_total) := goodIn_app (goodIn_of _ (by decide +kernel)) ggX9_sum_X1_total
theorem dX9_sum_0 : decode cX9_sum 0 = .ok (.iload_n 1, 1) := by decide +kernel
theorem dX9_sum_1 : decode cX9_sum 1 = .ok (.tableswitch 51 0 2 #[27, 35, 43], 27) := by decide +kernel
theorem dX9_sum_28 : decode cX9_sum 28 = .ok (.aload_n 0, 1) := by decide +kernel
theorem dX9_sum_29 : decode cX9_sum 29 = .ok (.getfield 12, 3) := by decide +kernel
theorem dX9_sum_32 : decode cX9_sum 32 = .ok (.getfield 163, 3) := by decide +kernel
theorem dX9_sum_35 : decode cX9_sum 35 = .ok (.lreturn, 1) := by decide +kernel
theorem dX9_sum_36 : decode cX9_sum 36 = .ok (.aload_n 0, 1) := by decide +kernel
theorem dX9_sum_37 : decode cX9_sum 37 = .ok (.getfield 12, 3) := by decide +kernel
theorem dX9_sum_40 : decode cX9_sum 40 = .ok (.invokevirtual 167, 3) := by decide +kernel
theorem dX9_sum_43 : decode cX9_sum 43 = .ok (.lreturn, 1) := by decide +kernel
theorem dX9_sum_44 : decode cX9_sum 44 = .ok (.aload_n 0, 1) := by decide +kernel
theorem dX9_sum_45 : decode cX9_sum 45 = .ok (.getfield 24, 3) := by decide +kernel
theorem dX9_sum_48 : decode cX9_sum 48 = .ok (.invokevirtual 171, 3) := by decide +kernel
theorem dX9_sum_51 : decode cX9_sum 51 = .ok (.lreturn, 1) := by decide +kernel
theorem dX9_sum_52 : decode cX9_sum 52 = .ok (.ldc2_w 105, 3) := by decide +kernel
theorem dX9_sum_55 : decode cX9_sum 55 = .ok (.lreturn, 1) := by decide +kernel
set_option maxRecDepth 20000 in
theorem ggX9_taken_X0_has : GoodIn wsX9_taken wsX0_has := goodIn_r _ [8, 9, 30, 31, 32, 33, 34, 35, 36, 37, 38, 39, 40, 41, 42] (by decide +kernel) (by decide +kernel)
set_option maxRecDepth 20000 in
theorem gX9_taken_X0_has : GoodIn wsX9_taken (wsV RX9 102 RX0 yX0_has wsX0_has) := goodIn_app (goodIn_of _ (by decide +kernel)) ggX9_taken_X0_has
theorem dX9_taken_0 : decode cX9_taken 0 = .ok (.aload_n 0, 1) := by decide +kernel
theorem dX9_taken_1 : decode cX9_taken 1 = .ok (.getfield 12, 3) := by decide +kernel
theorem dX9_taken_4 : decode cX9_taken 4 = .ok (.iload_n 1, 1) := by decide +kernel
theorem dX9_taken_5 : decode cX9_taken 5 = .ok (.invokevirtual 102, 3) := by decide +kernel
theorem dX9_taken_8 : decode cX9_taken 8 = .ok (.ifCond .eq 10, 3) := by decide +kernel
theorem dX9_taken_18 : decode cX9_taken 18 = .ok (.bipush (-2), 2) := by decide +kernel
theorem dX9_taken_20 : decode cX9_taken 20 = .ok (.ireturn, 1) := by decide +kernel
set_option maxRecDepth 20000 in
theorem ggX9_feed_X9_isByte : GoodIn wsX9_feed wsX9_isByte := goodIn_r _ [6, 7, 8, 5, 9] (by decide +kernel) (by decide +kernel)
set_option maxRecDepth 20000 in
theorem gX9_feed_X9_isByte : GoodIn wsX9_feed (va_wsS RX9 177 yX9_isByte wsX9_isByte) := goodIn_app (goodIn_of _ (by decide +kernel)) ggX9_feed_X9_isByte
set_option maxRecDepth 20000 in
theorem ggX9_feed_X8_add : GoodIn wsX9_feed wsX8_add := goodIn_r _ [14, 15, 16, 30, 31] (by decide +kernel) (by decide +kernel)
set_option maxRecDepth 20000 in
theorem gX9_feed_X8_add : GoodIn wsX9_feed (wsV RX9 180 RX8 yX8_add wsX8_add) := goodIn_app (goodIn_of _ (by decide +kernel)) ggX9_feed_X8_add
theorem dX9_feed_0 : decode cX9_feed 0 = .ok (.iload_n 1, 1) := by decide +kernel
theorem dX9_feed_1 : decode cX9_feed 1 = .ok (.iconst 1, 1) := by decide +kernel
theorem dX9_feed_2 : decode cX9_feed 2 = .ok (.if_icmp .lt 8, 3) := by decide +kernel
theorem dX9_feed_5 : decode cX9_feed 5 = .ok (.iload_n 1, 1) := by decide +kernel
theorem dX9_feed_6 : decode cX9_feed 6 = .ok (.iconst 5, 1) := by decide +kernel
theorem dX9_feed_7 : decode cX9_feed 7 = .ok (.if_icmp .le 6, 3) := by decide +kernel
theorem dX9_feed_10 : decode cX9_feed 10 = .ok (.bipush (-2), 2) := by decide +kernel
theorem dX9_feed_12 : decode cX9_feed 12 = .ok (.ireturn, 1) := by decide +kernel
theorem dX9_feed_13 : decode cX9_feed 13 = .ok (.iload_n 2, 1) := by decide +kernel
theorem dX9_feed_14 : decode cX9_feed 14 = .ok (.invokestatic 177, 3) := by decide +kernel
theorem dX9_feed_17 : decode cX9_feed 17 = .ok (.ifCond .eq 34, 3) := by decide +kernel
theorem dX9_feed_20 : decode cX9_feed 20 = .ok (.iload_n 3, 1) := by decide +kernel
theorem dX9_feed_21 : decode cX9_feed 21 = .ok (.invokestatic 177, 3) := by decide +kernel
theorem dX9_feed_24 : decode cX9_feed 24 = .ok (.ifCond .eq 27, 3) := by decide +kernel
theorem dX9_feed_27 : decode cX9_feed 27 = .ok (.iload 4, 2) := by decide +kernel
theorem dX9_feed_29 : decode cX9_feed 29 = .ok (.invokestatic 177, 3) := by decide +kernel
theorem dX9_feed_32 : decode cX9_feed 32 = .ok (.ifCond .eq 19, 3) := by decide +kernel
theorem dX9_feed_35 : decode cX9_feed 35 = .ok (.iload 5, 2) := by decide +kernel
theorem dX9_feed_37 : decode cX9_feed 37 = .ok (.invokestatic 177, 3) := by decide +kernel
theorem dX9_feed_40 : decode cX9_feed 40 = .ok (.ifCond .eq 11, 3) := by decide +kernel
theorem dX9_feed_43 : decode cX9_feed 43 = .ok (.iload 6, 2) := by decide +kernel
theorem dX9_feed_45 : decode cX9_feed 45 = .ok (.invokestatic 177, 3) := by decide +kernel
theorem dX9_feed_48 : decode cX9_feed 48 = .ok (.ifCond .ne 6, 3) := by decide +kernel
theorem dX9_feed_51 : decode cX9_feed 51 = .ok (.bipush (-2), 2) := by decide +kernel
theorem dX9_feed_53 : decode cX9_feed 53 = .ok (.ireturn, 1) := by decide +kernel
theorem dX9_feed_54 : decode cX9_feed 54 = .ok (.aload_n 0, 1) := by decide +kernel
theorem dX9_feed_55 : decode cX9_feed 55 = .ok (.getfield 54, 3) := by decide +kernel
theorem dX9_feed_58 : decode cX9_feed 58 = .ok (.getfield 160, 3) := by decide +kernel
theorem dX9_feed_61 : decode cX9_feed 61 = .ok (.iload_n 1, 1) := by decide +kernel
theorem dX9_feed_62 : decode cX9_feed 62 = .ok (.iadd, 1) := by decide +kernel
theorem dX9_feed_63 : decode cX9_feed 63 = .ok (.bipush 80, 2) := by decide +kernel
theorem dX9_feed_65 : decode cX9_feed 65 = .ok (.if_icmp .le 6, 3) := by decide +kernel
theorem dX9_feed_71 : decode cX9_feed 71 = .ok (.aload_n 0, 1) := by decide +kernel
theorem dX9_feed_72 : decode cX9_feed 72 = .ok (.getfield 54, 3) := by decide +kernel
theorem dX9_feed_75 : decode cX9_feed 75 = .ok (.iload_n 2, 1) := by decide +kernel
theorem dX9_feed_76 : decode cX9_feed 76 = .ok (.invokevirtual 180, 3) := by decide +kernel
theorem dX9_feed_79 : decode cX9_feed 79 = .ok (.iload_n 1, 1) := by decide +kernel
theorem dX9_feed_80 : decode cX9_feed 80 = .ok (.iconst 1, 1) := by decide +kernel
theorem dX9_feed_81 : decode cX9_feed 81 = .ok (.if_icmp .le 11, 3) := by decide +kernel
theorem dX9_feed_84 : decode cX9_feed 84 = .ok (.aload_n 0, 1) := by decide +kernel
theorem dX9_feed_85 : decode cX9_feed 85 = .ok (.getfield 54, 3) := by decide +kernel
theorem dX9_feed_88 : decode cX9_feed 88 = .ok (.iload_n 3, 1) := by decide +kernel
theorem dX9_feed_89 : decode cX9_feed 89 = .ok (.invokevirtual 180, 3) := by decide +kernel
theorem dX9_feed_92 : decode cX9_feed 92 = .ok (.iload_n 1, 1) := by decide +kernel
theorem dX9_feed_93 : decode cX9_feed 93 = .ok (.iconst 2, 1) := by decide +kernel
theorem dX9_feed_94 : decode cX9_feed 94 = .ok (.if_icmp .le 12, 3) := by decide +kernel
theorem dX9_feed_97 : decode cX9_feed 97 = .ok (.aload_n 0, 1) := by decide +kernel
theorem dX9_feed_98 : decode cX9_feed 98 = .ok (.getfield 54, 3) := by decide +kernel
theorem dX9_feed_101 : decode cX9_feed 101 = .ok (.iload 4, 2) := by decide +kernel
theorem dX9_feed_103 : decode cX9_feed 103 = .ok (.invokevirtual 180, 3) := by decide +kernel
theorem dX9_feed_106 : decode cX9_feed 106 = .ok (.iload_n 1, 1) := by decide +kernel
theorem dX9_feed_107 : decode cX9_feed 107 = .ok (.iconst 3, 1) := by decide +kernel
theorem dX9_feed_108 : decode cX9_feed 108 = .ok (.if_icmp .le 12, 3) := by decide +kernel
theorem dX9_feed_111 : decode cX9_feed 111 = .ok (.aload_n 0, 1) := by decide +kernel
theorem dX9_feed_112 : decode cX9_feed 112 = .ok (.getfield 54, 3) := by decide +kernel
theorem dX9_feed_115 : decode cX9_feed 115 = .ok (.iload 5, 2) := by decide +kernel
theorem dX9_feed_117 : decode cX9_feed 117 = .ok (.invokevirtual 180, 3) := by decide +kernel
theorem dX9_feed_120 : decode cX9_feed 120 = .ok (.iload_n 1, 1) := by decide +kernel
theorem dX9_feed_121 : decode cX9_feed 121 = .ok (.iconst 4, 1) := by decide +kernel
theorem dX9_feed_122 : decode cX9_feed 122 = .ok (.if_icmp .le 12, 3) := by decide +kernel
theorem dX9_feed_125 : decode cX9_feed 125 = .ok (.aload_n 0, 1) := by decide +kernel
theorem dX9_feed_126 : decode cX9_feed 126 = .ok (.getfield 54, 3) := by decide +kernel
theorem dX9_feed_129 : decode cX9_feed 129 = .ok (.iload 6, 2) := by decide +kernel
theorem dX9_feed_131 : decode cX9_feed 131 = .ok (.invokevirtual 180, 3) := by decide +kernel
theorem dX9_feed_134 : decode cX9_feed 134 = .ok (.aload_n 0, 1) := by decide +kernel
theorem dX9_feed_135 : decode cX9_feed 135 = .ok (.getfield 54, 3) := by decide +kernel
theorem dX9_feed_138 : decode cX9_feed 138 = .ok (.getfield 160, 3) := by decide +kernel
theorem dX9_feed_141 : decode cX9_feed 141 = .ok (.ireturn, 1) := by decide +kernel
set_option maxRecDepth 20000 in
theorem ggX9_program_X3_takeOver : GoodIn wsX9_program wsX3_takeOver := goodIn_r _ [10, 11, 12, 13, 14, 15, 16, 17, 18, 84, 85, 86, 87, 88] (by decide +kernel) (by decide +kernel)
set_option maxRecDepth 20000 in
theorem gX9_program_X3_takeOver : GoodIn wsX9_program (wsV RX9 184 RX3 yX3_takeOver wsX3_takeOver) := goodIn_app (goodIn_of _ (by decide +kernel)) ggX9_program_X3_takeOver
set_option maxRecDepth 20000 in
theorem ggX9_program_X4_faultOf : GoodIn wsX9_program wsX4_faultOf := goodIn_r _ [23, 24, 25, 26, 27, 28, 29, 30, 31, 22, 32, 33, 34, 35, 9, 36, 18, 12, 37, 38, 39, 40, 41, 42, 43, 44, 45, 46, 47, 48, 49, 50, 51, 52, 53, 54, 55, 56, 57, 58, 59, 60, 61, 62, 63, 64, 65, 66, 67, 68, 69, 70, 89, 90, 91, 92, 93, 86, 87, 88] (by decide +kernel) (by decide +kernel)
set_option maxRecDepth 20000 in
theorem gX9_program_X4_faultOf : GoodIn wsX9_program (wsV RX9 188 RX4 yX4_faultOf wsX4_faultOf) := goodIn_app (goodIn_of _ (by decide +kernel)) ggX9_program_X4_faultOf
theorem dX9_program_0 : decode cX9_program 0 = .ok (.aload_n 0, 1) := by decide +kernel
theorem dX9_program_1 : decode cX9_program 1 = .ok (.getfield 141, 3) := by decide +kernel
theorem dX9_program_4 : decode cX9_program 4 = .ok (.iconst 4, 1) := by decide +kernel
theorem dX9_program_5 : decode cX9_program 5 = .ok (.if_icmp .lt 6, 3) := by decide +kernel
theorem dX9_program_11 : decode cX9_program 11 = .ok (.aload_n 0, 1) := by decide +kernel
theorem dX9_program_12 : decode cX9_program 12 = .ok (.getfield 42, 3) := by decide +kernel
theorem dX9_program_15 : decode cX9_program 15 = .ok (.aload_n 0, 1) := by decide +kernel
theorem dX9_program_16 : decode cX9_program 16 = .ok (.getfield 141, 3) := by decide +kernel
theorem dX9_program_19 : decode cX9_program 19 = .ok (.aaload, 1) := by decide +kernel
theorem dX9_program_20 : decode cX9_program 20 = .ok (.astore_n 1, 1) := by decide +kernel
theorem dX9_program_21 : decode cX9_program 21 = .ok (.aload_n 1, 1) := by decide +kernel
theorem dX9_program_22 : decode cX9_program 22 = .ok (.aload_n 0, 1) := by decide +kernel
theorem dX9_program_23 : decode cX9_program 23 = .ok (.getfield 54, 3) := by decide +kernel
theorem dX9_program_26 : decode cX9_program 26 = .ok (.invokevirtual 184, 3) := by decide +kernel
theorem dX9_program_29 : decode cX9_program 29 = .ok (.aload_n 0, 1) := by decide +kernel
theorem dX9_program_30 : decode cX9_program 30 = .ok (.getfield 54, 3) := by decide +kernel
theorem dX9_program_33 : decode cX9_program 33 = .ok (.iconst 0, 1) := by decide +kernel
theorem dX9_program_34 : decode cX9_program 34 = .ok (.putfield 160, 3) := by decide +kernel
theorem dX9_program_37 : decode cX9_program 37 = .ok (.aload_n 0, 1) := by decide +kernel
theorem dX9_program_38 : decode cX9_program 38 = .ok (.getfield 61, 3) := by decide +kernel
theorem dX9_program_41 : decode cX9_program 41 = .ok (.aload_n 1, 1) := by decide +kernel
theorem dX9_program_42 : decode cX9_program 42 = .ok (.invokevirtual 188, 3) := by decide +kernel
theorem dX9_program_45 : decode cX9_program 45 = .ok (.istore_n 2, 1) := by decide +kernel
theorem dX9_program_46 : decode cX9_program 46 = .ok (.iload_n 2, 1) := by decide +kernel
theorem dX9_program_47 : decode cX9_program 47 = .ok (.iconst (-1), 1) := by decide +kernel
theorem dX9_program_48 : decode cX9_program 48 = .ok (.if_icmp .eq 8, 3) := by decide +kernel
theorem dX9_program_51 : decode cX9_program 51 = .ok (.bipush (-100), 2) := by decide +kernel
theorem dX9_program_53 : decode cX9_program 53 = .ok (.iload_n 2, 1) := by decide +kernel
theorem dX9_program_54 : decode cX9_program 54 = .ok (.isub, 1) := by decide +kernel
theorem dX9_program_55 : decode cX9_program 55 = .ok (.ireturn, 1) := by decide +kernel
set_option maxRecDepth 20000 in
theorem ggX9_run_X9_isProgram : GoodIn wsX9_run wsX9_isProgram := goodIn_r _ [7, 8, 143, 144, 145, 146, 147, 148, 149, 150, 151, 152, 153, 154, 155] (by decide +kernel) (by decide +kernel)
set_option maxRecDepth 20000 in
theorem gX9_run_X9_isProgram : GoodIn wsX9_run (wsV RX9 192 RX9 yX9_isProgram wsX9_isProgram) := goodIn_app (goodIn_of _ (by decide +kernel)) ggX9_run_X9_isProgram
theorem dX9_run_0 : decode cX9_run 0 = .ok (.aload_n 0, 1) := by decide +kernel
theorem dX9_run_1 : decode cX9_run 1 = .ok (.iload_n 1, 1) := by decide +kernel
theorem dX9_run_2 : decode cX9_run 2 = .ok (.invokevirtual 192, 3) := by decide +kernel
theorem dX9_run_5 : decode cX9_run 5 = .ok (.ifCond .ne 6, 3) := by decide +kernel
theorem dX9_run_8 : decode cX9_run 8 = .ok (.bipush (-2), 2) := by decide +kernel
theorem dX9_run_10 : decode cX9_run 10 = .ok (.ireturn, 1) := by decide +kernel
set_option maxRecDepth 20000 in
theorem ggX9_trace_X6_keptMarks : GoodIn wsX9_trace wsX6_keptMarks := goodIn_r _ [7, 8, 9, 10, 11, 12, 26, 27, 28, 29, 30, 31, 32, 33] (by decide +kernel) (by decide +kernel)
set_option maxRecDepth 20000 in
theorem gX9_trace_X6_keptMarks : GoodIn wsX9_trace (wsV RX9 156 RX6 yX6_keptMarks wsX6_keptMarks) := goodIn_app (goodIn_of _ (by decide +kernel)) ggX9_trace_X6_keptMarks
theorem dX9_trace_0 : decode cX9_trace 0 = .ok (.iload_n 1, 1) := by decide +kernel
theorem dX9_trace_1 : decode cX9_trace 1 = .ok (.ifCond .lt 14, 3) := by decide +kernel
theorem dX9_trace_4 : decode cX9_trace 4 = .ok (.iload_n 1, 1) := by decide +kernel
theorem dX9_trace_5 : decode cX9_trace 5 = .ok (.aload_n 0, 1) := by decide +kernel
theorem dX9_trace_6 : decode cX9_trace 6 = .ok (.getfield 70, 3) := by decide +kernel
theorem dX9_trace_9 : decode cX9_trace 9 = .ok (.invokevirtual 156, 3) := by decide +kernel
theorem dX9_trace_12 : decode cX9_trace 12 = .ok (.if_icmp .lt 6, 3) := by decide +kernel
theorem dX9_trace_15 : decode cX9_trace 15 = .ok (.bipush (-12), 2) := by decide +kernel
theorem dX9_trace_17 : decode cX9_trace 17 = .ok (.ireturn, 1) := by decide +kernel
set_option maxRecDepth 20000 in
theorem ggX9_would_X9_isProgram : GoodIn wsX9_would wsX9_isProgram := goodIn_r _ [12, 13, 179, 180, 181, 182, 183, 184, 185, 186, 187, 188, 189, 190, 191] (by decide +kernel) (by decide +kernel)
set_option maxRecDepth 20000 in
theorem gX9_would_X9_isProgram : GoodIn wsX9_would (wsV RX9 192 RX9 yX9_isProgram wsX9_isProgram) := goodIn_app (goodIn_of _ (by decide +kernel)) ggX9_would_X9_isProgram
theorem dX9_would_0 : decode cX9_would 0 = .ok (.aload_n 0, 1) := by decide +kernel
theorem dX9_would_1 : decode cX9_would 1 = .ok (.iload_n 1, 1) := by decide +kernel
theorem dX9_would_2 : decode cX9_would 2 = .ok (.invokevirtual 192, 3) := by decide +kernel
theorem dX9_would_5 : decode cX9_would 5 = .ok (.ifCond .eq 11, 3) := by decide +kernel
theorem dX9_would_16 : decode cX9_would 16 = .ok (.ldc2_w 105, 3) := by decide +kernel
theorem dX9_would_19 : decode cX9_would 19 = .ok (.lreturn, 1) := by decide +kernel
set_option maxRecDepth 20000 in
theorem ggX9_needed_X9_isProgram : GoodIn wsX9_needed wsX9_isProgram := goodIn_r _ [10, 11, 161, 162, 163, 164, 165, 166, 167, 168, 169, 170, 171, 172, 173] (by decide +kernel) (by decide +kernel)
set_option maxRecDepth 20000 in
theorem gX9_needed_X9_isProgram : GoodIn wsX9_needed (wsV RX9 192 RX9 yX9_isProgram wsX9_isProgram) := goodIn_app (goodIn_of _ (by decide +kernel)) ggX9_needed_X9_isProgram
theorem dX9_needed_0 : decode cX9_needed 0 = .ok (.aload_n 0, 1) := by decide +kernel
theorem dX9_needed_1 : decode cX9_needed 1 = .ok (.iload_n 1, 1) := by decide +kernel
theorem dX9_needed_2 : decode cX9_needed 2 = .ok (.invokevirtual 192, 3) := by decide +kernel
theorem dX9_needed_5 : decode cX9_needed 5 = .ok (.ifCond .eq 14, 3) := by decide +kernel
theorem dX9_needed_19 : decode cX9_needed 19 = .ok (.bipush (-2), 2) := by decide +kernel
theorem dX9_needed_21 : decode cX9_needed 21 = .ok (.ireturn, 1) := by decide +kernel
set_option maxRecDepth 20000 in
theorem ggX9_hinges_X9_isProgram : GoodIn wsX9_hinges wsX9_isProgram := goodIn_r _ [11, 12, 165, 166, 167, 168, 169, 170, 171, 172, 173, 174, 175, 176, 177] (by decide +kernel) (by decide +kernel)
set_option maxRecDepth 20000 in
theorem gX9_hinges_X9_isProgram : GoodIn wsX9_hinges (wsV RX9 192 RX9 yX9_isProgram wsX9_isProgram) := goodIn_app (goodIn_of _ (by decide +kernel)) ggX9_hinges_X9_isProgram
theorem dX9_hinges_0 : decode cX9_hinges 0 = .ok (.aload_n 0, 1) := by decide +kernel
theorem dX9_hinges_1 : decode cX9_hinges 1 = .ok (.iload_n 1, 1) := by decide +kernel
theorem dX9_hinges_2 : decode cX9_hinges 2 = .ok (.invokevirtual 192, 3) := by decide +kernel
theorem dX9_hinges_5 : decode cX9_hinges 5 = .ok (.ifCond .ne 6, 3) := by decide +kernel
theorem dX9_hinges_8 : decode cX9_hinges 8 = .ok (.bipush (-2), 2) := by decide +kernel
theorem dX9_hinges_10 : decode cX9_hinges 10 = .ok (.ireturn, 1) := by decide +kernel
set_option maxRecDepth 20000 in
theorem ggX9_owe_X9_isPair : GoodIn wsX9_owe wsX9_isPair := goodIn_r _ [7, 8, 9, 10, 11, 12, 13, 14, 28, 29, 30, 31, 32, 33, 34, 35, 36, 37, 38, 39, 40, 41, 42, 43, 44, 45, 46, 47, 48, 49, 50, 51, 52, 53] (by decide +kernel) (by decide +kernel)
set_option maxRecDepth 20000 in
theorem gX9_owe_X9_isPair : GoodIn wsX9_owe (wsV RX9 217 RX9 yX9_isPair wsX9_isPair) := goodIn_app (goodIn_of _ (by decide +kernel)) ggX9_owe_X9_isPair
theorem dX9_owe_0 : decode cX9_owe 0 = .ok (.aload_n 0, 1) := by decide +kernel
theorem dX9_owe_1 : decode cX9_owe 1 = .ok (.iload_n 1, 1) := by decide +kernel
theorem dX9_owe_2 : decode cX9_owe 2 = .ok (.iload_n 2, 1) := by decide +kernel
theorem dX9_owe_3 : decode cX9_owe 3 = .ok (.invokevirtual 217, 3) := by decide +kernel
theorem dX9_owe_6 : decode cX9_owe 6 = .ok (.ifCond .eq 12, 3) := by decide +kernel
theorem dX9_owe_18 : decode cX9_owe 18 = .ok (.bipush (-2), 2) := by decide +kernel
theorem dX9_owe_20 : decode cX9_owe 20 = .ok (.ireturn, 1) := by decide +kernel
set_option maxRecDepth 20000 in
theorem ggX9_owed_X9_isPair : GoodIn wsX9_owed wsX9_isPair := goodIn_r _ [6, 7, 8, 9, 10, 11, 12, 13, 20, 21, 22, 23, 24, 25, 26, 27, 28, 29, 30, 31, 32, 33, 34, 35, 36, 37, 38, 39, 40, 41, 42, 43, 44, 45] (by decide +kernel) (by decide +kernel)
set_option maxRecDepth 20000 in
theorem gX9_owed_X9_isPair : GoodIn wsX9_owed (wsV RX9 217 RX9 yX9_isPair wsX9_isPair) := goodIn_app (goodIn_of _ (by decide +kernel)) ggX9_owed_X9_isPair
theorem dX9_owed_0 : decode cX9_owed 0 = .ok (.aload_n 0, 1) := by decide +kernel
theorem dX9_owed_1 : decode cX9_owed 1 = .ok (.iload_n 1, 1) := by decide +kernel
theorem dX9_owed_2 : decode cX9_owed 2 = .ok (.iload_n 2, 1) := by decide +kernel
theorem dX9_owed_3 : decode cX9_owed 3 = .ok (.invokevirtual 217, 3) := by decide +kernel
theorem dX9_owed_6 : decode cX9_owed 6 = .ok (.ifCond .ne 6, 3) := by decide +kernel
theorem dX9_owed_9 : decode cX9_owed 9 = .ok (.bipush (-2), 2) := by decide +kernel
theorem dX9_owed_11 : decode cX9_owed 11 = .ok (.ireturn, 1) := by decide +kernel
set_option maxRecDepth 20000 in
theorem ggX9_net_X0_hasAllGates : GoodIn wsX9_net wsX0_hasAllGates := goodIn_r _ [8, 9, 10, 74, 75, 76, 77, 78, 79, 80, 81, 82, 83, 84, 85, 86] (by decide +kernel) (by decide +kernel)
set_option maxRecDepth 20000 in
theorem gX9_net_X0_hasAllGates : GoodIn wsX9_net (wsV RX9 228 RX0 yX0_hasAllGates wsX0_hasAllGates) := goodIn_app (goodIn_of _ (by decide +kernel)) ggX9_net_X0_hasAllGates
set_option maxRecDepth 20000 in
theorem ggX9_net_X0_enterAll : GoodIn wsX9_net wsX0_enterAll := goodIn_r _ [14, 9, 15, 74, 75, 76, 77, 78, 79, 80, 81, 82, 83, 84, 85, 86] (by decide +kernel) (by decide +kernel)
set_option maxRecDepth 20000 in
theorem gX9_net_X0_enterAll : GoodIn wsX9_net (wsV RX9 232 RX0 yX0_enterAll wsX0_enterAll) := goodIn_app (goodIn_of _ (by decide +kernel)) ggX9_net_X0_enterAll
set_option maxRecDepth 20000 in
theorem ggX9_net_X5_cutAll : GoodIn wsX9_net wsX5_cutAll := goodIn_r _ [20, 21, 22, 23, 19, 24, 25, 26, 27, 28, 29, 30, 31, 32, 33, 34, 35, 36, 37, 38, 39, 40, 41, 42, 43, 44, 45, 46, 47, 48, 49, 50, 51, 52, 53, 54, 55, 87, 88, 89, 90, 91] (by decide +kernel) (by decide +kernel)
set_option maxRecDepth 20000 in
theorem gX9_net_X5_cutAll : GoodIn wsX9_net (wsV RX9 235 RX5 yX5_cutAll wsX5_cutAll) := goodIn_app (goodIn_of _ (by decide +kernel)) ggX9_net_X5_cutAll
set_option maxRecDepth 20000 in
theorem ggX9_net_X0_leaveAll : GoodIn wsX9_net wsX0_leaveAll := goodIn_r _ [59, 9, 60, 74, 75, 76, 77, 78, 79, 80, 81, 82, 83, 84, 85, 86] (by decide +kernel) (by decide +kernel)
set_option maxRecDepth 20000 in
theorem gX9_net_X0_leaveAll : GoodIn wsX9_net (wsV RX9 238 RX0 yX0_leaveAll wsX0_leaveAll) := goodIn_app (goodIn_of _ (by decide +kernel)) ggX9_net_X0_leaveAll
theorem dX9_net_0 : decode cX9_net 0 = .ok (.aload_n 0, 1) := by decide +kernel
theorem dX9_net_1 : decode cX9_net 1 = .ok (.getfield 12, 3) := by decide +kernel
theorem dX9_net_4 : decode cX9_net 4 = .ok (.invokevirtual 228, 3) := by decide +kernel
theorem dX9_net_7 : decode cX9_net 7 = .ok (.ifCond .ne 6, 3) := by decide +kernel
theorem dX9_net_13 : decode cX9_net 13 = .ok (.aload_n 0, 1) := by decide +kernel
theorem dX9_net_14 : decode cX9_net 14 = .ok (.getfield 12, 3) := by decide +kernel
theorem dX9_net_17 : decode cX9_net 17 = .ok (.invokevirtual 232, 3) := by decide +kernel
theorem dX9_net_20 : decode cX9_net 20 = .ok (.aload_n 0, 1) := by decide +kernel
theorem dX9_net_21 : decode cX9_net 21 = .ok (.getfield 36, 3) := by decide +kernel
theorem dX9_net_24 : decode cX9_net 24 = .ok (.aload_n 0, 1) := by decide +kernel
theorem dX9_net_25 : decode cX9_net 25 = .ok (.getfield 12, 3) := by decide +kernel
theorem dX9_net_28 : decode cX9_net 28 = .ok (.getfield 95, 3) := by decide +kernel
theorem dX9_net_31 : decode cX9_net 31 = .ok (.invokevirtual 235, 3) := by decide +kernel
theorem dX9_net_34 : decode cX9_net 34 = .ok (.istore_n 1, 1) := by decide +kernel
theorem dX9_net_35 : decode cX9_net 35 = .ok (.aload_n 0, 1) := by decide +kernel
theorem dX9_net_36 : decode cX9_net 36 = .ok (.getfield 12, 3) := by decide +kernel
theorem dX9_net_39 : decode cX9_net 39 = .ok (.invokevirtual 238, 3) := by decide +kernel
theorem dX9_net_42 : decode cX9_net 42 = .ok (.iload_n 1, 1) := by decide +kernel
theorem dX9_net_43 : decode cX9_net 43 = .ok (.ireturn, 1) := by decide +kernel
set_option maxRecDepth 20000 in
theorem ggX9_tells_X9_isSheet : GoodIn wsX9_tells wsX9_isSheet := goodIn_r _ [9] (by decide +kernel) (by decide +kernel)
set_option maxRecDepth 20000 in
theorem gX9_tells_X9_isSheet : GoodIn wsX9_tells (va_wsS RX9 241 yX9_isSheet wsX9_isSheet) := goodIn_app (goodIn_of _ (by decide +kernel)) ggX9_tells_X9_isSheet
set_option maxRecDepth 20000 in
theorem ggX9_tells_X9_isProgram : GoodIn wsX9_tells wsX9_isProgram := goodIn_r _ [13, 14, 195, 196, 197, 198, 199, 200, 201, 202, 203, 204, 205, 206, 207] (by decide +kernel) (by decide +kernel)
set_option maxRecDepth 20000 in
theorem gX9_tells_X9_isProgram : GoodIn wsX9_tells (wsV RX9 192 RX9 yX9_isProgram wsX9_isProgram) := goodIn_app (goodIn_of _ (by decide +kernel)) ggX9_tells_X9_isProgram
theorem dX9_tells_0 : decode cX9_tells 0 = .ok (.iload_n 1, 1) := by decide +kernel
theorem dX9_tells_1 : decode cX9_tells 1 = .ok (.invokestatic 241, 3) := by decide +kernel
theorem dX9_tells_4 : decode cX9_tells 4 = .ok (.ifCond .eq 22, 3) := by decide +kernel
theorem dX9_tells_7 : decode cX9_tells 7 = .ok (.aload_n 0, 1) := by decide +kernel
theorem dX9_tells_8 : decode cX9_tells 8 = .ok (.iload_n 2, 1) := by decide +kernel
theorem dX9_tells_9 : decode cX9_tells 9 = .ok (.invokevirtual 192, 3) := by decide +kernel
theorem dX9_tells_12 : decode cX9_tells 12 = .ok (.ifCond .eq 14, 3) := by decide +kernel
theorem dX9_tells_26 : decode cX9_tells 26 = .ok (.bipush (-2), 2) := by decide +kernel
theorem dX9_tells_28 : decode cX9_tells 28 = .ok (.ireturn, 1) := by decide +kernel
set_option maxRecDepth 20000 in
theorem ggX9_film_X9_isSheet : GoodIn wsX9_film wsX9_isSheet := goodIn_r _ [7] (by decide +kernel) (by decide +kernel)
set_option maxRecDepth 20000 in
theorem gX9_film_X9_isSheet : GoodIn wsX9_film (va_wsS RX9 241 yX9_isSheet wsX9_isSheet) := goodIn_app (goodIn_of _ (by decide +kernel)) ggX9_film_X9_isSheet
set_option maxRecDepth 20000 in
theorem ggX9_film_X9_isProgram : GoodIn wsX9_film wsX9_isProgram := goodIn_r _ [11, 12, 188, 189, 190, 191, 192, 193, 194, 195, 196, 197, 198, 199, 200] (by decide +kernel) (by decide +kernel)
set_option maxRecDepth 20000 in
theorem gX9_film_X9_isProgram : GoodIn wsX9_film (wsV RX9 192 RX9 yX9_isProgram wsX9_isProgram) := goodIn_app (goodIn_of _ (by decide +kernel)) ggX9_film_X9_isProgram
theorem dX9_film_0 : decode cX9_film 0 = .ok (.iload_n 1, 1) := by decide +kernel
theorem dX9_film_1 : decode cX9_film 1 = .ok (.invokestatic 241, 3) := by decide +kernel
theorem dX9_film_4 : decode cX9_film 4 = .ok (.ifCond .eq 11, 3) := by decide +kernel
theorem dX9_film_7 : decode cX9_film 7 = .ok (.aload_n 0, 1) := by decide +kernel
theorem dX9_film_8 : decode cX9_film 8 = .ok (.iload_n 2, 1) := by decide +kernel
theorem dX9_film_9 : decode cX9_film 9 = .ok (.invokevirtual 192, 3) := by decide +kernel
theorem dX9_film_12 : decode cX9_film 12 = .ok (.ifCond .ne 6, 3) := by decide +kernel
theorem dX9_film_15 : decode cX9_film 15 = .ok (.bipush (-2), 2) := by decide +kernel
theorem dX9_film_17 : decode cX9_film 17 = .ok (.ireturn, 1) := by decide +kernel
set_option maxRecDepth 20000 in
theorem ggX9_image_X0_becomeAs : GoodIn wsX9_image wsX0_becomeAs := goodIn_r _ [12, 13, 14, 15, 16, 17, 18, 19, 20, 21, 22, 23, 24, 25, 26, 27, 28, 29, 50, 51, 52, 53, 54, 55, 56, 57, 58, 59, 60, 61, 62] (by decide +kernel) (by decide +kernel)
set_option maxRecDepth 20000 in
theorem gX9_image_X0_becomeAs : GoodIn wsX9_image (wsV RX9 214 RX0 yX0_becomeAs wsX0_becomeAs) := goodIn_app (goodIn_of _ (by decide +kernel)) ggX9_image_X0_becomeAs
set_option maxRecDepth 20000 in
theorem ggX9_image_X1_becomeAs : GoodIn wsX9_image wsX1_becomeAs := goodIn_r _ [34, 35, 36, 15, 16, 17, 63] (by decide +kernel) (by decide +kernel)
set_option maxRecDepth 20000 in
theorem gX9_image_X1_becomeAs : GoodIn wsX9_image (wsV RX9 259 RX1 yX1_becomeAs wsX1_becomeAs) := goodIn_app (goodIn_of _ (by decide +kernel)) ggX9_image_X1_becomeAs
theorem dX9_image_0 : decode cX9_image 0 = .ok (.aload_n 0, 1) := by decide +kernel
theorem dX9_image_1 : decode cX9_image 1 = .ok (.getfield 18, 3) := by decide +kernel
theorem dX9_image_4 : decode cX9_image 4 = .ok (.aload_n 0, 1) := by decide +kernel
theorem dX9_image_5 : decode cX9_image 5 = .ok (.getfield 12, 3) := by decide +kernel
theorem dX9_image_8 : decode cX9_image 8 = .ok (.invokevirtual 214, 3) := by decide +kernel
theorem dX9_image_11 : decode cX9_image 11 = .ok (.aload_n 0, 1) := by decide +kernel
theorem dX9_image_12 : decode cX9_image 12 = .ok (.getfield 28, 3) := by decide +kernel
theorem dX9_image_15 : decode cX9_image 15 = .ok (.aload_n 0, 1) := by decide +kernel
theorem dX9_image_16 : decode cX9_image 16 = .ok (.getfield 24, 3) := by decide +kernel
theorem dX9_image_19 : decode cX9_image 19 = .ok (.invokevirtual 259, 3) := by decide +kernel
theorem dX9_image_22 : decode cX9_image 22 = .ok (.aload_n 0, 1) := by decide +kernel
theorem dX9_image_23 : decode cX9_image 23 = .ok (.aload_n 0, 1) := by decide +kernel
theorem dX9_image_24 : decode cX9_image 24 = .ok (.getfield 141, 3) := by decide +kernel
theorem dX9_image_27 : decode cX9_image 27 = .ok (.putfield 47, 3) := by decide +kernel
theorem dX9_image_30 : decode cX9_image 30 = .ok (.aload_n 0, 1) := by decide +kernel
theorem dX9_image_31 : decode cX9_image 31 = .ok (.getfield 12, 3) := by decide +kernel
theorem dX9_image_34 : decode cX9_image 34 = .ok (.getfield 95, 3) := by decide +kernel
theorem dX9_image_37 : decode cX9_image 37 = .ok (.ireturn, 1) := by decide +kernel
theorem dX9_back_0 : decode cX9_back 0 = .ok (.aload_n 0, 1) := by decide +kernel
theorem dX9_back_1 : decode cX9_back 1 = .ok (.getfield 47, 3) := by decide +kernel
theorem dX9_back_4 : decode cX9_back 4 = .ok (.iconst (-1), 1) := by decide +kernel
theorem dX9_back_5 : decode cX9_back 5 = .ok (.if_icmp .ne 6, 3) := by decide +kernel
theorem dX9_back_8 : decode cX9_back 8 = .ok (.bipush (-3), 2) := by decide +kernel
theorem dX9_back_10 : decode cX9_back 10 = .ok (.ireturn, 1) := by decide +kernel
set_option maxRecDepth 20000 in
theorem ggX9_sheet_X9_isSheet : GoodIn wsX9_sheet wsX9_isSheet := goodIn_r _ [5] (by decide +kernel) (by decide +kernel)
set_option maxRecDepth 20000 in
theorem gX9_sheet_X9_isSheet : GoodIn wsX9_sheet (va_wsS RX9 241 yX9_isSheet wsX9_isSheet) := goodIn_app (goodIn_of _ (by decide +kernel)) ggX9_sheet_X9_isSheet
set_option maxRecDepth 20000 in
theorem ggX9_sheet_X7_become : GoodIn wsX9_sheet wsX7_become := goodIn_r _ [10, 11, 12, 13, 27, 28, 29] (by decide +kernel) (by decide +kernel)
set_option maxRecDepth 20000 in
theorem gX9_sheet_X7_become : GoodIn wsX9_sheet (wsV RX9 261 RX7 yX7_become wsX7_become) := goodIn_app (goodIn_of _ (by decide +kernel)) ggX9_sheet_X7_become
theorem dX9_sheet_0 : decode cX9_sheet 0 = .ok (.iload_n 1, 1) := by decide +kernel
theorem dX9_sheet_1 : decode cX9_sheet 1 = .ok (.invokestatic 241, 3) := by decide +kernel
theorem dX9_sheet_4 : decode cX9_sheet 4 = .ok (.ifCond .eq 13, 3) := by decide +kernel
theorem dX9_sheet_7 : decode cX9_sheet 7 = .ok (.iload_n 2, 1) := by decide +kernel
theorem dX9_sheet_8 : decode cX9_sheet 8 = .ok (.iconst (-1), 1) := by decide +kernel
theorem dX9_sheet_9 : decode cX9_sheet 9 = .ok (.if_icmp .lt 8, 3) := by decide +kernel
theorem dX9_sheet_12 : decode cX9_sheet 12 = .ok (.iload_n 2, 1) := by decide +kernel
theorem dX9_sheet_13 : decode cX9_sheet 13 = .ok (.iconst 1, 1) := by decide +kernel
theorem dX9_sheet_14 : decode cX9_sheet 14 = .ok (.if_icmp .le 6, 3) := by decide +kernel
theorem dX9_sheet_17 : decode cX9_sheet 17 = .ok (.bipush (-2), 2) := by decide +kernel
theorem dX9_sheet_19 : decode cX9_sheet 19 = .ok (.ireturn, 1) := by decide +kernel
theorem dX9_sheet_20 : decode cX9_sheet 20 = .ok (.iload_n 2, 1) := by decide +kernel
theorem dX9_sheet_21 : decode cX9_sheet 21 = .ok (.iconst (-1), 1) := by decide +kernel
theorem dX9_sheet_22 : decode cX9_sheet 22 = .ok (.if_icmp .ne 16, 3) := by decide +kernel
theorem dX9_sheet_25 : decode cX9_sheet 25 = .ok (.aload_n 0, 1) := by decide +kernel
theorem dX9_sheet_26 : decode cX9_sheet 26 = .ok (.getfield 79, 3) := by decide +kernel
theorem dX9_sheet_29 : decode cX9_sheet 29 = .ok (.iload_n 1, 1) := by decide +kernel
theorem dX9_sheet_30 : decode cX9_sheet 30 = .ok (.aaload, 1) := by decide +kernel
theorem dX9_sheet_31 : decode cX9_sheet 31 = .ok (.iconst (-1), 1) := by decide +kernel
theorem dX9_sheet_32 : decode cX9_sheet 32 = .ok (.iconst 0, 1) := by decide +kernel
theorem dX9_sheet_33 : decode cX9_sheet 33 = .ok (.invokevirtual 261, 3) := by decide +kernel
theorem dX9_sheet_36 : decode cX9_sheet 36 = .ok (.iconst 1, 1) := by decide +kernel
theorem dX9_sheet_37 : decode cX9_sheet 37 = .ok (.ireturn, 1) := by decide +kernel
theorem dX9_sheet_38 : decode cX9_sheet 38 = .ok (.iload_n 3, 1) := by decide +kernel
theorem dX9_sheet_39 : decode cX9_sheet 39 = .ok (.bipush 60, 2) := by decide +kernel
theorem dX9_sheet_41 : decode cX9_sheet 41 = .ok (.if_icmp .le 6, 3) := by decide +kernel
theorem dX9_sheet_44 : decode cX9_sheet 44 = .ok (.bipush (-2), 2) := by decide +kernel
theorem dX9_sheet_46 : decode cX9_sheet 46 = .ok (.ireturn, 1) := by decide +kernel
theorem dX9_sheet_47 : decode cX9_sheet 47 = .ok (.iload_n 3, 1) := by decide +kernel
theorem dX9_sheet_48 : decode cX9_sheet 48 = .ok (.ifCond .ge 6, 3) := by decide +kernel
theorem dX9_sheet_51 : decode cX9_sheet 51 = .ok (.bipush (-14), 2) := by decide +kernel
theorem dX9_sheet_53 : decode cX9_sheet 53 = .ok (.ireturn, 1) := by decide +kernel
theorem dX9_sheet_54 : decode cX9_sheet 54 = .ok (.aload_n 0, 1) := by decide +kernel
theorem dX9_sheet_55 : decode cX9_sheet 55 = .ok (.getfield 79, 3) := by decide +kernel
theorem dX9_sheet_58 : decode cX9_sheet 58 = .ok (.iload_n 1, 1) := by decide +kernel
theorem dX9_sheet_59 : decode cX9_sheet 59 = .ok (.aaload, 1) := by decide +kernel
theorem dX9_sheet_60 : decode cX9_sheet 60 = .ok (.iload_n 2, 1) := by decide +kernel
theorem dX9_sheet_61 : decode cX9_sheet 61 = .ok (.iload_n 3, 1) := by decide +kernel
theorem dX9_sheet_62 : decode cX9_sheet 62 = .ok (.invokevirtual 261, 3) := by decide +kernel
theorem dX9_sheet_65 : decode cX9_sheet 65 = .ok (.iconst 1, 1) := by decide +kernel
theorem dX9_sheet_66 : decode cX9_sheet 66 = .ok (.ireturn, 1) := by decide +kernel
set_option maxRecDepth 20000 in
theorem ggX9_put_X9_isSheet : GoodIn wsX9_put wsX9_isSheet := goodIn_r _ [5] (by decide +kernel) (by decide +kernel)
set_option maxRecDepth 20000 in
theorem gX9_put_X9_isSheet : GoodIn wsX9_put (va_wsS RX9 241 yX9_isSheet wsX9_isSheet) := goodIn_app (goodIn_of _ (by decide +kernel)) ggX9_put_X9_isSheet
set_option maxRecDepth 20000 in
theorem ggX9_put_X7_isMissing : GoodIn wsX9_put wsX7_isMissing := goodIn_r _ [10, 11, 35, 36, 37] (by decide +kernel) (by decide +kernel)
set_option maxRecDepth 20000 in
theorem gX9_put_X7_isMissing : GoodIn wsX9_put (wsV RX9 244 RX7 yX7_isMissing wsX7_isMissing) := goodIn_app (goodIn_of _ (by decide +kernel)) ggX9_put_X7_isMissing
theorem dX9_put_0 : decode cX9_put 0 = .ok (.iload_n 1, 1) := by decide +kernel
theorem dX9_put_1 : decode cX9_put 1 = .ok (.invokestatic 241, 3) := by decide +kernel
theorem dX9_put_4 : decode cX9_put 4 = .ok (.ifCond .ne 6, 3) := by decide +kernel
theorem dX9_put_7 : decode cX9_put 7 = .ok (.bipush (-2), 2) := by decide +kernel
theorem dX9_put_9 : decode cX9_put 9 = .ok (.ireturn, 1) := by decide +kernel
theorem dX9_put_10 : decode cX9_put 10 = .ok (.aload_n 0, 1) := by decide +kernel
theorem dX9_put_11 : decode cX9_put 11 = .ok (.getfield 79, 3) := by decide +kernel
theorem dX9_put_14 : decode cX9_put 14 = .ok (.iload_n 1, 1) := by decide +kernel
theorem dX9_put_15 : decode cX9_put 15 = .ok (.aaload, 1) := by decide +kernel
theorem dX9_put_16 : decode cX9_put 16 = .ok (.astore 4, 2) := by decide +kernel
theorem dX9_put_18 : decode cX9_put 18 = .ok (.aload 4, 2) := by decide +kernel
theorem dX9_put_20 : decode cX9_put 20 = .ok (.invokevirtual 244, 3) := by decide +kernel
theorem dX9_put_23 : decode cX9_put 23 = .ok (.ifCond .eq 6, 3) := by decide +kernel
theorem dX9_put_26 : decode cX9_put 26 = .ok (.bipush (-11), 2) := by decide +kernel
theorem dX9_put_28 : decode cX9_put 28 = .ok (.ireturn, 1) := by decide +kernel
set_option maxRecDepth 20000 in
theorem ggX9_copy_X9_isSheet : GoodIn wsX9_copy wsX9_isSheet := goodIn_r _ [11] (by decide +kernel) (by decide +kernel)
set_option maxRecDepth 20000 in
theorem gX9_copy_X9_isSheet : GoodIn wsX9_copy (va_wsS RX9 241 yX9_isSheet wsX9_isSheet) := goodIn_app (goodIn_of _ (by decide +kernel)) ggX9_copy_X9_isSheet
set_option maxRecDepth 20000 in
theorem ggX9_copy_X7_isMissing : GoodIn wsX9_copy wsX7_isMissing := goodIn_r _ [16, 17, 36, 37, 38] (by decide +kernel) (by decide +kernel)
set_option maxRecDepth 20000 in
theorem gX9_copy_X7_isMissing : GoodIn wsX9_copy (wsV RX9 244 RX7 yX7_isMissing wsX7_isMissing) := goodIn_app (goodIn_of _ (by decide +kernel)) ggX9_copy_X7_isMissing
theorem dX9_copy_0 : decode cX9_copy 0 = .ok (.iload_n 1, 1) := by decide +kernel
theorem dX9_copy_1 : decode cX9_copy 1 = .ok (.invokestatic 241, 3) := by decide +kernel
theorem dX9_copy_4 : decode cX9_copy 4 = .ok (.ifCond .eq 10, 3) := by decide +kernel
theorem dX9_copy_7 : decode cX9_copy 7 = .ok (.iload_n 3, 1) := by decide +kernel
theorem dX9_copy_8 : decode cX9_copy 8 = .ok (.invokestatic 241, 3) := by decide +kernel
theorem dX9_copy_11 : decode cX9_copy 11 = .ok (.ifCond .ne 6, 3) := by decide +kernel
theorem dX9_copy_14 : decode cX9_copy 14 = .ok (.bipush (-2), 2) := by decide +kernel
theorem dX9_copy_16 : decode cX9_copy 16 = .ok (.ireturn, 1) := by decide +kernel
theorem dX9_copy_17 : decode cX9_copy 17 = .ok (.aload_n 0, 1) := by decide +kernel
theorem dX9_copy_18 : decode cX9_copy 18 = .ok (.getfield 79, 3) := by decide +kernel
theorem dX9_copy_21 : decode cX9_copy 21 = .ok (.iload_n 1, 1) := by decide +kernel
theorem dX9_copy_22 : decode cX9_copy 22 = .ok (.aaload, 1) := by decide +kernel
theorem dX9_copy_23 : decode cX9_copy 23 = .ok (.astore 6, 2) := by decide +kernel
theorem dX9_copy_25 : decode cX9_copy 25 = .ok (.aload_n 0, 1) := by decide +kernel
theorem dX9_copy_26 : decode cX9_copy 26 = .ok (.getfield 79, 3) := by decide +kernel
theorem dX9_copy_29 : decode cX9_copy 29 = .ok (.iload_n 3, 1) := by decide +kernel
theorem dX9_copy_30 : decode cX9_copy 30 = .ok (.aaload, 1) := by decide +kernel
theorem dX9_copy_31 : decode cX9_copy 31 = .ok (.astore 7, 2) := by decide +kernel
theorem dX9_copy_33 : decode cX9_copy 33 = .ok (.aload 6, 2) := by decide +kernel
theorem dX9_copy_35 : decode cX9_copy 35 = .ok (.invokevirtual 244, 3) := by decide +kernel
theorem dX9_copy_38 : decode cX9_copy 38 = .ok (.ifCond .ne 11, 3) := by decide +kernel
theorem dX9_copy_49 : decode cX9_copy 49 = .ok (.bipush (-11), 2) := by decide +kernel
theorem dX9_copy_51 : decode cX9_copy 51 = .ok (.ireturn, 1) := by decide +kernel
set_option maxRecDepth 20000 in
theorem ggX9_load_X9_isSheet : GoodIn wsX9_load wsX9_isSheet := goodIn_r _ [7] (by decide +kernel) (by decide +kernel)
set_option maxRecDepth 20000 in
theorem gX9_load_X9_isSheet : GoodIn wsX9_load (va_wsS RX9 241 yX9_isSheet wsX9_isSheet) := goodIn_app (goodIn_of _ (by decide +kernel)) ggX9_load_X9_isSheet
set_option maxRecDepth 20000 in
theorem ggX9_load_X9_isWithin : GoodIn wsX9_load wsX9_isWithin := goodIn_r _ [10] (by decide +kernel) (by decide +kernel)
set_option maxRecDepth 20000 in
theorem gX9_load_X9_isWithin : GoodIn wsX9_load (va_wsS RX9 91 yX9_isWithin wsX9_isWithin) := goodIn_app (goodIn_of _ (by decide +kernel)) ggX9_load_X9_isWithin
set_option maxRecDepth 20000 in
theorem ggX9_load_X7_isMissing : GoodIn wsX9_load wsX7_isMissing := goodIn_r _ [15, 16, 62, 63, 64] (by decide +kernel) (by decide +kernel)
set_option maxRecDepth 20000 in
theorem gX9_load_X7_isMissing : GoodIn wsX9_load (wsV RX9 244 RX7 yX7_isMissing wsX7_isMissing) := goodIn_app (goodIn_of _ (by decide +kernel)) ggX9_load_X7_isMissing
theorem dX9_load_0 : decode cX9_load 0 = .ok (.iload_n 1, 1) := by decide +kernel
theorem dX9_load_1 : decode cX9_load 1 = .ok (.invokestatic 241, 3) := by decide +kernel
theorem dX9_load_4 : decode cX9_load 4 = .ok (.ifCond .eq 22, 3) := by decide +kernel
theorem dX9_load_7 : decode cX9_load 7 = .ok (.iload_n 2, 1) := by decide +kernel
theorem dX9_load_8 : decode cX9_load 8 = .ok (.ifCond .lt 18, 3) := by decide +kernel
theorem dX9_load_11 : decode cX9_load 11 = .ok (.iload_n 2, 1) := by decide +kernel
theorem dX9_load_12 : decode cX9_load 12 = .ok (.iconst 1, 1) := by decide +kernel
theorem dX9_load_13 : decode cX9_load 13 = .ok (.if_icmp .gt 13, 3) := by decide +kernel
theorem dX9_load_16 : decode cX9_load 16 = .ok (.iload 4, 2) := by decide +kernel
theorem dX9_load_18 : decode cX9_load 18 = .ok (.bipush 20, 2) := by decide +kernel
theorem dX9_load_20 : decode cX9_load 20 = .ok (.invokestatic 91, 3) := by decide +kernel
theorem dX9_load_23 : decode cX9_load 23 = .ok (.ifCond .ne 6, 3) := by decide +kernel
theorem dX9_load_26 : decode cX9_load 26 = .ok (.bipush (-2), 2) := by decide +kernel
theorem dX9_load_28 : decode cX9_load 28 = .ok (.ireturn, 1) := by decide +kernel
theorem dX9_load_29 : decode cX9_load 29 = .ok (.aload_n 0, 1) := by decide +kernel
theorem dX9_load_30 : decode cX9_load 30 = .ok (.getfield 79, 3) := by decide +kernel
theorem dX9_load_33 : decode cX9_load 33 = .ok (.iload_n 1, 1) := by decide +kernel
theorem dX9_load_34 : decode cX9_load 34 = .ok (.aaload, 1) := by decide +kernel
theorem dX9_load_35 : decode cX9_load 35 = .ok (.astore 5, 2) := by decide +kernel
theorem dX9_load_37 : decode cX9_load 37 = .ok (.aload 5, 2) := by decide +kernel
theorem dX9_load_39 : decode cX9_load 39 = .ok (.invokevirtual 244, 3) := by decide +kernel
theorem dX9_load_42 : decode cX9_load 42 = .ok (.ifCond .eq 6, 3) := by decide +kernel
theorem dX9_load_45 : decode cX9_load 45 = .ok (.bipush (-11), 2) := by decide +kernel
theorem dX9_load_47 : decode cX9_load 47 = .ok (.ireturn, 1) := by decide +kernel
theorem dX9_isWithin_0 : decode cX9_isWithin 0 = .ok (.iload_n 0, 1) := by decide +kernel
theorem dX9_isWithin_1 : decode cX9_isWithin 1 = .ok (.ifCond .lt 12, 3) := by decide +kernel
theorem dX9_isWithin_4 : decode cX9_isWithin 4 = .ok (.iload_n 0, 1) := by decide +kernel
theorem dX9_isWithin_5 : decode cX9_isWithin 5 = .ok (.iload_n 1, 1) := by decide +kernel
theorem dX9_isWithin_6 : decode cX9_isWithin 6 = .ok (.if_icmp .gt 7, 3) := by decide +kernel
theorem dX9_isWithin_9 : decode cX9_isWithin 9 = .ok (.iconst 1, 1) := by decide +kernel
theorem dX9_isWithin_10 : decode cX9_isWithin 10 = .ok (.goto 4, 3) := by decide +kernel
theorem dX9_isWithin_13 : decode cX9_isWithin 13 = .ok (.iconst 0, 1) := by decide +kernel
theorem dX9_isWithin_14 : decode cX9_isWithin 14 = .ok (.ireturn, 1) := by decide +kernel
set_option maxRecDepth 20000 in
theorem ggX9_isByte_X9_isWithin : GoodIn wsX9_isByte wsX9_isWithin := goodIn_r _ [4] (by decide +kernel) (by decide +kernel)
set_option maxRecDepth 20000 in
theorem gX9_isByte_X9_isWithin : GoodIn wsX9_isByte (va_wsS RX9 91 yX9_isWithin wsX9_isWithin) := goodIn_app (goodIn_of _ (by decide +kernel)) ggX9_isByte_X9_isWithin
theorem dX9_isByte_0 : decode cX9_isByte 0 = .ok (.iload_n 0, 1) := by decide +kernel
theorem dX9_isByte_1 : decode cX9_isByte 1 = .ok (.sipush 255, 3) := by decide +kernel
theorem dX9_isByte_4 : decode cX9_isByte 4 = .ok (.invokestatic 91, 3) := by decide +kernel
theorem dX9_isByte_7 : decode cX9_isByte 7 = .ok (.ireturn, 1) := by decide +kernel
theorem dX9_isSheet_0 : decode cX9_isSheet 0 = .ok (.iload_n 0, 1) := by decide +kernel
theorem dX9_isSheet_1 : decode cX9_isSheet 1 = .ok (.ifCond .lt 12, 3) := by decide +kernel
theorem dX9_isSheet_4 : decode cX9_isSheet 4 = .ok (.iload_n 0, 1) := by decide +kernel
theorem dX9_isSheet_5 : decode cX9_isSheet 5 = .ok (.iconst 4, 1) := by decide +kernel
theorem dX9_isSheet_6 : decode cX9_isSheet 6 = .ok (.if_icmp .ge 7, 3) := by decide +kernel
theorem dX9_isSheet_9 : decode cX9_isSheet 9 = .ok (.iconst 1, 1) := by decide +kernel
theorem dX9_isSheet_10 : decode cX9_isSheet 10 = .ok (.goto 4, 3) := by decide +kernel
theorem dX9_isSheet_13 : decode cX9_isSheet 13 = .ok (.iconst 0, 1) := by decide +kernel
theorem dX9_isSheet_14 : decode cX9_isSheet 14 = .ok (.ireturn, 1) := by decide +kernel
theorem dX9_isProgram_0 : decode cX9_isProgram 0 = .ok (.iload_n 1, 1) := by decide +kernel
theorem dX9_isProgram_1 : decode cX9_isProgram 1 = .ok (.ifCond .lt 15, 3) := by decide +kernel
theorem dX9_isProgram_4 : decode cX9_isProgram 4 = .ok (.iload_n 1, 1) := by decide +kernel
theorem dX9_isProgram_5 : decode cX9_isProgram 5 = .ok (.aload_n 0, 1) := by decide +kernel
theorem dX9_isProgram_6 : decode cX9_isProgram 6 = .ok (.getfield 141, 3) := by decide +kernel
theorem dX9_isProgram_9 : decode cX9_isProgram 9 = .ok (.if_icmp .ge 7, 3) := by decide +kernel
theorem dX9_isProgram_16 : decode cX9_isProgram 16 = .ok (.iconst 0, 1) := by decide +kernel
theorem dX9_isProgram_17 : decode cX9_isProgram 17 = .ok (.ireturn, 1) := by decide +kernel
set_option maxRecDepth 20000 in
theorem ggX9_isPair_X0_has : GoodIn wsX9_isPair wsX0_has := goodIn_r _ [6, 7, 21, 22, 23, 24, 25, 26, 27, 28, 29, 30, 31, 32, 33] (by decide +kernel) (by decide +kernel)
set_option maxRecDepth 20000 in
theorem gX9_isPair_X0_has : GoodIn wsX9_isPair (wsV RX9 102 RX0 yX0_has wsX0_has) := goodIn_app (goodIn_of _ (by decide +kernel)) ggX9_isPair_X0_has
theorem dX9_isPair_0 : decode cX9_isPair 0 = .ok (.aload_n 0, 1) := by decide +kernel
theorem dX9_isPair_1 : decode cX9_isPair 1 = .ok (.getfield 12, 3) := by decide +kernel
theorem dX9_isPair_4 : decode cX9_isPair 4 = .ok (.iload_n 1, 1) := by decide +kernel
theorem dX9_isPair_5 : decode cX9_isPair 5 = .ok (.invokevirtual 102, 3) := by decide +kernel
theorem dX9_isPair_8 : decode cX9_isPair 8 = .ok (.ifCond .eq 23, 3) := by decide +kernel
theorem dX9_isPair_31 : decode cX9_isPair 31 = .ok (.iconst 0, 1) := by decide +kernel
theorem dX9_isPair_32 : decode cX9_isPair 32 = .ok (.ireturn, 1) := by decide +kernel
theorem dX10_init_0 : decode cX10_init 0 = .ok (.aload_n 0, 1) := by decide +kernel
theorem dX10_init_1 : decode cX10_init 1 = .ok (.invokespecial 5, 3) := by decide +kernel
theorem dX10_init_4 : decode cX10_init 4 = .ok (.aload_n 0, 1) := by decide +kernel
theorem dX10_init_5 : decode cX10_init 5 = .ok (.bipush 125, 2) := by decide +kernel
theorem dX10_init_7 : decode cX10_init 7 = .ok (.newarray .int, 2) := by decide +kernel
theorem dX10_init_9 : decode cX10_init 9 = .ok (.putfield 11, 3) := by decide +kernel
theorem dX10_init_12 : decode cX10_init 12 = .ok (.aload_n 0, 1) := by decide +kernel
theorem dX10_init_13 : decode cX10_init 13 = .ok (.bipush 125, 2) := by decide +kernel
theorem dX10_init_15 : decode cX10_init 15 = .ok (.newarray .int, 2) := by decide +kernel
theorem dX10_init_17 : decode cX10_init 17 = .ok (.putfield 15, 3) := by decide +kernel
theorem dX10_init_20 : decode cX10_init 20 = .ok (.aload_n 0, 1) := by decide +kernel
theorem dX10_init_21 : decode cX10_init 21 = .ok (.bipush 125, 2) := by decide +kernel
theorem dX10_init_23 : decode cX10_init 23 = .ok (.newarray .int, 2) := by decide +kernel
theorem dX10_init_25 : decode cX10_init 25 = .ok (.putfield 18, 3) := by decide +kernel
theorem dX10_init_28 : decode cX10_init 28 = .ok (.aload_n 0, 1) := by decide +kernel
theorem dX10_init_29 : decode cX10_init 29 = .ok (.bipush 80, 2) := by decide +kernel
theorem dX10_init_31 : decode cX10_init 31 = .ok (.newarray .int, 2) := by decide +kernel
theorem dX10_init_33 : decode cX10_init 33 = .ok (.putfield 21, 3) := by decide +kernel
theorem dX10_init_36 : decode cX10_init 36 = .ok (.aload_n 0, 1) := by decide +kernel
theorem dX10_init_37 : decode cX10_init 37 = .ok (.sipush 320, 3) := by decide +kernel
theorem dX10_init_40 : decode cX10_init 40 = .ok (.newarray .int, 2) := by decide +kernel
theorem dX10_init_42 : decode cX10_init 42 = .ok (.putfield 24, 3) := by decide +kernel
theorem dX10_init_45 : decode cX10_init 45 = .ok (.aload_n 0, 1) := by decide +kernel
theorem dX10_init_46 : decode cX10_init 46 = .ok (.iconst 4, 1) := by decide +kernel
theorem dX10_init_47 : decode cX10_init 47 = .ok (.newarray .int, 2) := by decide +kernel
theorem dX10_init_49 : decode cX10_init 49 = .ok (.putfield 27, 3) := by decide +kernel
theorem dX10_init_52 : decode cX10_init 52 = .ok (.aload_n 0, 1) := by decide +kernel
theorem dX10_init_53 : decode cX10_init 53 = .ok (.sipush 320, 3) := by decide +kernel
theorem dX10_init_56 : decode cX10_init 56 = .ok (.newarray .int, 2) := by decide +kernel
theorem dX10_init_58 : decode cX10_init 58 = .ok (.putfield 30, 3) := by decide +kernel
theorem dX10_init_61 : decode cX10_init 61 = .ok (.aload_n 0, 1) := by decide +kernel
theorem dX10_init_62 : decode cX10_init 62 = .ok (.iconst 4, 1) := by decide +kernel
theorem dX10_init_63 : decode cX10_init 63 = .ok (.newarray .int, 2) := by decide +kernel
theorem dX10_init_65 : decode cX10_init 65 = .ok (.putfield 33, 3) := by decide +kernel
theorem dX10_init_68 : decode cX10_init 68 = .ok (.aload_n 0, 1) := by decide +kernel
theorem dX10_init_69 : decode cX10_init 69 = .ok (.bipush 8, 2) := by decide +kernel
theorem dX10_init_71 : decode cX10_init 71 = .ok (.newarray .int, 2) := by decide +kernel
theorem dX10_init_73 : decode cX10_init 73 = .ok (.putfield 36, 3) := by decide +kernel
theorem dX10_init_76 : decode cX10_init 76 = .ok (.aload_n 0, 1) := by decide +kernel
theorem dX10_init_77 : decode cX10_init 77 = .ok (.bipush 60, 2) := by decide +kernel
theorem dX10_init_79 : decode cX10_init 79 = .ok (.newarray .int, 2) := by decide +kernel
theorem dX10_init_81 : decode cX10_init 81 = .ok (.putfield 39, 3) := by decide +kernel
theorem dX10_init_84 : decode cX10_init 84 = .ok (.aload_n 0, 1) := by decide +kernel
theorem dX10_init_85 : decode cX10_init 85 = .ok (.bipush 60, 2) := by decide +kernel
theorem dX10_init_87 : decode cX10_init 87 = .ok (.newarray .int, 2) := by decide +kernel
theorem dX10_init_89 : decode cX10_init 89 = .ok (.putfield 42, 3) := by decide +kernel
theorem dX10_init_92 : decode cX10_init 92 = .ok (.aload_n 0, 1) := by decide +kernel
theorem dX10_init_93 : decode cX10_init 93 = .ok (.bipush 80, 2) := by decide +kernel
theorem dX10_init_95 : decode cX10_init 95 = .ok (.newarray .int, 2) := by decide +kernel
theorem dX10_init_97 : decode cX10_init 97 = .ok (.putfield 45, 3) := by decide +kernel
theorem dX10_init_100 : decode cX10_init 100 = .ok (.aload_n 0, 1) := by decide +kernel
theorem dX10_init_101 : decode cX10_init 101 = .ok (.bipush 10, 2) := by decide +kernel
theorem dX10_init_103 : decode cX10_init 103 = .ok (.newarray .long, 2) := by decide +kernel
theorem dX10_init_105 : decode cX10_init 105 = .ok (.putfield 48, 3) := by decide +kernel
theorem dX10_init_108 : decode cX10_init 108 = .ok (.aload_n 0, 1) := by decide +kernel
theorem dX10_init_109 : decode cX10_init 109 = .ok (.bipush 8, 2) := by decide +kernel
theorem dX10_init_111 : decode cX10_init 111 = .ok (.newarray .int, 2) := by decide +kernel
theorem dX10_init_113 : decode cX10_init 113 = .ok (.putfield 52, 3) := by decide +kernel
theorem dX10_init_116 : decode cX10_init 116 = .ok (.aload_n 0, 1) := by decide +kernel
theorem dX10_init_117 : decode cX10_init 117 = .ok (.iconst 4, 1) := by decide +kernel
theorem dX10_init_118 : decode cX10_init 118 = .ok (.newarray .int, 2) := by decide +kernel
theorem dX10_init_120 : decode cX10_init 120 = .ok (.dup, 1) := by decide +kernel
theorem dX10_init_121 : decode cX10_init 121 = .ok (.iconst 0, 1) := by decide +kernel
theorem dX10_init_122 : decode cX10_init 122 = .ok (.iconst (-1), 1) := by decide +kernel
theorem dX10_init_123 : decode cX10_init 123 = .ok (.iastore, 1) := by decide +kernel
theorem dX10_init_124 : decode cX10_init 124 = .ok (.dup, 1) := by decide +kernel
theorem dX10_init_125 : decode cX10_init 125 = .ok (.iconst 1, 1) := by decide +kernel
theorem dX10_init_126 : decode cX10_init 126 = .ok (.iconst (-1), 1) := by decide +kernel
theorem dX10_init_127 : decode cX10_init 127 = .ok (.iastore, 1) := by decide +kernel
theorem dX10_init_128 : decode cX10_init 128 = .ok (.dup, 1) := by decide +kernel
theorem dX10_init_129 : decode cX10_init 129 = .ok (.iconst 2, 1) := by decide +kernel
theorem dX10_init_130 : decode cX10_init 130 = .ok (.iconst (-1), 1) := by decide +kernel
theorem dX10_init_131 : decode cX10_init 131 = .ok (.iastore, 1) := by decide +kernel
theorem dX10_init_132 : decode cX10_init 132 = .ok (.dup, 1) := by decide +kernel
theorem dX10_init_133 : decode cX10_init 133 = .ok (.iconst 3, 1) := by decide +kernel
theorem dX10_init_134 : decode cX10_init 134 = .ok (.iconst (-1), 1) := by decide +kernel
theorem dX10_init_135 : decode cX10_init 135 = .ok (.iastore, 1) := by decide +kernel
theorem dX10_init_136 : decode cX10_init 136 = .ok (.putfield 55, 3) := by decide +kernel
theorem dX10_init_139 : decode cX10_init 139 = .ok (.aload_n 0, 1) := by decide +kernel
theorem dX10_init_140 : decode cX10_init 140 = .ok (.iconst 4, 1) := by decide +kernel
theorem dX10_init_141 : decode cX10_init 141 = .ok (.newarray .int, 2) := by decide +kernel
theorem dX10_init_143 : decode cX10_init 143 = .ok (.putfield 58, 3) := by decide +kernel
theorem dX10_init_146 : decode cX10_init 146 = .ok (.aload_n 0, 1) := by decide +kernel
theorem dX10_init_147 : decode cX10_init 147 = .ok (.sipush 240, 3) := by decide +kernel
theorem dX10_init_150 : decode cX10_init 150 = .ok (.newarray .int, 2) := by decide +kernel
theorem dX10_init_152 : decode cX10_init 152 = .ok (.putfield 61, 3) := by decide +kernel
theorem dX10_init_155 : decode cX10_init 155 = .ok (.aload_n 0, 1) := by decide +kernel
theorem dX10_init_156 : decode cX10_init 156 = .ok (.bipush 60, 2) := by decide +kernel
theorem dX10_init_158 : decode cX10_init 158 = .ok (.newarray .int, 2) := by decide +kernel
theorem dX10_init_160 : decode cX10_init 160 = .ok (.putfield 64, 3) := by decide +kernel
theorem dX10_init_163 : decode cX10_init 163 = .ok (.return_, 1) := by decide +kernel
theorem dX10_isIn_0 : decode cX10_isIn 0 = .ok (.lload_n 0, 1) := by decide +kernel
theorem dX10_isIn_1 : decode cX10_isIn 1 = .ok (.lload_n 2, 1) := by decide +kernel
theorem dX10_isIn_2 : decode cX10_isIn 2 = .ok (.lcmp, 1) := by decide +kernel
theorem dX10_isIn_3 : decode cX10_isIn 3 = .ok (.ifCond .lt 14, 3) := by decide +kernel
theorem dX10_isIn_6 : decode cX10_isIn 6 = .ok (.lload_n 0, 1) := by decide +kernel
theorem dX10_isIn_7 : decode cX10_isIn 7 = .ok (.lload 4, 2) := by decide +kernel
theorem dX10_isIn_9 : decode cX10_isIn 9 = .ok (.lcmp, 1) := by decide +kernel
theorem dX10_isIn_10 : decode cX10_isIn 10 = .ok (.ifCond .gt 7, 3) := by decide +kernel
theorem dX10_isIn_13 : decode cX10_isIn 13 = .ok (.iconst 1, 1) := by decide +kernel
theorem dX10_isIn_14 : decode cX10_isIn 14 = .ok (.goto 4, 3) := by decide +kernel
theorem dX10_isIn_17 : decode cX10_isIn 17 = .ok (.iconst 0, 1) := by decide +kernel
theorem dX10_isIn_18 : decode cX10_isIn 18 = .ok (.ireturn, 1) := by decide +kernel
set_option maxRecDepth 20000 in
theorem ggX10_isAccount_X10_isIn : GoodIn wsX10_isAccount wsX10_isIn := goodIn_r _ [5] (by decide +kernel) (by decide +kernel)
set_option maxRecDepth 20000 in
theorem gX10_isAccount_X10_isIn : GoodIn wsX10_isAccount (va_wsS RX10 67 yX10_isIn wsX10_isIn) := goodIn_app (goodIn_of _ (by decide +kernel)) ggX10_isAccount_X10_isIn
theorem dX10_isAccount_0 : decode cX10_isAccount 0 = .ok (.iload_n 1, 1) := by decide +kernel
theorem dX10_isAccount_1 : decode cX10_isAccount 1 = .ok (.i2l, 1) := by decide +kernel
theorem dX10_isAccount_2 : decode cX10_isAccount 2 = .ok (.lconst 0, 1) := by decide +kernel
theorem dX10_isAccount_3 : decode cX10_isAccount 3 = .ok (.aload_n 0, 1) := by decide +kernel
theorem dX10_isAccount_4 : decode cX10_isAccount 4 = .ok (.getfield 11, 3) := by decide +kernel
theorem dX10_isAccount_7 : decode cX10_isAccount 7 = .ok (.bipush 60, 2) := by decide +kernel
theorem dX10_isAccount_9 : decode cX10_isAccount 9 = .ok (.iaload, 1) := by decide +kernel
theorem dX10_isAccount_10 : decode cX10_isAccount 10 = .ok (.iconst 1, 1) := by decide +kernel
theorem dX10_isAccount_11 : decode cX10_isAccount 11 = .ok (.isub, 1) := by decide +kernel
theorem dX10_isAccount_12 : decode cX10_isAccount 12 = .ok (.i2l, 1) := by decide +kernel
theorem dX10_isAccount_13 : decode cX10_isAccount 13 = .ok (.invokestatic 67, 3) := by decide +kernel
theorem dX10_isAccount_16 : decode cX10_isAccount 16 = .ok (.ireturn, 1) := by decide +kernel
set_option maxRecDepth 20000 in
theorem ggX10_account_X10_isIn : GoodIn wsX10_account wsX10_isIn := goodIn_r _ [7] (by decide +kernel) (by decide +kernel)
set_option maxRecDepth 20000 in
theorem gX10_account_X10_isIn : GoodIn wsX10_account (va_wsS RX10 67 yX10_isIn wsX10_isIn) := goodIn_app (goodIn_of _ (by decide +kernel)) ggX10_account_X10_isIn
theorem dX10_account_0 : decode cX10_account 0 = .ok (.iload_n 1, 1) := by decide +kernel
theorem dX10_account_1 : decode cX10_account 1 = .ok (.i2l, 1) := by decide +kernel
theorem dX10_account_2 : decode cX10_account 2 = .ok (.lconst 0, 1) := by decide +kernel
theorem dX10_account_3 : decode cX10_account 3 = .ok (.ldc2_w 71, 3) := by decide +kernel
theorem dX10_account_6 : decode cX10_account 6 = .ok (.invokestatic 67, 3) := by decide +kernel
theorem dX10_account_9 : decode cX10_account 9 = .ok (.ifCond .eq 15, 3) := by decide +kernel
theorem dX10_account_12 : decode cX10_account 12 = .ok (.iload_n 2, 1) := by decide +kernel
theorem dX10_account_13 : decode cX10_account 13 = .ok (.i2l, 1) := by decide +kernel
theorem dX10_account_14 : decode cX10_account 14 = .ok (.lconst 0, 1) := by decide +kernel
theorem dX10_account_15 : decode cX10_account 15 = .ok (.ldc2_w 73, 3) := by decide +kernel
theorem dX10_account_18 : decode cX10_account 18 = .ok (.invokestatic 67, 3) := by decide +kernel
theorem dX10_account_21 : decode cX10_account 21 = .ok (.ifCond .ne 6, 3) := by decide +kernel
theorem dX10_account_24 : decode cX10_account 24 = .ok (.bipush (-2), 2) := by decide +kernel
theorem dX10_account_26 : decode cX10_account 26 = .ok (.ireturn, 1) := by decide +kernel
theorem dX10_account_27 : decode cX10_account 27 = .ok (.aload_n 0, 1) := by decide +kernel
theorem dX10_account_28 : decode cX10_account 28 = .ok (.getfield 11, 3) := by decide +kernel
theorem dX10_account_31 : decode cX10_account 31 = .ok (.bipush 60, 2) := by decide +kernel
theorem dX10_account_33 : decode cX10_account 33 = .ok (.iaload, 1) := by decide +kernel
theorem dX10_account_34 : decode cX10_account 34 = .ok (.bipush 8, 2) := by decide +kernel
theorem dX10_account_36 : decode cX10_account 36 = .ok (.if_icmp .ne 6, 3) := by decide +kernel
theorem dX10_account_42 : decode cX10_account 42 = .ok (.aload_n 0, 1) := by decide +kernel
theorem dX10_account_43 : decode cX10_account 43 = .ok (.getfield 11, 3) := by decide +kernel
theorem dX10_account_46 : decode cX10_account 46 = .ok (.bipush 60, 2) := by decide +kernel
theorem dX10_account_48 : decode cX10_account 48 = .ok (.iaload, 1) := by decide +kernel
theorem dX10_account_49 : decode cX10_account 49 = .ok (.istore_n 3, 1) := by decide +kernel
theorem dX10_account_50 : decode cX10_account 50 = .ok (.aload_n 0, 1) := by decide +kernel
theorem dX10_account_51 : decode cX10_account 51 = .ok (.getfield 11, 3) := by decide +kernel
theorem dX10_account_54 : decode cX10_account 54 = .ok (.iconst 0, 1) := by decide +kernel
theorem dX10_account_55 : decode cX10_account 55 = .ok (.iload_n 3, 1) := by decide +kernel
theorem dX10_account_56 : decode cX10_account 56 = .ok (.iadd, 1) := by decide +kernel
theorem dX10_account_57 : decode cX10_account 57 = .ok (.iload_n 1, 1) := by decide +kernel
theorem dX10_account_58 : decode cX10_account 58 = .ok (.iastore, 1) := by decide +kernel
theorem dX10_account_59 : decode cX10_account 59 = .ok (.aload_n 0, 1) := by decide +kernel
theorem dX10_account_60 : decode cX10_account 60 = .ok (.getfield 11, 3) := by decide +kernel
theorem dX10_account_63 : decode cX10_account 63 = .ok (.bipush 8, 2) := by decide +kernel
theorem dX10_account_65 : decode cX10_account 65 = .ok (.iload_n 3, 1) := by decide +kernel
theorem dX10_account_66 : decode cX10_account 66 = .ok (.iadd, 1) := by decide +kernel
theorem dX10_account_67 : decode cX10_account 67 = .ok (.iload_n 2, 1) := by decide +kernel
theorem dX10_account_68 : decode cX10_account 68 = .ok (.iastore, 1) := by decide +kernel
theorem dX10_account_69 : decode cX10_account 69 = .ok (.aload_n 0, 1) := by decide +kernel
theorem dX10_account_70 : decode cX10_account 70 = .ok (.getfield 11, 3) := by decide +kernel
theorem dX10_account_73 : decode cX10_account 73 = .ok (.bipush 16, 2) := by decide +kernel
theorem dX10_account_75 : decode cX10_account 75 = .ok (.iload_n 3, 1) := by decide +kernel
theorem dX10_account_76 : decode cX10_account 76 = .ok (.iadd, 1) := by decide +kernel
theorem dX10_account_77 : decode cX10_account 77 = .ok (.iconst 0, 1) := by decide +kernel
theorem dX10_account_78 : decode cX10_account 78 = .ok (.iastore, 1) := by decide +kernel
theorem dX10_account_79 : decode cX10_account 79 = .ok (.aload_n 0, 1) := by decide +kernel
theorem dX10_account_80 : decode cX10_account 80 = .ok (.getfield 11, 3) := by decide +kernel
theorem dX10_account_83 : decode cX10_account 83 = .ok (.bipush 24, 2) := by decide +kernel
theorem dX10_account_85 : decode cX10_account 85 = .ok (.iload_n 3, 1) := by decide +kernel
theorem dX10_account_86 : decode cX10_account 86 = .ok (.iadd, 1) := by decide +kernel
theorem dX10_account_87 : decode cX10_account 87 = .ok (.iconst 1, 1) := by decide +kernel
theorem dX10_account_88 : decode cX10_account 88 = .ok (.iastore, 1) := by decide +kernel
theorem dX10_account_89 : decode cX10_account 89 = .ok (.aload_n 0, 1) := by decide +kernel
theorem dX10_account_90 : decode cX10_account 90 = .ok (.getfield 11, 3) := by decide +kernel
theorem dX10_account_93 : decode cX10_account 93 = .ok (.bipush 60, 2) := by decide +kernel
theorem dX10_account_95 : decode cX10_account 95 = .ok (.dup2, 1) := by decide +kernel
theorem dX10_account_96 : decode cX10_account 96 = .ok (.iaload, 1) := by decide +kernel
theorem dX10_account_97 : decode cX10_account 97 = .ok (.iconst 1, 1) := by decide +kernel
theorem dX10_account_98 : decode cX10_account 98 = .ok (.iadd, 1) := by decide +kernel
theorem dX10_account_99 : decode cX10_account 99 = .ok (.iastore, 1) := by decide +kernel
theorem dX10_account_100 : decode cX10_account 100 = .ok (.iload_n 3, 1) := by decide +kernel
theorem dX10_account_101 : decode cX10_account 101 = .ok (.ireturn, 1) := by decide +kernel
set_option maxRecDepth 20000 in
theorem ggX10_set_X10_isAccount : GoodIn wsX10_set wsX10_isAccount := goodIn_r _ [9, 4, 10, 11, 8, 12, 13, 14, 15, 16, 17, 18, 19, 20, 21, 22, 23, 24, 25, 26, 27, 28, 29, 30, 31, 32, 33, 34, 35, 36, 37, 38, 39, 40, 41, 42, 43, 44] (by decide +kernel) (by decide +kernel)
set_option maxRecDepth 20000 in
theorem gX10_set_X10_isAccount : GoodIn wsX10_set (wsV RX10 75 RX10 yX10_isAccount wsX10_isAccount) := goodIn_app (goodIn_of _ (by decide +kernel)) ggX10_set_X10_isAccount
theorem dX10_set_0 : decode cX10_set 0 = .ok (.aload_n 0, 1) := by decide +kernel
theorem dX10_set_1 : decode cX10_set 1 = .ok (.iload_n 1, 1) := by decide +kernel
theorem dX10_set_2 : decode cX10_set 2 = .ok (.invokevirtual 75, 3) := by decide +kernel
theorem dX10_set_5 : decode cX10_set 5 = .ok (.ifCond .eq 35, 3) := by decide +kernel
theorem dX10_set_40 : decode cX10_set 40 = .ok (.ldc2_w 81, 3) := by decide +kernel
theorem dX10_set_43 : decode cX10_set 43 = .ok (.lreturn, 1) := by decide +kernel
set_option maxRecDepth 20000 in
theorem ggX10_gate_X10_isAccount : GoodIn wsX10_gate wsX10_isAccount := goodIn_r _ [6, 1, 7, 8, 5, 9, 10, 11, 12, 13, 14, 15, 16, 17, 18, 19, 20, 21, 22, 23, 24, 25, 26, 27, 28, 29, 30, 31, 32, 33, 34, 35, 36, 37, 38, 39, 40, 41] (by decide +kernel) (by decide +kernel)
set_option maxRecDepth 20000 in
theorem gX10_gate_X10_isAccount : GoodIn wsX10_gate (wsV RX10 75 RX10 yX10_isAccount wsX10_isAccount) := goodIn_app (goodIn_of _ (by decide +kernel)) ggX10_gate_X10_isAccount
theorem dX10_gate_0 : decode cX10_gate 0 = .ok (.aload_n 0, 1) := by decide +kernel
theorem dX10_gate_1 : decode cX10_gate 1 = .ok (.iload_n 1, 1) := by decide +kernel
theorem dX10_gate_2 : decode cX10_gate 2 = .ok (.invokevirtual 75, 3) := by decide +kernel
theorem dX10_gate_5 : decode cX10_gate 5 = .ok (.ifCond .ne 6, 3) := by decide +kernel
theorem dX10_gate_8 : decode cX10_gate 8 = .ok (.bipush (-2), 2) := by decide +kernel
theorem dX10_gate_10 : decode cX10_gate 10 = .ok (.ireturn, 1) := by decide +kernel
set_option maxRecDepth 20000 in
theorem ggX10_told_X10_isAccount : GoodIn wsX10_told wsX10_isAccount := goodIn_r _ [6, 1, 7, 8, 5, 9, 14, 15, 16, 17, 18, 19, 20, 21, 22, 23, 24, 25, 26, 27, 28, 29, 30, 31, 32, 33, 34, 35, 36, 37, 38, 39, 40, 41, 42, 43, 44, 45] (by decide +kernel) (by decide +kernel)
set_option maxRecDepth 20000 in
theorem gX10_told_X10_isAccount : GoodIn wsX10_told (wsV RX10 75 RX10 yX10_isAccount wsX10_isAccount) := goodIn_app (goodIn_of _ (by decide +kernel)) ggX10_told_X10_isAccount
theorem dX10_told_0 : decode cX10_told 0 = .ok (.aload_n 0, 1) := by decide +kernel
theorem dX10_told_1 : decode cX10_told 1 = .ok (.iload_n 1, 1) := by decide +kernel
theorem dX10_told_2 : decode cX10_told 2 = .ok (.invokevirtual 75, 3) := by decide +kernel
theorem dX10_told_5 : decode cX10_told 5 = .ok (.ifCond .ne 6, 3) := by decide +kernel
theorem dX10_told_8 : decode cX10_told 8 = .ok (.bipush (-2), 2) := by decide +kernel
theorem dX10_told_10 : decode cX10_told 10 = .ok (.ireturn, 1) := by decide +kernel
set_option maxRecDepth 20000 in
theorem ggX10_of_X10_isAccount : GoodIn wsX10_of wsX10_isAccount := goodIn_r _ [8, 3, 9, 10, 7, 11, 24, 25, 26, 27, 28, 29, 30, 31, 32, 33, 34, 35, 36, 37, 38, 39, 40, 41, 42, 43, 44, 45, 46, 47, 48, 49, 50, 51, 52, 53, 54, 55] (by decide +kernel) (by decide +kernel)
set_option maxRecDepth 20000 in
theorem gX10_of_X10_isAccount : GoodIn wsX10_of (wsV RX10 75 RX10 yX10_isAccount wsX10_isAccount) := goodIn_app (goodIn_of _ (by decide +kernel)) ggX10_of_X10_isAccount
theorem dX10_of_0 : decode cX10_of 0 = .ok (.aload_n 0, 1) := by decide +kernel
theorem dX10_of_1 : decode cX10_of 1 = .ok (.iload_n 1, 1) := by decide +kernel
theorem dX10_of_2 : decode cX10_of 2 = .ok (.invokevirtual 75, 3) := by decide +kernel
theorem dX10_of_5 : decode cX10_of 5 = .ok (.ifCond .eq 15, 3) := by decide +kernel
theorem dX10_of_20 : decode cX10_of 20 = .ok (.ldc2_w 81, 3) := by decide +kernel
theorem dX10_of_23 : decode cX10_of 23 = .ok (.lreturn, 1) := by decide +kernel
theorem dX10_count_0 : decode cX10_count 0 = .ok (.iload_n 1, 1) := by decide +kernel
theorem dX10_count_1 : decode cX10_count 1 = .ok (.tableswitch 102 0 7 #[47, 55, 60, 68, 76, 84, 92, 97], 47) := by decide +kernel
theorem dX10_count_48 : decode cX10_count 48 = .ok (.aload_n 0, 1) := by decide +kernel
theorem dX10_count_49 : decode cX10_count 49 = .ok (.getfield 11, 3) := by decide +kernel
theorem dX10_count_52 : decode cX10_count 52 = .ok (.bipush 60, 2) := by decide +kernel
theorem dX10_count_54 : decode cX10_count 54 = .ok (.iaload, 1) := by decide +kernel
theorem dX10_count_55 : decode cX10_count 55 = .ok (.ireturn, 1) := by decide +kernel
theorem dX10_count_56 : decode cX10_count 56 = .ok (.aload_n 0, 1) := by decide +kernel
theorem dX10_count_57 : decode cX10_count 57 = .ok (.getfield 100, 3) := by decide +kernel
theorem dX10_count_60 : decode cX10_count 60 = .ok (.ireturn, 1) := by decide +kernel
theorem dX10_count_61 : decode cX10_count 61 = .ok (.aload_n 0, 1) := by decide +kernel
theorem dX10_count_62 : decode cX10_count 62 = .ok (.getfield 11, 3) := by decide +kernel
theorem dX10_count_65 : decode cX10_count 65 = .ok (.bipush 56, 2) := by decide +kernel
theorem dX10_count_67 : decode cX10_count 67 = .ok (.iaload, 1) := by decide +kernel
theorem dX10_count_68 : decode cX10_count 68 = .ok (.ireturn, 1) := by decide +kernel
theorem dX10_count_69 : decode cX10_count 69 = .ok (.aload_n 0, 1) := by decide +kernel
theorem dX10_count_70 : decode cX10_count 70 = .ok (.getfield 11, 3) := by decide +kernel
theorem dX10_count_73 : decode cX10_count 73 = .ok (.bipush 57, 2) := by decide +kernel
theorem dX10_count_75 : decode cX10_count 75 = .ok (.iaload, 1) := by decide +kernel
theorem dX10_count_76 : decode cX10_count 76 = .ok (.ireturn, 1) := by decide +kernel
theorem dX10_count_77 : decode cX10_count 77 = .ok (.aload_n 0, 1) := by decide +kernel
theorem dX10_count_78 : decode cX10_count 78 = .ok (.getfield 11, 3) := by decide +kernel
theorem dX10_count_81 : decode cX10_count 81 = .ok (.bipush 58, 2) := by decide +kernel
theorem dX10_count_83 : decode cX10_count 83 = .ok (.iaload, 1) := by decide +kernel
theorem dX10_count_84 : decode cX10_count 84 = .ok (.ireturn, 1) := by decide +kernel
theorem dX10_count_85 : decode cX10_count 85 = .ok (.aload_n 0, 1) := by decide +kernel
theorem dX10_count_86 : decode cX10_count 86 = .ok (.getfield 11, 3) := by decide +kernel
theorem dX10_count_89 : decode cX10_count 89 = .ok (.bipush 59, 2) := by decide +kernel
theorem dX10_count_91 : decode cX10_count 91 = .ok (.iaload, 1) := by decide +kernel
theorem dX10_count_92 : decode cX10_count 92 = .ok (.ireturn, 1) := by decide +kernel
theorem dX10_count_93 : decode cX10_count 93 = .ok (.aload_n 0, 1) := by decide +kernel
theorem dX10_count_94 : decode cX10_count 94 = .ok (.getfield 104, 3) := by decide +kernel
theorem dX10_count_97 : decode cX10_count 97 = .ok (.ireturn, 1) := by decide +kernel
theorem dX10_count_98 : decode cX10_count 98 = .ok (.aload_n 0, 1) := by decide +kernel
theorem dX10_count_99 : decode cX10_count 99 = .ok (.getfield 107, 3) := by decide +kernel
theorem dX10_count_102 : decode cX10_count 102 = .ok (.ireturn, 1) := by decide +kernel
theorem dX10_count_103 : decode cX10_count 103 = .ok (.bipush (-2), 2) := by decide +kernel
theorem dX10_count_105 : decode cX10_count 105 = .ok (.ireturn, 1) := by decide +kernel
set_option maxRecDepth 20000 in
theorem ggX10_sum_X10_isIn : GoodIn wsX10_sum wsX10_isIn := goodIn_r _ [8] (by decide +kernel) (by decide +kernel)
set_option maxRecDepth 20000 in
theorem gX10_sum_X10_isIn : GoodIn wsX10_sum (va_wsS RX10 67 yX10_isIn wsX10_isIn) := goodIn_app (goodIn_of _ (by decide +kernel)) ggX10_sum_X10_isIn
theorem dX10_sum_0 : decode cX10_sum 0 = .ok (.iload_n 1, 1) := by decide +kernel
theorem dX10_sum_1 : decode cX10_sum 1 = .ok (.i2l, 1) := by decide +kernel
theorem dX10_sum_2 : decode cX10_sum 2 = .ok (.lconst 0, 1) := by decide +kernel
theorem dX10_sum_3 : decode cX10_sum 3 = .ok (.ldc2_w 90, 3) := by decide +kernel
theorem dX10_sum_6 : decode cX10_sum 6 = .ok (.invokestatic 67, 3) := by decide +kernel
theorem dX10_sum_9 : decode cX10_sum 9 = .ok (.ifCond .ne 7, 3) := by decide +kernel
theorem dX10_sum_12 : decode cX10_sum 12 = .ok (.ldc2_w 81, 3) := by decide +kernel
theorem dX10_sum_15 : decode cX10_sum 15 = .ok (.lreturn, 1) := by decide +kernel
theorem dX10_sum_16 : decode cX10_sum 16 = .ok (.iload_n 1, 1) := by decide +kernel
theorem dX10_sum_17 : decode cX10_sum 17 = .ok (.iconst 2, 1) := by decide +kernel
theorem dX10_sum_18 : decode cX10_sum 18 = .ok (.if_icmp .ne 7, 3) := by decide +kernel
theorem dX10_sum_21 : decode cX10_sum 21 = .ok (.lconst 0, 1) := by decide +kernel
theorem dX10_sum_22 : decode cX10_sum 22 = .ok (.goto 7, 3) := by decide +kernel
theorem dX10_sum_25 : decode cX10_sum 25 = .ok (.aload_n 0, 1) := by decide +kernel
theorem dX10_sum_26 : decode cX10_sum 26 = .ok (.getfield 110, 3) := by decide +kernel
theorem dX10_sum_29 : decode cX10_sum 29 = .ok (.lstore_n 2, 1) := by decide +kernel
theorem dX10_sum_30 : decode cX10_sum 30 = .ok (.iconst 0, 1) := by decide +kernel
theorem dX10_sum_31 : decode cX10_sum 31 = .ok (.istore 4, 2) := by decide +kernel
theorem dX10_sum_33 : decode cX10_sum 33 = .ok (.iload 4, 2) := by decide +kernel
theorem dX10_sum_35 : decode cX10_sum 35 = .ok (.aload_n 0, 1) := by decide +kernel
theorem dX10_sum_36 : decode cX10_sum 36 = .ok (.getfield 11, 3) := by decide +kernel
theorem dX10_sum_39 : decode cX10_sum 39 = .ok (.bipush 60, 2) := by decide +kernel
theorem dX10_sum_41 : decode cX10_sum 41 = .ok (.iaload, 1) := by decide +kernel
theorem dX10_sum_42 : decode cX10_sum 42 = .ok (.if_icmp .ge 28, 3) := by decide +kernel
theorem dX10_sum_70 : decode cX10_sum 70 = .ok (.iconst 0, 1) := by decide +kernel
theorem dX10_sum_71 : decode cX10_sum 71 = .ok (.istore 4, 2) := by decide +kernel
theorem dX10_sum_73 : decode cX10_sum 73 = .ok (.iload 4, 2) := by decide +kernel
theorem dX10_sum_75 : decode cX10_sum 75 = .ok (.bipush 64, 2) := by decide +kernel
theorem dX10_sum_77 : decode cX10_sum 77 = .ok (.if_icmp .ge 28, 3) := by decide +kernel
theorem dX10_sum_80 : decode cX10_sum 80 = .ok (.iload_n 1, 1) := by decide +kernel
theorem dX10_sum_81 : decode cX10_sum 81 = .ok (.iconst 2, 1) := by decide +kernel
theorem dX10_sum_82 : decode cX10_sum 82 = .ok (.if_icmp .ne 23, 3) := by decide +kernel
theorem dX10_sum_85 : decode cX10_sum 85 = .ok (.lload_n 2, 1) := by decide +kernel
theorem dX10_sum_86 : decode cX10_sum 86 = .ok (.aload_n 0, 1) := by decide +kernel
theorem dX10_sum_87 : decode cX10_sum 87 = .ok (.getfield 11, 3) := by decide +kernel
theorem dX10_sum_90 : decode cX10_sum 90 = .ok (.bipush 61, 2) := by decide +kernel
theorem dX10_sum_92 : decode cX10_sum 92 = .ok (.iload 4, 2) := by decide +kernel
theorem dX10_sum_94 : decode cX10_sum 94 = .ok (.iadd, 1) := by decide +kernel
theorem dX10_sum_95 : decode cX10_sum 95 = .ok (.iaload, 1) := by decide +kernel
theorem dX10_sum_96 : decode cX10_sum 96 = .ok (.i2l, 1) := by decide +kernel
theorem dX10_sum_97 : decode cX10_sum 97 = .ok (.ladd, 1) := by decide +kernel
theorem dX10_sum_98 : decode cX10_sum 98 = .ok (.lstore_n 2, 1) := by decide +kernel
theorem dX10_sum_99 : decode cX10_sum 99 = .ok (.iinc 4 1, 3) := by decide +kernel
theorem dX10_sum_102 : decode cX10_sum 102 = .ok (.goto (-29), 3) := by decide +kernel
theorem dX10_sum_105 : decode cX10_sum 105 = .ok (.lload_n 2, 1) := by decide +kernel
theorem dX10_sum_106 : decode cX10_sum 106 = .ok (.lreturn, 1) := by decide +kernel
set_option maxRecDepth 20000 in
theorem ggX10_taken_X10_isAccount : GoodIn wsX10_taken wsX10_isAccount := goodIn_r _ [7, 2, 8, 9, 6, 10, 14, 15, 16, 17, 18, 19, 20, 21, 22, 23, 24, 25, 26, 27, 28, 29, 30, 31, 32, 33, 34, 35, 36, 37, 38, 39, 40, 41, 42, 43, 44, 45] (by decide +kernel) (by decide +kernel)
set_option maxRecDepth 20000 in
theorem gX10_taken_X10_isAccount : GoodIn wsX10_taken (wsV RX10 75 RX10 yX10_isAccount wsX10_isAccount) := goodIn_app (goodIn_of _ (by decide +kernel)) ggX10_taken_X10_isAccount
theorem dX10_taken_0 : decode cX10_taken 0 = .ok (.aload_n 0, 1) := by decide +kernel
theorem dX10_taken_1 : decode cX10_taken 1 = .ok (.iload_n 1, 1) := by decide +kernel
theorem dX10_taken_2 : decode cX10_taken 2 = .ok (.invokevirtual 75, 3) := by decide +kernel
theorem dX10_taken_5 : decode cX10_taken 5 = .ok (.ifCond .eq 15, 3) := by decide +kernel
theorem dX10_taken_20 : decode cX10_taken 20 = .ok (.bipush (-2), 2) := by decide +kernel
theorem dX10_taken_22 : decode cX10_taken 22 = .ok (.ireturn, 1) := by decide +kernel
set_option maxRecDepth 20000 in
theorem ggX10_isByte_X10_isIn : GoodIn wsX10_isByte wsX10_isIn := goodIn_r _ [5] (by decide +kernel) (by decide +kernel)
set_option maxRecDepth 20000 in
theorem gX10_isByte_X10_isIn : GoodIn wsX10_isByte (va_wsS RX10 67 yX10_isIn wsX10_isIn) := goodIn_app (goodIn_of _ (by decide +kernel)) ggX10_isByte_X10_isIn
theorem dX10_isByte_0 : decode cX10_isByte 0 = .ok (.iload_n 0, 1) := by decide +kernel
theorem dX10_isByte_1 : decode cX10_isByte 1 = .ok (.i2l, 1) := by decide +kernel
theorem dX10_isByte_2 : decode cX10_isByte 2 = .ok (.lconst 0, 1) := by decide +kernel
theorem dX10_isByte_3 : decode cX10_isByte 3 = .ok (.ldc2_w 117, 3) := by decide +kernel
theorem dX10_isByte_6 : decode cX10_isByte 6 = .ok (.invokestatic 67, 3) := by decide +kernel
theorem dX10_isByte_9 : decode cX10_isByte 9 = .ok (.ireturn, 1) := by decide +kernel
set_option maxRecDepth 20000 in
theorem ggX10_feed_X10_isIn : GoodIn wsX10_feed wsX10_isIn := goodIn_r _ [7] (by decide +kernel) (by decide +kernel)
set_option maxRecDepth 20000 in
theorem gX10_feed_X10_isIn : GoodIn wsX10_feed (va_wsS RX10 67 yX10_isIn wsX10_isIn) := goodIn_app (goodIn_of _ (by decide +kernel)) ggX10_feed_X10_isIn
set_option maxRecDepth 20000 in
theorem ggX10_feed_X10_isByte : GoodIn wsX10_feed wsX10_isByte := goodIn_r _ [10, 11, 4, 5, 6, 7] (by decide +kernel) (by decide +kernel)
set_option maxRecDepth 20000 in
theorem gX10_feed_X10_isByte : GoodIn wsX10_feed (va_wsS RX10 121 yX10_isByte wsX10_isByte) := goodIn_app (goodIn_of _ (by decide +kernel)) ggX10_feed_X10_isByte
theorem dX10_feed_0 : decode cX10_feed 0 = .ok (.iload_n 1, 1) := by decide +kernel
theorem dX10_feed_1 : decode cX10_feed 1 = .ok (.i2l, 1) := by decide +kernel
theorem dX10_feed_2 : decode cX10_feed 2 = .ok (.lconst 1, 1) := by decide +kernel
theorem dX10_feed_3 : decode cX10_feed 3 = .ok (.ldc2_w 119, 3) := by decide +kernel
theorem dX10_feed_6 : decode cX10_feed 6 = .ok (.invokestatic 67, 3) := by decide +kernel
theorem dX10_feed_9 : decode cX10_feed 9 = .ok (.ifCond .eq 41, 3) := by decide +kernel
theorem dX10_feed_12 : decode cX10_feed 12 = .ok (.iload_n 2, 1) := by decide +kernel
theorem dX10_feed_13 : decode cX10_feed 13 = .ok (.invokestatic 121, 3) := by decide +kernel
theorem dX10_feed_16 : decode cX10_feed 16 = .ok (.ifCond .eq 34, 3) := by decide +kernel
theorem dX10_feed_19 : decode cX10_feed 19 = .ok (.iload_n 3, 1) := by decide +kernel
theorem dX10_feed_20 : decode cX10_feed 20 = .ok (.invokestatic 121, 3) := by decide +kernel
theorem dX10_feed_23 : decode cX10_feed 23 = .ok (.ifCond .eq 27, 3) := by decide +kernel
theorem dX10_feed_26 : decode cX10_feed 26 = .ok (.iload 4, 2) := by decide +kernel
theorem dX10_feed_28 : decode cX10_feed 28 = .ok (.invokestatic 121, 3) := by decide +kernel
theorem dX10_feed_31 : decode cX10_feed 31 = .ok (.ifCond .eq 19, 3) := by decide +kernel
theorem dX10_feed_34 : decode cX10_feed 34 = .ok (.iload 5, 2) := by decide +kernel
theorem dX10_feed_36 : decode cX10_feed 36 = .ok (.invokestatic 121, 3) := by decide +kernel
theorem dX10_feed_39 : decode cX10_feed 39 = .ok (.ifCond .eq 11, 3) := by decide +kernel
theorem dX10_feed_42 : decode cX10_feed 42 = .ok (.iload 6, 2) := by decide +kernel
theorem dX10_feed_44 : decode cX10_feed 44 = .ok (.invokestatic 121, 3) := by decide +kernel
theorem dX10_feed_47 : decode cX10_feed 47 = .ok (.ifCond .ne 6, 3) := by decide +kernel
theorem dX10_feed_50 : decode cX10_feed 50 = .ok (.bipush (-2), 2) := by decide +kernel
theorem dX10_feed_52 : decode cX10_feed 52 = .ok (.ireturn, 1) := by decide +kernel
theorem dX10_feed_53 : decode cX10_feed 53 = .ok (.aload_n 0, 1) := by decide +kernel
theorem dX10_feed_54 : decode cX10_feed 54 = .ok (.getfield 107, 3) := by decide +kernel
theorem dX10_feed_57 : decode cX10_feed 57 = .ok (.iload_n 1, 1) := by decide +kernel
theorem dX10_feed_58 : decode cX10_feed 58 = .ok (.iadd, 1) := by decide +kernel
theorem dX10_feed_59 : decode cX10_feed 59 = .ok (.bipush 80, 2) := by decide +kernel
theorem dX10_feed_61 : decode cX10_feed 61 = .ok (.if_icmp .le 6, 3) := by decide +kernel
theorem dX10_feed_67 : decode cX10_feed 67 = .ok (.iconst 0, 1) := by decide +kernel
theorem dX10_feed_68 : decode cX10_feed 68 = .ok (.istore 7, 2) := by decide +kernel
theorem dX10_feed_70 : decode cX10_feed 70 = .ok (.iload 7, 2) := by decide +kernel
theorem dX10_feed_72 : decode cX10_feed 72 = .ok (.iload_n 1, 1) := by decide +kernel
theorem dX10_feed_73 : decode cX10_feed 73 = .ok (.if_icmp .ge 71, 3) := by decide +kernel
theorem dX10_feed_76 : decode cX10_feed 76 = .ok (.aload_n 0, 1) := by decide +kernel
theorem dX10_feed_77 : decode cX10_feed 77 = .ok (.getfield 21, 3) := by decide +kernel
theorem dX10_feed_80 : decode cX10_feed 80 = .ok (.aload_n 0, 1) := by decide +kernel
theorem dX10_feed_81 : decode cX10_feed 81 = .ok (.getfield 107, 3) := by decide +kernel
theorem dX10_feed_84 : decode cX10_feed 84 = .ok (.iload 7, 2) := by decide +kernel
theorem dX10_feed_86 : decode cX10_feed 86 = .ok (.ifCond .ne 7, 3) := by decide +kernel
theorem dX10_feed_89 : decode cX10_feed 89 = .ok (.iload_n 2, 1) := by decide +kernel
theorem dX10_feed_90 : decode cX10_feed 90 = .ok (.goto 37, 3) := by decide +kernel
theorem dX10_feed_93 : decode cX10_feed 93 = .ok (.iload 7, 2) := by decide +kernel
theorem dX10_feed_95 : decode cX10_feed 95 = .ok (.iconst 1, 1) := by decide +kernel
theorem dX10_feed_96 : decode cX10_feed 96 = .ok (.if_icmp .ne 7, 3) := by decide +kernel
theorem dX10_feed_99 : decode cX10_feed 99 = .ok (.iload_n 3, 1) := by decide +kernel
theorem dX10_feed_100 : decode cX10_feed 100 = .ok (.goto 27, 3) := by decide +kernel
theorem dX10_feed_103 : decode cX10_feed 103 = .ok (.iload 7, 2) := by decide +kernel
theorem dX10_feed_105 : decode cX10_feed 105 = .ok (.iconst 2, 1) := by decide +kernel
theorem dX10_feed_106 : decode cX10_feed 106 = .ok (.if_icmp .ne 8, 3) := by decide +kernel
theorem dX10_feed_109 : decode cX10_feed 109 = .ok (.iload 4, 2) := by decide +kernel
theorem dX10_feed_111 : decode cX10_feed 111 = .ok (.goto 16, 3) := by decide +kernel
theorem dX10_feed_114 : decode cX10_feed 114 = .ok (.iload 7, 2) := by decide +kernel
theorem dX10_feed_116 : decode cX10_feed 116 = .ok (.iconst 3, 1) := by decide +kernel
theorem dX10_feed_117 : decode cX10_feed 117 = .ok (.if_icmp .ne 8, 3) := by decide +kernel
theorem dX10_feed_120 : decode cX10_feed 120 = .ok (.iload 5, 2) := by decide +kernel
theorem dX10_feed_122 : decode cX10_feed 122 = .ok (.goto 5, 3) := by decide +kernel
theorem dX10_feed_125 : decode cX10_feed 125 = .ok (.iload 6, 2) := by decide +kernel
theorem dX10_feed_127 : decode cX10_feed 127 = .ok (.iastore, 1) := by decide +kernel
theorem dX10_feed_128 : decode cX10_feed 128 = .ok (.aload_n 0, 1) := by decide +kernel
theorem dX10_feed_129 : decode cX10_feed 129 = .ok (.dup, 1) := by decide +kernel
theorem dX10_feed_130 : decode cX10_feed 130 = .ok (.getfield 107, 3) := by decide +kernel
theorem dX10_feed_133 : decode cX10_feed 133 = .ok (.iconst 1, 1) := by decide +kernel
theorem dX10_feed_134 : decode cX10_feed 134 = .ok (.iadd, 1) := by decide +kernel
theorem dX10_feed_135 : decode cX10_feed 135 = .ok (.putfield 107, 3) := by decide +kernel
theorem dX10_feed_138 : decode cX10_feed 138 = .ok (.iinc 7 1, 3) := by decide +kernel
theorem dX10_feed_141 : decode cX10_feed 141 = .ok (.goto (-71), 3) := by decide +kernel
theorem dX10_feed_144 : decode cX10_feed 144 = .ok (.aload_n 0, 1) := by decide +kernel
theorem dX10_feed_145 : decode cX10_feed 145 = .ok (.getfield 107, 3) := by decide +kernel
theorem dX10_feed_148 : decode cX10_feed 148 = .ok (.ireturn, 1) := by decide +kernel
theorem dX10_byteAt_0 : decode cX10_byteAt 0 = .ok (.aload_n 0, 1) := by decide +kernel
theorem dX10_byteAt_1 : decode cX10_byteAt 1 = .ok (.getfield 124, 3) := by decide +kernel
theorem dX10_byteAt_4 : decode cX10_byteAt 4 = .ok (.aload_n 0, 1) := by decide +kernel
theorem dX10_byteAt_5 : decode cX10_byteAt 5 = .ok (.getfield 107, 3) := by decide +kernel
theorem dX10_byteAt_8 : decode cX10_byteAt 8 = .ok (.if_icmp .ge 15, 3) := by decide +kernel
theorem dX10_byteAt_23 : decode cX10_byteAt 23 = .ok (.iconst (-1), 1) := by decide +kernel
theorem dX10_byteAt_24 : decode cX10_byteAt 24 = .ok (.ireturn, 1) := by decide +kernel
set_option maxRecDepth 20000 in
theorem ggX10_takesItem_X10_byteAt : GoodIn wsX10_takesItem wsX10_byteAt := goodIn_r _ [6, 1, 7, 8, 30, 31, 32, 33, 34, 35, 36, 37, 38, 39, 40, 41, 42, 43, 44, 45, 46, 47, 48, 49, 50, 51, 52, 53, 54, 55, 56, 57, 58, 59, 60, 61] (by decide +kernel) (by decide +kernel)
set_option maxRecDepth 20000 in
theorem gX10_takesItem_X10_byteAt : GoodIn wsX10_takesItem (wsV RX10 127 RX10 yX10_byteAt wsX10_byteAt) := goodIn_app (goodIn_of _ (by decide +kernel)) ggX10_takesItem_X10_byteAt
theorem dX10_takesItem_0 : decode cX10_takesItem 0 = .ok (.aload_n 0, 1) := by decide +kernel
theorem dX10_takesItem_1 : decode cX10_takesItem 1 = .ok (.invokevirtual 127, 3) := by decide +kernel
theorem dX10_takesItem_4 : decode cX10_takesItem 4 = .ok (.istore_n 2, 1) := by decide +kernel
theorem dX10_takesItem_5 : decode cX10_takesItem 5 = .ok (.iload_n 2, 1) := by decide +kernel
theorem dX10_takesItem_6 : decode cX10_takesItem 6 = .ok (.bipush 40, 2) := by decide +kernel
theorem dX10_takesItem_8 : decode cX10_takesItem 8 = .ok (.if_icmp .eq 21, 3) := by decide +kernel
theorem dX10_takesItem_11 : decode cX10_takesItem 11 = .ok (.iload_n 2, 1) := by decide +kernel
theorem dX10_takesItem_12 : decode cX10_takesItem 12 = .ok (.bipush 91, 2) := by decide +kernel
theorem dX10_takesItem_14 : decode cX10_takesItem 14 = .ok (.if_icmp .eq 15, 3) := by decide +kernel
theorem dX10_takesItem_17 : decode cX10_takesItem 17 = .ok (.iload_n 2, 1) := by decide +kernel
theorem dX10_takesItem_18 : decode cX10_takesItem 18 = .ok (.bipush 60, 2) := by decide +kernel
theorem dX10_takesItem_20 : decode cX10_takesItem 20 = .ok (.if_icmp .eq 9, 3) := by decide +kernel
theorem dX10_takesItem_23 : decode cX10_takesItem 23 = .ok (.iload_n 2, 1) := by decide +kernel
theorem dX10_takesItem_24 : decode cX10_takesItem 24 = .ok (.bipush 123, 2) := by decide +kernel
theorem dX10_takesItem_26 : decode cX10_takesItem 26 = .ok (.if_icmp .ne 10, 3) := by decide +kernel
theorem dX10_takesItem_36 : decode cX10_takesItem 36 = .ok (.iload_n 2, 1) := by decide +kernel
theorem dX10_takesItem_37 : decode cX10_takesItem 37 = .ok (.bipush 112, 2) := by decide +kernel
theorem dX10_takesItem_39 : decode cX10_takesItem 39 = .ok (.if_icmp .ne 8, 3) := by decide +kernel
theorem dX10_takesItem_47 : decode cX10_takesItem 47 = .ok (.iload_n 2, 1) := by decide +kernel
theorem dX10_takesItem_48 : decode cX10_takesItem 48 = .ok (.bipush 120, 2) := by decide +kernel
theorem dX10_takesItem_50 : decode cX10_takesItem 50 = .ok (.if_icmp .eq 19, 3) := by decide +kernel
theorem dX10_takesItem_53 : decode cX10_takesItem 53 = .ok (.iload_n 1, 1) := by decide +kernel
theorem dX10_takesItem_54 : decode cX10_takesItem 54 = .ok (.ifCond .eq 27, 3) := by decide +kernel
theorem dX10_takesItem_81 : decode cX10_takesItem 81 = .ok (.iload_n 2, 1) := by decide +kernel
theorem dX10_takesItem_82 : decode cX10_takesItem 82 = .ok (.bipush 110, 2) := by decide +kernel
theorem dX10_takesItem_84 : decode cX10_takesItem 84 = .ok (.if_icmp .eq 9, 3) := by decide +kernel
theorem dX10_takesItem_87 : decode cX10_takesItem 87 = .ok (.iload_n 2, 1) := by decide +kernel
theorem dX10_takesItem_88 : decode cX10_takesItem 88 = .ok (.bipush 97, 2) := by decide +kernel
theorem dX10_takesItem_90 : decode cX10_takesItem 90 = .ok (.if_icmp .ne 21, 3) := by decide +kernel
theorem dX10_takesItem_111 : decode cX10_takesItem 111 = .ok (.iconst 0, 1) := by decide +kernel
theorem dX10_takesItem_112 : decode cX10_takesItem 112 = .ok (.ireturn, 1) := by decide +kernel
set_option maxRecDepth 20000 in
theorem ggX10_program_X10_takesItem : GoodIn wsX10_program wsX10_takesItem := goodIn_r _ [12, 2, 13, 14, 15, 11, 16, 4, 6, 17, 18, 19, 20, 21, 22, 23, 24, 25, 26, 27, 28, 29, 30, 31, 32, 33, 3, 8, 9, 10, 34, 35, 36, 37, 38, 39, 40, 41, 42, 43, 44, 45, 46, 47, 48, 49, 50, 51, 52, 53, 54, 55, 56, 57, 58, 59, 60, 61, 62, 63, 64, 65] (by decide +kernel) (by decide +kernel)
set_option maxRecDepth 20000 in
theorem gX10_program_X10_takesItem : GoodIn wsX10_program (wsV RX10 138 RX10 yX10_takesItem wsX10_takesItem) := goodIn_app (goodIn_of _ (by decide +kernel)) ggX10_program_X10_takesItem
theorem dX10_program_0 : decode cX10_program 0 = .ok (.aload_n 0, 1) := by decide +kernel
theorem dX10_program_1 : decode cX10_program 1 = .ok (.getfield 100, 3) := by decide +kernel
theorem dX10_program_4 : decode cX10_program 4 = .ok (.iconst 4, 1) := by decide +kernel
theorem dX10_program_5 : decode cX10_program 5 = .ok (.if_icmp .ne 6, 3) := by decide +kernel
theorem dX10_program_11 : decode cX10_program 11 = .ok (.aload_n 0, 1) := by decide +kernel
theorem dX10_program_12 : decode cX10_program 12 = .ok (.iconst 0, 1) := by decide +kernel
theorem dX10_program_13 : decode cX10_program 13 = .ok (.putfield 124, 3) := by decide +kernel
theorem dX10_program_16 : decode cX10_program 16 = .ok (.aload_n 0, 1) := by decide +kernel
theorem dX10_program_17 : decode cX10_program 17 = .ok (.iconst 0, 1) := by decide +kernel
theorem dX10_program_18 : decode cX10_program 18 = .ok (.putfield 131, 3) := by decide +kernel
theorem dX10_program_21 : decode cX10_program 21 = .ok (.aload_n 0, 1) := by decide +kernel
theorem dX10_program_22 : decode cX10_program 22 = .ok (.iconst 0, 1) := by decide +kernel
theorem dX10_program_23 : decode cX10_program 23 = .ok (.invokevirtual 138, 3) := by decide +kernel
theorem dX10_program_26 : decode cX10_program 26 = .ok (.istore_n 1, 1) := by decide +kernel
theorem dX10_program_27 : decode cX10_program 27 = .ok (.iload_n 1, 1) := by decide +kernel
theorem dX10_program_28 : decode cX10_program 28 = .ok (.ifCond .eq 23, 3) := by decide +kernel
theorem dX10_program_51 : decode cX10_program 51 = .ok (.aload_n 0, 1) := by decide +kernel
theorem dX10_program_52 : decode cX10_program 52 = .ok (.getfield 107, 3) := by decide +kernel
theorem dX10_program_55 : decode cX10_program 55 = .ok (.istore_n 2, 1) := by decide +kernel
theorem dX10_program_56 : decode cX10_program 56 = .ok (.aload_n 0, 1) := by decide +kernel
theorem dX10_program_57 : decode cX10_program 57 = .ok (.iconst 0, 1) := by decide +kernel
theorem dX10_program_58 : decode cX10_program 58 = .ok (.putfield 107, 3) := by decide +kernel
theorem dX10_program_61 : decode cX10_program 61 = .ok (.iload_n 1, 1) := by decide +kernel
theorem dX10_program_62 : decode cX10_program 62 = .ok (.ifCond .ne 11, 3) := by decide +kernel
theorem dX10_program_65 : decode cX10_program 65 = .ok (.bipush (-100), 2) := by decide +kernel
theorem dX10_program_67 : decode cX10_program 67 = .ok (.aload_n 0, 1) := by decide +kernel
theorem dX10_program_68 : decode cX10_program 68 = .ok (.getfield 124, 3) := by decide +kernel
theorem dX10_program_71 : decode cX10_program 71 = .ok (.isub, 1) := by decide +kernel
theorem dX10_program_72 : decode cX10_program 72 = .ok (.ireturn, 1) := by decide +kernel
set_option maxRecDepth 20000 in
theorem ggX10_isProgram_X10_isIn : GoodIn wsX10_isProgram wsX10_isIn := goodIn_r _ [5] (by decide +kernel) (by decide +kernel)
set_option maxRecDepth 20000 in
theorem gX10_isProgram_X10_isIn : GoodIn wsX10_isProgram (va_wsS RX10 67 yX10_isIn wsX10_isIn) := goodIn_app (goodIn_of _ (by decide +kernel)) ggX10_isProgram_X10_isIn
theorem dX10_isProgram_0 : decode cX10_isProgram 0 = .ok (.iload_n 1, 1) := by decide +kernel
theorem dX10_isProgram_1 : decode cX10_isProgram 1 = .ok (.i2l, 1) := by decide +kernel
theorem dX10_isProgram_2 : decode cX10_isProgram 2 = .ok (.lconst 0, 1) := by decide +kernel
theorem dX10_isProgram_3 : decode cX10_isProgram 3 = .ok (.aload_n 0, 1) := by decide +kernel
theorem dX10_isProgram_4 : decode cX10_isProgram 4 = .ok (.getfield 100, 3) := by decide +kernel
theorem dX10_isProgram_7 : decode cX10_isProgram 7 = .ok (.iconst 1, 1) := by decide +kernel
theorem dX10_isProgram_8 : decode cX10_isProgram 8 = .ok (.isub, 1) := by decide +kernel
theorem dX10_isProgram_9 : decode cX10_isProgram 9 = .ok (.i2l, 1) := by decide +kernel
theorem dX10_isProgram_10 : decode cX10_isProgram 10 = .ok (.invokestatic 67, 3) := by decide +kernel
theorem dX10_isProgram_13 : decode cX10_isProgram 13 = .ok (.ireturn, 1) := by decide +kernel
set_option maxRecDepth 20000 in
theorem ggX10_run_X10_isProgram : GoodIn wsX10_run wsX10_isProgram := goodIn_r _ [13, 14, 15, 16, 12, 17, 113, 114, 115, 116, 117, 118, 119, 120, 121, 122, 123, 124, 125, 126, 127, 128, 129, 130, 131, 132, 133, 134, 135, 136, 137, 138, 139, 140, 141, 142, 143, 144] (by decide +kernel) (by decide +kernel)
set_option maxRecDepth 20000 in
theorem gX10_run_X10_isProgram : GoodIn wsX10_run (wsV RX10 216 RX10 yX10_isProgram wsX10_isProgram) := goodIn_app (goodIn_of _ (by decide +kernel)) ggX10_run_X10_isProgram
theorem dX10_run_0 : decode cX10_run 0 = .ok (.aload_n 0, 1) := by decide +kernel
theorem dX10_run_1 : decode cX10_run 1 = .ok (.iload_n 1, 1) := by decide +kernel
theorem dX10_run_2 : decode cX10_run 2 = .ok (.invokevirtual 216, 3) := by decide +kernel
theorem dX10_run_5 : decode cX10_run 5 = .ok (.ifCond .ne 6, 3) := by decide +kernel
theorem dX10_run_8 : decode cX10_run 8 = .ok (.bipush (-2), 2) := by decide +kernel
theorem dX10_run_10 : decode cX10_run 10 = .ok (.ireturn, 1) := by decide +kernel
set_option maxRecDepth 20000 in
theorem ggX10_trace_X10_isIn : GoodIn wsX10_trace wsX10_isIn := goodIn_r _ [6] (by decide +kernel) (by decide +kernel)
set_option maxRecDepth 20000 in
theorem gX10_trace_X10_isIn : GoodIn wsX10_trace (va_wsS RX10 67 yX10_isIn wsX10_isIn) := goodIn_app (goodIn_of _ (by decide +kernel)) ggX10_trace_X10_isIn
theorem dX10_trace_0 : decode cX10_trace 0 = .ok (.iload_n 1, 1) := by decide +kernel
theorem dX10_trace_1 : decode cX10_trace 1 = .ok (.i2l, 1) := by decide +kernel
theorem dX10_trace_2 : decode cX10_trace 2 = .ok (.lconst 0, 1) := by decide +kernel
theorem dX10_trace_3 : decode cX10_trace 3 = .ok (.aload_n 0, 1) := by decide +kernel
theorem dX10_trace_4 : decode cX10_trace 4 = .ok (.getfield 104, 3) := by decide +kernel
theorem dX10_trace_7 : decode cX10_trace 7 = .ok (.iconst 1, 1) := by decide +kernel
theorem dX10_trace_8 : decode cX10_trace 8 = .ok (.isub, 1) := by decide +kernel
theorem dX10_trace_9 : decode cX10_trace 9 = .ok (.i2l, 1) := by decide +kernel
theorem dX10_trace_10 : decode cX10_trace 10 = .ok (.invokestatic 67, 3) := by decide +kernel
theorem dX10_trace_13 : decode cX10_trace 13 = .ok (.ifCond .eq 12, 3) := by decide +kernel
theorem dX10_trace_25 : decode cX10_trace 25 = .ok (.bipush (-12), 2) := by decide +kernel
theorem dX10_trace_27 : decode cX10_trace 27 = .ok (.ireturn, 1) := by decide +kernel
set_option maxRecDepth 20000 in
theorem ggX10_would_X10_isProgram : GoodIn wsX10_would wsX10_isProgram := goodIn_r _ [11, 12, 13, 14, 10, 15, 128, 129, 130, 131, 132, 133, 134, 135, 136, 137, 138, 139, 140, 141, 142, 143, 144, 145, 146, 147, 148, 149, 150, 151, 152, 153, 154, 155, 156, 157, 158, 159] (by decide +kernel) (by decide +kernel)
set_option maxRecDepth 20000 in
theorem gX10_would_X10_isProgram : GoodIn wsX10_would (wsV RX10 216 RX10 yX10_isProgram wsX10_isProgram) := goodIn_app (goodIn_of _ (by decide +kernel)) ggX10_would_X10_isProgram
theorem dX10_would_0 : decode cX10_would 0 = .ok (.aload_n 0, 1) := by decide +kernel
theorem dX10_would_1 : decode cX10_would 1 = .ok (.iload_n 1, 1) := by decide +kernel
theorem dX10_would_2 : decode cX10_would 2 = .ok (.invokevirtual 216, 3) := by decide +kernel
theorem dX10_would_5 : decode cX10_would 5 = .ok (.ifCond .eq 37, 3) := by decide +kernel
theorem dX10_would_42 : decode cX10_would 42 = .ok (.ldc2_w 81, 3) := by decide +kernel
theorem dX10_would_45 : decode cX10_would 45 = .ok (.lreturn, 1) := by decide +kernel
set_option maxRecDepth 20000 in
theorem ggX10_needed_X10_isProgram : GoodIn wsX10_needed wsX10_isProgram := goodIn_r _ [7, 8, 9, 10, 6, 11, 137, 138, 139, 140, 141, 142, 143, 144, 145, 146, 147, 148, 149, 150, 151, 152, 153, 154, 155, 156, 157, 158, 159, 160, 161, 162, 163, 164, 165, 166, 167, 168] (by decide +kernel) (by decide +kernel)
set_option maxRecDepth 20000 in
theorem gX10_needed_X10_isProgram : GoodIn wsX10_needed (wsV RX10 216 RX10 yX10_isProgram wsX10_isProgram) := goodIn_app (goodIn_of _ (by decide +kernel)) ggX10_needed_X10_isProgram
theorem dX10_needed_0 : decode cX10_needed 0 = .ok (.aload_n 0, 1) := by decide +kernel
theorem dX10_needed_1 : decode cX10_needed 1 = .ok (.iload_n 1, 1) := by decide +kernel
theorem dX10_needed_2 : decode cX10_needed 2 = .ok (.invokevirtual 216, 3) := by decide +kernel
theorem dX10_needed_5 : decode cX10_needed 5 = .ok (.ifCond .eq 11, 3) := by decide +kernel
theorem dX10_needed_16 : decode cX10_needed 16 = .ok (.bipush (-2), 2) := by decide +kernel
theorem dX10_needed_18 : decode cX10_needed 18 = .ok (.ireturn, 1) := by decide +kernel
set_option maxRecDepth 20000 in
theorem ggX10_hinges_X10_isProgram : GoodIn wsX10_hinges wsX10_isProgram := goodIn_r _ [6, 7, 8, 9, 5, 10, 136, 137, 138, 139, 140, 141, 142, 143, 144, 145, 146, 147, 148, 149, 150, 151, 152, 153, 154, 155, 156, 157, 158, 159, 160, 161, 162, 163, 164, 165, 166, 167] (by decide +kernel) (by decide +kernel)
set_option maxRecDepth 20000 in
theorem gX10_hinges_X10_isProgram : GoodIn wsX10_hinges (wsV RX10 216 RX10 yX10_isProgram wsX10_isProgram) := goodIn_app (goodIn_of _ (by decide +kernel)) ggX10_hinges_X10_isProgram
theorem dX10_hinges_0 : decode cX10_hinges 0 = .ok (.aload_n 0, 1) := by decide +kernel
theorem dX10_hinges_1 : decode cX10_hinges 1 = .ok (.iload_n 1, 1) := by decide +kernel
theorem dX10_hinges_2 : decode cX10_hinges 2 = .ok (.invokevirtual 216, 3) := by decide +kernel
theorem dX10_hinges_5 : decode cX10_hinges 5 = .ok (.ifCond .ne 6, 3) := by decide +kernel
theorem dX10_hinges_8 : decode cX10_hinges 8 = .ok (.bipush (-2), 2) := by decide +kernel
theorem dX10_hinges_10 : decode cX10_hinges 10 = .ok (.ireturn, 1) := by decide +kernel
set_option maxRecDepth 20000 in
theorem ggX10_areTwo_X10_isAccount : GoodIn wsX10_areTwo wsX10_isAccount := goodIn_r _ [5, 6, 7, 8, 4, 9, 10, 11, 12, 13, 14, 15, 16, 17, 18, 19, 20, 21, 22, 23, 24, 25, 26, 27, 28, 29, 30, 31, 32, 33, 34, 35, 36, 37, 38, 39, 40, 41] (by decide +kernel) (by decide +kernel)
set_option maxRecDepth 20000 in
theorem gX10_areTwo_X10_isAccount : GoodIn wsX10_areTwo (wsV RX10 75 RX10 yX10_isAccount wsX10_isAccount) := goodIn_app (goodIn_of _ (by decide +kernel)) ggX10_areTwo_X10_isAccount
theorem dX10_areTwo_0 : decode cX10_areTwo 0 = .ok (.aload_n 0, 1) := by decide +kernel
theorem dX10_areTwo_1 : decode cX10_areTwo 1 = .ok (.iload_n 1, 1) := by decide +kernel
theorem dX10_areTwo_2 : decode cX10_areTwo 2 = .ok (.invokevirtual 75, 3) := by decide +kernel
theorem dX10_areTwo_5 : decode cX10_areTwo 5 = .ok (.ifCond .eq 20, 3) := by decide +kernel
theorem dX10_areTwo_25 : decode cX10_areTwo 25 = .ok (.iconst 0, 1) := by decide +kernel
theorem dX10_areTwo_26 : decode cX10_areTwo 26 = .ok (.ireturn, 1) := by decide +kernel
set_option maxRecDepth 20000 in
theorem ggX10_owe_X10_areTwo : GoodIn wsX10_owe wsX10_areTwo := goodIn_r _ [7, 8, 9, 10, 6, 11, 2, 12, 13, 14, 19, 20, 21, 22, 23, 24, 25, 26, 27, 28, 29, 30, 31, 32, 33, 34, 35, 36, 37, 38, 39, 40, 41, 42, 43, 44, 45, 46, 47, 48, 49, 50] (by decide +kernel) (by decide +kernel)
set_option maxRecDepth 20000 in
theorem gX10_owe_X10_areTwo : GoodIn wsX10_owe (wsV RX10 258 RX10 yX10_areTwo wsX10_areTwo) := goodIn_app (goodIn_of _ (by decide +kernel)) ggX10_owe_X10_areTwo
theorem dX10_owe_0 : decode cX10_owe 0 = .ok (.aload_n 0, 1) := by decide +kernel
theorem dX10_owe_1 : decode cX10_owe 1 = .ok (.iload_n 1, 1) := by decide +kernel
theorem dX10_owe_2 : decode cX10_owe 2 = .ok (.iload_n 2, 1) := by decide +kernel
theorem dX10_owe_3 : decode cX10_owe 3 = .ok (.invokevirtual 258, 3) := by decide +kernel
theorem dX10_owe_6 : decode cX10_owe 6 = .ok (.ifCond .eq 15, 3) := by decide +kernel
theorem dX10_owe_21 : decode cX10_owe 21 = .ok (.bipush (-2), 2) := by decide +kernel
theorem dX10_owe_23 : decode cX10_owe 23 = .ok (.ireturn, 1) := by decide +kernel
set_option maxRecDepth 20000 in
theorem ggX10_owed_X10_areTwo : GoodIn wsX10_owed wsX10_areTwo := goodIn_r _ [5, 6, 7, 8, 4, 9, 10, 11, 12, 13, 18, 19, 20, 21, 22, 23, 24, 25, 26, 27, 28, 29, 30, 31, 32, 33, 34, 35, 36, 37, 38, 39, 40, 41, 42, 43, 44, 45, 46, 47, 48, 49] (by decide +kernel) (by decide +kernel)
set_option maxRecDepth 20000 in
theorem gX10_owed_X10_areTwo : GoodIn wsX10_owed (wsV RX10 258 RX10 yX10_areTwo wsX10_areTwo) := goodIn_app (goodIn_of _ (by decide +kernel)) ggX10_owed_X10_areTwo
theorem dX10_owed_0 : decode cX10_owed 0 = .ok (.aload_n 0, 1) := by decide +kernel
theorem dX10_owed_1 : decode cX10_owed 1 = .ok (.iload_n 1, 1) := by decide +kernel
theorem dX10_owed_2 : decode cX10_owed 2 = .ok (.iload_n 2, 1) := by decide +kernel
theorem dX10_owed_3 : decode cX10_owed 3 = .ok (.invokevirtual 258, 3) := by decide +kernel
theorem dX10_owed_6 : decode cX10_owed 6 = .ok (.ifCond .eq 12, 3) := by decide +kernel
theorem dX10_owed_18 : decode cX10_owed 18 = .ok (.bipush (-2), 2) := by decide +kernel
theorem dX10_owed_20 : decode cX10_owed 20 = .ok (.ireturn, 1) := by decide +kernel
theorem dX10_firstRing_0 : decode cX10_firstRing 0 = .ok (.iconst 0, 1) := by decide +kernel
theorem dX10_firstRing_1 : decode cX10_firstRing 1 = .ok (.istore_n 1, 1) := by decide +kernel
theorem dX10_firstRing_2 : decode cX10_firstRing 2 = .ok (.iload_n 1, 1) := by decide +kernel
theorem dX10_firstRing_3 : decode cX10_firstRing 3 = .ok (.aload_n 0, 1) := by decide +kernel
theorem dX10_firstRing_4 : decode cX10_firstRing 4 = .ok (.getfield 11, 3) := by decide +kernel
theorem dX10_firstRing_7 : decode cX10_firstRing 7 = .ok (.bipush 60, 2) := by decide +kernel
theorem dX10_firstRing_9 : decode cX10_firstRing 9 = .ok (.iaload, 1) := by decide +kernel
theorem dX10_firstRing_10 : decode cX10_firstRing 10 = .ok (.if_icmp .ge 31, 3) := by decide +kernel
theorem dX10_firstRing_41 : decode cX10_firstRing 41 = .ok (.iconst 0, 1) := by decide +kernel
theorem dX10_firstRing_42 : decode cX10_firstRing 42 = .ok (.ireturn, 1) := by decide +kernel
set_option maxRecDepth 20000 in
theorem ggX10_net_X10_firstRing : GoodIn wsX10_net wsX10_firstRing := goodIn_r _ [12, 1, 3, 13, 14, 15, 11, 16, 17, 18, 19, 20, 21, 22, 23, 24, 25, 26, 27, 28, 29, 30, 31, 32, 33, 34, 35, 36, 37, 38, 39, 40, 41, 42, 43, 44, 45, 46, 47, 48, 49, 50, 51, 52] (by decide +kernel) (by decide +kernel)
set_option maxRecDepth 20000 in
theorem gX10_net_X10_firstRing : GoodIn wsX10_net (wsV RX10 266 RX10 yX10_firstRing wsX10_firstRing) := goodIn_app (goodIn_of _ (by decide +kernel)) ggX10_net_X10_firstRing
theorem dX10_net_0 : decode cX10_net 0 = .ok (.iconst 0, 1) := by decide +kernel
theorem dX10_net_1 : decode cX10_net 1 = .ok (.istore_n 1, 1) := by decide +kernel
theorem dX10_net_2 : decode cX10_net 2 = .ok (.iload_n 1, 1) := by decide +kernel
theorem dX10_net_3 : decode cX10_net 3 = .ok (.aload_n 0, 1) := by decide +kernel
theorem dX10_net_4 : decode cX10_net 4 = .ok (.getfield 11, 3) := by decide +kernel
theorem dX10_net_7 : decode cX10_net 7 = .ok (.bipush 60, 2) := by decide +kernel
theorem dX10_net_9 : decode cX10_net 9 = .ok (.iaload, 1) := by decide +kernel
theorem dX10_net_10 : decode cX10_net 10 = .ok (.if_icmp .ge 24, 3) := by decide +kernel
theorem dX10_net_34 : decode cX10_net 34 = .ok (.iconst 0, 1) := by decide +kernel
theorem dX10_net_35 : decode cX10_net 35 = .ok (.istore_n 1, 1) := by decide +kernel
theorem dX10_net_36 : decode cX10_net 36 = .ok (.iload_n 1, 1) := by decide +kernel
theorem dX10_net_37 : decode cX10_net 37 = .ok (.aload_n 0, 1) := by decide +kernel
theorem dX10_net_38 : decode cX10_net 38 = .ok (.getfield 11, 3) := by decide +kernel
theorem dX10_net_41 : decode cX10_net 41 = .ok (.bipush 60, 2) := by decide +kernel
theorem dX10_net_43 : decode cX10_net 43 = .ok (.iaload, 1) := by decide +kernel
theorem dX10_net_44 : decode cX10_net 44 = .ok (.if_icmp .ge 35, 3) := by decide +kernel
theorem dX10_net_79 : decode cX10_net 79 = .ok (.iconst 0, 1) := by decide +kernel
theorem dX10_net_80 : decode cX10_net 80 = .ok (.istore_n 1, 1) := by decide +kernel
theorem dX10_net_81 : decode cX10_net 81 = .ok (.aload_n 0, 1) := by decide +kernel
theorem dX10_net_82 : decode cX10_net 82 = .ok (.invokevirtual 266, 3) := by decide +kernel
theorem dX10_net_85 : decode cX10_net 85 = .ok (.istore_n 2, 1) := by decide +kernel
theorem dX10_net_86 : decode cX10_net 86 = .ok (.iload_n 2, 1) := by decide +kernel
theorem dX10_net_87 : decode cX10_net 87 = .ok (.ifCond .le 109, 3) := by decide +kernel
theorem dX10_net_196 : decode cX10_net 196 = .ok (.iload_n 1, 1) := by decide +kernel
theorem dX10_net_197 : decode cX10_net 197 = .ok (.ireturn, 1) := by decide +kernel
set_option maxRecDepth 20000 in
theorem ggX10_isSheet_X10_isIn : GoodIn wsX10_isSheet wsX10_isIn := goodIn_r _ [5] (by decide +kernel) (by decide +kernel)
set_option maxRecDepth 20000 in
theorem gX10_isSheet_X10_isIn : GoodIn wsX10_isSheet (va_wsS RX10 67 yX10_isIn wsX10_isIn) := goodIn_app (goodIn_of _ (by decide +kernel)) ggX10_isSheet_X10_isIn
theorem dX10_isSheet_0 : decode cX10_isSheet 0 = .ok (.iload_n 0, 1) := by decide +kernel
theorem dX10_isSheet_1 : decode cX10_isSheet 1 = .ok (.i2l, 1) := by decide +kernel
theorem dX10_isSheet_2 : decode cX10_isSheet 2 = .ok (.lconst 0, 1) := by decide +kernel
theorem dX10_isSheet_3 : decode cX10_isSheet 3 = .ok (.ldc2_w 236, 3) := by decide +kernel
theorem dX10_isSheet_6 : decode cX10_isSheet 6 = .ok (.invokestatic 67, 3) := by decide +kernel
theorem dX10_isSheet_9 : decode cX10_isSheet 9 = .ok (.ireturn, 1) := by decide +kernel
set_option maxRecDepth 20000 in
theorem ggX10_tells_X10_isSheet : GoodIn wsX10_tells wsX10_isSheet := goodIn_r _ [6, 7, 8, 9, 5, 10] (by decide +kernel) (by decide +kernel)
set_option maxRecDepth 20000 in
theorem gX10_tells_X10_isSheet : GoodIn wsX10_tells (va_wsS RX10 273 yX10_isSheet wsX10_isSheet) := goodIn_app (goodIn_of _ (by decide +kernel)) ggX10_tells_X10_isSheet
set_option maxRecDepth 20000 in
theorem ggX10_tells_X10_isProgram : GoodIn wsX10_tells wsX10_isProgram := goodIn_r _ [14, 15, 8, 9, 5, 10, 140, 141, 142, 143, 144, 145, 146, 147, 148, 149, 150, 151, 152, 153, 154, 155, 156, 157, 158, 159, 160, 161, 162, 163, 164, 165, 166, 167, 168, 169, 170, 171] (by decide +kernel) (by decide +kernel)
set_option maxRecDepth 20000 in
theorem gX10_tells_X10_isProgram : GoodIn wsX10_tells (wsV RX10 216 RX10 yX10_isProgram wsX10_isProgram) := goodIn_app (goodIn_of _ (by decide +kernel)) ggX10_tells_X10_isProgram
theorem dX10_tells_0 : decode cX10_tells 0 = .ok (.iload_n 1, 1) := by decide +kernel
theorem dX10_tells_1 : decode cX10_tells 1 = .ok (.invokestatic 273, 3) := by decide +kernel
theorem dX10_tells_4 : decode cX10_tells 4 = .ok (.ifCond .eq 36, 3) := by decide +kernel
theorem dX10_tells_7 : decode cX10_tells 7 = .ok (.aload_n 0, 1) := by decide +kernel
theorem dX10_tells_8 : decode cX10_tells 8 = .ok (.iload_n 2, 1) := by decide +kernel
theorem dX10_tells_9 : decode cX10_tells 9 = .ok (.invokevirtual 216, 3) := by decide +kernel
theorem dX10_tells_12 : decode cX10_tells 12 = .ok (.ifCond .eq 28, 3) := by decide +kernel
theorem dX10_tells_40 : decode cX10_tells 40 = .ok (.bipush (-2), 2) := by decide +kernel
theorem dX10_tells_42 : decode cX10_tells 42 = .ok (.ireturn, 1) := by decide +kernel
set_option maxRecDepth 20000 in
theorem ggX10_film_X10_isSheet : GoodIn wsX10_film wsX10_isSheet := goodIn_r _ [11, 12, 13, 14, 10, 15] (by decide +kernel) (by decide +kernel)
set_option maxRecDepth 20000 in
theorem gX10_film_X10_isSheet : GoodIn wsX10_film (va_wsS RX10 273 yX10_isSheet wsX10_isSheet) := goodIn_app (goodIn_of _ (by decide +kernel)) ggX10_film_X10_isSheet
set_option maxRecDepth 20000 in
theorem ggX10_film_X10_isProgram : GoodIn wsX10_film wsX10_isProgram := goodIn_r _ [19, 20, 13, 14, 10, 15, 137, 138, 139, 140, 141, 142, 143, 144, 145, 146, 147, 148, 149, 150, 151, 152, 153, 154, 155, 156, 157, 158, 159, 160, 161, 162, 163, 164, 165, 166, 167, 168] (by decide +kernel) (by decide +kernel)
set_option maxRecDepth 20000 in
theorem gX10_film_X10_isProgram : GoodIn wsX10_film (wsV RX10 216 RX10 yX10_isProgram wsX10_isProgram) := goodIn_app (goodIn_of _ (by decide +kernel)) ggX10_film_X10_isProgram
theorem dX10_film_0 : decode cX10_film 0 = .ok (.iload_n 1, 1) := by decide +kernel
theorem dX10_film_1 : decode cX10_film 1 = .ok (.invokestatic 273, 3) := by decide +kernel
theorem dX10_film_4 : decode cX10_film 4 = .ok (.ifCond .eq 11, 3) := by decide +kernel
theorem dX10_film_7 : decode cX10_film 7 = .ok (.aload_n 0, 1) := by decide +kernel
theorem dX10_film_8 : decode cX10_film 8 = .ok (.iload_n 2, 1) := by decide +kernel
theorem dX10_film_9 : decode cX10_film 9 = .ok (.invokevirtual 216, 3) := by decide +kernel
theorem dX10_film_12 : decode cX10_film 12 = .ok (.ifCond .ne 6, 3) := by decide +kernel
theorem dX10_film_15 : decode cX10_film 15 = .ok (.bipush (-2), 2) := by decide +kernel
theorem dX10_film_17 : decode cX10_film 17 = .ok (.ireturn, 1) := by decide +kernel
theorem dX10_image_0 : decode cX10_image 0 = .ok (.aload_n 0, 1) := by decide +kernel
theorem dX10_image_1 : decode cX10_image 1 = .ok (.getfield 11, 3) := by decide +kernel
theorem dX10_image_4 : decode cX10_image 4 = .ok (.iconst 0, 1) := by decide +kernel
theorem dX10_image_5 : decode cX10_image 5 = .ok (.aload_n 0, 1) := by decide +kernel
theorem dX10_image_6 : decode cX10_image 6 = .ok (.getfield 18, 3) := by decide +kernel
theorem dX10_image_9 : decode cX10_image 9 = .ok (.iconst 0, 1) := by decide +kernel
theorem dX10_image_10 : decode cX10_image 10 = .ok (.bipush 125, 2) := by decide +kernel
theorem dX10_image_12 : decode cX10_image 12 = .ok (.invokestatic 227, 3) := by decide +kernel
theorem dX10_image_15 : decode cX10_image 15 = .ok (.aload_n 0, 1) := by decide +kernel
theorem dX10_image_16 : decode cX10_image 16 = .ok (.getfield 24, 3) := by decide +kernel
theorem dX10_image_19 : decode cX10_image 19 = .ok (.iconst 0, 1) := by decide +kernel
theorem dX10_image_20 : decode cX10_image 20 = .ok (.aload_n 0, 1) := by decide +kernel
theorem dX10_image_21 : decode cX10_image 21 = .ok (.getfield 30, 3) := by decide +kernel
end
section
theorem dX10_image_24 : decode cX10_image 24 = .ok (.iconst 0, 1) := by decide +kernel
theorem dX10_image_25 : decode cX10_image 25 = .ok (.sipush 320, 3) := by decide +kernel
theorem dX10_image_28 : decode cX10_image 28 = .ok (.invokestatic 227, 3) := by decide +kernel
theorem dX10_image_31 : decode cX10_image 31 = .ok (.aload_n 0, 1) := by decide +kernel
theorem dX10_image_32 : decode cX10_image 32 = .ok (.getfield 27, 3) := by decide +kernel
theorem dX10_image_35 : decode cX10_image 35 = .ok (.iconst 0, 1) := by decide +kernel
theorem dX10_image_36 : decode cX10_image 36 = .ok (.aload_n 0, 1) := by decide +kernel
theorem dX10_image_37 : decode cX10_image 37 = .ok (.getfield 33, 3) := by decide +kernel
theorem dX10_image_40 : decode cX10_image 40 = .ok (.iconst 0, 1) := by decide +kernel
theorem dX10_image_41 : decode cX10_image 41 = .ok (.iconst 4, 1) := by decide +kernel
theorem dX10_image_42 : decode cX10_image 42 = .ok (.invokestatic 227, 3) := by decide +kernel
theorem dX10_image_45 : decode cX10_image 45 = .ok (.aload_n 0, 1) := by decide +kernel
theorem dX10_image_46 : decode cX10_image 46 = .ok (.aload_n 0, 1) := by decide +kernel
theorem dX10_image_47 : decode cX10_image 47 = .ok (.getfield 100, 3) := by decide +kernel
theorem dX10_image_50 : decode cX10_image 50 = .ok (.putfield 283, 3) := by decide +kernel
theorem dX10_image_53 : decode cX10_image 53 = .ok (.aload_n 0, 1) := by decide +kernel
theorem dX10_image_54 : decode cX10_image 54 = .ok (.aload_n 0, 1) := by decide +kernel
theorem dX10_image_55 : decode cX10_image 55 = .ok (.getfield 110, 3) := by decide +kernel
theorem dX10_image_58 : decode cX10_image 58 = .ok (.putfield 286, 3) := by decide +kernel
theorem dX10_image_61 : decode cX10_image 61 = .ok (.aload_n 0, 1) := by decide +kernel
theorem dX10_image_62 : decode cX10_image 62 = .ok (.iconst 1, 1) := by decide +kernel
theorem dX10_image_63 : decode cX10_image 63 = .ok (.putfield 289, 3) := by decide +kernel
theorem dX10_image_66 : decode cX10_image 66 = .ok (.aload_n 0, 1) := by decide +kernel
theorem dX10_image_67 : decode cX10_image 67 = .ok (.getfield 11, 3) := by decide +kernel
theorem dX10_image_70 : decode cX10_image 70 = .ok (.bipush 60, 2) := by decide +kernel
theorem dX10_image_72 : decode cX10_image 72 = .ok (.iaload, 1) := by decide +kernel
theorem dX10_image_73 : decode cX10_image 73 = .ok (.ireturn, 1) := by decide +kernel
theorem dX10_back_0 : decode cX10_back 0 = .ok (.aload_n 0, 1) := by decide +kernel
theorem dX10_back_1 : decode cX10_back 1 = .ok (.getfield 289, 3) := by decide +kernel
theorem dX10_back_4 : decode cX10_back 4 = .ok (.ifCond .ne 6, 3) := by decide +kernel
theorem dX10_back_7 : decode cX10_back 7 = .ok (.bipush (-3), 2) := by decide +kernel
theorem dX10_back_9 : decode cX10_back 9 = .ok (.ireturn, 1) := by decide +kernel
set_option maxRecDepth 20000 in
theorem ggX10_sheet_X10_isSheet : GoodIn wsX10_sheet wsX10_isSheet := goodIn_r _ [8, 9, 10, 11, 7, 12] (by decide +kernel) (by decide +kernel)
set_option maxRecDepth 20000 in
theorem gX10_sheet_X10_isSheet : GoodIn wsX10_sheet (va_wsS RX10 273 yX10_isSheet wsX10_isSheet) := goodIn_app (goodIn_of _ (by decide +kernel)) ggX10_sheet_X10_isSheet
set_option maxRecDepth 20000 in
theorem ggX10_sheet_X10_isIn : GoodIn wsX10_sheet wsX10_isIn := goodIn_r _ [12] (by decide +kernel) (by decide +kernel)
set_option maxRecDepth 20000 in
theorem gX10_sheet_X10_isIn : GoodIn wsX10_sheet (va_wsS RX10 67 yX10_isIn wsX10_isIn) := goodIn_app (goodIn_of _ (by decide +kernel)) ggX10_sheet_X10_isIn
theorem dX10_sheet_0 : decode cX10_sheet 0 = .ok (.iload_n 1, 1) := by decide +kernel
theorem dX10_sheet_1 : decode cX10_sheet 1 = .ok (.invokestatic 273, 3) := by decide +kernel
theorem dX10_sheet_4 : decode cX10_sheet 4 = .ok (.ifCond .eq 26, 3) := by decide +kernel
theorem dX10_sheet_7 : decode cX10_sheet 7 = .ok (.iload_n 2, 1) := by decide +kernel
theorem dX10_sheet_8 : decode cX10_sheet 8 = .ok (.i2l, 1) := by decide +kernel
theorem dX10_sheet_9 : decode cX10_sheet 9 = .ok (.ldc2_w 293, 3) := by decide +kernel
theorem dX10_sheet_12 : decode cX10_sheet 12 = .ok (.lconst 1, 1) := by decide +kernel
theorem dX10_sheet_13 : decode cX10_sheet 13 = .ok (.invokestatic 67, 3) := by decide +kernel
theorem dX10_sheet_16 : decode cX10_sheet 16 = .ok (.ifCond .eq 14, 3) := by decide +kernel
theorem dX10_sheet_19 : decode cX10_sheet 19 = .ok (.iload_n 2, 1) := by decide +kernel
theorem dX10_sheet_20 : decode cX10_sheet 20 = .ok (.iconst (-1), 1) := by decide +kernel
theorem dX10_sheet_21 : decode cX10_sheet 21 = .ok (.if_icmp .eq 12, 3) := by decide +kernel
theorem dX10_sheet_24 : decode cX10_sheet 24 = .ok (.iload_n 3, 1) := by decide +kernel
theorem dX10_sheet_25 : decode cX10_sheet 25 = .ok (.bipush 60, 2) := by decide +kernel
theorem dX10_sheet_27 : decode cX10_sheet 27 = .ok (.if_icmp .le 6, 3) := by decide +kernel
theorem dX10_sheet_30 : decode cX10_sheet 30 = .ok (.bipush (-2), 2) := by decide +kernel
theorem dX10_sheet_32 : decode cX10_sheet 32 = .ok (.ireturn, 1) := by decide +kernel
theorem dX10_sheet_33 : decode cX10_sheet 33 = .ok (.iload_n 2, 1) := by decide +kernel
theorem dX10_sheet_34 : decode cX10_sheet 34 = .ok (.iconst (-1), 1) := by decide +kernel
theorem dX10_sheet_35 : decode cX10_sheet 35 = .ok (.if_icmp .eq 10, 3) := by decide +kernel
theorem dX10_sheet_38 : decode cX10_sheet 38 = .ok (.iload_n 3, 1) := by decide +kernel
theorem dX10_sheet_39 : decode cX10_sheet 39 = .ok (.ifCond .ge 6, 3) := by decide +kernel
theorem dX10_sheet_42 : decode cX10_sheet 42 = .ok (.bipush (-14), 2) := by decide +kernel
theorem dX10_sheet_44 : decode cX10_sheet 44 = .ok (.ireturn, 1) := by decide +kernel
theorem dX10_sheet_45 : decode cX10_sheet 45 = .ok (.aload_n 0, 1) := by decide +kernel
theorem dX10_sheet_46 : decode cX10_sheet 46 = .ok (.getfield 55, 3) := by decide +kernel
theorem dX10_sheet_49 : decode cX10_sheet 49 = .ok (.iload_n 1, 1) := by decide +kernel
theorem dX10_sheet_50 : decode cX10_sheet 50 = .ok (.iload_n 2, 1) := by decide +kernel
theorem dX10_sheet_51 : decode cX10_sheet 51 = .ok (.iastore, 1) := by decide +kernel
theorem dX10_sheet_52 : decode cX10_sheet 52 = .ok (.aload_n 0, 1) := by decide +kernel
theorem dX10_sheet_53 : decode cX10_sheet 53 = .ok (.getfield 58, 3) := by decide +kernel
theorem dX10_sheet_56 : decode cX10_sheet 56 = .ok (.iload_n 1, 1) := by decide +kernel
theorem dX10_sheet_57 : decode cX10_sheet 57 = .ok (.iload_n 2, 1) := by decide +kernel
theorem dX10_sheet_58 : decode cX10_sheet 58 = .ok (.iconst (-1), 1) := by decide +kernel
theorem dX10_sheet_59 : decode cX10_sheet 59 = .ok (.if_icmp .ne 7, 3) := by decide +kernel
theorem dX10_sheet_62 : decode cX10_sheet 62 = .ok (.iconst 0, 1) := by decide +kernel
theorem dX10_sheet_63 : decode cX10_sheet 63 = .ok (.goto 4, 3) := by decide +kernel
theorem dX10_sheet_66 : decode cX10_sheet 66 = .ok (.iload_n 3, 1) := by decide +kernel
theorem dX10_sheet_67 : decode cX10_sheet 67 = .ok (.iastore, 1) := by decide +kernel
theorem dX10_sheet_68 : decode cX10_sheet 68 = .ok (.iconst 0, 1) := by decide +kernel
theorem dX10_sheet_69 : decode cX10_sheet 69 = .ok (.istore 4, 2) := by decide +kernel
theorem dX10_sheet_71 : decode cX10_sheet 71 = .ok (.iload 4, 2) := by decide +kernel
theorem dX10_sheet_73 : decode cX10_sheet 73 = .ok (.bipush 60, 2) := by decide +kernel
theorem dX10_sheet_75 : decode cX10_sheet 75 = .ok (.if_icmp .ge 22, 3) := by decide +kernel
theorem dX10_sheet_78 : decode cX10_sheet 78 = .ok (.aload_n 0, 1) := by decide +kernel
theorem dX10_sheet_79 : decode cX10_sheet 79 = .ok (.getfield 61, 3) := by decide +kernel
theorem dX10_sheet_82 : decode cX10_sheet 82 = .ok (.bipush 60, 2) := by decide +kernel
theorem dX10_sheet_84 : decode cX10_sheet 84 = .ok (.iload_n 1, 1) := by decide +kernel
theorem dX10_sheet_85 : decode cX10_sheet 85 = .ok (.imul, 1) := by decide +kernel
theorem dX10_sheet_86 : decode cX10_sheet 86 = .ok (.iload 4, 2) := by decide +kernel
theorem dX10_sheet_88 : decode cX10_sheet 88 = .ok (.iadd, 1) := by decide +kernel
theorem dX10_sheet_89 : decode cX10_sheet 89 = .ok (.iconst 0, 1) := by decide +kernel
theorem dX10_sheet_90 : decode cX10_sheet 90 = .ok (.iastore, 1) := by decide +kernel
theorem dX10_sheet_91 : decode cX10_sheet 91 = .ok (.iinc 4 1, 3) := by decide +kernel
theorem dX10_sheet_94 : decode cX10_sheet 94 = .ok (.goto (-23), 3) := by decide +kernel
theorem dX10_sheet_97 : decode cX10_sheet 97 = .ok (.iconst 1, 1) := by decide +kernel
theorem dX10_sheet_98 : decode cX10_sheet 98 = .ok (.ireturn, 1) := by decide +kernel
set_option maxRecDepth 20000 in
theorem ggX10_put_X10_isSheet : GoodIn wsX10_put wsX10_isSheet := goodIn_r _ [7, 8, 9, 10, 6, 11] (by decide +kernel) (by decide +kernel)
set_option maxRecDepth 20000 in
theorem gX10_put_X10_isSheet : GoodIn wsX10_put (va_wsS RX10 273 yX10_isSheet wsX10_isSheet) := goodIn_app (goodIn_of _ (by decide +kernel)) ggX10_put_X10_isSheet
theorem dX10_put_0 : decode cX10_put 0 = .ok (.iload_n 1, 1) := by decide +kernel
theorem dX10_put_1 : decode cX10_put 1 = .ok (.invokestatic 273, 3) := by decide +kernel
theorem dX10_put_4 : decode cX10_put 4 = .ok (.ifCond .ne 6, 3) := by decide +kernel
theorem dX10_put_7 : decode cX10_put 7 = .ok (.bipush (-2), 2) := by decide +kernel
theorem dX10_put_9 : decode cX10_put 9 = .ok (.ireturn, 1) := by decide +kernel
theorem dX10_put_10 : decode cX10_put 10 = .ok (.aload_n 0, 1) := by decide +kernel
theorem dX10_put_11 : decode cX10_put 11 = .ok (.getfield 55, 3) := by decide +kernel
theorem dX10_put_14 : decode cX10_put 14 = .ok (.iload_n 1, 1) := by decide +kernel
theorem dX10_put_15 : decode cX10_put 15 = .ok (.iaload, 1) := by decide +kernel
theorem dX10_put_16 : decode cX10_put 16 = .ok (.iconst (-1), 1) := by decide +kernel
theorem dX10_put_17 : decode cX10_put 17 = .ok (.if_icmp .ne 6, 3) := by decide +kernel
theorem dX10_put_20 : decode cX10_put 20 = .ok (.bipush (-11), 2) := by decide +kernel
theorem dX10_put_22 : decode cX10_put 22 = .ok (.ireturn, 1) := by decide +kernel
set_option maxRecDepth 20000 in
theorem ggX10_copy_X10_isSheet : GoodIn wsX10_copy wsX10_isSheet := goodIn_r _ [12, 13, 14, 15, 11, 16] (by decide +kernel) (by decide +kernel)
set_option maxRecDepth 20000 in
theorem gX10_copy_X10_isSheet : GoodIn wsX10_copy (va_wsS RX10 273 yX10_isSheet wsX10_isSheet) := goodIn_app (goodIn_of _ (by decide +kernel)) ggX10_copy_X10_isSheet
theorem dX10_copy_0 : decode cX10_copy 0 = .ok (.iload_n 1, 1) := by decide +kernel
theorem dX10_copy_1 : decode cX10_copy 1 = .ok (.invokestatic 273, 3) := by decide +kernel
theorem dX10_copy_4 : decode cX10_copy 4 = .ok (.ifCond .eq 10, 3) := by decide +kernel
theorem dX10_copy_7 : decode cX10_copy 7 = .ok (.iload_n 3, 1) := by decide +kernel
theorem dX10_copy_8 : decode cX10_copy 8 = .ok (.invokestatic 273, 3) := by decide +kernel
theorem dX10_copy_11 : decode cX10_copy 11 = .ok (.ifCond .ne 6, 3) := by decide +kernel
theorem dX10_copy_14 : decode cX10_copy 14 = .ok (.bipush (-2), 2) := by decide +kernel
theorem dX10_copy_16 : decode cX10_copy 16 = .ok (.ireturn, 1) := by decide +kernel
theorem dX10_copy_17 : decode cX10_copy 17 = .ok (.aload_n 0, 1) := by decide +kernel
theorem dX10_copy_18 : decode cX10_copy 18 = .ok (.getfield 55, 3) := by decide +kernel
theorem dX10_copy_21 : decode cX10_copy 21 = .ok (.iload_n 1, 1) := by decide +kernel
theorem dX10_copy_22 : decode cX10_copy 22 = .ok (.iaload, 1) := by decide +kernel
theorem dX10_copy_23 : decode cX10_copy 23 = .ok (.iconst (-1), 1) := by decide +kernel
theorem dX10_copy_24 : decode cX10_copy 24 = .ok (.if_icmp .eq 13, 3) := by decide +kernel
theorem dX10_copy_37 : decode cX10_copy 37 = .ok (.bipush (-11), 2) := by decide +kernel
theorem dX10_copy_39 : decode cX10_copy 39 = .ok (.ireturn, 1) := by decide +kernel
set_option maxRecDepth 20000 in
theorem ggX10_load_X10_isSheet : GoodIn wsX10_load wsX10_isSheet := goodIn_r _ [8, 3, 9, 10, 7, 11] (by decide +kernel) (by decide +kernel)
set_option maxRecDepth 20000 in
theorem gX10_load_X10_isSheet : GoodIn wsX10_load (va_wsS RX10 273 yX10_isSheet wsX10_isSheet) := goodIn_app (goodIn_of _ (by decide +kernel)) ggX10_load_X10_isSheet
set_option maxRecDepth 20000 in
theorem ggX10_load_X10_isIn : GoodIn wsX10_load wsX10_isIn := goodIn_r _ [11] (by decide +kernel) (by decide +kernel)
set_option maxRecDepth 20000 in
theorem gX10_load_X10_isIn : GoodIn wsX10_load (va_wsS RX10 67 yX10_isIn wsX10_isIn) := goodIn_app (goodIn_of _ (by decide +kernel)) ggX10_load_X10_isIn
theorem dX10_load_0 : decode cX10_load 0 = .ok (.iload_n 1, 1) := by decide +kernel
theorem dX10_load_1 : decode cX10_load 1 = .ok (.invokestatic 273, 3) := by decide +kernel
theorem dX10_load_4 : decode cX10_load 4 = .ok (.ifCond .eq 26, 3) := by decide +kernel
theorem dX10_load_7 : decode cX10_load 7 = .ok (.iload_n 2, 1) := by decide +kernel
theorem dX10_load_8 : decode cX10_load 8 = .ok (.i2l, 1) := by decide +kernel
theorem dX10_load_9 : decode cX10_load 9 = .ok (.lconst 0, 1) := by decide +kernel
theorem dX10_load_10 : decode cX10_load 10 = .ok (.lconst 1, 1) := by decide +kernel
theorem dX10_load_11 : decode cX10_load 11 = .ok (.invokestatic 67, 3) := by decide +kernel
theorem dX10_load_14 : decode cX10_load 14 = .ok (.ifCond .eq 16, 3) := by decide +kernel
theorem dX10_load_17 : decode cX10_load 17 = .ok (.iload 4, 2) := by decide +kernel
theorem dX10_load_19 : decode cX10_load 19 = .ok (.i2l, 1) := by decide +kernel
theorem dX10_load_20 : decode cX10_load 20 = .ok (.lconst 0, 1) := by decide +kernel
theorem dX10_load_21 : decode cX10_load 21 = .ok (.ldc2_w 295, 3) := by decide +kernel
theorem dX10_load_24 : decode cX10_load 24 = .ok (.invokestatic 67, 3) := by decide +kernel
theorem dX10_load_27 : decode cX10_load 27 = .ok (.ifCond .ne 6, 3) := by decide +kernel
theorem dX10_load_30 : decode cX10_load 30 = .ok (.bipush (-2), 2) := by decide +kernel
theorem dX10_load_32 : decode cX10_load 32 = .ok (.ireturn, 1) := by decide +kernel
theorem dX10_load_33 : decode cX10_load 33 = .ok (.aload_n 0, 1) := by decide +kernel
theorem dX10_load_34 : decode cX10_load 34 = .ok (.getfield 55, 3) := by decide +kernel
theorem dX10_load_37 : decode cX10_load 37 = .ok (.iload_n 1, 1) := by decide +kernel
theorem dX10_load_38 : decode cX10_load 38 = .ok (.iaload, 1) := by decide +kernel
theorem dX10_load_39 : decode cX10_load 39 = .ok (.iconst (-1), 1) := by decide +kernel
theorem dX10_load_40 : decode cX10_load 40 = .ok (.if_icmp .eq 16, 3) := by decide +kernel
theorem dX10_load_56 : decode cX10_load 56 = .ok (.aload_n 0, 1) := by decide +kernel
theorem dX10_load_57 : decode cX10_load 57 = .ok (.getfield 55, 3) := by decide +kernel
theorem dX10_load_60 : decode cX10_load 60 = .ok (.iload_n 1, 1) := by decide +kernel
theorem dX10_load_61 : decode cX10_load 61 = .ok (.iaload, 1) := by decide +kernel
theorem dX10_load_62 : decode cX10_load 62 = .ok (.iconst (-1), 1) := by decide +kernel
theorem dX10_load_63 : decode cX10_load 63 = .ok (.if_icmp .ne 6, 3) := by decide +kernel
theorem dX10_load_66 : decode cX10_load 66 = .ok (.bipush (-11), 2) := by decide +kernel
theorem dX10_load_68 : decode cX10_load 68 = .ok (.ireturn, 1) := by decide +kernel
abbrev vwCl : List vw_C := [(RX0, TX0, 13), (RX1, TX1, 1), (RX3, TX3, 3), (RX4, TX4, 5), (RX5, TX5, 4), (RX6, TX6, 8), (RX7, TX7, 3), (RX8, TX8, 2), (RX9, TX9, 13), (RX10, TX10, 32)]
end
section
-- small rows on numbers: a branch of the machine, read over the integers
theorem i_lt {x y : Int32} (h : x < y) : x.toInt < y.toInt := Int32.lt_iff_toInt_lt.mp h
theorem i_nlt {x y : Int32} (h : ¬ x < y) : y.toInt ≤ x.toInt := Int.not_lt.mp (fun q => h (Int32.lt_iff_toInt_lt.mpr q))
theorem i_le {x y : Int32} (h : x ≤ y) : x.toInt ≤ y.toInt := Int32.le_iff_toInt_le.mp h
theorem i_nle {x y : Int32} (h : ¬ x ≤ y) : y.toInt < x.toInt := Int.not_le.mp (fun q => h (Int32.le_iff_toInt_le.mpr q))
theorem i_eq {x y : Int32} (h : x = y) : x.toInt = y.toInt := by rw [h]
theorem i_ne {x y : Int32} (h : ¬ x = y) : ¬ x.toInt = y.toInt := fun q => h (Int32.toInt_inj.mp q)
theorem cj_v (x y : Int64) : (x < y ∧ lg_cmp x y = -1) ∨ (x = y ∧ lg_cmp x y = 0) ∨ (y < x ∧ lg_cmp x y = 1) := by
  by_cases h1 : y < x
  · exact Or.inr (Or.inr ⟨h1, by simp [lg_cmp, h1]⟩)
  · by_cases h2 : x = y
    · exact Or.inr (Or.inl ⟨h2, by simp [lg_cmp, h1, h2]⟩)
    · have h3 : x < y := by
        have a : ¬ y.toInt < x.toInt := fun q => h1 (Int64.lt_iff_toInt_lt.mpr q)
        have b : ¬ x.toInt = y.toInt := fun q => h2 (Int64.toInt_inj.mp q)
        exact Int64.lt_iff_toInt_lt.mpr (by omega)
      exact Or.inl ⟨h3, by simp [lg_cmp, h1, h2]⟩
theorem cj_i (x y : Int64) : (x.toInt < y.toInt ∧ (lg_cmp x y).toInt = -1) ∨ (x.toInt = y.toInt ∧ (lg_cmp x y).toInt = 0) ∨ (y.toInt < x.toInt ∧ (lg_cmp x y).toInt = 1) := by
  rcases cj_v x y with ⟨a, b⟩ | ⟨a, b⟩ | ⟨a, b⟩
  · exact Or.inl ⟨Int64.lt_iff_toInt_lt.mp a, by rw [b]; decide⟩
  · exact Or.inr (Or.inl ⟨by rw [a], by rw [b]; decide⟩)
  · exact Or.inr (Or.inr ⟨Int64.lt_iff_toInt_lt.mp a, by rw [b]; decide⟩)
theorem z_0 : (0 : Int32).toInt = 0 := by decide
theorem cj_lt {x y : Int64} (h : lg_cmp x y < 0) : x.toInt < y.toInt := by
  have a := i_lt h; have b := cj_i x y; rw [z_0] at a; omega
theorem cj_nlt {x y : Int64} (h : ¬ lg_cmp x y < 0) : y.toInt ≤ x.toInt := by
  have a := i_nlt h; have b := cj_i x y; rw [z_0] at a; omega
theorem cj_ge {x y : Int64} (h : 0 ≤ lg_cmp x y) : y.toInt ≤ x.toInt := by
  have a := i_le h; have b := cj_i x y; rw [z_0] at a; omega
theorem cj_nge {x y : Int64} (h : ¬ 0 ≤ lg_cmp x y) : x.toInt < y.toInt := by
  have a := i_nle h; have b := cj_i x y; rw [z_0] at a; omega
theorem cj_gt {x y : Int64} (h : 0 < lg_cmp x y) : y.toInt < x.toInt := by
  have a := i_lt h; have b := cj_i x y; rw [z_0] at a; omega
theorem cj_ngt {x y : Int64} (h : ¬ 0 < lg_cmp x y) : x.toInt ≤ y.toInt := by
  have a := i_nlt h; have b := cj_i x y; rw [z_0] at a; omega
theorem cj_le {x y : Int64} (h : lg_cmp x y ≤ 0) : x.toInt ≤ y.toInt := by
  have a := i_le h; have b := cj_i x y; rw [z_0] at a; omega
theorem cj_nle {x y : Int64} (h : ¬ lg_cmp x y ≤ 0) : y.toInt < x.toInt := by
  have a := i_nle h; have b := cj_i x y; rw [z_0] at a; omega
theorem cj_eq {x y : Int64} (h : lg_cmp x y = 0) : x.toInt = y.toInt := by
  have a := i_eq h; have b := cj_i x y; rw [z_0] at a; omega
theorem cj_ne {x y : Int64} (h : ¬ lg_cmp x y = 0) : ¬ x.toInt = y.toInt := by
  have a := i_ne h; have b := cj_i x y; rw [z_0] at a; omega
theorem i_bm {n : Int} (h1 : -2147483648 ≤ n) (h2 : n ≤ 2147483647) : n.bmod (2 ^ 32) = n := by
  rw [Int.bmod_def]
  split <;> omega
theorem i_add {x y z : Int32} (h : z = x + y) (h1 : -2147483648 ≤ x.toInt + y.toInt) (h2 : x.toInt + y.toInt ≤ 2147483647) : z.toInt = x.toInt + y.toInt := by
  rw [h, Int32.toInt_add]
  exact i_bm h1 h2
theorem i_sub {x y z : Int32} (h : z = x - y) (h1 : -2147483648 ≤ x.toInt - y.toInt) (h2 : x.toInt - y.toInt ≤ 2147483647) : z.toInt = x.toInt - y.toInt := by
  rw [h, Int32.toInt_sub]
  exact i_bm h1 h2
theorem i_mul {x y z : Int32} (h : z = x * y) (h1 : -2147483648 ≤ x.toInt * y.toInt) (h2 : x.toInt * y.toInt ≤ 2147483647) : z.toInt = x.toInt * y.toInt := by
  rw [h, Int32.toInt_mul]
  exact i_bm h1 h2
theorem i_nat {x : Int32} {k : Nat} (h : x.toInt = k) : x.toNatClampNeg = k := by
  show x.toInt.toNat = k
  omega
theorem i_natlt {x : Int32} {k : Nat} (h0 : 0 ≤ x.toInt) (h : x.toInt < k) : x.toNatClampNeg < k := by
  show x.toInt.toNat < k
  omega
end
section
set_option maxRecDepth 100000 in
set_option maxHeartbeats 4000000 in
/-- Kinds.isKind -/
theorem c_X2_isKind (l : Launch) (dC : Nat → ClassId) (dI : Nat → Nat → Nat) (p0 : Int32) (sz : Nat) : Met l yX2_isKind wsX2_isKind ({ frames := 0, cells := 0, slots := 0, locals := 0 }) (va_Pc [.int p0] (fun U => U.heap.size = sz ∧ va_P (dC, dI) vwCl [] U.heap ∧ va_K (dC, dI) vwCl [] U ∧ va_D (fun _ => True) [])) (va_Qi (fun (r : Int32) (_ : Unit) => (r = 1 ∧ 0 ≤ p0.toInt ∧ p0.toInt < 5) ∨ (r = 0 ∧ ¬(0 ≤ p0.toInt ∧ p0.toInt < 5))) (fun (_ : Unit) (t : State) => va_P (dC, dI) vwCl [] t.heap ∧ va_K (dC, dI) vwCl [] t ∧ va_D (va_A [] sz) []) (va_A [] sz)) 0 0 (va_A [] sz) := by
  refine Met.ofW (cc := cX2_isKind) (maxL := 1) (ret := (some .boolean)) (by decide) rfl ?_
  intro p e s m args below meth c s₁ B hml hv
  obtain ⟨rfl, hsz, hP, hK, hD0⟩ := hv
  have hx := B.exec
  have hb := B.bytes
  have hr := B.returns
  have hts := atoms_spec (ws := wsX2_isKind) B.pre
  have hown : s.vm.findClass RX2 = some m.cls := findClass_of_methodNamed B.named
  have hlocks := B.notSynchronized
  subst hsz
  have hD := hD0.self (sz := s.heap.size)
  generalize hAe : va_A [] s.heap.size = A at hD ⊢
  have hA : ∀ q : Nat, s.heap.size ≤ q → A q := fun q h => by rw [← hAe]; exact Or.inr h
  have hS : va_S A s.heap s.heap [] := va_S.rf
  have hP : va_P (dC, dI) vwCl [] s.heap := hP
  have hl := lv_entry ([.int p0]) (n := 1) (Nat.le_of_ble_eq_true rfl)
  rw [lg_entry_eq]
  generalize (lg_sl ([.int p0]) ++ List.replicate (1 - (lg_sl ([.int p0])).length) Slot.unset).toArray = ls at hl ⊢
  have hl : lv_has ls 1 [(0, .int p0)] := hl
  have k_0 : (0 : Int32).toInt = 0 := by decide
  have k_1 : (1 : Int32).toInt = 1 := by decide
  have k_5 : (5 : Int32).toInt = 5 := by decide
  refine lv_iload_n hx hb dX2_isKind_0 rfl (lv_at hl 0 rfl) ?_
  refine lv_if_lt (tgt := 13) hx hb dX2_isKind_1 (by decide) (fun c1 => ?_) (fun c1 => ?_)
  · skip
    have f_c1 := i_lt c1
    refine lv_iconst (v := 0) hx hb dX2_isKind_13 (by decide) ?_
    have hP9 := hP.sub (ws' := []) [] rfl
    have hD9 := hD.sub (ws' := []) [] (by decide) rfl
    have hK9 := hK.sub (tys' := []) [] rfl
    exact W.zret (v := 0) hx hb hr (by decide) (fun t ht hW => ⟨⟨0, (), rfl, Or.inr (⟨rfl, by omega⟩), by rw [ht]; exact hP9, va_K.moved hW.alike hK9, hD9⟩, hS.F ht⟩) hS.2.2 dX2_isKind_14
  · skip
    have f_c1 := i_nlt c1
    refine lv_iload_n hx hb dX2_isKind_4 rfl (lv_at hl 0 rfl) ?_
    refine lv_iconst (v := 5) hx hb dX2_isKind_5 (by decide) ?_
    refine lv_icmp_ge (tgt := 13) hx hb dX2_isKind_6 (by decide) (fun c2 => ?_) (fun c2 => ?_)
    · skip
      have f_c2 := i_le c2
      refine lv_iconst (v := 0) hx hb dX2_isKind_13 (by decide) ?_
      have hP9 := hP.sub (ws' := []) [] rfl
      have hD9 := hD.sub (ws' := []) [] (by decide) rfl
      have hK9 := hK.sub (tys' := []) [] rfl
      exact W.zret (v := 0) hx hb hr (by decide) (fun t ht hW => ⟨⟨0, (), rfl, Or.inr (⟨rfl, by omega⟩), by rw [ht]; exact hP9, va_K.moved hW.alike hK9, hD9⟩, hS.F ht⟩) hS.2.2 dX2_isKind_14
    · skip
      have f_c2 := i_nle c2
      refine lv_iconst (v := 1) hx hb dX2_isKind_9 (by decide) ?_
      refine lv_goto (tgt := 14) hx hb dX2_isKind_10 (by decide) ?_
      have hP9 := hP.sub (ws' := []) [] rfl
      have hD9 := hD.sub (ws' := []) [] (by decide) rfl
      have hK9 := hK.sub (tys' := []) [] rfl
      exact W.zret (v := 1) hx hb hr (by decide) (fun t ht hW => ⟨⟨1, (), rfl, Or.inl ⟨rfl, by omega⟩, by rw [ht]; exact hP9, va_K.moved hW.alike hK9, hD9⟩, hS.F ht⟩) hS.2.2 dX2_isKind_14

set_option maxRecDepth 100000 in
set_option maxHeartbeats 4000000 in
/-- isWithin -/
theorem c_X9_isWithin (l : Launch) (dC : Nat → ClassId) (dI : Nat → Nat → Nat) (p0 : Int32) (p1 : Int32) (sz : Nat) : Met l yX9_isWithin wsX9_isWithin ({ frames := 0, cells := 0, slots := 0, locals := 0 }) (va_Pc [.int p0, .int p1] (fun U => U.heap.size = sz ∧ va_P (dC, dI) vwCl [] U.heap ∧ va_K (dC, dI) vwCl [] U ∧ va_D (fun _ => True) [])) (va_Qi (fun (r : Int32) (_ : Unit) => (r = 1 ∧ 0 ≤ p0.toInt ∧ p0.toInt ≤ p1.toInt) ∨ (r = 0 ∧ ¬(0 ≤ p0.toInt ∧ p0.toInt ≤ p1.toInt))) (fun (_ : Unit) (t : State) => va_P (dC, dI) vwCl [] t.heap ∧ va_K (dC, dI) vwCl [] t ∧ va_D (va_A [] sz) []) (va_A [] sz)) 0 0 (va_A [] sz) := by
  refine Met.ofW (cc := cX9_isWithin) (maxL := 2) (ret := (some .boolean)) (by decide) rfl ?_
  intro p e s m args below meth c s₁ B hml hv
  obtain ⟨rfl, hsz, hP, hK, hD0⟩ := hv
  have hx := B.exec
  have hb := B.bytes
  have hr := B.returns
  have hts := atoms_spec (ws := wsX9_isWithin) B.pre
  have hown : s.vm.findClass RX9 = some m.cls := findClass_of_methodNamed B.named
  have hlocks := B.notSynchronized
  subst hsz
  have hD := hD0.self (sz := s.heap.size)
  generalize hAe : va_A [] s.heap.size = A at hD ⊢
  have hA : ∀ q : Nat, s.heap.size ≤ q → A q := fun q h => by rw [← hAe]; exact Or.inr h
  have hS : va_S A s.heap s.heap [] := va_S.rf
  have hP : va_P (dC, dI) vwCl [] s.heap := hP
  have hl := lv_entry ([.int p0, .int p1]) (n := 2) (Nat.le_of_ble_eq_true rfl)
  rw [lg_entry_eq]
  generalize (lg_sl ([.int p0, .int p1]) ++ List.replicate (2 - (lg_sl ([.int p0, .int p1])).length) Slot.unset).toArray = ls at hl ⊢
  have hl : lv_has ls 2 [(0, .int p0), (1, .int p1)] := hl
  have k_0 : (0 : Int32).toInt = 0 := by decide
  have k_1 : (1 : Int32).toInt = 1 := by decide
  refine lv_iload_n hx hb dX9_isWithin_0 rfl (lv_at hl 0 rfl) ?_
  refine lv_if_lt (tgt := 13) hx hb dX9_isWithin_1 (by decide) (fun c1 => ?_) (fun c1 => ?_)
  · skip
    have f_c1 := i_lt c1
    refine lv_iconst (v := 0) hx hb dX9_isWithin_13 (by decide) ?_
    have hP9 := hP.sub (ws' := []) [] rfl
    have hD9 := hD.sub (ws' := []) [] (by decide) rfl
    have hK9 := hK.sub (tys' := []) [] rfl
    exact W.zret (v := 0) hx hb hr (by decide) (fun t ht hW => ⟨⟨0, (), rfl, Or.inr (⟨rfl, by omega⟩), by rw [ht]; exact hP9, va_K.moved hW.alike hK9, hD9⟩, hS.F ht⟩) hS.2.2 dX9_isWithin_14
  · skip
    have f_c1 := i_nlt c1
    refine lv_iload_n hx hb dX9_isWithin_4 rfl (lv_at hl 0 rfl) ?_
    refine lv_iload_n hx hb dX9_isWithin_5 rfl (lv_at hl 1 rfl) ?_
    refine lv_icmp_gt (tgt := 13) hx hb dX9_isWithin_6 (by decide) (fun c2 => ?_) (fun c2 => ?_)
    · skip
      have f_c2 := i_lt c2
      refine lv_iconst (v := 0) hx hb dX9_isWithin_13 (by decide) ?_
      have hP9 := hP.sub (ws' := []) [] rfl
      have hD9 := hD.sub (ws' := []) [] (by decide) rfl
      have hK9 := hK.sub (tys' := []) [] rfl
      exact W.zret (v := 0) hx hb hr (by decide) (fun t ht hW => ⟨⟨0, (), rfl, Or.inr (⟨rfl, by omega⟩), by rw [ht]; exact hP9, va_K.moved hW.alike hK9, hD9⟩, hS.F ht⟩) hS.2.2 dX9_isWithin_14
    · skip
      have f_c2 := i_nlt c2
      refine lv_iconst (v := 1) hx hb dX9_isWithin_9 (by decide) ?_
      refine lv_goto (tgt := 14) hx hb dX9_isWithin_10 (by decide) ?_
      have hP9 := hP.sub (ws' := []) [] rfl
      have hD9 := hD.sub (ws' := []) [] (by decide) rfl
      have hK9 := hK.sub (tys' := []) [] rfl
      exact W.zret (v := 1) hx hb hr (by decide) (fun t ht hW => ⟨⟨1, (), rfl, Or.inl ⟨rfl, by omega⟩, by rw [ht]; exact hP9, va_K.moved hW.alike hK9, hD9⟩, hS.F ht⟩) hS.2.2 dX9_isWithin_14

set_option maxRecDepth 100000 in
set_option maxHeartbeats 4000000 in
/-- isByte -/
theorem c_X9_isByte (l : Launch) (dC : Nat → ClassId) (dI : Nat → Nat → Nat) (p0 : Int32) (sz : Nat) : Met l yX9_isByte wsX9_isByte ({ frames := 1, cells := 0, slots := 0, locals := 21 }) (va_Pc [.int p0] (fun U => U.heap.size = sz ∧ va_P (dC, dI) vwCl [] U.heap ∧ va_K (dC, dI) vwCl [] U ∧ va_D (fun _ => True) [])) (va_Qi (fun (r : Int32) (_ : Unit) => (r = 1 ∧ 0 ≤ p0.toInt ∧ p0.toInt ≤ 255) ∨ (r = 0 ∧ ¬(0 ≤ p0.toInt ∧ p0.toInt ≤ 255))) (fun (_ : Unit) (t : State) => va_P (dC, dI) vwCl [] t.heap ∧ va_K (dC, dI) vwCl [] t ∧ va_D (va_A [] sz) []) (va_A [] sz)) 0 0 (va_A [] sz) := by
  refine Met.ofW (cc := cX9_isByte) (maxL := 1) (ret := (some .boolean)) (by decide) rfl ?_
  intro p e s m args below meth c s₁ B hml hv
  obtain ⟨rfl, hsz, hP, hK, hD0⟩ := hv
  have hx := B.exec
  have hb := B.bytes
  have hr := B.returns
  have hts := atoms_spec (ws := wsX9_isByte) B.pre
  have hown : s.vm.findClass RX9 = some m.cls := findClass_of_methodNamed B.named
  have hlocks := B.notSynchronized
  subst hsz
  have hD := hD0.self (sz := s.heap.size)
  generalize hAe : va_A [] s.heap.size = A at hD ⊢
  have hA : ∀ q : Nat, s.heap.size ≤ q → A q := fun q h => by rw [← hAe]; exact Or.inr h
  have hS : va_S A s.heap s.heap [] := va_S.rf
  have hP : va_P (dC, dI) vwCl [] s.heap := hP
  have hl := lv_entry ([.int p0]) (n := 1) (Nat.le_of_ble_eq_true rfl)
  rw [lg_entry_eq]
  generalize (lg_sl ([.int p0]) ++ List.replicate (1 - (lg_sl ([.int p0])).length) Slot.unset).toArray = ls at hl ⊢
  have hl : lv_has ls 1 [(0, .int p0)] := hl
  have k_0 : (0 : Int32).toInt = 0 := by decide
  have k_1 : (1 : Int32).toInt = 1 := by decide
  have k_255 : (255 : Int32).toInt = 255 := by decide
  refine lv_iload_n hx hb dX9_isByte_0 rfl (lv_at hl 0 rfl) ?_
  refine lv_sipush (v := 255) hx hb dX9_isByte_1 (by decide) ?_
  have hPc := hP.sub (ws' := []) [] rfl
  have hDc := hD.sub (ws' := []) [] (by decide) rfl
  have hKc := hK.sub (tys' := []) [] rfl
  have hFc := va_free (wc := []) hD hS hA [] rfl
  refine va_calli (va_runS (As := [.int p0, .int 255]) (rest := []) ⟨hx, hb, hml, hown, hts⟩ (c_X9_isWithin l dC dI p0 255 s.heap.size) (va_cwS 2 hts gX9_isByte_X9_isWithin rfl rfl rfl (by decide +kernel) ⟨Nat.le_of_ble_eq_true rfl, Nat.le_of_ble_eq_true rfl⟩) ⟨fun a U g mk q => by obtain ⟨q0, q1, qP, qK, qD⟩ := q; exact ⟨q0, q1, qP, va_K.moved (u := U) (U := U.calling g mk a) (Vm.Alike.refl U.vm) qK, qD⟩, fun U hU hW => ⟨rfl, by rw [hU], by rw [hU]; exact hPc, va_K.moved hW.alike hKc, hDc.weaken (fun _ _ _ _ => trivial)⟩⟩ rfl rfl hl.1 rfl (lv_room (Nat.le_of_ble_eq_true rfl)) dX9_isByte_4 ⟨Nat.le_of_ble_eq_true rfl, Nat.le_of_ble_eq_true rfl⟩) hS (fun q _ h => hFc q h) hFc (fun r1 u t H1 locs ht hvm hw hB hz1 hk1 hS => ?_)
  obtain ⟨hP1, hK1, hD1⟩ := hB
  rw [ht] at hP1
  have hK1 := va_K.moved hvm.symm hK1
  try dsimp only at hw
  obtain ⟨hP, hD⟩ := va_join (wr := []) (w1 := []) hP hD [] [] rfl rfl (by decide) (by decide) hk1 hFc hP1 hD1
  have hK := (hK.sub (tys' := []) [] rfl).app hK1
  generalize H1 = H at hP hS ⊢
  have hP : va_P (dC, dI) vwCl [] H := hP
  have hD : va_D A [] := hD
  have hK : va_K (dC, dI) vwCl [] s := hK
  rcases hw with ⟨e_r1, f_r1⟩ | ⟨e_r1, f_r1⟩
  · subst e_r1
    have hP9 := hP.sub (ws' := []) [] rfl
    have hD9 := hD.sub (ws' := []) [] (by decide) rfl
    have hK9 := hK.sub (tys' := []) [] rfl
    exact W.zret (v := 1) hx hb hr (by decide) (fun t ht hW => ⟨⟨1, (), rfl, Or.inl ⟨rfl, by omega⟩, by rw [ht]; exact hP9, va_K.moved hW.alike hK9, hD9⟩, hS.F ht⟩) hS.2.2 dX9_isByte_7
  · subst e_r1
    have hP9 := hP.sub (ws' := []) [] rfl
    have hD9 := hD.sub (ws' := []) [] (by decide) rfl
    have hK9 := hK.sub (tys' := []) [] rfl
    exact W.zret (v := 0) hx hb hr (by decide) (fun t ht hW => ⟨⟨0, (), rfl, Or.inr (⟨rfl, by omega⟩), by rw [ht]; exact hP9, va_K.moved hW.alike hK9, hD9⟩, hS.F ht⟩) hS.2.2 dX9_isByte_7

set_option maxRecDepth 100000 in
set_option maxHeartbeats 4000000 in
/-- isSheet -/
theorem c_X9_isSheet (l : Launch) (dC : Nat → ClassId) (dI : Nat → Nat → Nat) (p0 : Int32) (sz : Nat) : Met l yX9_isSheet wsX9_isSheet ({ frames := 0, cells := 0, slots := 0, locals := 0 }) (va_Pc [.int p0] (fun U => U.heap.size = sz ∧ va_P (dC, dI) vwCl [] U.heap ∧ va_K (dC, dI) vwCl [] U ∧ va_D (fun _ => True) [])) (va_Qi (fun (r : Int32) (_ : Unit) => (r = 1 ∧ 0 ≤ p0.toInt ∧ p0.toInt < 4) ∨ (r = 0 ∧ ¬(0 ≤ p0.toInt ∧ p0.toInt < 4))) (fun (_ : Unit) (t : State) => va_P (dC, dI) vwCl [] t.heap ∧ va_K (dC, dI) vwCl [] t ∧ va_D (va_A [] sz) []) (va_A [] sz)) 0 0 (va_A [] sz) := by
  refine Met.ofW (cc := cX9_isSheet) (maxL := 1) (ret := (some .boolean)) (by decide) rfl ?_
  intro p e s m args below meth c s₁ B hml hv
  obtain ⟨rfl, hsz, hP, hK, hD0⟩ := hv
  have hx := B.exec
  have hb := B.bytes
  have hr := B.returns
  have hts := atoms_spec (ws := wsX9_isSheet) B.pre
  have hown : s.vm.findClass RX9 = some m.cls := findClass_of_methodNamed B.named
  have hlocks := B.notSynchronized
  subst hsz
  have hD := hD0.self (sz := s.heap.size)
  generalize hAe : va_A [] s.heap.size = A at hD ⊢
  have hA : ∀ q : Nat, s.heap.size ≤ q → A q := fun q h => by rw [← hAe]; exact Or.inr h
  have hS : va_S A s.heap s.heap [] := va_S.rf
  have hP : va_P (dC, dI) vwCl [] s.heap := hP
  have hl := lv_entry ([.int p0]) (n := 1) (Nat.le_of_ble_eq_true rfl)
  rw [lg_entry_eq]
  generalize (lg_sl ([.int p0]) ++ List.replicate (1 - (lg_sl ([.int p0])).length) Slot.unset).toArray = ls at hl ⊢
  have hl : lv_has ls 1 [(0, .int p0)] := hl
  have k_0 : (0 : Int32).toInt = 0 := by decide
  have k_1 : (1 : Int32).toInt = 1 := by decide
  have k_4 : (4 : Int32).toInt = 4 := by decide
  refine lv_iload_n hx hb dX9_isSheet_0 rfl (lv_at hl 0 rfl) ?_
  refine lv_if_lt (tgt := 13) hx hb dX9_isSheet_1 (by decide) (fun c1 => ?_) (fun c1 => ?_)
  · skip
    have f_c1 := i_lt c1
    refine lv_iconst (v := 0) hx hb dX9_isSheet_13 (by decide) ?_
    have hP9 := hP.sub (ws' := []) [] rfl
    have hD9 := hD.sub (ws' := []) [] (by decide) rfl
    have hK9 := hK.sub (tys' := []) [] rfl
    exact W.zret (v := 0) hx hb hr (by decide) (fun t ht hW => ⟨⟨0, (), rfl, Or.inr (⟨rfl, by omega⟩), by rw [ht]; exact hP9, va_K.moved hW.alike hK9, hD9⟩, hS.F ht⟩) hS.2.2 dX9_isSheet_14
  · skip
    have f_c1 := i_nlt c1
    refine lv_iload_n hx hb dX9_isSheet_4 rfl (lv_at hl 0 rfl) ?_
    refine lv_iconst (v := 4) hx hb dX9_isSheet_5 (by decide) ?_
    refine lv_icmp_ge (tgt := 13) hx hb dX9_isSheet_6 (by decide) (fun c2 => ?_) (fun c2 => ?_)
    · skip
      have f_c2 := i_le c2
      refine lv_iconst (v := 0) hx hb dX9_isSheet_13 (by decide) ?_
      have hP9 := hP.sub (ws' := []) [] rfl
      have hD9 := hD.sub (ws' := []) [] (by decide) rfl
      have hK9 := hK.sub (tys' := []) [] rfl
      exact W.zret (v := 0) hx hb hr (by decide) (fun t ht hW => ⟨⟨0, (), rfl, Or.inr (⟨rfl, by omega⟩), by rw [ht]; exact hP9, va_K.moved hW.alike hK9, hD9⟩, hS.F ht⟩) hS.2.2 dX9_isSheet_14
    · skip
      have f_c2 := i_nle c2
      refine lv_iconst (v := 1) hx hb dX9_isSheet_9 (by decide) ?_
      refine lv_goto (tgt := 14) hx hb dX9_isSheet_10 (by decide) ?_
      have hP9 := hP.sub (ws' := []) [] rfl
      have hD9 := hD.sub (ws' := []) [] (by decide) rfl
      have hK9 := hK.sub (tys' := []) [] rfl
      exact W.zret (v := 1) hx hb hr (by decide) (fun t ht hW => ⟨⟨1, (), rfl, Or.inl ⟨rfl, by omega⟩, by rw [ht]; exact hP9, va_K.moved hW.alike hK9, hD9⟩, hS.F ht⟩) hS.2.2 dX9_isSheet_14

set_option maxRecDepth 100000 in
set_option maxHeartbeats 4000000 in
/-- isIn -/
theorem c_X10_isIn (l : Launch) (dC : Nat → ClassId) (dI : Nat → Nat → Nat) (p0 : Int64) (p1 : Int64) (p2 : Int64) (sz : Nat) : Met l yX10_isIn wsX10_isIn ({ frames := 0, cells := 0, slots := 0, locals := 0 }) (va_Pc [.long p0, .long p1, .long p2] (fun U => U.heap.size = sz ∧ va_P (dC, dI) vwCl [] U.heap ∧ va_K (dC, dI) vwCl [] U ∧ va_D (fun _ => True) [])) (va_Qi (fun (r : Int32) (_ : Unit) => (r = 1 ∧ p1.toInt ≤ p0.toInt ∧ p0.toInt ≤ p2.toInt) ∨ (r = 0 ∧ ¬(p1.toInt ≤ p0.toInt ∧ p0.toInt ≤ p2.toInt))) (fun (_ : Unit) (t : State) => va_P (dC, dI) vwCl [] t.heap ∧ va_K (dC, dI) vwCl [] t ∧ va_D (va_A [] sz) []) (va_A [] sz)) 0 0 (va_A [] sz) := by
  refine Met.ofW (cc := cX10_isIn) (maxL := 6) (ret := (some .boolean)) (by decide) rfl ?_
  intro p e s m args below meth c s₁ B hml hv
  obtain ⟨rfl, hsz, hP, hK, hD0⟩ := hv
  have hx := B.exec
  have hb := B.bytes
  have hr := B.returns
  have hts := atoms_spec (ws := wsX10_isIn) B.pre
  have hown : s.vm.findClass RX10 = some m.cls := findClass_of_methodNamed B.named
  have hlocks := B.notSynchronized
  subst hsz
  have hD := hD0.self (sz := s.heap.size)
  generalize hAe : va_A [] s.heap.size = A at hD ⊢
  have hA : ∀ q : Nat, s.heap.size ≤ q → A q := fun q h => by rw [← hAe]; exact Or.inr h
  have hS : va_S A s.heap s.heap [] := va_S.rf
  have hP : va_P (dC, dI) vwCl [] s.heap := hP
  have hl := lv_entry ([.long p0, .long p1, .long p2]) (n := 6) (Nat.le_of_ble_eq_true rfl)
  rw [lg_entry_eq]
  generalize (lg_sl ([.long p0, .long p1, .long p2]) ++ List.replicate (6 - (lg_sl ([.long p0, .long p1, .long p2])).length) Slot.unset).toArray = ls at hl ⊢
  have hl : lv_has ls 6 [(0, .long p0), (2, .long p1), (4, .long p2)] := hl
  have k_0 : (0 : Int32).toInt = 0 := by decide
  have k_1 : (1 : Int32).toInt = 1 := by decide
  refine lv_lload_n hx hb dX10_isIn_0 rfl (lv_at hl 0 rfl) ?_
  refine lv_lload_n hx hb dX10_isIn_1 rfl (lv_at hl 1 rfl) ?_
  refine W.lcmp hx hb dX10_isIn_2 ?_
  refine lv_if_lt (tgt := 17) hx hb dX10_isIn_3 (by decide) (fun c1 => ?_) (fun c1 => ?_)
  · skip
    have f_c1 := cj_lt c1
    refine lv_iconst (v := 0) hx hb dX10_isIn_17 (by decide) ?_
    have hP9 := hP.sub (ws' := []) [] rfl
    have hD9 := hD.sub (ws' := []) [] (by decide) rfl
    have hK9 := hK.sub (tys' := []) [] rfl
    exact W.zret (v := 0) hx hb hr (by decide) (fun t ht hW => ⟨⟨0, (), rfl, Or.inr (⟨rfl, by omega⟩), by rw [ht]; exact hP9, va_K.moved hW.alike hK9, hD9⟩, hS.F ht⟩) hS.2.2 dX10_isIn_18
  · skip
    have f_c1 := cj_nlt c1
    refine lv_lload_n hx hb dX10_isIn_6 rfl (lv_at hl 0 rfl) ?_
    refine lv_lload hx hb dX10_isIn_7 (lv_at hl 2 rfl) ?_
    refine W.lcmp hx hb dX10_isIn_9 ?_
    refine lv_if_gt (tgt := 17) hx hb dX10_isIn_10 (by decide) (fun c2 => ?_) (fun c2 => ?_)
    · skip
      have f_c2 := cj_gt c2
      refine lv_iconst (v := 0) hx hb dX10_isIn_17 (by decide) ?_
      have hP9 := hP.sub (ws' := []) [] rfl
      have hD9 := hD.sub (ws' := []) [] (by decide) rfl
      have hK9 := hK.sub (tys' := []) [] rfl
      exact W.zret (v := 0) hx hb hr (by decide) (fun t ht hW => ⟨⟨0, (), rfl, Or.inr (⟨rfl, by omega⟩), by rw [ht]; exact hP9, va_K.moved hW.alike hK9, hD9⟩, hS.F ht⟩) hS.2.2 dX10_isIn_18
    · skip
      have f_c2 := cj_ngt c2
      refine lv_iconst (v := 1) hx hb dX10_isIn_13 (by decide) ?_
      refine lv_goto (tgt := 18) hx hb dX10_isIn_14 (by decide) ?_
      have hP9 := hP.sub (ws' := []) [] rfl
      have hD9 := hD.sub (ws' := []) [] (by decide) rfl
      have hK9 := hK.sub (tys' := []) [] rfl
      exact W.zret (v := 1) hx hb hr (by decide) (fun t ht hW => ⟨⟨1, (), rfl, Or.inl ⟨rfl, by omega⟩, by rw [ht]; exact hP9, va_K.moved hW.alike hK9, hD9⟩, hS.F ht⟩) hS.2.2 dX10_isIn_18

set_option maxRecDepth 100000 in
set_option maxHeartbeats 4000000 in
/-- isByte of the model -/
theorem c_X10_isByte (l : Launch) (dC : Nat → ClassId) (dI : Nat → Nat → Nat) (p0 : Int32) (sz : Nat) : Met l yX10_isByte wsX10_isByte ({ frames := 1, cells := 0, slots := 0, locals := 25 }) (va_Pc [.int p0] (fun U => U.heap.size = sz ∧ va_P (dC, dI) vwCl [] U.heap ∧ va_K (dC, dI) vwCl [] U ∧ va_D (fun _ => True) [])) (va_Qi (fun (r : Int32) (_ : Unit) => (r = 1 ∧ 0 ≤ p0.toInt ∧ p0.toInt ≤ 255) ∨ (r = 0 ∧ ¬(0 ≤ p0.toInt ∧ p0.toInt ≤ 255))) (fun (_ : Unit) (t : State) => va_P (dC, dI) vwCl [] t.heap ∧ va_K (dC, dI) vwCl [] t ∧ va_D (va_A [] sz) []) (va_A [] sz)) 0 0 (va_A [] sz) := by
  refine Met.ofW (cc := cX10_isByte) (maxL := 1) (ret := (some .boolean)) (by decide) rfl ?_
  intro p e s m args below meth c s₁ B hml hv
  obtain ⟨rfl, hsz, hP, hK, hD0⟩ := hv
  have hx := B.exec
  have hb := B.bytes
  have hr := B.returns
  have hts := atoms_spec (ws := wsX10_isByte) B.pre
  have hown : s.vm.findClass RX10 = some m.cls := findClass_of_methodNamed B.named
  have hlocks := B.notSynchronized
  subst hsz
  have hD := hD0.self (sz := s.heap.size)
  generalize hAe : va_A [] s.heap.size = A at hD ⊢
  have hA : ∀ q : Nat, s.heap.size ≤ q → A q := fun q h => by rw [← hAe]; exact Or.inr h
  have hS : va_S A s.heap s.heap [] := va_S.rf
  have hP : va_P (dC, dI) vwCl [] s.heap := hP
  have hl := lv_entry ([.int p0]) (n := 1) (Nat.le_of_ble_eq_true rfl)
  rw [lg_entry_eq]
  generalize (lg_sl ([.int p0]) ++ List.replicate (1 - (lg_sl ([.int p0])).length) Slot.unset).toArray = ls at hl ⊢
  have hl : lv_has ls 1 [(0, .int p0)] := hl
  have k_0 : (0 : Int32).toInt = 0 := by decide
  have k_1 : (1 : Int32).toInt = 1 := by decide
  have kl_0 : (0 : Int64).toInt = 0 := by decide
  have kl_255 : (255 : Int64).toInt = 255 := by decide
  refine lv_iload_n hx hb dX10_isByte_0 rfl (lv_at hl 0 rfl) ?_
  refine lv_i2l (v := p0.toInt64) hx hb dX10_isByte_1 rfl ?_
  have t_t1 := Int32.toInt_toInt64 p0
  refine lv_lconst (v := 0) hx hb dX10_isByte_2 (by decide) ?_
  refine lv_ldc2 hx hb hown (hts (.constantLong RX10 117 (255)) (List.mem_of_getElem? (i := 1) (by decide +kernel))) dX10_isByte_3 ?_
  have hPc := hP.sub (ws' := []) [] rfl
  have hDc := hD.sub (ws' := []) [] (by decide) rfl
  have hKc := hK.sub (tys' := []) [] rfl
  have hFc := va_free (wc := []) hD hS hA [] rfl
  refine va_calli (va_runS (As := [.long p0.toInt64, .long 0, .long 255]) (rest := []) ⟨hx, hb, hml, hown, hts⟩ (c_X10_isIn l dC dI (p0.toInt64) 0 255 s.heap.size) (va_cwS 3 hts gX10_isByte_X10_isIn rfl rfl rfl (by decide +kernel) ⟨Nat.le_of_ble_eq_true rfl, Nat.le_of_ble_eq_true rfl⟩) ⟨fun a U g mk q => by obtain ⟨q0, q1, qP, qK, qD⟩ := q; exact ⟨q0, q1, qP, va_K.moved (u := U) (U := U.calling g mk a) (Vm.Alike.refl U.vm) qK, qD⟩, fun U hU hW => ⟨rfl, by rw [hU], by rw [hU]; exact hPc, va_K.moved hW.alike hKc, hDc.weaken (fun _ _ _ _ => trivial)⟩⟩ rfl rfl hl.1 rfl (lv_room (Nat.le_of_ble_eq_true rfl)) dX10_isByte_6 ⟨Nat.le_of_ble_eq_true rfl, Nat.le_of_ble_eq_true rfl⟩) hS (fun q _ h => hFc q h) hFc (fun r2 u t H1 locs ht hvm hw hB hz1 hk1 hS => ?_)
  obtain ⟨hP1, hK1, hD1⟩ := hB
  rw [ht] at hP1
  have hK1 := va_K.moved hvm.symm hK1
  try dsimp only at hw
  obtain ⟨hP, hD⟩ := va_join (wr := []) (w1 := []) hP hD [] [] rfl rfl (by decide) (by decide) hk1 hFc hP1 hD1
  have hK := (hK.sub (tys' := []) [] rfl).app hK1
  generalize H1 = H at hP hS ⊢
  have hP : va_P (dC, dI) vwCl [] H := hP
  have hD : va_D A [] := hD
  have hK : va_K (dC, dI) vwCl [] s := hK
  rcases hw with ⟨e_r2, f_r2⟩ | ⟨e_r2, f_r2⟩
  · subst e_r2
    have hP9 := hP.sub (ws' := []) [] rfl
    have hD9 := hD.sub (ws' := []) [] (by decide) rfl
    have hK9 := hK.sub (tys' := []) [] rfl
    exact W.zret (v := 1) hx hb hr (by decide) (fun t ht hW => ⟨⟨1, (), rfl, Or.inl ⟨rfl, by omega⟩, by rw [ht]; exact hP9, va_K.moved hW.alike hK9, hD9⟩, hS.F ht⟩) hS.2.2 dX10_isByte_9
  · subst e_r2
    have hP9 := hP.sub (ws' := []) [] rfl
    have hD9 := hD.sub (ws' := []) [] (by decide) rfl
    have hK9 := hK.sub (tys' := []) [] rfl
    exact W.zret (v := 0) hx hb hr (by decide) (fun t ht hW => ⟨⟨0, (), rfl, Or.inr (⟨rfl, by omega⟩), by rw [ht]; exact hP9, va_K.moved hW.alike hK9, hD9⟩, hS.F ht⟩) hS.2.2 dX10_isByte_9

set_option maxRecDepth 100000 in
set_option maxHeartbeats 4000000 in
/-- isSheet of the model -/
theorem c_X10_isSheet (l : Launch) (dC : Nat → ClassId) (dI : Nat → Nat → Nat) (p0 : Int32) (sz : Nat) : Met l yX10_isSheet wsX10_isSheet ({ frames := 1, cells := 0, slots := 0, locals := 25 }) (va_Pc [.int p0] (fun U => U.heap.size = sz ∧ va_P (dC, dI) vwCl [] U.heap ∧ va_K (dC, dI) vwCl [] U ∧ va_D (fun _ => True) [])) (va_Qi (fun (r : Int32) (_ : Unit) => (r = 1 ∧ 0 ≤ p0.toInt ∧ p0.toInt < 4) ∨ (r = 0 ∧ ¬(0 ≤ p0.toInt ∧ p0.toInt < 4))) (fun (_ : Unit) (t : State) => va_P (dC, dI) vwCl [] t.heap ∧ va_K (dC, dI) vwCl [] t ∧ va_D (va_A [] sz) []) (va_A [] sz)) 0 0 (va_A [] sz) := by
  refine Met.ofW (cc := cX10_isSheet) (maxL := 1) (ret := (some .boolean)) (by decide) rfl ?_
  intro p e s m args below meth c s₁ B hml hv
  obtain ⟨rfl, hsz, hP, hK, hD0⟩ := hv
  have hx := B.exec
  have hb := B.bytes
  have hr := B.returns
  have hts := atoms_spec (ws := wsX10_isSheet) B.pre
  have hown : s.vm.findClass RX10 = some m.cls := findClass_of_methodNamed B.named
  have hlocks := B.notSynchronized
  subst hsz
  have hD := hD0.self (sz := s.heap.size)
  generalize hAe : va_A [] s.heap.size = A at hD ⊢
  have hA : ∀ q : Nat, s.heap.size ≤ q → A q := fun q h => by rw [← hAe]; exact Or.inr h
  have hS : va_S A s.heap s.heap [] := va_S.rf
  have hP : va_P (dC, dI) vwCl [] s.heap := hP
  have hl := lv_entry ([.int p0]) (n := 1) (Nat.le_of_ble_eq_true rfl)
  rw [lg_entry_eq]
  generalize (lg_sl ([.int p0]) ++ List.replicate (1 - (lg_sl ([.int p0])).length) Slot.unset).toArray = ls at hl ⊢
  have hl : lv_has ls 1 [(0, .int p0)] := hl
  have k_0 : (0 : Int32).toInt = 0 := by decide
  have k_1 : (1 : Int32).toInt = 1 := by decide
  have kl_0 : (0 : Int64).toInt = 0 := by decide
  have kl_3 : (3 : Int64).toInt = 3 := by decide
  refine lv_iload_n hx hb dX10_isSheet_0 rfl (lv_at hl 0 rfl) ?_
  refine lv_i2l (v := p0.toInt64) hx hb dX10_isSheet_1 rfl ?_
  have t_t1 := Int32.toInt_toInt64 p0
  refine lv_lconst (v := 0) hx hb dX10_isSheet_2 (by decide) ?_
  refine lv_ldc2 hx hb hown (hts (.constantLong RX10 236 (3)) (List.mem_of_getElem? (i := 1) (by decide +kernel))) dX10_isSheet_3 ?_
  have hPc := hP.sub (ws' := []) [] rfl
  have hDc := hD.sub (ws' := []) [] (by decide) rfl
  have hKc := hK.sub (tys' := []) [] rfl
  have hFc := va_free (wc := []) hD hS hA [] rfl
  refine va_calli (va_runS (As := [.long p0.toInt64, .long 0, .long 3]) (rest := []) ⟨hx, hb, hml, hown, hts⟩ (c_X10_isIn l dC dI (p0.toInt64) 0 3 s.heap.size) (va_cwS 3 hts gX10_isSheet_X10_isIn rfl rfl rfl (by decide +kernel) ⟨Nat.le_of_ble_eq_true rfl, Nat.le_of_ble_eq_true rfl⟩) ⟨fun a U g mk q => by obtain ⟨q0, q1, qP, qK, qD⟩ := q; exact ⟨q0, q1, qP, va_K.moved (u := U) (U := U.calling g mk a) (Vm.Alike.refl U.vm) qK, qD⟩, fun U hU hW => ⟨rfl, by rw [hU], by rw [hU]; exact hPc, va_K.moved hW.alike hKc, hDc.weaken (fun _ _ _ _ => trivial)⟩⟩ rfl rfl hl.1 rfl (lv_room (Nat.le_of_ble_eq_true rfl)) dX10_isSheet_6 ⟨Nat.le_of_ble_eq_true rfl, Nat.le_of_ble_eq_true rfl⟩) hS (fun q _ h => hFc q h) hFc (fun r2 u t H1 locs ht hvm hw hB hz1 hk1 hS => ?_)
  obtain ⟨hP1, hK1, hD1⟩ := hB
  rw [ht] at hP1
  have hK1 := va_K.moved hvm.symm hK1
  try dsimp only at hw
  obtain ⟨hP, hD⟩ := va_join (wr := []) (w1 := []) hP hD [] [] rfl rfl (by decide) (by decide) hk1 hFc hP1 hD1
  have hK := (hK.sub (tys' := []) [] rfl).app hK1
  generalize H1 = H at hP hS ⊢
  have hP : va_P (dC, dI) vwCl [] H := hP
  have hD : va_D A [] := hD
  have hK : va_K (dC, dI) vwCl [] s := hK
  rcases hw with ⟨e_r2, f_r2⟩ | ⟨e_r2, f_r2⟩
  · subst e_r2
    have hP9 := hP.sub (ws' := []) [] rfl
    have hD9 := hD.sub (ws' := []) [] (by decide) rfl
    have hK9 := hK.sub (tys' := []) [] rfl
    exact W.zret (v := 1) hx hb hr (by decide) (fun t ht hW => ⟨⟨1, (), rfl, Or.inl ⟨rfl, by omega⟩, by rw [ht]; exact hP9, va_K.moved hW.alike hK9, hD9⟩, hS.F ht⟩) hS.2.2 dX10_isSheet_9
  · subst e_r2
    have hP9 := hP.sub (ws' := []) [] rfl
    have hD9 := hD.sub (ws' := []) [] (by decide) rfl
    have hK9 := hK.sub (tys' := []) [] rfl
    exact W.zret (v := 0) hx hb hr (by decide) (fun t ht hW => ⟨⟨0, (), rfl, Or.inr (⟨rfl, by omega⟩), by rw [ht]; exact hP9, va_K.moved hW.alike hK9, hD9⟩, hS.F ht⟩) hS.2.2 dX10_isSheet_9

theorem in_X0_has_X0 : ∀ w ∈ wsX00, w ∈ wsX0_has := fun _ h => List.mem_cons_of_mem _ (List.mem_append_right _ h)
set_option maxRecDepth 100000 in
set_option maxHeartbeats 4000000 in
/-- Books.has -/
theorem c_X0_has (l : Launch) (dC : Nat → ClassId) (dI : Nat → Nat → Nat) (h0 : Nat) (p0 : Int32) (v0 : Value) (v1 : Value) (v2 : Value) (v3 : Value) (v4 : Value) (v5 : Value) (v6 : Value) (acc : Int32) (v8 : Value) (v9 : Value) (v10 : Value) (v11 : Value) (v12 : Value) (sz : Nat) : Met l yX0_has wsX0_has ({ frames := 0, cells := 0, slots := 0, locals := 0 }) (va_Pc [.ref h0, .int p0] (fun U => U.heap.size = sz ∧ va_P (dC, dI) vwCl [(h0, .inr (0, [v0, v1, v2, v3, v4, v5, v6, .int acc, v8, v9, v10, v11, v12]))] U.heap ∧ va_K (dC, dI) vwCl [] U ∧ va_D (fun _ => True) [(h0, .inr (0, [v0, v1, v2, v3, v4, v5, v6, .int acc, v8, v9, v10, v11, v12]))])) (va_Qi (fun (r : Int32) (_ : Unit) => (r = 1 ∧ 0 ≤ p0.toInt ∧ p0.toInt < acc.toInt) ∨ (r = 0 ∧ ¬(0 ≤ p0.toInt ∧ p0.toInt < acc.toInt))) (fun (_ : Unit) (t : State) => va_P (dC, dI) vwCl [(h0, .inr (0, [v0, v1, v2, v3, v4, v5, v6, .int acc, v8, v9, v10, v11, v12]))] t.heap ∧ va_K (dC, dI) vwCl [] t ∧ va_D (va_A [(h0, .inr (0, [v0, v1, v2, v3, v4, v5, v6, .int acc, v8, v9, v10, v11, v12]))] sz) [(h0, .inr (0, [v0, v1, v2, v3, v4, v5, v6, .int acc, v8, v9, v10, v11, v12]))]) (va_A [(h0, .inr (0, [v0, v1, v2, v3, v4, v5, v6, .int acc, v8, v9, v10, v11, v12]))] sz)) 0 0 (va_A [(h0, .inr (0, [v0, v1, v2, v3, v4, v5, v6, .int acc, v8, v9, v10, v11, v12]))] sz) := by
  refine Met.ofW (cc := cX0_has) (maxL := 2) (ret := (some .boolean)) (by decide) rfl ?_
  intro p e s m args below meth c s₁ B hml hv
  obtain ⟨rfl, hsz, hP, hK, hD0⟩ := hv
  have hx := B.exec
  have hb := B.bytes
  have hr := B.returns
  have hts := atoms_spec (ws := wsX0_has) B.pre
  have hown : s.vm.findClass RX0 = some m.cls := findClass_of_methodNamed B.named
  have hlocks := B.notSynchronized
  subst hsz
  have hD := hD0.self (sz := s.heap.size)
  generalize hAe : va_A [(h0, .inr (0, [v0, v1, v2, v3, v4, v5, v6, .int acc, v8, v9, v10, v11, v12]))] s.heap.size = A at hD ⊢
  have hA : ∀ q : Nat, s.heap.size ≤ q → A q := fun q h => by rw [← hAe]; exact Or.inr h
  have hS : va_S A s.heap s.heap [] := va_S.rf
  have hP : va_P (dC, dI) vwCl [(h0, .inr (0, [v0, v1, v2, v3, v4, v5, v6, .int acc, v8, v9, v10, v11, v12]))] s.heap := hP
  have hl := lv_entry ([.ref h0, .int p0]) (n := 2) (Nat.le_of_ble_eq_true rfl)
  rw [lg_entry_eq]
  generalize (lg_sl ([.ref h0, .int p0]) ++ List.replicate (2 - (lg_sl ([.ref h0, .int p0])).length) Slot.unset).toArray = ls at hl ⊢
  have hl : lv_has ls 2 [(0, .ref h0), (1, .int p0)] := hl
  have k_0 : (0 : Int32).toInt = 0 := by decide
  have k_1 : (1 : Int32).toInt = 1 := by decide
  refine lv_iload_n hx hb dX0_has_0 rfl (lv_at hl 1 rfl) ?_
  refine lv_if_lt (tgt := 16) hx hb dX0_has_1 (by decide) (fun c1 => ?_) (fun c1 => ?_)
  · skip
    have f_c1 := i_lt c1
    refine lv_iconst (v := 0) hx hb dX0_has_16 (by decide) ?_
    have hP9 := hP.sub (ws' := [(h0, .inr (0, [v0, v1, v2, v3, v4, v5, v6, .int acc, v8, v9, v10, v11, v12]))]) [0] rfl
    have hD9 := hD.sub (ws' := [(h0, .inr (0, [v0, v1, v2, v3, v4, v5, v6, .int acc, v8, v9, v10, v11, v12]))]) [0] (by decide) rfl
    have hK9 := hK.sub (tys' := []) [] rfl
    exact W.zret (v := 0) hx hb hr (by decide) (fun t ht hW => ⟨⟨0, (), rfl, Or.inr (⟨rfl, by omega⟩), by rw [ht]; exact hP9, va_K.moved hW.alike hK9, hD9⟩, hS.F ht⟩) hS.2.2 dX0_has_17
  · skip
    have f_c1 := i_nlt c1
    refine lv_iload_n hx hb dX0_has_4 rfl (lv_at hl 1 rfl) ?_
    refine lv_aload_n hx hb dX0_has_5 rfl (lv_at hl 0 rfl) ?_
    refine va_get (D := (dC, dI)) (ci := 0) (v := .int acc) (C := RX0) (T := TX0) (N := 13) hx hb hts in_X0_has_X0 hown hK hP 0 rfl rfl 7 (by decide) (hts (.fieldLink RX0 34 "ClearingGates$Books" "accounts" "I") (List.mem_of_getElem? (i := 1) (by decide +kernel))) (fun _ h9 => h9) rfl dX0_has_6 ?_
    refine lv_icmp_ge (tgt := 16) hx hb dX0_has_9 (by decide) (fun c2 => ?_) (fun c2 => ?_)
    · skip
      have f_c2 := i_le c2
      refine lv_iconst (v := 0) hx hb dX0_has_16 (by decide) ?_
      have hP9 := hP.sub (ws' := [(h0, .inr (0, [v0, v1, v2, v3, v4, v5, v6, .int acc, v8, v9, v10, v11, v12]))]) [0] rfl
      have hD9 := hD.sub (ws' := [(h0, .inr (0, [v0, v1, v2, v3, v4, v5, v6, .int acc, v8, v9, v10, v11, v12]))]) [0] (by decide) rfl
      have hK9 := hK.sub (tys' := []) [] rfl
      exact W.zret (v := 0) hx hb hr (by decide) (fun t ht hW => ⟨⟨0, (), rfl, Or.inr (⟨rfl, by omega⟩), by rw [ht]; exact hP9, va_K.moved hW.alike hK9, hD9⟩, hS.F ht⟩) hS.2.2 dX0_has_17
    · skip
      have f_c2 := i_nle c2
      refine lv_iconst (v := 1) hx hb dX0_has_12 (by decide) ?_
      refine lv_goto (tgt := 17) hx hb dX0_has_13 (by decide) ?_
      have hP9 := hP.sub (ws' := [(h0, .inr (0, [v0, v1, v2, v3, v4, v5, v6, .int acc, v8, v9, v10, v11, v12]))]) [0] rfl
      have hD9 := hD.sub (ws' := [(h0, .inr (0, [v0, v1, v2, v3, v4, v5, v6, .int acc, v8, v9, v10, v11, v12]))]) [0] (by decide) rfl
      have hK9 := hK.sub (tys' := []) [] rfl
      exact W.zret (v := 1) hx hb hr (by decide) (fun t ht hW => ⟨⟨1, (), rfl, Or.inl ⟨rfl, by omega⟩, by rw [ht]; exact hP9, va_K.moved hW.alike hK9, hD9⟩, hS.F ht⟩) hS.2.2 dX0_has_17
end
section
theorem in_X0_open_X0 : ∀ w ∈ wsX00, w ∈ wsX0_open := fun _ h => List.mem_cons_of_mem _ (List.mem_append_right _ h)
set_option maxRecDepth 100000 in
set_option maxHeartbeats 4000000 in
/-- Books.open with no account: its number is 0 -/
theorem c_X0_open (l : Launch) (dC : Nat → ClassId) (dI : Nat → Nat → Nat) (h0 : Nat) (p0 : Int32) (p1 : Int32) (aq0 : Nat) (aq1 : Nat) (aq2 : Nat) (aq3 : Nat) (aq4 : Nat) (aq5 : Nat) (aq6 : Nat) (afees : Int64) (amis : Int32) (abel : Int32) (aref : Int32) (acau : Int32) (ak0 : ClassId) (ag0 : Nat → Int32) (ak1 : ClassId) (ag1 : Nat → Int32) (ak2 : ClassId) (ag2 : Nat → Int32) (ak3 : ClassId) (ag3 : Nat → Int32) (ak4 : ClassId) (ag4 : Nat → Int32) (ak5 : ClassId) (ag5 : Nat → Int32) (ak6 : ClassId) (ag6 : Nat → Int32) (sz : Nat) : Met l yX0_open wsX0_open ({ frames := 0, cells := 0, slots := 0, locals := 0 }) (va_Pc [.ref h0, .int p0, .int p1] (fun U => U.heap.size = sz ∧ va_P (dC, dI) vwCl [(h0, .inr (0, [.ref aq0, .ref aq1, .ref aq2, .ref aq3, .ref aq4, .ref aq5, .ref aq6, .int 0, .long afees, .int amis, .int abel, .int aref, .int acau])), (aq0, .inl (ak0, 8, .inl ag0)), (aq1, .inl (ak1, 8, .inl ag1)), (aq2, .inl (ak2, 8, .inl ag2)), (aq3, .inl (ak3, 8, .inl ag3)), (aq4, .inl (ak4, 8, .inl ag4)), (aq5, .inl (ak5, 8, .inl ag5)), (aq6, .inl (ak6, 8, .inl ag6))] U.heap ∧ va_K (dC, dI) vwCl [(ak0, .int), (ak1, .int), (ak2, .int), (ak3, .boolean), (ak4, .int), (ak5, .int), (ak6, .int)] U ∧ va_D (fun _ => True) [(h0, .inr (0, [.ref aq0, .ref aq1, .ref aq2, .ref aq3, .ref aq4, .ref aq5, .ref aq6, .int 0, .long afees, .int amis, .int abel, .int aref, .int acau])), (aq0, .inl (ak0, 8, .inl ag0)), (aq1, .inl (ak1, 8, .inl ag1)), (aq2, .inl (ak2, 8, .inl ag2)), (aq3, .inl (ak3, 8, .inl ag3)), (aq4, .inl (ak4, 8, .inl ag4)), (aq5, .inl (ak5, 8, .inl ag5)), (aq6, .inl (ak6, 8, .inl ag6))])) (va_Qi (fun (r : Int32) (_ : Unit) => r = 0) (fun (_ : Unit) (t : State) => va_P (dC, dI) vwCl [] t.heap ∧ va_K (dC, dI) vwCl [] t ∧ va_D (va_A [(h0, .inr (0, [.ref aq0, .ref aq1, .ref aq2, .ref aq3, .ref aq4, .ref aq5, .ref aq6, .int 0, .long afees, .int amis, .int abel, .int aref, .int acau])), (aq0, .inl (ak0, 8, .inl ag0)), (aq1, .inl (ak1, 8, .inl ag1)), (aq2, .inl (ak2, 8, .inl ag2)), (aq3, .inl (ak3, 8, .inl ag3)), (aq4, .inl (ak4, 8, .inl ag4)), (aq5, .inl (ak5, 8, .inl ag5)), (aq6, .inl (ak6, 8, .inl ag6))] sz) []) (va_A [(h0, .inr (0, [.ref aq0, .ref aq1, .ref aq2, .ref aq3, .ref aq4, .ref aq5, .ref aq6, .int 0, .long afees, .int amis, .int abel, .int aref, .int acau])), (aq0, .inl (ak0, 8, .inl ag0)), (aq1, .inl (ak1, 8, .inl ag1)), (aq2, .inl (ak2, 8, .inl ag2)), (aq3, .inl (ak3, 8, .inl ag3)), (aq4, .inl (ak4, 8, .inl ag4)), (aq5, .inl (ak5, 8, .inl ag5)), (aq6, .inl (ak6, 8, .inl ag6))] sz)) 0 0 (va_A [(h0, .inr (0, [.ref aq0, .ref aq1, .ref aq2, .ref aq3, .ref aq4, .ref aq5, .ref aq6, .int 0, .long afees, .int amis, .int abel, .int aref, .int acau])), (aq0, .inl (ak0, 8, .inl ag0)), (aq1, .inl (ak1, 8, .inl ag1)), (aq2, .inl (ak2, 8, .inl ag2)), (aq3, .inl (ak3, 8, .inl ag3)), (aq4, .inl (ak4, 8, .inl ag4)), (aq5, .inl (ak5, 8, .inl ag5)), (aq6, .inl (ak6, 8, .inl ag6))] sz) := by
  refine Met.ofW (cc := cX0_open) (maxL := 4) (ret := (some .int)) (by decide) rfl ?_
  intro p e s m args below meth c s₁ B hml hv
  obtain ⟨rfl, hsz, hP, hK, hD0⟩ := hv
  have hx := B.exec
  have hb := B.bytes
  have hr := B.returns
  have hts := atoms_spec (ws := wsX0_open) B.pre
  have hown : s.vm.findClass RX0 = some m.cls := findClass_of_methodNamed B.named
  have hlocks := B.notSynchronized
  subst hsz
  have hD := hD0.self (sz := s.heap.size)
  generalize hAe : va_A [(h0, .inr (0, [.ref aq0, .ref aq1, .ref aq2, .ref aq3, .ref aq4, .ref aq5, .ref aq6, .int 0, .long afees, .int amis, .int abel, .int aref, .int acau])), (aq0, .inl (ak0, 8, .inl ag0)), (aq1, .inl (ak1, 8, .inl ag1)), (aq2, .inl (ak2, 8, .inl ag2)), (aq3, .inl (ak3, 8, .inl ag3)), (aq4, .inl (ak4, 8, .inl ag4)), (aq5, .inl (ak5, 8, .inl ag5)), (aq6, .inl (ak6, 8, .inl ag6))] s.heap.size = A at hD ⊢
  have hA : ∀ q : Nat, s.heap.size ≤ q → A q := fun q h => by rw [← hAe]; exact Or.inr h
  have hS : va_S A s.heap s.heap [] := va_S.rf
  have hP : va_P (dC, dI) vwCl [(h0, .inr (0, [.ref aq0, .ref aq1, .ref aq2, .ref aq3, .ref aq4, .ref aq5, .ref aq6, .int 0, .long afees, .int amis, .int abel, .int aref, .int acau])), (aq0, .inl (ak0, 8, .inl ag0)), (aq1, .inl (ak1, 8, .inl ag1)), (aq2, .inl (ak2, 8, .inl ag2)), (aq3, .inl (ak3, 8, .inl ag3)), (aq4, .inl (ak4, 8, .inl ag4)), (aq5, .inl (ak5, 8, .inl ag5)), (aq6, .inl (ak6, 8, .inl ag6))] s.heap := hP
  have hl := lv_entry ([.ref h0, .int p0, .int p1]) (n := 4) (Nat.le_of_ble_eq_true rfl)
  rw [lg_entry_eq]
  generalize (lg_sl ([.ref h0, .int p0, .int p1]) ++ List.replicate (4 - (lg_sl ([.ref h0, .int p0, .int p1])).length) Slot.unset).toArray = ls at hl ⊢
  have hl : lv_has ls 4 [(0, .ref h0), (1, .int p0), (2, .int p1)] := hl
  have k_0 : (0 : Int32).toInt = 0 := by decide
  refine lv_aload_n hx hb dX0_open_0 rfl (lv_at hl 0 rfl) ?_
  refine va_get (D := (dC, dI)) (ci := 0) (v := .int 0) (C := RX0) (T := TX0) (N := 13) hx hb hts in_X0_open_X0 hown hK hP 0 rfl rfl 7 (by decide) (hts (.fieldLink RX0 34 "ClearingGates$Books" "accounts" "I") (List.mem_of_getElem? (i := 1) (by decide +kernel))) (fun _ h9 => h9) rfl dX0_open_1 ?_
  refine lv_istore_n (lv' := [(3, .int 0), (0, .ref h0), (1, .int p0), (2, .int p1)]) hx hb dX0_open_4 rfl hl (by decide) rfl (fun ls hl => ?_)
  refine lv_aload_n hx hb dX0_open_5 rfl (lv_at hl 1 rfl) ?_
  refine va_get (D := (dC, dI)) (ci := 0) (v := .ref aq0) (C := RX0) (T := TX0) (N := 13) hx hb hts in_X0_open_X0 hown hK hP 0 rfl rfl 0 (by decide) (hts (.fieldLink RX0 9 "ClearingGates$Books" "kinds" "[I") (List.mem_of_getElem? (i := 2) (by decide +kernel))) (fun _ h9 => h9) rfl dX0_open_6 ?_
  refine lv_iload_n hx hb dX0_open_9 rfl (lv_at hl 0 rfl) ?_
  refine lv_iload_n hx hb dX0_open_10 rfl (lv_at hl 2 rfl) ?_
  refine va_iast (D := (dC, dI)) hx hb hK hP hD hS 1 0 rfl rfl (vp_in_iff.mpr ⟨by decide, by decide⟩) dX0_open_11 (fun H locs hP hD hS => ?_)
  generalize e_g1 : (upd ag0 ((0 : Int32)).toNatClampNeg p0) = g1 at hP hD
  have hP : va_P (dC, dI) vwCl [(h0, .inr (0, [.ref aq0, .ref aq1, .ref aq2, .ref aq3, .ref aq4, .ref aq5, .ref aq6, .int 0, .long afees, .int amis, .int abel, .int aref, .int acau])), (aq0, .inl (ak0, 8, .inl g1)), (aq1, .inl (ak1, 8, .inl ag1)), (aq2, .inl (ak2, 8, .inl ag2)), (aq3, .inl (ak3, 8, .inl ag3)), (aq4, .inl (ak4, 8, .inl ag4)), (aq5, .inl (ak5, 8, .inl ag5)), (aq6, .inl (ak6, 8, .inl ag6))] H := hP
  have hD : va_D A [(h0, .inr (0, [.ref aq0, .ref aq1, .ref aq2, .ref aq3, .ref aq4, .ref aq5, .ref aq6, .int 0, .long afees, .int amis, .int abel, .int aref, .int acau])), (aq0, .inl (ak0, 8, .inl g1)), (aq1, .inl (ak1, 8, .inl ag1)), (aq2, .inl (ak2, 8, .inl ag2)), (aq3, .inl (ak3, 8, .inl ag3)), (aq4, .inl (ak4, 8, .inl ag4)), (aq5, .inl (ak5, 8, .inl ag5)), (aq6, .inl (ak6, 8, .inl ag6))] := hD
  refine lv_aload_n hx hb dX0_open_12 rfl (lv_at hl 1 rfl) ?_
  refine va_get (D := (dC, dI)) (ci := 0) (v := .ref aq1) (C := RX0) (T := TX0) (N := 13) hx hb hts in_X0_open_X0 hown hK hP 0 rfl rfl 1 (by decide) (hts (.fieldLink RX0 15 "ClearingGates$Books" "balances" "[I") (List.mem_of_getElem? (i := 3) (by decide +kernel))) (fun _ h9 => h9) rfl dX0_open_13 ?_
  refine lv_iload_n hx hb dX0_open_16 rfl (lv_at hl 0 rfl) ?_
  refine lv_iload_n hx hb dX0_open_17 rfl (lv_at hl 3 rfl) ?_
  refine va_iast (D := (dC, dI)) hx hb hK hP hD hS 2 1 rfl rfl (vp_in_iff.mpr ⟨by decide, by decide⟩) dX0_open_18 (fun H locs hP hD hS => ?_)
  generalize e_g2 : (upd ag1 ((0 : Int32)).toNatClampNeg p1) = g2 at hP hD
  have hP : va_P (dC, dI) vwCl [(h0, .inr (0, [.ref aq0, .ref aq1, .ref aq2, .ref aq3, .ref aq4, .ref aq5, .ref aq6, .int 0, .long afees, .int amis, .int abel, .int aref, .int acau])), (aq0, .inl (ak0, 8, .inl g1)), (aq1, .inl (ak1, 8, .inl g2)), (aq2, .inl (ak2, 8, .inl ag2)), (aq3, .inl (ak3, 8, .inl ag3)), (aq4, .inl (ak4, 8, .inl ag4)), (aq5, .inl (ak5, 8, .inl ag5)), (aq6, .inl (ak6, 8, .inl ag6))] H := hP
  have hD : va_D A [(h0, .inr (0, [.ref aq0, .ref aq1, .ref aq2, .ref aq3, .ref aq4, .ref aq5, .ref aq6, .int 0, .long afees, .int amis, .int abel, .int aref, .int acau])), (aq0, .inl (ak0, 8, .inl g1)), (aq1, .inl (ak1, 8, .inl g2)), (aq2, .inl (ak2, 8, .inl ag2)), (aq3, .inl (ak3, 8, .inl ag3)), (aq4, .inl (ak4, 8, .inl ag4)), (aq5, .inl (ak5, 8, .inl ag5)), (aq6, .inl (ak6, 8, .inl ag6))] := hD
  refine lv_aload_n hx hb dX0_open_19 rfl (lv_at hl 1 rfl) ?_
  refine va_get (D := (dC, dI)) (ci := 0) (v := .ref aq2) (C := RX0) (T := TX0) (N := 13) hx hb hts in_X0_open_X0 hown hK hP 0 rfl rfl 2 (by decide) (hts (.fieldLink RX0 18 "ClearingGates$Books" "limits" "[I") (List.mem_of_getElem? (i := 4) (by decide +kernel))) (fun _ h9 => h9) rfl dX0_open_20 ?_
  refine lv_iload_n hx hb dX0_open_23 rfl (lv_at hl 0 rfl) ?_
  refine lv_iconst (v := 0) hx hb dX0_open_24 (by decide) ?_
  refine va_iast (D := (dC, dI)) hx hb hK hP hD hS 3 2 rfl rfl (vp_in_iff.mpr ⟨by decide, by decide⟩) dX0_open_25 (fun H locs hP hD hS => ?_)
  generalize e_g3 : (upd ag2 ((0 : Int32)).toNatClampNeg 0) = g3 at hP hD
  have hP : va_P (dC, dI) vwCl [(h0, .inr (0, [.ref aq0, .ref aq1, .ref aq2, .ref aq3, .ref aq4, .ref aq5, .ref aq6, .int 0, .long afees, .int amis, .int abel, .int aref, .int acau])), (aq0, .inl (ak0, 8, .inl g1)), (aq1, .inl (ak1, 8, .inl g2)), (aq2, .inl (ak2, 8, .inl g3)), (aq3, .inl (ak3, 8, .inl ag3)), (aq4, .inl (ak4, 8, .inl ag4)), (aq5, .inl (ak5, 8, .inl ag5)), (aq6, .inl (ak6, 8, .inl ag6))] H := hP
  have hD : va_D A [(h0, .inr (0, [.ref aq0, .ref aq1, .ref aq2, .ref aq3, .ref aq4, .ref aq5, .ref aq6, .int 0, .long afees, .int amis, .int abel, .int aref, .int acau])), (aq0, .inl (ak0, 8, .inl g1)), (aq1, .inl (ak1, 8, .inl g2)), (aq2, .inl (ak2, 8, .inl g3)), (aq3, .inl (ak3, 8, .inl ag3)), (aq4, .inl (ak4, 8, .inl ag4)), (aq5, .inl (ak5, 8, .inl ag5)), (aq6, .inl (ak6, 8, .inl ag6))] := hD
  refine lv_aload_n hx hb dX0_open_26 rfl (lv_at hl 1 rfl) ?_
  refine va_get (D := (dC, dI)) (ci := 0) (v := .ref aq3) (C := RX0) (T := TX0) (N := 13) hx hb hts in_X0_open_X0 hown hK hP 0 rfl rfl 3 (by decide) (hts (.fieldLink RX0 21 "ClearingGates$Books" "gates" "[Z") (List.mem_of_getElem? (i := 5) (by decide +kernel))) (fun _ h9 => h9) rfl dX0_open_27 ?_
  refine lv_iload_n hx hb dX0_open_30 rfl (lv_at hl 0 rfl) ?_
  refine lv_iconst (v := 1) hx hb dX0_open_31 (by decide) ?_
  refine va_zast (D := (dC, dI)) hx hb hK hP hD hS 4 3 rfl rfl (vp_in_iff.mpr ⟨by decide, by decide⟩) dX0_open_32 (fun H locs hP hD hS => ?_)
  generalize e_g4 : (upd ag3 ((0 : Int32)).toNatClampNeg (vp_nar .boolean 1)) = g4 at hP hD
  have hP : va_P (dC, dI) vwCl [(h0, .inr (0, [.ref aq0, .ref aq1, .ref aq2, .ref aq3, .ref aq4, .ref aq5, .ref aq6, .int 0, .long afees, .int amis, .int abel, .int aref, .int acau])), (aq0, .inl (ak0, 8, .inl g1)), (aq1, .inl (ak1, 8, .inl g2)), (aq2, .inl (ak2, 8, .inl g3)), (aq3, .inl (ak3, 8, .inl g4)), (aq4, .inl (ak4, 8, .inl ag4)), (aq5, .inl (ak5, 8, .inl ag5)), (aq6, .inl (ak6, 8, .inl ag6))] H := hP
  have hD : va_D A [(h0, .inr (0, [.ref aq0, .ref aq1, .ref aq2, .ref aq3, .ref aq4, .ref aq5, .ref aq6, .int 0, .long afees, .int amis, .int abel, .int aref, .int acau])), (aq0, .inl (ak0, 8, .inl g1)), (aq1, .inl (ak1, 8, .inl g2)), (aq2, .inl (ak2, 8, .inl g3)), (aq3, .inl (ak3, 8, .inl g4)), (aq4, .inl (ak4, 8, .inl ag4)), (aq5, .inl (ak5, 8, .inl ag5)), (aq6, .inl (ak6, 8, .inl ag6))] := hD
  refine lv_aload_n hx hb dX0_open_33 rfl (lv_at hl 1 rfl) ?_
  refine va_get (D := (dC, dI)) (ci := 0) (v := .ref aq4) (C := RX0) (T := TX0) (N := 13) hx hb hts in_X0_open_X0 hown hK hP 0 rfl rfl 4 (by decide) (hts (.fieldLink RX0 25 "ClearingGates$Books" "entries" "[I") (List.mem_of_getElem? (i := 6) (by decide +kernel))) (fun _ h9 => h9) rfl dX0_open_34 ?_
  refine lv_iload_n hx hb dX0_open_37 rfl (lv_at hl 0 rfl) ?_
  refine lv_iconst (v := 0) hx hb dX0_open_38 (by decide) ?_
  refine va_iast (D := (dC, dI)) hx hb hK hP hD hS 5 4 rfl rfl (vp_in_iff.mpr ⟨by decide, by decide⟩) dX0_open_39 (fun H locs hP hD hS => ?_)
  generalize e_g5 : (upd ag4 ((0 : Int32)).toNatClampNeg 0) = g5 at hP hD
  have hP : va_P (dC, dI) vwCl [(h0, .inr (0, [.ref aq0, .ref aq1, .ref aq2, .ref aq3, .ref aq4, .ref aq5, .ref aq6, .int 0, .long afees, .int amis, .int abel, .int aref, .int acau])), (aq0, .inl (ak0, 8, .inl g1)), (aq1, .inl (ak1, 8, .inl g2)), (aq2, .inl (ak2, 8, .inl g3)), (aq3, .inl (ak3, 8, .inl g4)), (aq4, .inl (ak4, 8, .inl g5)), (aq5, .inl (ak5, 8, .inl ag5)), (aq6, .inl (ak6, 8, .inl ag6))] H := hP
  have hD : va_D A [(h0, .inr (0, [.ref aq0, .ref aq1, .ref aq2, .ref aq3, .ref aq4, .ref aq5, .ref aq6, .int 0, .long afees, .int amis, .int abel, .int aref, .int acau])), (aq0, .inl (ak0, 8, .inl g1)), (aq1, .inl (ak1, 8, .inl g2)), (aq2, .inl (ak2, 8, .inl g3)), (aq3, .inl (ak3, 8, .inl g4)), (aq4, .inl (ak4, 8, .inl g5)), (aq5, .inl (ak5, 8, .inl ag5)), (aq6, .inl (ak6, 8, .inl ag6))] := hD
  refine lv_aload_n hx hb dX0_open_40 rfl (lv_at hl 1 rfl) ?_
  refine va_get (D := (dC, dI)) (ci := 0) (v := .ref aq5) (C := RX0) (T := TX0) (N := 13) hx hb hts in_X0_open_X0 hown hK hP 0 rfl rfl 5 (by decide) (hts (.fieldLink RX0 28 "ClearingGates$Books" "leavings" "[I") (List.mem_of_getElem? (i := 7) (by decide +kernel))) (fun _ h9 => h9) rfl dX0_open_41 ?_
  refine lv_iload_n hx hb dX0_open_44 rfl (lv_at hl 0 rfl) ?_
  refine lv_iconst (v := 0) hx hb dX0_open_45 (by decide) ?_
  refine va_iast (D := (dC, dI)) hx hb hK hP hD hS 6 5 rfl rfl (vp_in_iff.mpr ⟨by decide, by decide⟩) dX0_open_46 (fun H locs hP hD hS => ?_)
  generalize e_g6 : (upd ag5 ((0 : Int32)).toNatClampNeg 0) = g6 at hP hD
  have hP : va_P (dC, dI) vwCl [(h0, .inr (0, [.ref aq0, .ref aq1, .ref aq2, .ref aq3, .ref aq4, .ref aq5, .ref aq6, .int 0, .long afees, .int amis, .int abel, .int aref, .int acau])), (aq0, .inl (ak0, 8, .inl g1)), (aq1, .inl (ak1, 8, .inl g2)), (aq2, .inl (ak2, 8, .inl g3)), (aq3, .inl (ak3, 8, .inl g4)), (aq4, .inl (ak4, 8, .inl g5)), (aq5, .inl (ak5, 8, .inl g6)), (aq6, .inl (ak6, 8, .inl ag6))] H := hP
  have hD : va_D A [(h0, .inr (0, [.ref aq0, .ref aq1, .ref aq2, .ref aq3, .ref aq4, .ref aq5, .ref aq6, .int 0, .long afees, .int amis, .int abel, .int aref, .int acau])), (aq0, .inl (ak0, 8, .inl g1)), (aq1, .inl (ak1, 8, .inl g2)), (aq2, .inl (ak2, 8, .inl g3)), (aq3, .inl (ak3, 8, .inl g4)), (aq4, .inl (ak4, 8, .inl g5)), (aq5, .inl (ak5, 8, .inl g6)), (aq6, .inl (ak6, 8, .inl ag6))] := hD
  refine lv_aload_n hx hb dX0_open_47 rfl (lv_at hl 1 rfl) ?_
  refine va_get (D := (dC, dI)) (ci := 0) (v := .ref aq6) (C := RX0) (T := TX0) (N := 13) hx hb hts in_X0_open_X0 hown hK hP 0 rfl rfl 6 (by decide) (hts (.fieldLink RX0 31 "ClearingGates$Books" "agains" "[I") (List.mem_of_getElem? (i := 8) (by decide +kernel))) (fun _ h9 => h9) rfl dX0_open_48 ?_
  refine lv_iload_n hx hb dX0_open_51 rfl (lv_at hl 0 rfl) ?_
  refine lv_iconst (v := 0) hx hb dX0_open_52 (by decide) ?_
  refine va_iast (D := (dC, dI)) hx hb hK hP hD hS 7 6 rfl rfl (vp_in_iff.mpr ⟨by decide, by decide⟩) dX0_open_53 (fun H locs hP hD hS => ?_)
  generalize e_g7 : (upd ag6 ((0 : Int32)).toNatClampNeg 0) = g7 at hP hD
  have hP : va_P (dC, dI) vwCl [(h0, .inr (0, [.ref aq0, .ref aq1, .ref aq2, .ref aq3, .ref aq4, .ref aq5, .ref aq6, .int 0, .long afees, .int amis, .int abel, .int aref, .int acau])), (aq0, .inl (ak0, 8, .inl g1)), (aq1, .inl (ak1, 8, .inl g2)), (aq2, .inl (ak2, 8, .inl g3)), (aq3, .inl (ak3, 8, .inl g4)), (aq4, .inl (ak4, 8, .inl g5)), (aq5, .inl (ak5, 8, .inl g6)), (aq6, .inl (ak6, 8, .inl g7))] H := hP
  have hD : va_D A [(h0, .inr (0, [.ref aq0, .ref aq1, .ref aq2, .ref aq3, .ref aq4, .ref aq5, .ref aq6, .int 0, .long afees, .int amis, .int abel, .int aref, .int acau])), (aq0, .inl (ak0, 8, .inl g1)), (aq1, .inl (ak1, 8, .inl g2)), (aq2, .inl (ak2, 8, .inl g3)), (aq3, .inl (ak3, 8, .inl g4)), (aq4, .inl (ak4, 8, .inl g5)), (aq5, .inl (ak5, 8, .inl g6)), (aq6, .inl (ak6, 8, .inl g7))] := hD
  refine lv_aload_n hx hb dX0_open_54 rfl (lv_at hl 1 rfl) ?_
  refine lv_dup hx hb dX0_open_55 rfl ?_
  refine va_get (D := (dC, dI)) (ci := 0) (v := .int 0) (C := RX0) (T := TX0) (N := 13) hx hb hts in_X0_open_X0 hown hK hP 0 rfl rfl 7 (by decide) (hts (.fieldLink RX0 34 "ClearingGates$Books" "accounts" "I") (List.mem_of_getElem? (i := 1) (by decide +kernel))) (fun _ h9 => h9) rfl dX0_open_56 ?_
  refine lv_iconst (v := 1) hx hb dX0_open_59 (by decide) ?_
  refine lv_iadd hx hb dX0_open_60 ?_
  refine lv_topi (fun z8 e_z8 => ?_)
  have e_z8 : z8 = 1 := e_z8.trans (by first | rfl | decide)
  subst e_z8
  refine va_put (D := (dC, dI)) (ci := 0) (v := .int 1) (ty := .int) (C := RX0) (T := TX0) (N := 13) hx hb hts in_X0_open_X0 tyX0 tyX0_ok nmX0 hown hK hP hD hS 0 rfl rfl 7 (by decide) (hts (.fieldLink RX0 34 "ClearingGates$Books" "accounts" "I") (List.mem_of_getElem? (i := 1) (by decide +kernel))) (fun _ h9 => h9) rfl (by decide +kernel) rfl rfl (Nat.le_of_ble_eq_true rfl) dX0_open_61 (fun H locs hP hD hS => ?_)
  have hP : va_P (dC, dI) vwCl [(h0, .inr (0, [.ref aq0, .ref aq1, .ref aq2, .ref aq3, .ref aq4, .ref aq5, .ref aq6, .int 1, .long afees, .int amis, .int abel, .int aref, .int acau])), (aq0, .inl (ak0, 8, .inl g1)), (aq1, .inl (ak1, 8, .inl g2)), (aq2, .inl (ak2, 8, .inl g3)), (aq3, .inl (ak3, 8, .inl g4)), (aq4, .inl (ak4, 8, .inl g5)), (aq5, .inl (ak5, 8, .inl g6)), (aq6, .inl (ak6, 8, .inl g7))] H := hP
  have hD : va_D A [(h0, .inr (0, [.ref aq0, .ref aq1, .ref aq2, .ref aq3, .ref aq4, .ref aq5, .ref aq6, .int 1, .long afees, .int amis, .int abel, .int aref, .int acau])), (aq0, .inl (ak0, 8, .inl g1)), (aq1, .inl (ak1, 8, .inl g2)), (aq2, .inl (ak2, 8, .inl g3)), (aq3, .inl (ak3, 8, .inl g4)), (aq4, .inl (ak4, 8, .inl g5)), (aq5, .inl (ak5, 8, .inl g6)), (aq6, .inl (ak6, 8, .inl g7))] := hD
  refine lv_iload_n hx hb dX0_open_64 rfl (lv_at hl 0 rfl) ?_
  have hP9 := hP.sub (ws' := []) [] rfl
  have hD9 := hD.sub (ws' := []) [] (by decide) rfl
  have hK9 := hK.sub (tys' := []) [] rfl
  exact W.iret (v := 0) hx hb hr (fun t ht hW => ⟨⟨0, (), rfl, (by first | rfl | (simp only [if_pos, if_neg, *]; done)), by rw [ht]; exact hP9, va_K.moved hW.alike hK9, hD9⟩, hS.F ht⟩) hS.2.2 dX0_open_65

theorem in_X0_hasAllGates_X0 : ∀ w ∈ wsX00, w ∈ wsX0_hasAllGates := fun _ h => List.mem_cons_of_mem _ (List.mem_append_right _ h)
set_option maxRecDepth 100000 in
set_option maxHeartbeats 4000000 in
/-- Books.hasAllGates with no account -/
theorem c_X0_hasAllGates (l : Launch) (dC : Nat → ClassId) (dI : Nat → Nat → Nat) (h0 : Nat) (v0 : Value) (v1 : Value) (v2 : Value) (v3 : Value) (v4 : Value) (v5 : Value) (v6 : Value) (v8 : Value) (v9 : Value) (v10 : Value) (v11 : Value) (v12 : Value) (sz : Nat) : Met l yX0_hasAllGates wsX0_hasAllGates ({ frames := 0, cells := 0, slots := 0, locals := 0 }) (va_Pc [.ref h0] (fun U => U.heap.size = sz ∧ va_P (dC, dI) vwCl [(h0, .inr (0, [v0, v1, v2, v3, v4, v5, v6, .int 0, v8, v9, v10, v11, v12]))] U.heap ∧ va_K (dC, dI) vwCl [] U ∧ va_D (fun _ => True) [(h0, .inr (0, [v0, v1, v2, v3, v4, v5, v6, .int 0, v8, v9, v10, v11, v12]))])) (va_Qi (fun (r : Int32) (_ : Unit) => r = 1) (fun (_ : Unit) (t : State) => va_P (dC, dI) vwCl [(h0, .inr (0, [v0, v1, v2, v3, v4, v5, v6, .int 0, v8, v9, v10, v11, v12]))] t.heap ∧ va_K (dC, dI) vwCl [] t ∧ va_D (va_A [(h0, .inr (0, [v0, v1, v2, v3, v4, v5, v6, .int 0, v8, v9, v10, v11, v12]))] sz) [(h0, .inr (0, [v0, v1, v2, v3, v4, v5, v6, .int 0, v8, v9, v10, v11, v12]))]) (va_A [(h0, .inr (0, [v0, v1, v2, v3, v4, v5, v6, .int 0, v8, v9, v10, v11, v12]))] sz)) 0 0 (va_A [(h0, .inr (0, [v0, v1, v2, v3, v4, v5, v6, .int 0, v8, v9, v10, v11, v12]))] sz) := by
  refine Met.ofW (cc := cX0_hasAllGates) (maxL := 2) (ret := (some .boolean)) (by decide) rfl ?_
  intro p e s m args below meth c s₁ B hml hv
  obtain ⟨rfl, hsz, hP, hK, hD0⟩ := hv
  have hx := B.exec
  have hb := B.bytes
  have hr := B.returns
  have hts := atoms_spec (ws := wsX0_hasAllGates) B.pre
  have hown : s.vm.findClass RX0 = some m.cls := findClass_of_methodNamed B.named
  have hlocks := B.notSynchronized
  subst hsz
  have hD := hD0.self (sz := s.heap.size)
  generalize hAe : va_A [(h0, .inr (0, [v0, v1, v2, v3, v4, v5, v6, .int 0, v8, v9, v10, v11, v12]))] s.heap.size = A at hD ⊢
  have hA : ∀ q : Nat, s.heap.size ≤ q → A q := fun q h => by rw [← hAe]; exact Or.inr h
  have hS : va_S A s.heap s.heap [] := va_S.rf
  have hP : va_P (dC, dI) vwCl [(h0, .inr (0, [v0, v1, v2, v3, v4, v5, v6, .int 0, v8, v9, v10, v11, v12]))] s.heap := hP
  have hl := lv_entry ([.ref h0]) (n := 2) (Nat.le_of_ble_eq_true rfl)
  rw [lg_entry_eq]
  generalize (lg_sl ([.ref h0]) ++ List.replicate (2 - (lg_sl ([.ref h0])).length) Slot.unset).toArray = ls at hl ⊢
  have hl : lv_has ls 2 [(0, .ref h0)] := hl
  have k_1 : (1 : Int32).toInt = 1 := by decide
  refine lv_iconst (v := 0) hx hb dX0_hasAllGates_0 (by decide) ?_
  refine lv_istore_n (lv' := [(1, .int 0), (0, .ref h0)]) hx hb dX0_hasAllGates_1 rfl hl (by decide) rfl (fun ls hl => ?_)
  refine lv_iload_n hx hb dX0_hasAllGates_2 rfl (lv_at hl 0 rfl) ?_
  refine lv_aload_n hx hb dX0_hasAllGates_3 rfl (lv_at hl 1 rfl) ?_
  refine va_get (D := (dC, dI)) (ci := 0) (v := .int 0) (C := RX0) (T := TX0) (N := 13) hx hb hts in_X0_hasAllGates_X0 hown hK hP 0 rfl rfl 7 (by decide) (hts (.fieldLink RX0 34 "ClearingGates$Books" "accounts" "I") (List.mem_of_getElem? (i := 1) (by decide +kernel))) (fun _ h9 => h9) rfl dX0_hasAllGates_4 ?_
  refine lv_icmp_ge (tgt := 27) hx hb dX0_hasAllGates_7 (by decide) (fun c1 => ?_) (fun c1 => absurd (by decide) c1)
  refine lv_iconst (v := 1) hx hb dX0_hasAllGates_27 (by decide) ?_
  have hP9 := hP.sub (ws' := [(h0, .inr (0, [v0, v1, v2, v3, v4, v5, v6, .int 0, v8, v9, v10, v11, v12]))]) [0] rfl
  have hD9 := hD.sub (ws' := [(h0, .inr (0, [v0, v1, v2, v3, v4, v5, v6, .int 0, v8, v9, v10, v11, v12]))]) [0] (by decide) rfl
  have hK9 := hK.sub (tys' := []) [] rfl
  exact W.zret (v := 1) hx hb hr (by decide) (fun t ht hW => ⟨⟨1, (), rfl, (by first | rfl | (simp only [if_pos, if_neg, *]; done)), by rw [ht]; exact hP9, va_K.moved hW.alike hK9, hD9⟩, hS.F ht⟩) hS.2.2 dX0_hasAllGates_28

theorem in_X0_enterAll_X0 : ∀ w ∈ wsX00, w ∈ wsX0_enterAll := fun _ h => List.mem_cons_of_mem _ (List.mem_append_right _ h)
set_option maxRecDepth 100000 in
set_option maxHeartbeats 4000000 in
/-- Books.enterAll with no account -/
theorem c_X0_enterAll (l : Launch) (dC : Nat → ClassId) (dI : Nat → Nat → Nat) (h0 : Nat) (v0 : Value) (v1 : Value) (v2 : Value) (v3 : Value) (v4 : Value) (v5 : Value) (v6 : Value) (v8 : Value) (v9 : Value) (v10 : Value) (v11 : Value) (v12 : Value) (sz : Nat) : Met l yX0_enterAll wsX0_enterAll ({ frames := 0, cells := 0, slots := 0, locals := 0 }) (va_Pc [.ref h0] (fun U => U.heap.size = sz ∧ va_P (dC, dI) vwCl [(h0, .inr (0, [v0, v1, v2, v3, v4, v5, v6, .int 0, v8, v9, v10, v11, v12]))] U.heap ∧ va_K (dC, dI) vwCl [] U ∧ va_D (fun _ => True) [(h0, .inr (0, [v0, v1, v2, v3, v4, v5, v6, .int 0, v8, v9, v10, v11, v12]))])) (va_Qv (fun (_ : Unit) => True) (fun (_ : Unit) (t : State) => va_P (dC, dI) vwCl [(h0, .inr (0, [v0, v1, v2, v3, v4, v5, v6, .int 0, v8, v9, v10, v11, v12]))] t.heap ∧ va_K (dC, dI) vwCl [] t ∧ va_D (va_A [(h0, .inr (0, [v0, v1, v2, v3, v4, v5, v6, .int 0, v8, v9, v10, v11, v12]))] sz) [(h0, .inr (0, [v0, v1, v2, v3, v4, v5, v6, .int 0, v8, v9, v10, v11, v12]))]) (va_A [(h0, .inr (0, [v0, v1, v2, v3, v4, v5, v6, .int 0, v8, v9, v10, v11, v12]))] sz)) 0 0 (va_A [(h0, .inr (0, [v0, v1, v2, v3, v4, v5, v6, .int 0, v8, v9, v10, v11, v12]))] sz) := by
  refine Met.ofW (cc := cX0_enterAll) (maxL := 2) (ret := none) (by decide) rfl ?_
  intro p e s m args below meth c s₁ B hml hv
  obtain ⟨rfl, hsz, hP, hK, hD0⟩ := hv
  have hx := B.exec
  have hb := B.bytes
  have hr := B.returns
  have hts := atoms_spec (ws := wsX0_enterAll) B.pre
  have hown : s.vm.findClass RX0 = some m.cls := findClass_of_methodNamed B.named
  have hlocks := B.notSynchronized
  subst hsz
  have hD := hD0.self (sz := s.heap.size)
  generalize hAe : va_A [(h0, .inr (0, [v0, v1, v2, v3, v4, v5, v6, .int 0, v8, v9, v10, v11, v12]))] s.heap.size = A at hD ⊢
  have hA : ∀ q : Nat, s.heap.size ≤ q → A q := fun q h => by rw [← hAe]; exact Or.inr h
  have hS : va_S A s.heap s.heap [] := va_S.rf
  have hP : va_P (dC, dI) vwCl [(h0, .inr (0, [v0, v1, v2, v3, v4, v5, v6, .int 0, v8, v9, v10, v11, v12]))] s.heap := hP
  have hl := lv_entry ([.ref h0]) (n := 2) (Nat.le_of_ble_eq_true rfl)
  rw [lg_entry_eq]
  generalize (lg_sl ([.ref h0]) ++ List.replicate (2 - (lg_sl ([.ref h0])).length) Slot.unset).toArray = ls at hl ⊢
  have hl : lv_has ls 2 [(0, .ref h0)] := hl
  refine lv_iconst (v := 0) hx hb dX0_enterAll_0 (by decide) ?_
  refine lv_istore_n (lv' := [(1, .int 0), (0, .ref h0)]) hx hb dX0_enterAll_1 rfl hl (by decide) rfl (fun ls hl => ?_)
  refine lv_iload_n hx hb dX0_enterAll_2 rfl (lv_at hl 0 rfl) ?_
  refine lv_aload_n hx hb dX0_enterAll_3 rfl (lv_at hl 1 rfl) ?_
  refine va_get (D := (dC, dI)) (ci := 0) (v := .int 0) (C := RX0) (T := TX0) (N := 13) hx hb hts in_X0_enterAll_X0 hown hK hP 0 rfl rfl 7 (by decide) (hts (.fieldLink RX0 34 "ClearingGates$Books" "accounts" "I") (List.mem_of_getElem? (i := 1) (by decide +kernel))) (fun _ h9 => h9) rfl dX0_enterAll_4 ?_
  refine lv_icmp_ge (tgt := 26) hx hb dX0_enterAll_7 (by decide) (fun c1 => ?_) (fun c1 => absurd (by decide) c1)
  have hP9 := hP.sub (ws' := [(h0, .inr (0, [v0, v1, v2, v3, v4, v5, v6, .int 0, v8, v9, v10, v11, v12]))]) [0] rfl
  have hD9 := hD.sub (ws' := [(h0, .inr (0, [v0, v1, v2, v3, v4, v5, v6, .int 0, v8, v9, v10, v11, v12]))]) [0] (by decide) rfl
  have hK9 := hK.sub (tys' := []) [] rfl
  exact W.vret hx hb hr (fun t ht hW => ⟨⟨(), rfl, (by first | rfl | trivial), by rw [ht]; exact hP9, va_K.moved hW.alike hK9, hD9⟩, hS.F ht⟩) hS.2.2 dX0_enterAll_26

theorem in_X0_leaveAll_X0 : ∀ w ∈ wsX00, w ∈ wsX0_leaveAll := fun _ h => List.mem_cons_of_mem _ (List.mem_append_right _ h)
set_option maxRecDepth 100000 in
set_option maxHeartbeats 4000000 in
/-- Books.leaveAll with no account -/
theorem c_X0_leaveAll (l : Launch) (dC : Nat → ClassId) (dI : Nat → Nat → Nat) (h0 : Nat) (v0 : Value) (v1 : Value) (v2 : Value) (v3 : Value) (v4 : Value) (v5 : Value) (v6 : Value) (v8 : Value) (v9 : Value) (v10 : Value) (v11 : Value) (v12 : Value) (sz : Nat) : Met l yX0_leaveAll wsX0_leaveAll ({ frames := 0, cells := 0, slots := 0, locals := 0 }) (va_Pc [.ref h0] (fun U => U.heap.size = sz ∧ va_P (dC, dI) vwCl [(h0, .inr (0, [v0, v1, v2, v3, v4, v5, v6, .int 0, v8, v9, v10, v11, v12]))] U.heap ∧ va_K (dC, dI) vwCl [] U ∧ va_D (fun _ => True) [(h0, .inr (0, [v0, v1, v2, v3, v4, v5, v6, .int 0, v8, v9, v10, v11, v12]))])) (va_Qv (fun (_ : Unit) => True) (fun (_ : Unit) (t : State) => va_P (dC, dI) vwCl [(h0, .inr (0, [v0, v1, v2, v3, v4, v5, v6, .int 0, v8, v9, v10, v11, v12]))] t.heap ∧ va_K (dC, dI) vwCl [] t ∧ va_D (va_A [(h0, .inr (0, [v0, v1, v2, v3, v4, v5, v6, .int 0, v8, v9, v10, v11, v12]))] sz) [(h0, .inr (0, [v0, v1, v2, v3, v4, v5, v6, .int 0, v8, v9, v10, v11, v12]))]) (va_A [(h0, .inr (0, [v0, v1, v2, v3, v4, v5, v6, .int 0, v8, v9, v10, v11, v12]))] sz)) 0 0 (va_A [(h0, .inr (0, [v0, v1, v2, v3, v4, v5, v6, .int 0, v8, v9, v10, v11, v12]))] sz) := by
  refine Met.ofW (cc := cX0_leaveAll) (maxL := 2) (ret := none) (by decide) rfl ?_
  intro p e s m args below meth c s₁ B hml hv
  obtain ⟨rfl, hsz, hP, hK, hD0⟩ := hv
  have hx := B.exec
  have hb := B.bytes
  have hr := B.returns
  have hts := atoms_spec (ws := wsX0_leaveAll) B.pre
  have hown : s.vm.findClass RX0 = some m.cls := findClass_of_methodNamed B.named
  have hlocks := B.notSynchronized
  subst hsz
  have hD := hD0.self (sz := s.heap.size)
  generalize hAe : va_A [(h0, .inr (0, [v0, v1, v2, v3, v4, v5, v6, .int 0, v8, v9, v10, v11, v12]))] s.heap.size = A at hD ⊢
  have hA : ∀ q : Nat, s.heap.size ≤ q → A q := fun q h => by rw [← hAe]; exact Or.inr h
  have hS : va_S A s.heap s.heap [] := va_S.rf
  have hP : va_P (dC, dI) vwCl [(h0, .inr (0, [v0, v1, v2, v3, v4, v5, v6, .int 0, v8, v9, v10, v11, v12]))] s.heap := hP
  have hl := lv_entry ([.ref h0]) (n := 2) (Nat.le_of_ble_eq_true rfl)
  rw [lg_entry_eq]
  generalize (lg_sl ([.ref h0]) ++ List.replicate (2 - (lg_sl ([.ref h0])).length) Slot.unset).toArray = ls at hl ⊢
  have hl : lv_has ls 2 [(0, .ref h0)] := hl
  refine lv_aload_n hx hb dX0_leaveAll_0 rfl (lv_at hl 0 rfl) ?_
  refine va_get (D := (dC, dI)) (ci := 0) (v := .int 0) (C := RX0) (T := TX0) (N := 13) hx hb hts in_X0_leaveAll_X0 hown hK hP 0 rfl rfl 7 (by decide) (hts (.fieldLink RX0 34 "ClearingGates$Books" "accounts" "I") (List.mem_of_getElem? (i := 1) (by decide +kernel))) (fun _ h9 => h9) rfl dX0_leaveAll_1 ?_
  refine lv_iconst (v := 1) hx hb dX0_leaveAll_4 (by decide) ?_
  refine lv_isub hx hb dX0_leaveAll_5 ?_
  refine lv_topi (fun z1 e_z1 => ?_)
  have e_z1 : z1 = (-1) := e_z1.trans (by first | rfl | decide)
  subst e_z1
  refine lv_istore_n (lv' := [(1, .int (-1)), (0, .ref h0)]) hx hb dX0_leaveAll_6 rfl hl (by decide) rfl (fun ls hl => ?_)
  refine lv_iload_n hx hb dX0_leaveAll_7 rfl (lv_at hl 0 rfl) ?_
  refine lv_if_lt (tgt := 27) hx hb dX0_leaveAll_8 (by decide) (fun c2 => ?_) (fun c2 => absurd (by decide) c2)
  have hP9 := hP.sub (ws' := [(h0, .inr (0, [v0, v1, v2, v3, v4, v5, v6, .int 0, v8, v9, v10, v11, v12]))]) [0] rfl
  have hD9 := hD.sub (ws' := [(h0, .inr (0, [v0, v1, v2, v3, v4, v5, v6, .int 0, v8, v9, v10, v11, v12]))]) [0] (by decide) rfl
  have hK9 := hK.sub (tys' := []) [] rfl
  exact W.vret hx hb hr (fun t ht hW => ⟨⟨(), rfl, (by first | rfl | trivial), by rw [ht]; exact hP9, va_K.moved hW.alike hK9, hD9⟩, hS.F ht⟩) hS.2.2 dX0_leaveAll_27

theorem in_X0_allMoney_X0 : ∀ w ∈ wsX00, w ∈ wsX0_allMoney := fun _ h => List.mem_cons_of_mem _ (List.mem_append_right _ h)
set_option maxRecDepth 100000 in
set_option maxHeartbeats 4000000 in
/-- Books.allMoney with no account -/
theorem c_X0_allMoney (l : Launch) (dC : Nat → ClassId) (dI : Nat → Nat → Nat) (h0 : Nat) (v0 : Value) (v1 : Value) (v2 : Value) (v3 : Value) (v4 : Value) (v5 : Value) (v6 : Value) (v9 : Value) (v10 : Value) (v11 : Value) (v12 : Value) (sz : Nat) : Met l yX0_allMoney wsX0_allMoney ({ frames := 0, cells := 0, slots := 0, locals := 0 }) (va_Pc [.ref h0] (fun U => U.heap.size = sz ∧ va_P (dC, dI) vwCl [(h0, .inr (0, [v0, v1, v2, v3, v4, v5, v6, .int 0, .long 0, v9, v10, v11, v12]))] U.heap ∧ va_K (dC, dI) vwCl [] U ∧ va_D (fun _ => True) [(h0, .inr (0, [v0, v1, v2, v3, v4, v5, v6, .int 0, .long 0, v9, v10, v11, v12]))])) (va_Ql (fun (r : Int64) (_ : Unit) => r = 0) (fun (_ : Unit) (t : State) => va_P (dC, dI) vwCl [(h0, .inr (0, [v0, v1, v2, v3, v4, v5, v6, .int 0, .long 0, v9, v10, v11, v12]))] t.heap ∧ va_K (dC, dI) vwCl [] t ∧ va_D (va_A [(h0, .inr (0, [v0, v1, v2, v3, v4, v5, v6, .int 0, .long 0, v9, v10, v11, v12]))] sz) [(h0, .inr (0, [v0, v1, v2, v3, v4, v5, v6, .int 0, .long 0, v9, v10, v11, v12]))]) (va_A [(h0, .inr (0, [v0, v1, v2, v3, v4, v5, v6, .int 0, .long 0, v9, v10, v11, v12]))] sz)) 0 0 (va_A [(h0, .inr (0, [v0, v1, v2, v3, v4, v5, v6, .int 0, .long 0, v9, v10, v11, v12]))] sz) := by
  refine Met.ofW (cc := cX0_allMoney) (maxL := 4) (ret := (some .long)) (by decide) rfl ?_
  intro p e s m args below meth c s₁ B hml hv
  obtain ⟨rfl, hsz, hP, hK, hD0⟩ := hv
  have hx := B.exec
  have hb := B.bytes
  have hr := B.returns
  have hts := atoms_spec (ws := wsX0_allMoney) B.pre
  have hown : s.vm.findClass RX0 = some m.cls := findClass_of_methodNamed B.named
  have hlocks := B.notSynchronized
  subst hsz
  have hD := hD0.self (sz := s.heap.size)
  generalize hAe : va_A [(h0, .inr (0, [v0, v1, v2, v3, v4, v5, v6, .int 0, .long 0, v9, v10, v11, v12]))] s.heap.size = A at hD ⊢
  have hA : ∀ q : Nat, s.heap.size ≤ q → A q := fun q h => by rw [← hAe]; exact Or.inr h
  have hS : va_S A s.heap s.heap [] := va_S.rf
  have hP : va_P (dC, dI) vwCl [(h0, .inr (0, [v0, v1, v2, v3, v4, v5, v6, .int 0, .long 0, v9, v10, v11, v12]))] s.heap := hP
  have hl := lv_entry ([.ref h0]) (n := 4) (Nat.le_of_ble_eq_true rfl)
  rw [lg_entry_eq]
  generalize (lg_sl ([.ref h0]) ++ List.replicate (4 - (lg_sl ([.ref h0])).length) Slot.unset).toArray = ls at hl ⊢
  have hl : lv_has ls 4 [(0, .ref h0)] := hl
  refine lv_aload_n hx hb dX0_allMoney_0 rfl (lv_at hl 0 rfl) ?_
  refine va_get (D := (dC, dI)) (ci := 0) (v := .long 0) (C := RX0) (T := TX0) (N := 13) hx hb hts in_X0_allMoney_X0 hown hK hP 0 rfl rfl 8 (by decide) (hts (.fieldLink RX0 51 "ClearingGates$Books" "fees" "J") (List.mem_of_getElem? (i := 1) (by decide +kernel))) (fun _ h9 => h9) rfl dX0_allMoney_1 ?_
  refine lv_lstore_n (lv' := [(1, .long 0), (0, .ref h0)]) hx hb dX0_allMoney_4 rfl hl (by decide) rfl (fun ls hl => ?_)
  refine lv_iconst (v := 0) hx hb dX0_allMoney_5 (by decide) ?_
  refine lv_istore_n (lv' := [(3, .int 0), (1, .long 0), (0, .ref h0)]) hx hb dX0_allMoney_6 rfl hl (by decide) rfl (fun ls hl => ?_)
  refine lv_iload_n hx hb dX0_allMoney_7 rfl (lv_at hl 0 rfl) ?_
  refine lv_aload_n hx hb dX0_allMoney_8 rfl (lv_at hl 2 rfl) ?_
  refine va_get (D := (dC, dI)) (ci := 0) (v := .int 0) (C := RX0) (T := TX0) (N := 13) hx hb hts in_X0_allMoney_X0 hown hK hP 0 rfl rfl 7 (by decide) (hts (.fieldLink RX0 34 "ClearingGates$Books" "accounts" "I") (List.mem_of_getElem? (i := 2) (by decide +kernel))) (fun _ h9 => h9) rfl dX0_allMoney_9 ?_
  refine lv_icmp_ge (tgt := 31) hx hb dX0_allMoney_12 (by decide) (fun c1 => ?_) (fun c1 => absurd (by decide) c1)
  refine lv_lload_n hx hb dX0_allMoney_31 rfl (lv_at hl 1 rfl) ?_
  have hP9 := hP.sub (ws' := [(h0, .inr (0, [v0, v1, v2, v3, v4, v5, v6, .int 0, .long 0, v9, v10, v11, v12]))]) [0] rfl
  have hD9 := hD.sub (ws' := [(h0, .inr (0, [v0, v1, v2, v3, v4, v5, v6, .int 0, .long 0, v9, v10, v11, v12]))]) [0] (by decide) rfl
  have hK9 := hK.sub (tys' := []) [] rfl
  exact W.lret (v := 0) hx hb hr (fun t ht hW => ⟨⟨0, (), rfl, (by first | rfl | (simp only [if_pos, if_neg, *]; done)), by rw [ht]; exact hP9, va_K.moved hW.alike hK9, hD9⟩, hS.F ht⟩) hS.2.2 dX0_allMoney_32

theorem in_X6_keptMarks_X6 : ∀ w ∈ wsX60, w ∈ wsX6_keptMarks := fun _ h => List.mem_cons_of_mem _ (List.mem_append_right _ h)
set_option maxRecDepth 100000 in
set_option maxHeartbeats 4000000 in
/-- Runner.keptMarks with no mark -/
theorem c_X6_keptMarks (l : Launch) (dC : Nat → ClassId) (dI : Nat → Nat → Nat) (h0 : Nat) (v0 : Value) (v1 : Value) (v3 : Value) (v4 : Value) (v5 : Value) (v6 : Value) (v7 : Value) (sz : Nat) : Met l yX6_keptMarks wsX6_keptMarks ({ frames := 1, cells := 0, slots := 0, locals := 13 }) (va_Pc [.ref h0] (fun U => U.heap.size = sz ∧ va_P (dC, dI) vwCl [(h0, .inr (5, [v0, v1, .int 0, v3, v4, v5, v6, v7]))] U.heap ∧ va_K (dC, dI) vwCl [] U ∧ va_D (fun _ => True) [(h0, .inr (5, [v0, v1, .int 0, v3, v4, v5, v6, v7]))])) (va_Qi (fun (r : Int32) (_ : Unit) => r = 0) (fun (_ : Unit) (t : State) => va_P (dC, dI) vwCl [(h0, .inr (5, [v0, v1, .int 0, v3, v4, v5, v6, v7]))] t.heap ∧ va_K (dC, dI) vwCl [] t ∧ va_D (va_A [(h0, .inr (5, [v0, v1, .int 0, v3, v4, v5, v6, v7]))] sz) [(h0, .inr (5, [v0, v1, .int 0, v3, v4, v5, v6, v7]))]) (va_A [(h0, .inr (5, [v0, v1, .int 0, v3, v4, v5, v6, v7]))] sz)) 0 0 (va_A [(h0, .inr (5, [v0, v1, .int 0, v3, v4, v5, v6, v7]))] sz) := by
  refine Met.ofW (cc := cX6_keptMarks) (maxL := 1) (ret := (some .int)) (by decide) rfl ?_
  intro p e s m args below meth c s₁ B hml hv
  obtain ⟨rfl, hsz, hP, hK, hD0⟩ := hv
  have hx := B.exec
  have hb := B.bytes
  have hr := B.returns
  have hts := atoms_spec (ws := wsX6_keptMarks) B.pre
  have hown : s.vm.findClass RX6 = some m.cls := findClass_of_methodNamed B.named
  have hlocks := B.notSynchronized
  subst hsz
  have hD := hD0.self (sz := s.heap.size)
  generalize hAe : va_A [(h0, .inr (5, [v0, v1, .int 0, v3, v4, v5, v6, v7]))] s.heap.size = A at hD ⊢
  have hA : ∀ q : Nat, s.heap.size ≤ q → A q := fun q h => by rw [← hAe]; exact Or.inr h
  have hS : va_S A s.heap s.heap [] := va_S.rf
  have hP : va_P (dC, dI) vwCl [(h0, .inr (5, [v0, v1, .int 0, v3, v4, v5, v6, v7]))] s.heap := hP
  have hl := lv_entry ([.ref h0]) (n := 1) (Nat.le_of_ble_eq_true rfl)
  rw [lg_entry_eq]
  generalize (lg_sl ([.ref h0]) ++ List.replicate (1 - (lg_sl ([.ref h0])).length) Slot.unset).toArray = ls at hl ⊢
  have hl : lv_has ls 1 [(0, .ref h0)] := hl
  have k_0 : (0 : Int32).toInt = 0 := by decide
  refine lv_aload_n hx hb dX6_keptMarks_0 rfl (lv_at hl 0 rfl) ?_
  refine va_get (D := (dC, dI)) (ci := 5) (v := .int 0) (C := RX6) (T := TX6) (N := 8) hx hb hts in_X6_keptMarks_X6 hown hK hP 0 rfl rfl 2 (by decide) (hts (.fieldLink RX6 31 "ClearingGates$Runner" "markCount" "I") (List.mem_of_getElem? (i := 1) (by decide +kernel))) (fun _ h9 => h9) rfl dX6_keptMarks_1 ?_
  refine lv_bipush (v := 60) hx hb dX6_keptMarks_4 (by decide) ?_
  refine va_mmin hx hb (hml.trans hl.1.symm) hown (hts (.methodLink RX6 35 Lib.Math.min.name) (List.mem_of_getElem? (i := 2) (by decide +kernel))) (hts (.static Lib.Math.min.name) (List.mem_of_getElem? (i := 3) (by decide +kernel))) (hts (.initialized "java/lang/Math") (List.mem_of_getElem? (i := 4) (by decide +kernel))) (hts (.code Lib.Math.min.name Lib.Math.min.code 2 (some .int)) (List.mem_of_getElem? (i := 5) (by decide +kernel))) (Nat.le_of_ble_eq_true rfl) (Nat.le_of_ble_eq_true rfl) (Nat.le_of_ble_eq_true rfl) (Nat.le_of_ble_eq_true rfl) dX6_keptMarks_6 ?_
  refine lv_topi (fun z1 e_z1 => ?_)
  have e_z1 : z1 = 0 := e_z1.trans (by first | rfl | decide)
  subst e_z1
  have hP9 := hP.sub (ws' := [(h0, .inr (5, [v0, v1, .int 0, v3, v4, v5, v6, v7]))]) [0] rfl
  have hD9 := hD.sub (ws' := [(h0, .inr (5, [v0, v1, .int 0, v3, v4, v5, v6, v7]))]) [0] (by decide) rfl
  have hK9 := hK.sub (tys' := []) [] rfl
  exact W.iret (v := 0) hx hb hr (fun t ht hW => ⟨⟨0, (), rfl, (by first | rfl | (simp only [if_pos, if_neg, *]; done)), by rw [ht]; exact hP9, va_K.moved hW.alike hK9, hD9⟩, hS.F ht⟩) hS.2.2 dX6_keptMarks_9

theorem in_X7_isMissing_X7 : ∀ w ∈ wsX70, w ∈ wsX7_isMissing := fun _ h => List.mem_cons_of_mem _ (List.mem_append_right _ h)
set_option maxRecDepth 100000 in
set_option maxHeartbeats 4000000 in
/-- Sheet.isMissing of a missing one -/
theorem c_X7_isMissing (l : Launch) (dC : Nat → ClassId) (dI : Nat → Nat → Nat) (h0 : Nat) (v1 : Value) (v2 : Value) (sz : Nat) : Met l yX7_isMissing wsX7_isMissing ({ frames := 0, cells := 0, slots := 0, locals := 0 }) (va_Pc [.ref h0] (fun U => U.heap.size = sz ∧ va_P (dC, dI) vwCl [(h0, .inr (6, [.int (-1), v1, v2]))] U.heap ∧ va_K (dC, dI) vwCl [] U ∧ va_D (fun _ => True) [(h0, .inr (6, [.int (-1), v1, v2]))])) (va_Qi (fun (r : Int32) (_ : Unit) => r = 1) (fun (_ : Unit) (t : State) => va_P (dC, dI) vwCl [(h0, .inr (6, [.int (-1), v1, v2]))] t.heap ∧ va_K (dC, dI) vwCl [] t ∧ va_D (va_A [(h0, .inr (6, [.int (-1), v1, v2]))] sz) [(h0, .inr (6, [.int (-1), v1, v2]))]) (va_A [(h0, .inr (6, [.int (-1), v1, v2]))] sz)) 0 0 (va_A [(h0, .inr (6, [.int (-1), v1, v2]))] sz) := by
  refine Met.ofW (cc := cX7_isMissing) (maxL := 1) (ret := (some .boolean)) (by decide) rfl ?_
  intro p e s m args below meth c s₁ B hml hv
  obtain ⟨rfl, hsz, hP, hK, hD0⟩ := hv
  have hx := B.exec
  have hb := B.bytes
  have hr := B.returns
  have hts := atoms_spec (ws := wsX7_isMissing) B.pre
  have hown : s.vm.findClass RX7 = some m.cls := findClass_of_methodNamed B.named
  have hlocks := B.notSynchronized
  subst hsz
  have hD := hD0.self (sz := s.heap.size)
  generalize hAe : va_A [(h0, .inr (6, [.int (-1), v1, v2]))] s.heap.size = A at hD ⊢
  have hA : ∀ q : Nat, s.heap.size ≤ q → A q := fun q h => by rw [← hAe]; exact Or.inr h
  have hS : va_S A s.heap s.heap [] := va_S.rf
  have hP : va_P (dC, dI) vwCl [(h0, .inr (6, [.int (-1), v1, v2]))] s.heap := hP
  have hl := lv_entry ([.ref h0]) (n := 1) (Nat.le_of_ble_eq_true rfl)
  rw [lg_entry_eq]
  generalize (lg_sl ([.ref h0]) ++ List.replicate (1 - (lg_sl ([.ref h0])).length) Slot.unset).toArray = ls at hl ⊢
  have hl : lv_has ls 1 [(0, .ref h0)] := hl
  have k_1 : (1 : Int32).toInt = 1 := by decide
  refine lv_aload_n hx hb dX7_isMissing_0 rfl (lv_at hl 0 rfl) ?_
  refine va_get (D := (dC, dI)) (ci := 6) (v := .int (-1)) (C := RX7) (T := TX7) (N := 3) hx hb hts in_X7_isMissing_X7 hown hK hP 0 rfl rfl 0 (by decide) (hts (.fieldLink RX7 11 "ClearingGates$Sheet" "sort" "I") (List.mem_of_getElem? (i := 1) (by decide +kernel))) (fun _ h9 => h9) rfl dX7_isMissing_1 ?_
  refine lv_iconst (v := -1) hx hb dX7_isMissing_4 (by decide) ?_
  refine lv_icmp_ne (tgt := 12) hx hb dX7_isMissing_5 (by decide) (fun c1 => absurd (by decide) c1) (fun c1 => ?_)
  refine lv_iconst (v := 1) hx hb dX7_isMissing_8 (by decide) ?_
  refine lv_goto (tgt := 13) hx hb dX7_isMissing_9 (by decide) ?_
  have hP9 := hP.sub (ws' := [(h0, .inr (6, [.int (-1), v1, v2]))]) [0] rfl
  have hD9 := hD.sub (ws' := [(h0, .inr (6, [.int (-1), v1, v2]))]) [0] (by decide) rfl
  have hK9 := hK.sub (tys' := []) [] rfl
  exact W.zret (v := 1) hx hb hr (by decide) (fun t ht hW => ⟨⟨1, (), rfl, (by first | rfl | (simp only [if_pos, if_neg, *]; done)), by rw [ht]; exact hP9, va_K.moved hW.alike hK9, hD9⟩, hS.F ht⟩) hS.2.2 dX7_isMissing_13

set_option maxRecDepth 100000 in
set_option maxHeartbeats 4000000 in
/-- Rings.findsFirst with no account -/
theorem c_X5_findsFirst (l : Launch) (dC : Nat → ClassId) (dI : Nat → Nat → Nat) (h0 : Nat) (v0 : Value) (v1 : Value) (v2 : Value) (v3 : Value) (sz : Nat) : Met l yX5_findsFirst wsX5_findsFirst ({ frames := 0, cells := 0, slots := 0, locals := 0 }) (va_Pc [.ref h0, .int 0] (fun U => U.heap.size = sz ∧ va_P (dC, dI) vwCl [(h0, .inr (4, [v0, v1, v2, v3]))] U.heap ∧ va_K (dC, dI) vwCl [] U ∧ va_D (fun _ => True) [(h0, .inr (4, [v0, v1, v2, v3]))])) (va_Qi (fun (r : Int32) (_ : Unit) => r = 0) (fun (_ : Unit) (t : State) => va_P (dC, dI) vwCl [(h0, .inr (4, [v0, v1, v2, v3]))] t.heap ∧ va_K (dC, dI) vwCl [] t ∧ va_D (va_A [(h0, .inr (4, [v0, v1, v2, v3]))] sz) [(h0, .inr (4, [v0, v1, v2, v3]))]) (va_A [(h0, .inr (4, [v0, v1, v2, v3]))] sz)) 0 0 (va_A [(h0, .inr (4, [v0, v1, v2, v3]))] sz) := by
  refine Met.ofW (cc := cX5_findsFirst) (maxL := 4) (ret := (some .boolean)) (by decide) rfl ?_
  intro p e s m args below meth c s₁ B hml hv
  obtain ⟨rfl, hsz, hP, hK, hD0⟩ := hv
  have hx := B.exec
  have hb := B.bytes
  have hr := B.returns
  have hts := atoms_spec (ws := wsX5_findsFirst) B.pre
  have hown : s.vm.findClass RX5 = some m.cls := findClass_of_methodNamed B.named
  have hlocks := B.notSynchronized
  subst hsz
  have hD := hD0.self (sz := s.heap.size)
  generalize hAe : va_A [(h0, .inr (4, [v0, v1, v2, v3]))] s.heap.size = A at hD ⊢
  have hA : ∀ q : Nat, s.heap.size ≤ q → A q := fun q h => by rw [← hAe]; exact Or.inr h
  have hS : va_S A s.heap s.heap [] := va_S.rf
  have hP : va_P (dC, dI) vwCl [(h0, .inr (4, [v0, v1, v2, v3]))] s.heap := hP
  have hl := lv_entry ([.ref h0, .int 0]) (n := 4) (Nat.le_of_ble_eq_true rfl)
  rw [lg_entry_eq]
  generalize (lg_sl ([.ref h0, .int 0]) ++ List.replicate (4 - (lg_sl ([.ref h0, .int 0])).length) Slot.unset).toArray = ls at hl ⊢
  have hl : lv_has ls 4 [(0, .ref h0), (1, .int 0)] := hl
  have k_0 : (0 : Int32).toInt = 0 := by decide
  refine lv_iconst (v := 0) hx hb dX5_findsFirst_0 (by decide) ?_
  refine lv_istore_n (lv' := [(2, .int 0), (0, .ref h0), (1, .int 0)]) hx hb dX5_findsFirst_1 rfl hl (by decide) rfl (fun ls hl => ?_)
  refine lv_iload_n hx hb dX5_findsFirst_2 rfl (lv_at hl 0 rfl) ?_
  refine lv_iload_n hx hb dX5_findsFirst_3 rfl (lv_at hl 2 rfl) ?_
  refine lv_icmp_ge (tgt := 46) hx hb dX5_findsFirst_4 (by decide) (fun c1 => ?_) (fun c1 => absurd (by decide) c1)
  refine lv_iconst (v := 0) hx hb dX5_findsFirst_46 (by decide) ?_
  have hP9 := hP.sub (ws' := [(h0, .inr (4, [v0, v1, v2, v3]))]) [0] rfl
  have hD9 := hD.sub (ws' := [(h0, .inr (4, [v0, v1, v2, v3]))]) [0] (by decide) rfl
  have hK9 := hK.sub (tys' := []) [] rfl
  exact W.zret (v := 0) hx hb hr (by decide) (fun t ht hW => ⟨⟨0, (), rfl, (by first | rfl | (simp only [if_pos, if_neg, *]; done)), by rw [ht]; exact hP9, va_K.moved hW.alike hK9, hD9⟩, hS.F ht⟩) hS.2.2 dX5_findsFirst_47

set_option maxRecDepth 100000 in
set_option maxHeartbeats 4000000 in
/-- Rings.cutAll with no account -/
theorem c_X5_cutAll (l : Launch) (dC : Nat → ClassId) (dI : Nat → Nat → Nat) (h0 : Nat) (v0 : Value) (v1 : Value) (v2 : Value) (v3 : Value) (sz : Nat) : Met l yX5_cutAll wsX5_cutAll ({ frames := 1, cells := 0, slots := 0, locals := 23 }) (va_Pc [.ref h0, .int 0] (fun U => U.heap.size = sz ∧ va_P (dC, dI) vwCl [(h0, .inr (4, [v0, v1, v2, v3]))] U.heap ∧ va_K (dC, dI) vwCl [] U ∧ va_D (fun _ => True) [(h0, .inr (4, [v0, v1, v2, v3]))])) (va_Qi (fun (r : Int32) (_ : Unit) => r = 0) (fun (_ : Unit) (t : State) => va_P (dC, dI) vwCl [(h0, .inr (4, [v0, v1, v2, v3]))] t.heap ∧ va_K (dC, dI) vwCl [] t ∧ va_D (va_A [(h0, .inr (4, [v0, v1, v2, v3]))] sz) [(h0, .inr (4, [v0, v1, v2, v3]))]) (va_A [(h0, .inr (4, [v0, v1, v2, v3]))] sz)) 0 0 (va_A [(h0, .inr (4, [v0, v1, v2, v3]))] sz) := by
  refine Met.ofW (cc := cX5_cutAll) (maxL := 3) (ret := (some .int)) (by decide) rfl ?_
  intro p e s m args below meth c s₁ B hml hv
  obtain ⟨rfl, hsz, hP, hK, hD0⟩ := hv
  have hx := B.exec
  have hb := B.bytes
  have hr := B.returns
  have hts := atoms_spec (ws := wsX5_cutAll) B.pre
  have hown : s.vm.findClass RX5 = some m.cls := findClass_of_methodNamed B.named
  have hlocks := B.notSynchronized
  subst hsz
  have hD := hD0.self (sz := s.heap.size)
  generalize hAe : va_A [(h0, .inr (4, [v0, v1, v2, v3]))] s.heap.size = A at hD ⊢
  have hA : ∀ q : Nat, s.heap.size ≤ q → A q := fun q h => by rw [← hAe]; exact Or.inr h
  have hS : va_S A s.heap s.heap [] := va_S.rf
  have hP : va_P (dC, dI) vwCl [(h0, .inr (4, [v0, v1, v2, v3]))] s.heap := hP
  have hl := lv_entry ([.ref h0, .int 0]) (n := 3) (Nat.le_of_ble_eq_true rfl)
  rw [lg_entry_eq]
  generalize (lg_sl ([.ref h0, .int 0]) ++ List.replicate (3 - (lg_sl ([.ref h0, .int 0])).length) Slot.unset).toArray = ls at hl ⊢
  have hl : lv_has ls 3 [(0, .ref h0), (1, .int 0)] := hl
  have k_0 : (0 : Int32).toInt = 0 := by decide
  refine lv_iconst (v := 0) hx hb dX5_cutAll_0 (by decide) ?_
  refine lv_istore_n (lv' := [(2, .int 0), (0, .ref h0), (1, .int 0)]) hx hb dX5_cutAll_1 rfl hl (by decide) rfl (fun ls hl => ?_)
  refine lv_iload_n hx hb dX5_cutAll_2 rfl (lv_at hl 0 rfl) ?_
  refine lv_bipush (v := 64) hx hb dX5_cutAll_3 (by decide) ?_
  refine lv_icmp_ge (tgt := 28) hx hb dX5_cutAll_5 (by decide) (fun c1 => absurd c1 (by decide)) (fun c1 => ?_)
  refine lv_aload_n hx hb dX5_cutAll_8 rfl (lv_at hl 1 rfl) ?_
  refine lv_iload_n hx hb dX5_cutAll_9 rfl (lv_at hl 2 rfl) ?_
  have hPc := hP.sub (ws' := [(h0, .inr (4, [v0, v1, v2, v3]))]) [0] rfl
  have hDc := hD.sub (ws' := [(h0, .inr (4, [v0, v1, v2, v3]))]) [0] (by decide) rfl
  have hKc := hK.sub (tys' := []) [] rfl
  have hFc := va_free (wc := [(h0, .inr (4, [v0, v1, v2, v3]))]) hD hS hA [0] rfl
  refine va_calli (va_runV (As := [.int 0]) (rest := []) ⟨hx, hb, hml, hown, hts⟩ (c_X5_findsFirst l dC dI h0 (v0) (v1) (v2) (v3) s.heap.size) (cwV 1 hts gX5_cutAll_X5_findsFirst rfl rfl rfl (by decide +kernel) ⟨Nat.le_of_ble_eq_true rfl, Nat.le_of_ble_eq_true rfl⟩) ⟨fun a U g mk q => by obtain ⟨q0, q1, qP, qK, qD⟩ := q; exact ⟨q0, q1, qP, va_K.moved (u := U) (U := U.calling g mk a) (Vm.Alike.refl U.vm) qK, qD⟩, va_recv hKc hPc (ci := 4) (q0 := 0) rfl rfl, fun U hU hW => ⟨rfl, by rw [hU], by rw [hU]; exact hPc, va_K.moved hW.alike hKc, hDc.weaken (fun _ _ _ _ => trivial)⟩⟩ rfl rfl hl.1 rfl (lv_room (Nat.le_of_ble_eq_true rfl)) dX5_cutAll_10 ⟨Nat.le_of_ble_eq_true rfl, Nat.le_of_ble_eq_true rfl⟩) hS (fun q _ h => hFc q h) hFc (fun r2 u t H1 locs ht hvm hw hB hz1 hk1 hS => ?_)
  obtain ⟨hP1, hK1, hD1⟩ := hB
  rw [ht] at hP1
  have hK1 := va_K.moved hvm.symm hK1
  try dsimp only at hw
  obtain ⟨hP, hD⟩ := va_join (wr := []) (w1 := [(h0, .inr (4, [v0, v1, v2, v3]))]) hP hD [0] [] rfl rfl (by decide) (by decide) hk1 hFc hP1 hD1
  have hK := (hK.sub (tys' := []) [] rfl).app hK1
  generalize H1 = H at hP hS ⊢
  have hP : va_P (dC, dI) vwCl [(h0, .inr (4, [v0, v1, v2, v3]))] H := hP
  have hD : va_D A [(h0, .inr (4, [v0, v1, v2, v3]))] := hD
  have hK : va_K (dC, dI) vwCl [] s := hK
  subst hw
  refine lv_if_ne (tgt := 18) hx hb dX5_cutAll_13 (by decide) (fun c3 => absurd (by decide) c3) (fun c3 => ?_)
  refine lv_iload_n hx hb dX5_cutAll_16 rfl (lv_at hl 0 rfl) ?_
  have hP9 := hP.sub (ws' := [(h0, .inr (4, [v0, v1, v2, v3]))]) [0] rfl
  have hD9 := hD.sub (ws' := [(h0, .inr (4, [v0, v1, v2, v3]))]) [0] (by decide) rfl
  have hK9 := hK.sub (tys' := []) [] rfl
  exact W.iret (v := 0) hx hb hr (fun t ht hW => ⟨⟨0, (), rfl, (by first | rfl | (simp only [if_pos, if_neg, *]; done)), by rw [ht]; exact hP9, va_K.moved hW.alike hK9, hD9⟩, hS.F ht⟩) hS.2.2 dX5_cutAll_17

theorem in_X3_takeOver_X8 : ∀ w ∈ wsX80, w ∈ wsX3_takeOver := fun _ h => List.mem_cons_of_mem _ (List.mem_append_left _ (List.mem_append_right _ h))
theorem in_X3_takeOver_X3 : ∀ w ∈ wsX30, w ∈ wsX3_takeOver := fun _ h => List.mem_cons_of_mem _ (List.mem_append_right _ h)
set_option maxRecDepth 100000 in
set_option maxHeartbeats 4000000 in
/-- Program.takeOver: the size of the tape -/
theorem c_X3_takeOver (l : Launch) (dC : Nat → ClassId) (dI : Nat → Nat → Nat) (h0 : Nat) (h1 : Nat) (qb : Nat) (v1 : Value) (v2 : Value) (kb : ClassId) (fb : Nat → Int32) (qt : Nat) (sz0 : Int32) (kt : ClassId) (ft : Nat → Int32) (sz : Nat) : Met l yX3_takeOver wsX3_takeOver ({ frames := 1, cells := 0, slots := 0, locals := 60 }) (va_Pc [.ref h0, .ref h1] (fun U => U.heap.size = sz ∧ va_P (dC, dI) vwCl [(h0, .inr (2, [.ref qb, v1, v2])), (qb, .inl (kb, 80, .inl fb)), (h1, .inr (7, [.ref qt, .int sz0])), (qt, .inl (kt, 80, .inl ft))] U.heap ∧ va_K (dC, dI) vwCl [(kb, .int), (kt, .int)] U ∧ va_D (fun _ => True) [(h0, .inr (2, [.ref qb, v1, v2])), (qb, .inl (kb, 80, .inl fb)), (h1, .inr (7, [.ref qt, .int sz0])), (qt, .inl (kt, 80, .inl ft))])) (va_Qv (fun (_ : Unit) => True) (fun (_ : Unit) (t : State) => va_P (dC, dI) vwCl [(h0, .inr (2, [.ref qb, v1, .int sz0])), (h1, .inr (7, [.ref qt, .int sz0])), (qt, .inl (kt, 80, .inl ft))] t.heap ∧ va_K (dC, dI) vwCl [(kt, .int)] t ∧ va_D (va_A [(h0, .inr (2, [.ref qb, v1, v2])), (qb, .inl (kb, 80, .inl fb)), (h1, .inr (7, [.ref qt, .int sz0])), (qt, .inl (kt, 80, .inl ft))] sz) [(h0, .inr (2, [.ref qb, v1, .int sz0])), (h1, .inr (7, [.ref qt, .int sz0])), (qt, .inl (kt, 80, .inl ft))]) (va_A [(h0, .inr (2, [.ref qb, v1, v2])), (qb, .inl (kb, 80, .inl fb)), (h1, .inr (7, [.ref qt, .int sz0])), (qt, .inl (kt, 80, .inl ft))] sz)) 0 0 (va_A [(h0, .inr (2, [.ref qb, v1, v2])), (qb, .inl (kb, 80, .inl fb)), (h1, .inr (7, [.ref qt, .int sz0])), (qt, .inl (kt, 80, .inl ft))] sz) := by
  refine Met.ofW (cc := cX3_takeOver) (maxL := 2) (ret := none) (by decide) rfl ?_
  intro p e s m args below meth c s₁ B hml hv
  obtain ⟨rfl, hsz, hP, hK, hD0⟩ := hv
  have hx := B.exec
  have hb := B.bytes
  have hr := B.returns
  have hts := atoms_spec (ws := wsX3_takeOver) B.pre
  have hown : s.vm.findClass RX3 = some m.cls := findClass_of_methodNamed B.named
  have hlocks := B.notSynchronized
  subst hsz
  have hD := hD0.self (sz := s.heap.size)
  generalize hAe : va_A [(h0, .inr (2, [.ref qb, v1, v2])), (qb, .inl (kb, 80, .inl fb)), (h1, .inr (7, [.ref qt, .int sz0])), (qt, .inl (kt, 80, .inl ft))] s.heap.size = A at hD ⊢
  have hA : ∀ q : Nat, s.heap.size ≤ q → A q := fun q h => by rw [← hAe]; exact Or.inr h
  have hS : va_S A s.heap s.heap [] := va_S.rf
  have hP : va_P (dC, dI) vwCl [(h0, .inr (2, [.ref qb, v1, v2])), (qb, .inl (kb, 80, .inl fb)), (h1, .inr (7, [.ref qt, .int sz0])), (qt, .inl (kt, 80, .inl ft))] s.heap := hP
  have hl := lv_entry ([.ref h0, .ref h1]) (n := 2) (Nat.le_of_ble_eq_true rfl)
  rw [lg_entry_eq]
  generalize (lg_sl ([.ref h0, .ref h1]) ++ List.replicate (2 - (lg_sl ([.ref h0, .ref h1])).length) Slot.unset).toArray = ls at hl ⊢
  have hl : lv_has ls 2 [(0, .ref h0), (1, .ref h1)] := hl
  refine lv_aload_n hx hb dX3_takeOver_0 rfl (lv_at hl 1 rfl) ?_
  refine va_get (D := (dC, dI)) (ci := 7) (v := .ref qt) (C := RX8) (T := TX8) (N := 2) hx hb hts in_X3_takeOver_X8 hown hK hP 2 rfl rfl 0 (by decide) (hts (.fieldLink RX3 18 "ClearingGates$Tape" "bytes" "[I") (List.mem_of_getElem? (i := 1) (by decide +kernel))) (fun _ h9 => h9) rfl dX3_takeOver_1 ?_
  refine lv_iconst (v := 0) hx hb dX3_takeOver_4 (by decide) ?_
  refine lv_aload_n hx hb dX3_takeOver_5 rfl (lv_at hl 0 rfl) ?_
  refine va_get (D := (dC, dI)) (ci := 2) (v := .ref qb) (C := RX3) (T := TX3) (N := 3) hx hb hts in_X3_takeOver_X3 hown hK hP 0 rfl rfl 0 (by decide) (hts (.fieldLink RX3 9 "ClearingGates$Program" "bytes" "[I") (List.mem_of_getElem? (i := 2) (by decide +kernel))) (fun _ h9 => h9) rfl dX3_takeOver_6 ?_
  refine lv_iconst (v := 0) hx hb dX3_takeOver_9 (by decide) ?_
  refine lv_bipush (v := 80) hx hb dX3_takeOver_10 (by decide) ?_
  refine va_copyi (D := (dC, dI)) hx hb (hml.trans hl.1.symm) hown (hts (.methodLink RX3 21 arraycopyName) (List.mem_of_getElem? (i := 3) (by decide +kernel))) (hts (.native arraycopyName) (List.mem_of_getElem? (i := 4) (by decide +kernel))) (hts (.static arraycopyName) (List.mem_of_getElem? (i := 5) (by decide +kernel))) (hts (.initialized "java/lang/System") (List.mem_of_getElem? (i := 6) (by decide +kernel))) hK hP hD hS 3 1 1 0 rfl rfl rfl rfl rfl (by decide) (by decide) (by decide) (by decide) (by decide) (fun _ _ => rfl) (Nat.le_of_ble_eq_true rfl) (by decide) dX3_takeOver_12 (fun H locs hP hD hS => ?_)
  generalize e_g1 : (va_cpy ft fb (0 : Int32).toNatClampNeg (0 : Int32).toNatClampNeg (80 : Int32).toNatClampNeg) = g1 at hP hD
  have hP : va_P (dC, dI) vwCl [(h0, .inr (2, [.ref qb, v1, v2])), (qb, .inl (kb, 80, .inl g1)), (h1, .inr (7, [.ref qt, .int sz0])), (qt, .inl (kt, 80, .inl ft))] H := hP
  have hD : va_D A [(h0, .inr (2, [.ref qb, v1, v2])), (qb, .inl (kb, 80, .inl g1)), (h1, .inr (7, [.ref qt, .int sz0])), (qt, .inl (kt, 80, .inl ft))] := hD
  refine lv_aload_n hx hb dX3_takeOver_15 rfl (lv_at hl 0 rfl) ?_
  refine lv_aload_n hx hb dX3_takeOver_16 rfl (lv_at hl 1 rfl) ?_
  refine va_get (D := (dC, dI)) (ci := 7) (v := .int sz0) (C := RX8) (T := TX8) (N := 2) hx hb hts in_X3_takeOver_X8 hown hK hP 2 rfl rfl 1 (by decide) (hts (.fieldLink RX3 27 "ClearingGates$Tape" "size" "I") (List.mem_of_getElem? (i := 7) (by decide +kernel))) (fun _ h9 => h9) rfl dX3_takeOver_17 ?_
  refine va_put (D := (dC, dI)) (ci := 2) (v := .int sz0) (ty := .int) (C := RX3) (T := TX3) (N := 3) hx hb hts in_X3_takeOver_X3 tyX3 tyX3_ok nmX3 hown hK hP hD hS 0 rfl rfl 2 (by decide) (hts (.fieldLink RX3 31 "ClearingGates$Program" "size" "I") (List.mem_of_getElem? (i := 8) (by decide +kernel))) (fun _ h9 => h9) rfl (by decide +kernel) rfl rfl (Nat.le_of_ble_eq_true rfl) dX3_takeOver_20 (fun H locs hP hD hS => ?_)
  have hP : va_P (dC, dI) vwCl [(h0, .inr (2, [.ref qb, v1, .int sz0])), (qb, .inl (kb, 80, .inl g1)), (h1, .inr (7, [.ref qt, .int sz0])), (qt, .inl (kt, 80, .inl ft))] H := hP
  have hD : va_D A [(h0, .inr (2, [.ref qb, v1, .int sz0])), (qb, .inl (kb, 80, .inl g1)), (h1, .inr (7, [.ref qt, .int sz0])), (qt, .inl (kt, 80, .inl ft))] := hD
  have hP9 := hP.sub (ws' := [(h0, .inr (2, [.ref qb, v1, .int sz0])), (h1, .inr (7, [.ref qt, .int sz0])), (qt, .inl (kt, 80, .inl ft))]) [0, 2, 3] rfl
  have hD9 := hD.sub (ws' := [(h0, .inr (2, [.ref qb, v1, .int sz0])), (h1, .inr (7, [.ref qt, .int sz0])), (qt, .inl (kt, 80, .inl ft))]) [0, 2, 3] (by decide) rfl
  have hK9 := hK.sub (tys' := [(kt, .int)]) [1] rfl
  exact W.vret hx hb hr (fun t ht hW => ⟨⟨(), rfl, (by first | rfl | trivial), by rw [ht]; exact hP9, va_K.moved hW.alike hK9, hD9⟩, hS.F ht⟩) hS.2.2 dX3_takeOver_23

theorem in_X4_faultOf_X4 : ∀ w ∈ wsX40, w ∈ wsX4_faultOf := fun _ h => List.mem_cons_of_mem _ (List.mem_append_left _ (List.mem_append_right _ h))
theorem in_X4_faultOf_X3 : ∀ w ∈ wsX30, w ∈ wsX4_faultOf := fun _ h => List.mem_cons_of_mem _ (List.mem_append_right _ h)
set_option maxRecDepth 100000 in
set_option maxHeartbeats 4000000 in
/-- Reader.faultOf of an empty program -/
theorem c_X4_faultOf (l : Launch) (dC : Nat → ClassId) (dI : Nat → Nat → Nat) (h0 : Nat) (h1 : Nat) (v0 : Value) (v1 : Value) (v2 : Value) (v3 : Value) (v4 : Value) (w0 : Value) (w1 : Value) (sz : Nat) : Met l yX4_faultOf wsX4_faultOf ({ frames := 0, cells := 0, slots := 0, locals := 0 }) (va_Pc [.ref h0, .ref h1] (fun U => U.heap.size = sz ∧ va_P (dC, dI) vwCl [(h0, .inr (3, [v0, v1, v2, v3, v4])), (h1, .inr (2, [w0, w1, .int 0]))] U.heap ∧ va_K (dC, dI) vwCl [] U ∧ va_D (fun _ => True) [(h0, .inr (3, [v0, v1, v2, v3, v4])), (h1, .inr (2, [w0, w1, .int 0]))])) (va_Qi (fun (r : Int32) (_ : Unit) => r = 0) (fun (_ : Unit) (t : State) => va_P (dC, dI) vwCl [] t.heap ∧ va_K (dC, dI) vwCl [] t ∧ va_D (va_A [(h0, .inr (3, [v0, v1, v2, v3, v4])), (h1, .inr (2, [w0, w1, .int 0]))] sz) []) (va_A [(h0, .inr (3, [v0, v1, v2, v3, v4])), (h1, .inr (2, [w0, w1, .int 0]))] sz)) 0 0 (va_A [(h0, .inr (3, [v0, v1, v2, v3, v4])), (h1, .inr (2, [w0, w1, .int 0]))] sz) := by
  refine Met.ofW (cc := cX4_faultOf) (maxL := 4) (ret := (some .int)) (by decide) rfl ?_
  intro p e s m args below meth c s₁ B hml hv
  obtain ⟨rfl, hsz, hP, hK, hD0⟩ := hv
  have hx := B.exec
  have hb := B.bytes
  have hr := B.returns
  have hts := atoms_spec (ws := wsX4_faultOf) B.pre
  have hown : s.vm.findClass RX4 = some m.cls := findClass_of_methodNamed B.named
  have hlocks := B.notSynchronized
  subst hsz
  have hD := hD0.self (sz := s.heap.size)
  generalize hAe : va_A [(h0, .inr (3, [v0, v1, v2, v3, v4])), (h1, .inr (2, [w0, w1, .int 0]))] s.heap.size = A at hD ⊢
  have hA : ∀ q : Nat, s.heap.size ≤ q → A q := fun q h => by rw [← hAe]; exact Or.inr h
  have hS : va_S A s.heap s.heap [] := va_S.rf
  have hP : va_P (dC, dI) vwCl [(h0, .inr (3, [v0, v1, v2, v3, v4])), (h1, .inr (2, [w0, w1, .int 0]))] s.heap := hP
  have hl := lv_entry ([.ref h0, .ref h1]) (n := 4) (Nat.le_of_ble_eq_true rfl)
  rw [lg_entry_eq]
  generalize (lg_sl ([.ref h0, .ref h1]) ++ List.replicate (4 - (lg_sl ([.ref h0, .ref h1])).length) Slot.unset).toArray = ls at hl ⊢
  have hl : lv_has ls 4 [(0, .ref h0), (1, .ref h1)] := hl
  have k_0 : (0 : Int32).toInt = 0 := by decide
  refine lv_aload_n hx hb dX4_faultOf_0 rfl (lv_at hl 0 rfl) ?_
  refine lv_aload_n hx hb dX4_faultOf_1 rfl (lv_at hl 1 rfl) ?_
  refine va_put (D := (dC, dI)) (ci := 3) (v := .ref h1) (ty := .object "ClearingGates$Program") (C := RX4) (T := TX4) (N := 5) hx hb hts in_X4_faultOf_X4 tyX4 tyX4_ok nmX4 hown hK hP hD hS 0 rfl rfl 4 (by decide) (hts (.fieldLink RX4 15 "ClearingGates$Reader" "program" "LClearingGates$Program;") (List.mem_of_getElem? (i := 1) (by decide +kernel))) (fun _ h9 => h9) rfl (by decide +kernel) rfl rfl (Nat.le_of_ble_eq_true rfl) dX4_faultOf_2 (fun H locs hP hD hS => ?_)
  have hP : va_P (dC, dI) vwCl [(h0, .inr (3, [v0, v1, v2, v3, .ref h1])), (h1, .inr (2, [w0, w1, .int 0]))] H := hP
  have hD : va_D A [(h0, .inr (3, [v0, v1, v2, v3, .ref h1])), (h1, .inr (2, [w0, w1, .int 0]))] := hD
  refine lv_aload_n hx hb dX4_faultOf_5 rfl (lv_at hl 0 rfl) ?_
  refine lv_iconst (v := 0) hx hb dX4_faultOf_6 (by decide) ?_
  refine va_put (D := (dC, dI)) (ci := 3) (v := .int 0) (ty := .int) (C := RX4) (T := TX4) (N := 5) hx hb hts in_X4_faultOf_X4 tyX4 tyX4_ok nmX4 hown hK hP hD hS 0 rfl rfl 1 (by decide) (hts (.fieldLink RX4 19 "ClearingGates$Reader" "open" "I") (List.mem_of_getElem? (i := 2) (by decide +kernel))) (fun _ h9 => h9) rfl (by decide +kernel) rfl rfl (Nat.le_of_ble_eq_true rfl) dX4_faultOf_7 (fun H locs hP hD hS => ?_)
  have hP : va_P (dC, dI) vwCl [(h0, .inr (3, [v0, .int 0, v2, v3, .ref h1])), (h1, .inr (2, [w0, w1, .int 0]))] H := hP
  have hD : va_D A [(h0, .inr (3, [v0, .int 0, v2, v3, .ref h1])), (h1, .inr (2, [w0, w1, .int 0]))] := hD
  refine lv_aload_n hx hb dX4_faultOf_10 rfl (lv_at hl 0 rfl) ?_
  refine lv_iconst (v := 0) hx hb dX4_faultOf_11 (by decide) ?_
  refine va_put (D := (dC, dI)) (ci := 3) (v := .int 0) (ty := .int) (C := RX4) (T := TX4) (N := 5) hx hb hts in_X4_faultOf_X4 tyX4 tyX4_ok nmX4 hown hK hP hD hS 0 rfl rfl 2 (by decide) (hts (.fieldLink RX4 23 "ClearingGates$Reader" "loops" "I") (List.mem_of_getElem? (i := 3) (by decide +kernel))) (fun _ h9 => h9) rfl (by decide +kernel) rfl rfl (Nat.le_of_ble_eq_true rfl) dX4_faultOf_12 (fun H locs hP hD hS => ?_)
  have hP : va_P (dC, dI) vwCl [(h0, .inr (3, [v0, .int 0, .int 0, v3, .ref h1])), (h1, .inr (2, [w0, w1, .int 0]))] H := hP
  have hD : va_D A [(h0, .inr (3, [v0, .int 0, .int 0, v3, .ref h1])), (h1, .inr (2, [w0, w1, .int 0]))] := hD
  refine lv_aload_n hx hb dX4_faultOf_15 rfl (lv_at hl 0 rfl) ?_
  refine lv_iconst (v := -1) hx hb dX4_faultOf_16 (by decide) ?_
  refine va_put (D := (dC, dI)) (ci := 3) (v := .int (-1)) (ty := .int) (C := RX4) (T := TX4) (N := 5) hx hb hts in_X4_faultOf_X4 tyX4 tyX4_ok nmX4 hown hK hP hD hS 0 rfl rfl 3 (by decide) (hts (.fieldLink RX4 26 "ClearingGates$Reader" "fault" "I") (List.mem_of_getElem? (i := 4) (by decide +kernel))) (fun _ h9 => h9) rfl (by decide +kernel) rfl rfl (Nat.le_of_ble_eq_true rfl) dX4_faultOf_17 (fun H locs hP hD hS => ?_)
  have hP : va_P (dC, dI) vwCl [(h0, .inr (3, [v0, .int 0, .int 0, .int (-1), .ref h1])), (h1, .inr (2, [w0, w1, .int 0]))] H := hP
  have hD : va_D A [(h0, .inr (3, [v0, .int 0, .int 0, .int (-1), .ref h1])), (h1, .inr (2, [w0, w1, .int 0]))] := hD
  refine lv_iconst (v := 0) hx hb dX4_faultOf_20 (by decide) ?_
  refine lv_istore_n (lv' := [(2, .int 0), (0, .ref h0), (1, .ref h1)]) hx hb dX4_faultOf_21 rfl hl (by decide) rfl (fun ls hl => ?_)
  refine lv_iconst (v := 0) hx hb dX4_faultOf_22 (by decide) ?_
  refine lv_istore_n (lv' := [(3, .int 0), (2, .int 0), (0, .ref h0), (1, .ref h1)]) hx hb dX4_faultOf_23 rfl hl (by decide) rfl (fun ls hl => ?_)
  refine lv_iload_n hx hb dX4_faultOf_24 rfl (lv_at hl 0 rfl) ?_
  refine lv_aload_n hx hb dX4_faultOf_25 rfl (lv_at hl 3 rfl) ?_
  refine va_get (D := (dC, dI)) (ci := 2) (v := .int 0) (C := RX3) (T := TX3) (N := 3) hx hb hts in_X4_faultOf_X3 hown hK hP 1 rfl rfl 2 (by decide) (hts (.fieldLink RX4 29 "ClearingGates$Program" "size" "I") (List.mem_of_getElem? (i := 5) (by decide +kernel))) (fun _ h9 => h9) rfl dX4_faultOf_26 ?_
  refine lv_icmp_ge (tgt := 60) hx hb dX4_faultOf_29 (by decide) (fun c1 => ?_) (fun c1 => absurd (by decide) c1)
  refine lv_aload_n hx hb dX4_faultOf_60 rfl (lv_at hl 2 rfl) ?_
  refine va_get (D := (dC, dI)) (ci := 3) (v := .int (-1)) (C := RX4) (T := TX4) (N := 5) hx hb hts in_X4_faultOf_X4 hown hK hP 0 rfl rfl 3 (by decide) (hts (.fieldLink RX4 26 "ClearingGates$Reader" "fault" "I") (List.mem_of_getElem? (i := 4) (by decide +kernel))) (fun _ h9 => h9) rfl dX4_faultOf_61 ?_
  refine lv_iconst (v := -1) hx hb dX4_faultOf_64 (by decide) ?_
  refine lv_icmp_ne (tgt := 90) hx hb dX4_faultOf_65 (by decide) (fun c2 => absurd (by decide) c2) (fun c2 => ?_)
  refine lv_aload_n hx hb dX4_faultOf_68 rfl (lv_at hl 2 rfl) ?_
  refine va_get (D := (dC, dI)) (ci := 3) (v := .int 0) (C := RX4) (T := TX4) (N := 5) hx hb hts in_X4_faultOf_X4 hown hK hP 0 rfl rfl 1 (by decide) (hts (.fieldLink RX4 19 "ClearingGates$Reader" "open" "I") (List.mem_of_getElem? (i := 2) (by decide +kernel))) (fun _ h9 => h9) rfl dX4_faultOf_69 ?_
  refine lv_if_gt (tgt := 82) hx hb dX4_faultOf_72 (by decide) (fun c3 => absurd c3 (by decide)) (fun c3 => ?_)
  refine lv_aload_n hx hb dX4_faultOf_75 rfl (lv_at hl 3 rfl) ?_
  refine va_get (D := (dC, dI)) (ci := 2) (v := .int 0) (C := RX3) (T := TX3) (N := 3) hx hb hts in_X4_faultOf_X3 hown hK hP 1 rfl rfl 2 (by decide) (hts (.fieldLink RX4 29 "ClearingGates$Program" "size" "I") (List.mem_of_getElem? (i := 5) (by decide +kernel))) (fun _ h9 => h9) rfl dX4_faultOf_76 ?_
  refine lv_if_ne (tgt := 90) hx hb dX4_faultOf_79 (by decide) (fun c4 => absurd (by decide) c4) (fun c4 => ?_)
  refine lv_aload_n hx hb dX4_faultOf_82 rfl (lv_at hl 2 rfl) ?_
  refine lv_aload_n hx hb dX4_faultOf_83 rfl (lv_at hl 3 rfl) ?_
  refine va_get (D := (dC, dI)) (ci := 2) (v := .int 0) (C := RX3) (T := TX3) (N := 3) hx hb hts in_X4_faultOf_X3 hown hK hP 1 rfl rfl 2 (by decide) (hts (.fieldLink RX4 29 "ClearingGates$Program" "size" "I") (List.mem_of_getElem? (i := 5) (by decide +kernel))) (fun _ h9 => h9) rfl dX4_faultOf_84 ?_
  refine va_put (D := (dC, dI)) (ci := 3) (v := .int 0) (ty := .int) (C := RX4) (T := TX4) (N := 5) hx hb hts in_X4_faultOf_X4 tyX4 tyX4_ok nmX4 hown hK hP hD hS 0 rfl rfl 3 (by decide) (hts (.fieldLink RX4 26 "ClearingGates$Reader" "fault" "I") (List.mem_of_getElem? (i := 4) (by decide +kernel))) (fun _ h9 => h9) rfl (by decide +kernel) rfl rfl (Nat.le_of_ble_eq_true rfl) dX4_faultOf_87 (fun H locs hP hD hS => ?_)
  have hP : va_P (dC, dI) vwCl [(h0, .inr (3, [v0, .int 0, .int 0, .int 0, .ref h1])), (h1, .inr (2, [w0, w1, .int 0]))] H := hP
  have hD : va_D A [(h0, .inr (3, [v0, .int 0, .int 0, .int 0, .ref h1])), (h1, .inr (2, [w0, w1, .int 0]))] := hD
  refine lv_aload_n hx hb dX4_faultOf_90 rfl (lv_at hl 2 rfl) ?_
  refine va_get (D := (dC, dI)) (ci := 3) (v := .int 0) (C := RX4) (T := TX4) (N := 5) hx hb hts in_X4_faultOf_X4 hown hK hP 0 rfl rfl 3 (by decide) (hts (.fieldLink RX4 26 "ClearingGates$Reader" "fault" "I") (List.mem_of_getElem? (i := 4) (by decide +kernel))) (fun _ h9 => h9) rfl dX4_faultOf_91 ?_
  have hP9 := hP.sub (ws' := []) [] rfl
  have hD9 := hD.sub (ws' := []) [] (by decide) rfl
  have hK9 := hK.sub (tys' := []) [] rfl
  exact W.iret (v := 0) hx hb hr (fun t ht hW => ⟨⟨0, (), rfl, (by first | rfl | (simp only [if_pos, if_neg, *]; done)), by rw [ht]; exact hP9, va_K.moved hW.alike hK9, hD9⟩, hS.F ht⟩) hS.2.2 dX4_faultOf_94
end
section
theorem in_X7_become_X7 : ∀ w ∈ wsX70, w ∈ wsX7_become := fun _ h => List.mem_cons_of_mem _ (List.mem_append_right _ h)
set_option maxRecDepth 100000 in
set_option maxHeartbeats 4000000 in
/-- Sheet.become -/
theorem c_X7_become (l : Launch) (dC : Nat → ClassId) (dI : Nat → Nat → Nat) (h0 : Nat) (p0 : Int32) (p1 : Int32) (v0 : Value) (v1 : Value) (qi : Nat) (ki : ClassId) (fi : Nat → Int32) (sz : Nat) : Met l yX7_become wsX7_become ({ frames := 0, cells := 0, slots := 0, locals := 0 }) (va_Pc [.ref h0, .int p0, .int p1] (fun U => U.heap.size = sz ∧ va_P (dC, dI) vwCl [(h0, .inr (6, [v0, v1, .ref qi])), (qi, .inl (ki, 60, .inl fi))] U.heap ∧ va_K (dC, dI) vwCl [(ki, .int)] U ∧ va_D (fun _ => True) [(h0, .inr (6, [v0, v1, .ref qi])), (qi, .inl (ki, 60, .inl fi))])) (va_Qv (fun (_ : Unit) => True) (fun (_ : Unit) (t : State) => va_P (dC, dI) vwCl [] t.heap ∧ va_K (dC, dI) vwCl [] t ∧ va_D (va_A [(h0, .inr (6, [v0, v1, .ref qi])), (qi, .inl (ki, 60, .inl fi))] sz) []) (va_A [(h0, .inr (6, [v0, v1, .ref qi])), (qi, .inl (ki, 60, .inl fi))] sz)) 0 0 (va_A [(h0, .inr (6, [v0, v1, .ref qi])), (qi, .inl (ki, 60, .inl fi))] sz) := by
  refine Met.ofW (cc := cX7_become) (maxL := 4) (ret := none) (by decide) rfl ?_
  intro p e s m args below meth c s₁ B hml hv
  obtain ⟨rfl, hsz, hP, hK, hD0⟩ := hv
  have hx := B.exec
  have hb := B.bytes
  have hr := B.returns
  have hts := atoms_spec (ws := wsX7_become) B.pre
  have hown : s.vm.findClass RX7 = some m.cls := findClass_of_methodNamed B.named
  have hlocks := B.notSynchronized
  subst hsz
  have hD := hD0.self (sz := s.heap.size)
  generalize hAe : va_A [(h0, .inr (6, [v0, v1, .ref qi])), (qi, .inl (ki, 60, .inl fi))] s.heap.size = A at hD ⊢
  have hA : ∀ q : Nat, s.heap.size ≤ q → A q := fun q h => by rw [← hAe]; exact Or.inr h
  have hS : va_S A s.heap s.heap [] := va_S.rf
  have hP : va_P (dC, dI) vwCl [(h0, .inr (6, [v0, v1, .ref qi])), (qi, .inl (ki, 60, .inl fi))] s.heap := hP
  have hl := lv_entry ([.ref h0, .int p0, .int p1]) (n := 4) (Nat.le_of_ble_eq_true rfl)
  rw [lg_entry_eq]
  generalize (lg_sl ([.ref h0, .int p0, .int p1]) ++ List.replicate (4 - (lg_sl ([.ref h0, .int p0, .int p1])).length) Slot.unset).toArray = ls at hl ⊢
  have hl : lv_has ls 4 [(0, .ref h0), (1, .int p0), (2, .int p1)] := hl
  have k_60 : (60 : Int32).toInt = 60 := by decide
  refine lv_aload_n hx hb dX7_become_0 rfl (lv_at hl 0 rfl) ?_
  refine lv_iload_n hx hb dX7_become_1 rfl (lv_at hl 1 rfl) ?_
  refine va_put (D := (dC, dI)) (ci := 6) (v := .int p0) (ty := .int) (C := RX7) (T := TX7) (N := 3) hx hb hts in_X7_become_X7 tyX7 tyX7_ok nmX7 hown hK hP hD hS 0 rfl rfl 0 (by decide) (hts (.fieldLink RX7 11 "ClearingGates$Sheet" "sort" "I") (List.mem_of_getElem? (i := 1) (by decide +kernel))) (fun _ h9 => h9) rfl (by decide +kernel) rfl rfl (Nat.le_of_ble_eq_true rfl) dX7_become_2 (fun H locs hP hD hS => ?_)
  have hP : va_P (dC, dI) vwCl [(h0, .inr (6, [.int p0, v1, .ref qi])), (qi, .inl (ki, 60, .inl fi))] H := hP
  have hD : va_D A [(h0, .inr (6, [.int p0, v1, .ref qi])), (qi, .inl (ki, 60, .inl fi))] := hD
  refine lv_aload_n hx hb dX7_become_5 rfl (lv_at hl 0 rfl) ?_
  refine lv_iload_n hx hb dX7_become_6 rfl (lv_at hl 2 rfl) ?_
  refine va_put (D := (dC, dI)) (ci := 6) (v := .int p1) (ty := .int) (C := RX7) (T := TX7) (N := 3) hx hb hts in_X7_become_X7 tyX7 tyX7_ok nmX7 hown hK hP hD hS 0 rfl rfl 1 (by decide) (hts (.fieldLink RX7 19 "ClearingGates$Sheet" "size" "I") (List.mem_of_getElem? (i := 2) (by decide +kernel))) (fun _ h9 => h9) rfl (by decide +kernel) rfl rfl (Nat.le_of_ble_eq_true rfl) dX7_become_7 (fun H locs hP hD hS => ?_)
  have hP : va_P (dC, dI) vwCl [(h0, .inr (6, [.int p0, .int p1, .ref qi])), (qi, .inl (ki, 60, .inl fi))] H := hP
  have hD : va_D A [(h0, .inr (6, [.int p0, .int p1, .ref qi])), (qi, .inl (ki, 60, .inl fi))] := hD
  refine lv_iconst (v := 0) hx hb dX7_become_10 (by decide) ?_
  refine lv_istore_n (lv' := [(3, .int 0), (0, .ref h0), (1, .int p0), (2, .int p1)]) hx hb dX7_become_11 rfl hl (by decide) rfl (fun ls hl => ?_)
  have loop_12 : ∀ (n i_12 : Nat) (x_12 : Int32), i_12 ≤ 60 → 60 < i_12 + n → x_12 = nI i_12 → ∀ (gi : Nat → Int32), ∀ (H : Heap) (locs : List Loc), va_K (dC, dI) vwCl [(ki, .int)] s → va_P (dC, dI) vwCl [(h0, .inr (6, [.int p0, .int p1, .ref qi])), (qi, .inl (ki, 60, .inl gi))] H → va_D A [(h0, .inr (6, [.int p0, .int p1, .ref qi])), (qi, .inl (ki, 60, .inl gi))] → va_S A s.heap H locs → ∀ (ls : Array Slot), lv_has ls 4 [(3, .int x_12), (0, .ref h0), (1, .int p0), (2, .int p1)] → W p l e ({ frames := 0, cells := 0, slots := 0, locals := 0 }) s m (([.ref h0, .int p0, .int p1] : List Value).toArray) below meth c H locs 0 0 (MQ below (va_Qv (fun (_ : Unit) => True) (fun (_ : Unit) (t : State) => va_P (dC, dI) vwCl [] t.heap ∧ va_K (dC, dI) vwCl [] t ∧ va_D A []) A) (([.ref h0, .int p0, .int p1] : List Value).toArray) s 0 0 A) (F0 m 12 ls []) := by
    intro n
    induction n with
    | zero => intro i_12 x_12 h1 h2; exact absurd h2 (by omega)
    | succ n ih_12 =>
      intro i_12 x_12 hi_12 hn_12 e_x_12 gi H locs hK hP hD hS ls hl
      have t_x_12 : x_12.toInt = (i_12 : Int) := by rw [e_x_12]; exact nI_toInt (by omega)
      refine lv_iload_n hx hb dX7_become_12 rfl (lv_at hl 0 rfl) ?_
      refine lv_bipush (v := 60) hx hb dX7_become_13 (by decide) ?_
      refine lv_icmp_ge (tgt := 31) hx hb dX7_become_15 (by decide) (fun c1 => ?_) (fun c1 => ?_)
      · skip
        have f_c1 := i_le c1
        have hP9 := hP.sub (ws' := []) [] rfl
        have hD9 := hD.sub (ws' := []) [] (by decide) rfl
        have hK9 := hK.sub (tys' := []) [] rfl
        exact W.vret hx hb hr (fun t ht hW => ⟨⟨(), rfl, (by first | rfl | trivial), by rw [ht]; exact hP9, va_K.moved hW.alike hK9, hD9⟩, hS.F ht⟩) hS.2.2 dX7_become_31
      · skip
        have f_c1 := i_nle c1
        refine lv_aload_n hx hb dX7_become_18 rfl (lv_at hl 1 rfl) ?_
        refine va_get (D := (dC, dI)) (ci := 6) (v := .ref qi) (C := RX7) (T := TX7) (N := 3) hx hb hts in_X7_become_X7 hown hK hP 0 rfl rfl 2 (by decide) (hts (.fieldLink RX7 15 "ClearingGates$Sheet" "items" "[I") (List.mem_of_getElem? (i := 3) (by decide +kernel))) (fun _ h9 => h9) rfl dX7_become_19 ?_
        refine lv_iload_n hx hb dX7_become_22 rfl (lv_at hl 0 rfl) ?_
        refine lv_iconst (v := 0) hx hb dX7_become_23 (by decide) ?_
        refine va_iast (D := (dC, dI)) hx hb hK hP hD hS 1 0 rfl rfl (vp_in_iff.mpr ⟨by omega, by omega⟩) dX7_become_24 (fun H locs hP hD hS => ?_)
        generalize e_g2 : (upd gi (x_12).toNatClampNeg 0) = g2 at hP hD
        have hP : va_P (dC, dI) vwCl [(h0, .inr (6, [.int p0, .int p1, .ref qi])), (qi, .inl (ki, 60, .inl g2))] H := hP
        have hD : va_D A [(h0, .inr (6, [.int p0, .int p1, .ref qi])), (qi, .inl (ki, 60, .inl g2))] := hD
        obtain ⟨x3, e_x3⟩ : ∃ y : Int32, y = x_12 + 1 := ⟨_, rfl⟩
        refine lv_iinc (v := x3) (lv' := [(3, .int x3), (0, .ref h0), (1, .int p0), (2, .int p1)]) hx hb dX7_become_25 hl (k := 0) rfl (by rw [e_x3]; rfl) (by decide) rfl (fun ls hl => ?_)
        refine lv_goto (tgt := 12) hx hb dX7_become_28 (by decide) ?_
        exact ih_12 (i_12 + 1) x3 (by omega) (by omega) (by rw [e_x3, e_x_12]; exact nI_1 i_12) g2  _ _ (hK.sub [0] rfl) (hP.sub [0, 1] rfl) (hD.sub [0, 1] (by decide) rfl) hS ls (lv_sub hl [0, 1, 2, 3] rfl)
  exact loop_12 (60 + 1) 0 0 (by omega) (by omega) rfl fi  _ _ hK hP hD hS ls hl

theorem in_X0_becomeAs_X0 : ∀ w ∈ wsX00, w ∈ wsX0_becomeAs := fun _ h => List.mem_cons_of_mem _ (List.mem_append_right _ h)
set_option maxRecDepth 100000 in
set_option maxHeartbeats 4000000 in
/-- Books.becomeAs -/
theorem c_X0_becomeAs (l : Launch) (dC : Nat → ClassId) (dI : Nat → Nat → Nat) (h0 : Nat) (h1 : Nat) (aq0 : Nat) (aq1 : Nat) (aq2 : Nat) (aq3 : Nat) (aq4 : Nat) (aq5 : Nat) (aq6 : Nat) (aacc : Int32) (afees : Int64) (amis : Int32) (abel : Int32) (aref : Int32) (acau : Int32) (ak0 : ClassId) (ag0 : Nat → Int32) (ak1 : ClassId) (ag1 : Nat → Int32) (ak2 : ClassId) (ag2 : Nat → Int32) (ak3 : ClassId) (ag3 : Nat → Int32) (ak4 : ClassId) (ag4 : Nat → Int32) (ak5 : ClassId) (ag5 : Nat → Int32) (ak6 : ClassId) (ag6 : Nat → Int32) (bq0 : Nat) (bq1 : Nat) (bq2 : Nat) (bq3 : Nat) (bq4 : Nat) (bq5 : Nat) (bq6 : Nat) (bacc : Int32) (bfees : Int64) (bmis : Int32) (bbel : Int32) (bref : Int32) (bcau : Int32) (bk0 : ClassId) (bg0 : Nat → Int32) (bk1 : ClassId) (bg1 : Nat → Int32) (bk2 : ClassId) (bg2 : Nat → Int32) (bk3 : ClassId) (bg3 : Nat → Int32) (bk4 : ClassId) (bg4 : Nat → Int32) (bk5 : ClassId) (bg5 : Nat → Int32) (bk6 : ClassId) (bg6 : Nat → Int32) (sz : Nat) : Met l yX0_becomeAs wsX0_becomeAs ({ frames := 1, cells := 0, slots := 0, locals := 60 }) (va_Pc [.ref h0, .ref h1] (fun U => U.heap.size = sz ∧ va_P (dC, dI) vwCl [(h0, .inr (0, [.ref aq0, .ref aq1, .ref aq2, .ref aq3, .ref aq4, .ref aq5, .ref aq6, .int aacc, .long afees, .int amis, .int abel, .int aref, .int acau])), (aq0, .inl (ak0, 8, .inl ag0)), (aq1, .inl (ak1, 8, .inl ag1)), (aq2, .inl (ak2, 8, .inl ag2)), (aq3, .inl (ak3, 8, .inl ag3)), (aq4, .inl (ak4, 8, .inl ag4)), (aq5, .inl (ak5, 8, .inl ag5)), (aq6, .inl (ak6, 8, .inl ag6)), (h1, .inr (0, [.ref bq0, .ref bq1, .ref bq2, .ref bq3, .ref bq4, .ref bq5, .ref bq6, .int bacc, .long bfees, .int bmis, .int bbel, .int bref, .int bcau])), (bq0, .inl (bk0, 8, .inl bg0)), (bq1, .inl (bk1, 8, .inl bg1)), (bq2, .inl (bk2, 8, .inl bg2)), (bq3, .inl (bk3, 8, .inl bg3)), (bq4, .inl (bk4, 8, .inl bg4)), (bq5, .inl (bk5, 8, .inl bg5)), (bq6, .inl (bk6, 8, .inl bg6))] U.heap ∧ va_K (dC, dI) vwCl [(ak0, .int), (ak1, .int), (ak2, .int), (ak3, .boolean), (ak4, .int), (ak5, .int), (ak6, .int), (bk0, .int), (bk1, .int), (bk2, .int), (bk3, .boolean), (bk4, .int), (bk5, .int), (bk6, .int)] U ∧ va_D (fun _ => True) [(h0, .inr (0, [.ref aq0, .ref aq1, .ref aq2, .ref aq3, .ref aq4, .ref aq5, .ref aq6, .int aacc, .long afees, .int amis, .int abel, .int aref, .int acau])), (aq0, .inl (ak0, 8, .inl ag0)), (aq1, .inl (ak1, 8, .inl ag1)), (aq2, .inl (ak2, 8, .inl ag2)), (aq3, .inl (ak3, 8, .inl ag3)), (aq4, .inl (ak4, 8, .inl ag4)), (aq5, .inl (ak5, 8, .inl ag5)), (aq6, .inl (ak6, 8, .inl ag6)), (h1, .inr (0, [.ref bq0, .ref bq1, .ref bq2, .ref bq3, .ref bq4, .ref bq5, .ref bq6, .int bacc, .long bfees, .int bmis, .int bbel, .int bref, .int bcau])), (bq0, .inl (bk0, 8, .inl bg0)), (bq1, .inl (bk1, 8, .inl bg1)), (bq2, .inl (bk2, 8, .inl bg2)), (bq3, .inl (bk3, 8, .inl bg3)), (bq4, .inl (bk4, 8, .inl bg4)), (bq5, .inl (bk5, 8, .inl bg5)), (bq6, .inl (bk6, 8, .inl bg6))])) (va_Qv (fun (_ : Unit) => True) (fun (_ : Unit) (t : State) => va_P (dC, dI) vwCl [(h1, .inr (0, [.ref bq0, .ref bq1, .ref bq2, .ref bq3, .ref bq4, .ref bq5, .ref bq6, .int bacc, .long bfees, .int bmis, .int bbel, .int bref, .int bcau]))] t.heap ∧ va_K (dC, dI) vwCl [] t ∧ va_D (va_A [(h0, .inr (0, [.ref aq0, .ref aq1, .ref aq2, .ref aq3, .ref aq4, .ref aq5, .ref aq6, .int aacc, .long afees, .int amis, .int abel, .int aref, .int acau])), (aq0, .inl (ak0, 8, .inl ag0)), (aq1, .inl (ak1, 8, .inl ag1)), (aq2, .inl (ak2, 8, .inl ag2)), (aq3, .inl (ak3, 8, .inl ag3)), (aq4, .inl (ak4, 8, .inl ag4)), (aq5, .inl (ak5, 8, .inl ag5)), (aq6, .inl (ak6, 8, .inl ag6)), (h1, .inr (0, [.ref bq0, .ref bq1, .ref bq2, .ref bq3, .ref bq4, .ref bq5, .ref bq6, .int bacc, .long bfees, .int bmis, .int bbel, .int bref, .int bcau])), (bq0, .inl (bk0, 8, .inl bg0)), (bq1, .inl (bk1, 8, .inl bg1)), (bq2, .inl (bk2, 8, .inl bg2)), (bq3, .inl (bk3, 8, .inl bg3)), (bq4, .inl (bk4, 8, .inl bg4)), (bq5, .inl (bk5, 8, .inl bg5)), (bq6, .inl (bk6, 8, .inl bg6))] sz) [(h1, .inr (0, [.ref bq0, .ref bq1, .ref bq2, .ref bq3, .ref bq4, .ref bq5, .ref bq6, .int bacc, .long bfees, .int bmis, .int bbel, .int bref, .int bcau]))]) (va_A [(h0, .inr (0, [.ref aq0, .ref aq1, .ref aq2, .ref aq3, .ref aq4, .ref aq5, .ref aq6, .int aacc, .long afees, .int amis, .int abel, .int aref, .int acau])), (aq0, .inl (ak0, 8, .inl ag0)), (aq1, .inl (ak1, 8, .inl ag1)), (aq2, .inl (ak2, 8, .inl ag2)), (aq3, .inl (ak3, 8, .inl ag3)), (aq4, .inl (ak4, 8, .inl ag4)), (aq5, .inl (ak5, 8, .inl ag5)), (aq6, .inl (ak6, 8, .inl ag6)), (h1, .inr (0, [.ref bq0, .ref bq1, .ref bq2, .ref bq3, .ref bq4, .ref bq5, .ref bq6, .int bacc, .long bfees, .int bmis, .int bbel, .int bref, .int bcau])), (bq0, .inl (bk0, 8, .inl bg0)), (bq1, .inl (bk1, 8, .inl bg1)), (bq2, .inl (bk2, 8, .inl bg2)), (bq3, .inl (bk3, 8, .inl bg3)), (bq4, .inl (bk4, 8, .inl bg4)), (bq5, .inl (bk5, 8, .inl bg5)), (bq6, .inl (bk6, 8, .inl bg6))] sz)) 0 0 (va_A [(h0, .inr (0, [.ref aq0, .ref aq1, .ref aq2, .ref aq3, .ref aq4, .ref aq5, .ref aq6, .int aacc, .long afees, .int amis, .int abel, .int aref, .int acau])), (aq0, .inl (ak0, 8, .inl ag0)), (aq1, .inl (ak1, 8, .inl ag1)), (aq2, .inl (ak2, 8, .inl ag2)), (aq3, .inl (ak3, 8, .inl ag3)), (aq4, .inl (ak4, 8, .inl ag4)), (aq5, .inl (ak5, 8, .inl ag5)), (aq6, .inl (ak6, 8, .inl ag6)), (h1, .inr (0, [.ref bq0, .ref bq1, .ref bq2, .ref bq3, .ref bq4, .ref bq5, .ref bq6, .int bacc, .long bfees, .int bmis, .int bbel, .int bref, .int bcau])), (bq0, .inl (bk0, 8, .inl bg0)), (bq1, .inl (bk1, 8, .inl bg1)), (bq2, .inl (bk2, 8, .inl bg2)), (bq3, .inl (bk3, 8, .inl bg3)), (bq4, .inl (bk4, 8, .inl bg4)), (bq5, .inl (bk5, 8, .inl bg5)), (bq6, .inl (bk6, 8, .inl bg6))] sz) := by
  refine Met.ofW (cc := cX0_becomeAs) (maxL := 3) (ret := none) (by decide) rfl ?_
  intro p e s m args below meth c s₁ B hml hv
  obtain ⟨rfl, hsz, hP, hK, hD0⟩ := hv
  have hx := B.exec
  have hb := B.bytes
  have hr := B.returns
  have hts := atoms_spec (ws := wsX0_becomeAs) B.pre
  have hown : s.vm.findClass RX0 = some m.cls := findClass_of_methodNamed B.named
  have hlocks := B.notSynchronized
  subst hsz
  have hD := hD0.self (sz := s.heap.size)
  generalize hAe : va_A [(h0, .inr (0, [.ref aq0, .ref aq1, .ref aq2, .ref aq3, .ref aq4, .ref aq5, .ref aq6, .int aacc, .long afees, .int amis, .int abel, .int aref, .int acau])), (aq0, .inl (ak0, 8, .inl ag0)), (aq1, .inl (ak1, 8, .inl ag1)), (aq2, .inl (ak2, 8, .inl ag2)), (aq3, .inl (ak3, 8, .inl ag3)), (aq4, .inl (ak4, 8, .inl ag4)), (aq5, .inl (ak5, 8, .inl ag5)), (aq6, .inl (ak6, 8, .inl ag6)), (h1, .inr (0, [.ref bq0, .ref bq1, .ref bq2, .ref bq3, .ref bq4, .ref bq5, .ref bq6, .int bacc, .long bfees, .int bmis, .int bbel, .int bref, .int bcau])), (bq0, .inl (bk0, 8, .inl bg0)), (bq1, .inl (bk1, 8, .inl bg1)), (bq2, .inl (bk2, 8, .inl bg2)), (bq3, .inl (bk3, 8, .inl bg3)), (bq4, .inl (bk4, 8, .inl bg4)), (bq5, .inl (bk5, 8, .inl bg5)), (bq6, .inl (bk6, 8, .inl bg6))] s.heap.size = A at hD ⊢
  have hA : ∀ q : Nat, s.heap.size ≤ q → A q := fun q h => by rw [← hAe]; exact Or.inr h
  have hS : va_S A s.heap s.heap [] := va_S.rf
  have hP : va_P (dC, dI) vwCl [(h0, .inr (0, [.ref aq0, .ref aq1, .ref aq2, .ref aq3, .ref aq4, .ref aq5, .ref aq6, .int aacc, .long afees, .int amis, .int abel, .int aref, .int acau])), (aq0, .inl (ak0, 8, .inl ag0)), (aq1, .inl (ak1, 8, .inl ag1)), (aq2, .inl (ak2, 8, .inl ag2)), (aq3, .inl (ak3, 8, .inl ag3)), (aq4, .inl (ak4, 8, .inl ag4)), (aq5, .inl (ak5, 8, .inl ag5)), (aq6, .inl (ak6, 8, .inl ag6)), (h1, .inr (0, [.ref bq0, .ref bq1, .ref bq2, .ref bq3, .ref bq4, .ref bq5, .ref bq6, .int bacc, .long bfees, .int bmis, .int bbel, .int bref, .int bcau])), (bq0, .inl (bk0, 8, .inl bg0)), (bq1, .inl (bk1, 8, .inl bg1)), (bq2, .inl (bk2, 8, .inl bg2)), (bq3, .inl (bk3, 8, .inl bg3)), (bq4, .inl (bk4, 8, .inl bg4)), (bq5, .inl (bk5, 8, .inl bg5)), (bq6, .inl (bk6, 8, .inl bg6))] s.heap := hP
  have hl := lv_entry ([.ref h0, .ref h1]) (n := 3) (Nat.le_of_ble_eq_true rfl)
  rw [lg_entry_eq]
  generalize (lg_sl ([.ref h0, .ref h1]) ++ List.replicate (3 - (lg_sl ([.ref h0, .ref h1])).length) Slot.unset).toArray = ls at hl ⊢
  have hl : lv_has ls 3 [(0, .ref h0), (1, .ref h1)] := hl
  have k_8 : (8 : Int32).toInt = 8 := by decide
  refine lv_aload_n hx hb dX0_becomeAs_0 rfl (lv_at hl 1 rfl) ?_
  refine va_get (D := (dC, dI)) (ci := 0) (v := .ref bq0) (C := RX0) (T := TX0) (N := 13) hx hb hts in_X0_becomeAs_X0 hown hK hP 8 rfl rfl 0 (by decide) (hts (.fieldLink RX0 9 "ClearingGates$Books" "kinds" "[I") (List.mem_of_getElem? (i := 1) (by decide +kernel))) (fun _ h9 => h9) rfl dX0_becomeAs_1 ?_
  refine lv_iconst (v := 0) hx hb dX0_becomeAs_4 (by decide) ?_
  refine lv_aload_n hx hb dX0_becomeAs_5 rfl (lv_at hl 0 rfl) ?_
  refine va_get (D := (dC, dI)) (ci := 0) (v := .ref aq0) (C := RX0) (T := TX0) (N := 13) hx hb hts in_X0_becomeAs_X0 hown hK hP 0 rfl rfl 0 (by decide) (hts (.fieldLink RX0 9 "ClearingGates$Books" "kinds" "[I") (List.mem_of_getElem? (i := 1) (by decide +kernel))) (fun _ h9 => h9) rfl dX0_becomeAs_6 ?_
  refine lv_iconst (v := 0) hx hb dX0_becomeAs_9 (by decide) ?_
  refine lv_bipush (v := 8) hx hb dX0_becomeAs_10 (by decide) ?_
  refine va_copyi (D := (dC, dI)) hx hb (hml.trans hl.1.symm) hown (hts (.methodLink RX0 55 arraycopyName) (List.mem_of_getElem? (i := 2) (by decide +kernel))) (hts (.native arraycopyName) (List.mem_of_getElem? (i := 3) (by decide +kernel))) (hts (.static arraycopyName) (List.mem_of_getElem? (i := 4) (by decide +kernel))) (hts (.initialized "java/lang/System") (List.mem_of_getElem? (i := 5) (by decide +kernel))) hK hP hD hS 9 1 7 0 rfl rfl rfl rfl rfl (by decide) (by decide) (by decide) (by decide) (by decide) (fun _ _ => rfl) (Nat.le_of_ble_eq_true rfl) (by decide) dX0_becomeAs_12 (fun H locs hP hD hS => ?_)
  generalize e_g1 : (va_cpy bg0 ag0 (0 : Int32).toNatClampNeg (0 : Int32).toNatClampNeg (8 : Int32).toNatClampNeg) = g1 at hP hD
  have hP : va_P (dC, dI) vwCl [(h0, .inr (0, [.ref aq0, .ref aq1, .ref aq2, .ref aq3, .ref aq4, .ref aq5, .ref aq6, .int aacc, .long afees, .int amis, .int abel, .int aref, .int acau])), (aq0, .inl (ak0, 8, .inl g1)), (aq1, .inl (ak1, 8, .inl ag1)), (aq2, .inl (ak2, 8, .inl ag2)), (aq3, .inl (ak3, 8, .inl ag3)), (aq4, .inl (ak4, 8, .inl ag4)), (aq5, .inl (ak5, 8, .inl ag5)), (aq6, .inl (ak6, 8, .inl ag6)), (h1, .inr (0, [.ref bq0, .ref bq1, .ref bq2, .ref bq3, .ref bq4, .ref bq5, .ref bq6, .int bacc, .long bfees, .int bmis, .int bbel, .int bref, .int bcau])), (bq0, .inl (bk0, 8, .inl bg0)), (bq1, .inl (bk1, 8, .inl bg1)), (bq2, .inl (bk2, 8, .inl bg2)), (bq3, .inl (bk3, 8, .inl bg3)), (bq4, .inl (bk4, 8, .inl bg4)), (bq5, .inl (bk5, 8, .inl bg5)), (bq6, .inl (bk6, 8, .inl bg6))] H := hP
  have hD : va_D A [(h0, .inr (0, [.ref aq0, .ref aq1, .ref aq2, .ref aq3, .ref aq4, .ref aq5, .ref aq6, .int aacc, .long afees, .int amis, .int abel, .int aref, .int acau])), (aq0, .inl (ak0, 8, .inl g1)), (aq1, .inl (ak1, 8, .inl ag1)), (aq2, .inl (ak2, 8, .inl ag2)), (aq3, .inl (ak3, 8, .inl ag3)), (aq4, .inl (ak4, 8, .inl ag4)), (aq5, .inl (ak5, 8, .inl ag5)), (aq6, .inl (ak6, 8, .inl ag6)), (h1, .inr (0, [.ref bq0, .ref bq1, .ref bq2, .ref bq3, .ref bq4, .ref bq5, .ref bq6, .int bacc, .long bfees, .int bmis, .int bbel, .int bref, .int bcau])), (bq0, .inl (bk0, 8, .inl bg0)), (bq1, .inl (bk1, 8, .inl bg1)), (bq2, .inl (bk2, 8, .inl bg2)), (bq3, .inl (bk3, 8, .inl bg3)), (bq4, .inl (bk4, 8, .inl bg4)), (bq5, .inl (bk5, 8, .inl bg5)), (bq6, .inl (bk6, 8, .inl bg6))] := hD
  refine lv_aload_n hx hb dX0_becomeAs_15 rfl (lv_at hl 1 rfl) ?_
  refine va_get (D := (dC, dI)) (ci := 0) (v := .ref bq1) (C := RX0) (T := TX0) (N := 13) hx hb hts in_X0_becomeAs_X0 hown hK hP 8 rfl rfl 1 (by decide) (hts (.fieldLink RX0 15 "ClearingGates$Books" "balances" "[I") (List.mem_of_getElem? (i := 6) (by decide +kernel))) (fun _ h9 => h9) rfl dX0_becomeAs_16 ?_
  refine lv_iconst (v := 0) hx hb dX0_becomeAs_19 (by decide) ?_
  refine lv_aload_n hx hb dX0_becomeAs_20 rfl (lv_at hl 0 rfl) ?_
  refine va_get (D := (dC, dI)) (ci := 0) (v := .ref aq1) (C := RX0) (T := TX0) (N := 13) hx hb hts in_X0_becomeAs_X0 hown hK hP 0 rfl rfl 1 (by decide) (hts (.fieldLink RX0 15 "ClearingGates$Books" "balances" "[I") (List.mem_of_getElem? (i := 6) (by decide +kernel))) (fun _ h9 => h9) rfl dX0_becomeAs_21 ?_
  refine lv_iconst (v := 0) hx hb dX0_becomeAs_24 (by decide) ?_
  refine lv_bipush (v := 8) hx hb dX0_becomeAs_25 (by decide) ?_
  refine va_copyi (D := (dC, dI)) hx hb (hml.trans hl.1.symm) hown (hts (.methodLink RX0 55 arraycopyName) (List.mem_of_getElem? (i := 2) (by decide +kernel))) (hts (.native arraycopyName) (List.mem_of_getElem? (i := 3) (by decide +kernel))) (hts (.static arraycopyName) (List.mem_of_getElem? (i := 4) (by decide +kernel))) (hts (.initialized "java/lang/System") (List.mem_of_getElem? (i := 5) (by decide +kernel))) hK hP hD hS 10 2 8 1 rfl rfl rfl rfl rfl (by decide) (by decide) (by decide) (by decide) (by decide) (fun _ _ => rfl) (Nat.le_of_ble_eq_true rfl) (by decide) dX0_becomeAs_27 (fun H locs hP hD hS => ?_)
  generalize e_g2 : (va_cpy bg1 ag1 (0 : Int32).toNatClampNeg (0 : Int32).toNatClampNeg (8 : Int32).toNatClampNeg) = g2 at hP hD
  have hP : va_P (dC, dI) vwCl [(h0, .inr (0, [.ref aq0, .ref aq1, .ref aq2, .ref aq3, .ref aq4, .ref aq5, .ref aq6, .int aacc, .long afees, .int amis, .int abel, .int aref, .int acau])), (aq0, .inl (ak0, 8, .inl g1)), (aq1, .inl (ak1, 8, .inl g2)), (aq2, .inl (ak2, 8, .inl ag2)), (aq3, .inl (ak3, 8, .inl ag3)), (aq4, .inl (ak4, 8, .inl ag4)), (aq5, .inl (ak5, 8, .inl ag5)), (aq6, .inl (ak6, 8, .inl ag6)), (h1, .inr (0, [.ref bq0, .ref bq1, .ref bq2, .ref bq3, .ref bq4, .ref bq5, .ref bq6, .int bacc, .long bfees, .int bmis, .int bbel, .int bref, .int bcau])), (bq0, .inl (bk0, 8, .inl bg0)), (bq1, .inl (bk1, 8, .inl bg1)), (bq2, .inl (bk2, 8, .inl bg2)), (bq3, .inl (bk3, 8, .inl bg3)), (bq4, .inl (bk4, 8, .inl bg4)), (bq5, .inl (bk5, 8, .inl bg5)), (bq6, .inl (bk6, 8, .inl bg6))] H := hP
  have hD : va_D A [(h0, .inr (0, [.ref aq0, .ref aq1, .ref aq2, .ref aq3, .ref aq4, .ref aq5, .ref aq6, .int aacc, .long afees, .int amis, .int abel, .int aref, .int acau])), (aq0, .inl (ak0, 8, .inl g1)), (aq1, .inl (ak1, 8, .inl g2)), (aq2, .inl (ak2, 8, .inl ag2)), (aq3, .inl (ak3, 8, .inl ag3)), (aq4, .inl (ak4, 8, .inl ag4)), (aq5, .inl (ak5, 8, .inl ag5)), (aq6, .inl (ak6, 8, .inl ag6)), (h1, .inr (0, [.ref bq0, .ref bq1, .ref bq2, .ref bq3, .ref bq4, .ref bq5, .ref bq6, .int bacc, .long bfees, .int bmis, .int bbel, .int bref, .int bcau])), (bq0, .inl (bk0, 8, .inl bg0)), (bq1, .inl (bk1, 8, .inl bg1)), (bq2, .inl (bk2, 8, .inl bg2)), (bq3, .inl (bk3, 8, .inl bg3)), (bq4, .inl (bk4, 8, .inl bg4)), (bq5, .inl (bk5, 8, .inl bg5)), (bq6, .inl (bk6, 8, .inl bg6))] := hD
  refine lv_aload_n hx hb dX0_becomeAs_30 rfl (lv_at hl 1 rfl) ?_
  refine va_get (D := (dC, dI)) (ci := 0) (v := .ref bq2) (C := RX0) (T := TX0) (N := 13) hx hb hts in_X0_becomeAs_X0 hown hK hP 8 rfl rfl 2 (by decide) (hts (.fieldLink RX0 18 "ClearingGates$Books" "limits" "[I") (List.mem_of_getElem? (i := 7) (by decide +kernel))) (fun _ h9 => h9) rfl dX0_becomeAs_31 ?_
  refine lv_iconst (v := 0) hx hb dX0_becomeAs_34 (by decide) ?_
  refine lv_aload_n hx hb dX0_becomeAs_35 rfl (lv_at hl 0 rfl) ?_
  refine va_get (D := (dC, dI)) (ci := 0) (v := .ref aq2) (C := RX0) (T := TX0) (N := 13) hx hb hts in_X0_becomeAs_X0 hown hK hP 0 rfl rfl 2 (by decide) (hts (.fieldLink RX0 18 "ClearingGates$Books" "limits" "[I") (List.mem_of_getElem? (i := 7) (by decide +kernel))) (fun _ h9 => h9) rfl dX0_becomeAs_36 ?_
  refine lv_iconst (v := 0) hx hb dX0_becomeAs_39 (by decide) ?_
  refine lv_bipush (v := 8) hx hb dX0_becomeAs_40 (by decide) ?_
  refine va_copyi (D := (dC, dI)) hx hb (hml.trans hl.1.symm) hown (hts (.methodLink RX0 55 arraycopyName) (List.mem_of_getElem? (i := 2) (by decide +kernel))) (hts (.native arraycopyName) (List.mem_of_getElem? (i := 3) (by decide +kernel))) (hts (.static arraycopyName) (List.mem_of_getElem? (i := 4) (by decide +kernel))) (hts (.initialized "java/lang/System") (List.mem_of_getElem? (i := 5) (by decide +kernel))) hK hP hD hS 11 3 9 2 rfl rfl rfl rfl rfl (by decide) (by decide) (by decide) (by decide) (by decide) (fun _ _ => rfl) (Nat.le_of_ble_eq_true rfl) (by decide) dX0_becomeAs_42 (fun H locs hP hD hS => ?_)
  generalize e_g3 : (va_cpy bg2 ag2 (0 : Int32).toNatClampNeg (0 : Int32).toNatClampNeg (8 : Int32).toNatClampNeg) = g3 at hP hD
  have hP : va_P (dC, dI) vwCl [(h0, .inr (0, [.ref aq0, .ref aq1, .ref aq2, .ref aq3, .ref aq4, .ref aq5, .ref aq6, .int aacc, .long afees, .int amis, .int abel, .int aref, .int acau])), (aq0, .inl (ak0, 8, .inl g1)), (aq1, .inl (ak1, 8, .inl g2)), (aq2, .inl (ak2, 8, .inl g3)), (aq3, .inl (ak3, 8, .inl ag3)), (aq4, .inl (ak4, 8, .inl ag4)), (aq5, .inl (ak5, 8, .inl ag5)), (aq6, .inl (ak6, 8, .inl ag6)), (h1, .inr (0, [.ref bq0, .ref bq1, .ref bq2, .ref bq3, .ref bq4, .ref bq5, .ref bq6, .int bacc, .long bfees, .int bmis, .int bbel, .int bref, .int bcau])), (bq0, .inl (bk0, 8, .inl bg0)), (bq1, .inl (bk1, 8, .inl bg1)), (bq2, .inl (bk2, 8, .inl bg2)), (bq3, .inl (bk3, 8, .inl bg3)), (bq4, .inl (bk4, 8, .inl bg4)), (bq5, .inl (bk5, 8, .inl bg5)), (bq6, .inl (bk6, 8, .inl bg6))] H := hP
  have hD : va_D A [(h0, .inr (0, [.ref aq0, .ref aq1, .ref aq2, .ref aq3, .ref aq4, .ref aq5, .ref aq6, .int aacc, .long afees, .int amis, .int abel, .int aref, .int acau])), (aq0, .inl (ak0, 8, .inl g1)), (aq1, .inl (ak1, 8, .inl g2)), (aq2, .inl (ak2, 8, .inl g3)), (aq3, .inl (ak3, 8, .inl ag3)), (aq4, .inl (ak4, 8, .inl ag4)), (aq5, .inl (ak5, 8, .inl ag5)), (aq6, .inl (ak6, 8, .inl ag6)), (h1, .inr (0, [.ref bq0, .ref bq1, .ref bq2, .ref bq3, .ref bq4, .ref bq5, .ref bq6, .int bacc, .long bfees, .int bmis, .int bbel, .int bref, .int bcau])), (bq0, .inl (bk0, 8, .inl bg0)), (bq1, .inl (bk1, 8, .inl bg1)), (bq2, .inl (bk2, 8, .inl bg2)), (bq3, .inl (bk3, 8, .inl bg3)), (bq4, .inl (bk4, 8, .inl bg4)), (bq5, .inl (bk5, 8, .inl bg5)), (bq6, .inl (bk6, 8, .inl bg6))] := hD
  refine lv_aload_n hx hb dX0_becomeAs_45 rfl (lv_at hl 1 rfl) ?_
  refine va_get (D := (dC, dI)) (ci := 0) (v := .ref bq4) (C := RX0) (T := TX0) (N := 13) hx hb hts in_X0_becomeAs_X0 hown hK hP 8 rfl rfl 4 (by decide) (hts (.fieldLink RX0 25 "ClearingGates$Books" "entries" "[I") (List.mem_of_getElem? (i := 8) (by decide +kernel))) (fun _ h9 => h9) rfl dX0_becomeAs_46 ?_
  refine lv_iconst (v := 0) hx hb dX0_becomeAs_49 (by decide) ?_
  refine lv_aload_n hx hb dX0_becomeAs_50 rfl (lv_at hl 0 rfl) ?_
  refine va_get (D := (dC, dI)) (ci := 0) (v := .ref aq4) (C := RX0) (T := TX0) (N := 13) hx hb hts in_X0_becomeAs_X0 hown hK hP 0 rfl rfl 4 (by decide) (hts (.fieldLink RX0 25 "ClearingGates$Books" "entries" "[I") (List.mem_of_getElem? (i := 8) (by decide +kernel))) (fun _ h9 => h9) rfl dX0_becomeAs_51 ?_
  refine lv_iconst (v := 0) hx hb dX0_becomeAs_54 (by decide) ?_
  refine lv_bipush (v := 8) hx hb dX0_becomeAs_55 (by decide) ?_
  refine va_copyi (D := (dC, dI)) hx hb (hml.trans hl.1.symm) hown (hts (.methodLink RX0 55 arraycopyName) (List.mem_of_getElem? (i := 2) (by decide +kernel))) (hts (.native arraycopyName) (List.mem_of_getElem? (i := 3) (by decide +kernel))) (hts (.static arraycopyName) (List.mem_of_getElem? (i := 4) (by decide +kernel))) (hts (.initialized "java/lang/System") (List.mem_of_getElem? (i := 5) (by decide +kernel))) hK hP hD hS 13 5 11 4 rfl rfl rfl rfl rfl (by decide) (by decide) (by decide) (by decide) (by decide) (fun _ _ => rfl) (Nat.le_of_ble_eq_true rfl) (by decide) dX0_becomeAs_57 (fun H locs hP hD hS => ?_)
  generalize e_g4 : (va_cpy bg4 ag4 (0 : Int32).toNatClampNeg (0 : Int32).toNatClampNeg (8 : Int32).toNatClampNeg) = g4 at hP hD
  have hP : va_P (dC, dI) vwCl [(h0, .inr (0, [.ref aq0, .ref aq1, .ref aq2, .ref aq3, .ref aq4, .ref aq5, .ref aq6, .int aacc, .long afees, .int amis, .int abel, .int aref, .int acau])), (aq0, .inl (ak0, 8, .inl g1)), (aq1, .inl (ak1, 8, .inl g2)), (aq2, .inl (ak2, 8, .inl g3)), (aq3, .inl (ak3, 8, .inl ag3)), (aq4, .inl (ak4, 8, .inl g4)), (aq5, .inl (ak5, 8, .inl ag5)), (aq6, .inl (ak6, 8, .inl ag6)), (h1, .inr (0, [.ref bq0, .ref bq1, .ref bq2, .ref bq3, .ref bq4, .ref bq5, .ref bq6, .int bacc, .long bfees, .int bmis, .int bbel, .int bref, .int bcau])), (bq0, .inl (bk0, 8, .inl bg0)), (bq1, .inl (bk1, 8, .inl bg1)), (bq2, .inl (bk2, 8, .inl bg2)), (bq3, .inl (bk3, 8, .inl bg3)), (bq4, .inl (bk4, 8, .inl bg4)), (bq5, .inl (bk5, 8, .inl bg5)), (bq6, .inl (bk6, 8, .inl bg6))] H := hP
  have hD : va_D A [(h0, .inr (0, [.ref aq0, .ref aq1, .ref aq2, .ref aq3, .ref aq4, .ref aq5, .ref aq6, .int aacc, .long afees, .int amis, .int abel, .int aref, .int acau])), (aq0, .inl (ak0, 8, .inl g1)), (aq1, .inl (ak1, 8, .inl g2)), (aq2, .inl (ak2, 8, .inl g3)), (aq3, .inl (ak3, 8, .inl ag3)), (aq4, .inl (ak4, 8, .inl g4)), (aq5, .inl (ak5, 8, .inl ag5)), (aq6, .inl (ak6, 8, .inl ag6)), (h1, .inr (0, [.ref bq0, .ref bq1, .ref bq2, .ref bq3, .ref bq4, .ref bq5, .ref bq6, .int bacc, .long bfees, .int bmis, .int bbel, .int bref, .int bcau])), (bq0, .inl (bk0, 8, .inl bg0)), (bq1, .inl (bk1, 8, .inl bg1)), (bq2, .inl (bk2, 8, .inl bg2)), (bq3, .inl (bk3, 8, .inl bg3)), (bq4, .inl (bk4, 8, .inl bg4)), (bq5, .inl (bk5, 8, .inl bg5)), (bq6, .inl (bk6, 8, .inl bg6))] := hD
  refine lv_aload_n hx hb dX0_becomeAs_60 rfl (lv_at hl 1 rfl) ?_
  refine va_get (D := (dC, dI)) (ci := 0) (v := .ref bq5) (C := RX0) (T := TX0) (N := 13) hx hb hts in_X0_becomeAs_X0 hown hK hP 8 rfl rfl 5 (by decide) (hts (.fieldLink RX0 28 "ClearingGates$Books" "leavings" "[I") (List.mem_of_getElem? (i := 9) (by decide +kernel))) (fun _ h9 => h9) rfl dX0_becomeAs_61 ?_
  refine lv_iconst (v := 0) hx hb dX0_becomeAs_64 (by decide) ?_
  refine lv_aload_n hx hb dX0_becomeAs_65 rfl (lv_at hl 0 rfl) ?_
  refine va_get (D := (dC, dI)) (ci := 0) (v := .ref aq5) (C := RX0) (T := TX0) (N := 13) hx hb hts in_X0_becomeAs_X0 hown hK hP 0 rfl rfl 5 (by decide) (hts (.fieldLink RX0 28 "ClearingGates$Books" "leavings" "[I") (List.mem_of_getElem? (i := 9) (by decide +kernel))) (fun _ h9 => h9) rfl dX0_becomeAs_66 ?_
  refine lv_iconst (v := 0) hx hb dX0_becomeAs_69 (by decide) ?_
  refine lv_bipush (v := 8) hx hb dX0_becomeAs_70 (by decide) ?_
  refine va_copyi (D := (dC, dI)) hx hb (hml.trans hl.1.symm) hown (hts (.methodLink RX0 55 arraycopyName) (List.mem_of_getElem? (i := 2) (by decide +kernel))) (hts (.native arraycopyName) (List.mem_of_getElem? (i := 3) (by decide +kernel))) (hts (.static arraycopyName) (List.mem_of_getElem? (i := 4) (by decide +kernel))) (hts (.initialized "java/lang/System") (List.mem_of_getElem? (i := 5) (by decide +kernel))) hK hP hD hS 14 6 12 5 rfl rfl rfl rfl rfl (by decide) (by decide) (by decide) (by decide) (by decide) (fun _ _ => rfl) (Nat.le_of_ble_eq_true rfl) (by decide) dX0_becomeAs_72 (fun H locs hP hD hS => ?_)
  generalize e_g5 : (va_cpy bg5 ag5 (0 : Int32).toNatClampNeg (0 : Int32).toNatClampNeg (8 : Int32).toNatClampNeg) = g5 at hP hD
  have hP : va_P (dC, dI) vwCl [(h0, .inr (0, [.ref aq0, .ref aq1, .ref aq2, .ref aq3, .ref aq4, .ref aq5, .ref aq6, .int aacc, .long afees, .int amis, .int abel, .int aref, .int acau])), (aq0, .inl (ak0, 8, .inl g1)), (aq1, .inl (ak1, 8, .inl g2)), (aq2, .inl (ak2, 8, .inl g3)), (aq3, .inl (ak3, 8, .inl ag3)), (aq4, .inl (ak4, 8, .inl g4)), (aq5, .inl (ak5, 8, .inl g5)), (aq6, .inl (ak6, 8, .inl ag6)), (h1, .inr (0, [.ref bq0, .ref bq1, .ref bq2, .ref bq3, .ref bq4, .ref bq5, .ref bq6, .int bacc, .long bfees, .int bmis, .int bbel, .int bref, .int bcau])), (bq0, .inl (bk0, 8, .inl bg0)), (bq1, .inl (bk1, 8, .inl bg1)), (bq2, .inl (bk2, 8, .inl bg2)), (bq3, .inl (bk3, 8, .inl bg3)), (bq4, .inl (bk4, 8, .inl bg4)), (bq5, .inl (bk5, 8, .inl bg5)), (bq6, .inl (bk6, 8, .inl bg6))] H := hP
  have hD : va_D A [(h0, .inr (0, [.ref aq0, .ref aq1, .ref aq2, .ref aq3, .ref aq4, .ref aq5, .ref aq6, .int aacc, .long afees, .int amis, .int abel, .int aref, .int acau])), (aq0, .inl (ak0, 8, .inl g1)), (aq1, .inl (ak1, 8, .inl g2)), (aq2, .inl (ak2, 8, .inl g3)), (aq3, .inl (ak3, 8, .inl ag3)), (aq4, .inl (ak4, 8, .inl g4)), (aq5, .inl (ak5, 8, .inl g5)), (aq6, .inl (ak6, 8, .inl ag6)), (h1, .inr (0, [.ref bq0, .ref bq1, .ref bq2, .ref bq3, .ref bq4, .ref bq5, .ref bq6, .int bacc, .long bfees, .int bmis, .int bbel, .int bref, .int bcau])), (bq0, .inl (bk0, 8, .inl bg0)), (bq1, .inl (bk1, 8, .inl bg1)), (bq2, .inl (bk2, 8, .inl bg2)), (bq3, .inl (bk3, 8, .inl bg3)), (bq4, .inl (bk4, 8, .inl bg4)), (bq5, .inl (bk5, 8, .inl bg5)), (bq6, .inl (bk6, 8, .inl bg6))] := hD
  refine lv_aload_n hx hb dX0_becomeAs_75 rfl (lv_at hl 1 rfl) ?_
  refine va_get (D := (dC, dI)) (ci := 0) (v := .ref bq6) (C := RX0) (T := TX0) (N := 13) hx hb hts in_X0_becomeAs_X0 hown hK hP 8 rfl rfl 6 (by decide) (hts (.fieldLink RX0 31 "ClearingGates$Books" "agains" "[I") (List.mem_of_getElem? (i := 10) (by decide +kernel))) (fun _ h9 => h9) rfl dX0_becomeAs_76 ?_
  refine lv_iconst (v := 0) hx hb dX0_becomeAs_79 (by decide) ?_
  refine lv_aload_n hx hb dX0_becomeAs_80 rfl (lv_at hl 0 rfl) ?_
  refine va_get (D := (dC, dI)) (ci := 0) (v := .ref aq6) (C := RX0) (T := TX0) (N := 13) hx hb hts in_X0_becomeAs_X0 hown hK hP 0 rfl rfl 6 (by decide) (hts (.fieldLink RX0 31 "ClearingGates$Books" "agains" "[I") (List.mem_of_getElem? (i := 10) (by decide +kernel))) (fun _ h9 => h9) rfl dX0_becomeAs_81 ?_
  refine lv_iconst (v := 0) hx hb dX0_becomeAs_84 (by decide) ?_
  refine lv_bipush (v := 8) hx hb dX0_becomeAs_85 (by decide) ?_
  refine va_copyi (D := (dC, dI)) hx hb (hml.trans hl.1.symm) hown (hts (.methodLink RX0 55 arraycopyName) (List.mem_of_getElem? (i := 2) (by decide +kernel))) (hts (.native arraycopyName) (List.mem_of_getElem? (i := 3) (by decide +kernel))) (hts (.static arraycopyName) (List.mem_of_getElem? (i := 4) (by decide +kernel))) (hts (.initialized "java/lang/System") (List.mem_of_getElem? (i := 5) (by decide +kernel))) hK hP hD hS 15 7 13 6 rfl rfl rfl rfl rfl (by decide) (by decide) (by decide) (by decide) (by decide) (fun _ _ => rfl) (Nat.le_of_ble_eq_true rfl) (by decide) dX0_becomeAs_87 (fun H locs hP hD hS => ?_)
  generalize e_g6 : (va_cpy bg6 ag6 (0 : Int32).toNatClampNeg (0 : Int32).toNatClampNeg (8 : Int32).toNatClampNeg) = g6 at hP hD
  have hP : va_P (dC, dI) vwCl [(h0, .inr (0, [.ref aq0, .ref aq1, .ref aq2, .ref aq3, .ref aq4, .ref aq5, .ref aq6, .int aacc, .long afees, .int amis, .int abel, .int aref, .int acau])), (aq0, .inl (ak0, 8, .inl g1)), (aq1, .inl (ak1, 8, .inl g2)), (aq2, .inl (ak2, 8, .inl g3)), (aq3, .inl (ak3, 8, .inl ag3)), (aq4, .inl (ak4, 8, .inl g4)), (aq5, .inl (ak5, 8, .inl g5)), (aq6, .inl (ak6, 8, .inl g6)), (h1, .inr (0, [.ref bq0, .ref bq1, .ref bq2, .ref bq3, .ref bq4, .ref bq5, .ref bq6, .int bacc, .long bfees, .int bmis, .int bbel, .int bref, .int bcau])), (bq0, .inl (bk0, 8, .inl bg0)), (bq1, .inl (bk1, 8, .inl bg1)), (bq2, .inl (bk2, 8, .inl bg2)), (bq3, .inl (bk3, 8, .inl bg3)), (bq4, .inl (bk4, 8, .inl bg4)), (bq5, .inl (bk5, 8, .inl bg5)), (bq6, .inl (bk6, 8, .inl bg6))] H := hP
  have hD : va_D A [(h0, .inr (0, [.ref aq0, .ref aq1, .ref aq2, .ref aq3, .ref aq4, .ref aq5, .ref aq6, .int aacc, .long afees, .int amis, .int abel, .int aref, .int acau])), (aq0, .inl (ak0, 8, .inl g1)), (aq1, .inl (ak1, 8, .inl g2)), (aq2, .inl (ak2, 8, .inl g3)), (aq3, .inl (ak3, 8, .inl ag3)), (aq4, .inl (ak4, 8, .inl g4)), (aq5, .inl (ak5, 8, .inl g5)), (aq6, .inl (ak6, 8, .inl g6)), (h1, .inr (0, [.ref bq0, .ref bq1, .ref bq2, .ref bq3, .ref bq4, .ref bq5, .ref bq6, .int bacc, .long bfees, .int bmis, .int bbel, .int bref, .int bcau])), (bq0, .inl (bk0, 8, .inl bg0)), (bq1, .inl (bk1, 8, .inl bg1)), (bq2, .inl (bk2, 8, .inl bg2)), (bq3, .inl (bk3, 8, .inl bg3)), (bq4, .inl (bk4, 8, .inl bg4)), (bq5, .inl (bk5, 8, .inl bg5)), (bq6, .inl (bk6, 8, .inl bg6))] := hD
  refine lv_iconst (v := 0) hx hb dX0_becomeAs_90 (by decide) ?_
  refine lv_istore_n (lv' := [(2, .int 0), (0, .ref h0), (1, .ref h1)]) hx hb dX0_becomeAs_91 rfl hl (by decide) rfl (fun ls hl => ?_)
  have loop_92 : ∀ (n i_92 : Nat) (x_92 : Int32), i_92 ≤ 8 → 8 < i_92 + n → x_92 = nI i_92 → ∀ (gi : Nat → Int32), ∀ (H : Heap) (locs : List Loc), va_K (dC, dI) vwCl [(ak0, .int), (ak1, .int), (ak2, .int), (ak3, .boolean), (ak4, .int), (ak5, .int), (ak6, .int), (bk0, .int), (bk1, .int), (bk2, .int), (bk3, .boolean), (bk4, .int), (bk5, .int), (bk6, .int)] s → va_P (dC, dI) vwCl [(h0, .inr (0, [.ref aq0, .ref aq1, .ref aq2, .ref aq3, .ref aq4, .ref aq5, .ref aq6, .int aacc, .long afees, .int amis, .int abel, .int aref, .int acau])), (aq0, .inl (ak0, 8, .inl g1)), (aq1, .inl (ak1, 8, .inl g2)), (aq2, .inl (ak2, 8, .inl g3)), (aq3, .inl (ak3, 8, .inl gi)), (aq4, .inl (ak4, 8, .inl g4)), (aq5, .inl (ak5, 8, .inl g5)), (aq6, .inl (ak6, 8, .inl g6)), (h1, .inr (0, [.ref bq0, .ref bq1, .ref bq2, .ref bq3, .ref bq4, .ref bq5, .ref bq6, .int bacc, .long bfees, .int bmis, .int bbel, .int bref, .int bcau])), (bq0, .inl (bk0, 8, .inl bg0)), (bq1, .inl (bk1, 8, .inl bg1)), (bq2, .inl (bk2, 8, .inl bg2)), (bq3, .inl (bk3, 8, .inl bg3)), (bq4, .inl (bk4, 8, .inl bg4)), (bq5, .inl (bk5, 8, .inl bg5)), (bq6, .inl (bk6, 8, .inl bg6))] H → va_D A [(h0, .inr (0, [.ref aq0, .ref aq1, .ref aq2, .ref aq3, .ref aq4, .ref aq5, .ref aq6, .int aacc, .long afees, .int amis, .int abel, .int aref, .int acau])), (aq0, .inl (ak0, 8, .inl g1)), (aq1, .inl (ak1, 8, .inl g2)), (aq2, .inl (ak2, 8, .inl g3)), (aq3, .inl (ak3, 8, .inl gi)), (aq4, .inl (ak4, 8, .inl g4)), (aq5, .inl (ak5, 8, .inl g5)), (aq6, .inl (ak6, 8, .inl g6)), (h1, .inr (0, [.ref bq0, .ref bq1, .ref bq2, .ref bq3, .ref bq4, .ref bq5, .ref bq6, .int bacc, .long bfees, .int bmis, .int bbel, .int bref, .int bcau])), (bq0, .inl (bk0, 8, .inl bg0)), (bq1, .inl (bk1, 8, .inl bg1)), (bq2, .inl (bk2, 8, .inl bg2)), (bq3, .inl (bk3, 8, .inl bg3)), (bq4, .inl (bk4, 8, .inl bg4)), (bq5, .inl (bk5, 8, .inl bg5)), (bq6, .inl (bk6, 8, .inl bg6))] → va_S A s.heap H locs → ∀ (ls : Array Slot), lv_has ls 3 [(2, .int x_92), (0, .ref h0), (1, .ref h1)] → W p l e ({ frames := 1, cells := 0, slots := 0, locals := 60 }) s m (([.ref h0, .ref h1] : List Value).toArray) below meth c H locs 0 0 (MQ below (va_Qv (fun (_ : Unit) => True) (fun (_ : Unit) (t : State) => va_P (dC, dI) vwCl [(h1, .inr (0, [.ref bq0, .ref bq1, .ref bq2, .ref bq3, .ref bq4, .ref bq5, .ref bq6, .int bacc, .long bfees, .int bmis, .int bbel, .int bref, .int bcau]))] t.heap ∧ va_K (dC, dI) vwCl [] t ∧ va_D A [(h1, .inr (0, [.ref bq0, .ref bq1, .ref bq2, .ref bq3, .ref bq4, .ref bq5, .ref bq6, .int bacc, .long bfees, .int bmis, .int bbel, .int bref, .int bcau]))]) A) (([.ref h0, .ref h1] : List Value).toArray) s 0 0 A) (F0 m 92 ls []) := by
    intro n
    induction n with
    | zero => intro i_92 x_92 h1 h2; exact absurd h2 (by omega)
    | succ n ih_92 =>
      intro i_92 x_92 hi_92 hn_92 e_x_92 gi H locs hK hP hD hS ls hl
      have t_x_92 : x_92.toInt = (i_92 : Int) := by rw [e_x_92]; exact nI_toInt (by omega)
      refine lv_iload_n hx hb dX0_becomeAs_92 rfl (lv_at hl 0 rfl) ?_
      refine lv_bipush (v := 8) hx hb dX0_becomeAs_93 (by decide) ?_
      refine lv_icmp_ge (tgt := 116) hx hb dX0_becomeAs_95 (by decide) (fun c7 => ?_) (fun c7 => ?_)
      · skip
        have f_c7 := i_le c7
        refine lv_aload_n hx hb dX0_becomeAs_116 rfl (lv_at hl 1 rfl) ?_
        refine lv_aload_n hx hb dX0_becomeAs_117 rfl (lv_at hl 2 rfl) ?_
        refine va_get (D := (dC, dI)) (ci := 0) (v := .int bacc) (C := RX0) (T := TX0) (N := 13) hx hb hts in_X0_becomeAs_X0 hown hK hP 8 rfl rfl 7 (by decide) (hts (.fieldLink RX0 34 "ClearingGates$Books" "accounts" "I") (List.mem_of_getElem? (i := 12) (by decide +kernel))) (fun _ h9 => h9) rfl dX0_becomeAs_118 ?_
        refine va_put (D := (dC, dI)) (ci := 0) (v := .int bacc) (ty := .int) (C := RX0) (T := TX0) (N := 13) hx hb hts in_X0_becomeAs_X0 tyX0 tyX0_ok nmX0 hown hK hP hD hS 0 rfl rfl 7 (by decide) (hts (.fieldLink RX0 34 "ClearingGates$Books" "accounts" "I") (List.mem_of_getElem? (i := 12) (by decide +kernel))) (fun _ h9 => h9) rfl (by decide +kernel) rfl rfl (Nat.le_of_ble_eq_true rfl) dX0_becomeAs_121 (fun H locs hP hD hS => ?_)
        have hP : va_P (dC, dI) vwCl [(h0, .inr (0, [.ref aq0, .ref aq1, .ref aq2, .ref aq3, .ref aq4, .ref aq5, .ref aq6, .int bacc, .long afees, .int amis, .int abel, .int aref, .int acau])), (aq0, .inl (ak0, 8, .inl g1)), (aq1, .inl (ak1, 8, .inl g2)), (aq2, .inl (ak2, 8, .inl g3)), (aq3, .inl (ak3, 8, .inl gi)), (aq4, .inl (ak4, 8, .inl g4)), (aq5, .inl (ak5, 8, .inl g5)), (aq6, .inl (ak6, 8, .inl g6)), (h1, .inr (0, [.ref bq0, .ref bq1, .ref bq2, .ref bq3, .ref bq4, .ref bq5, .ref bq6, .int bacc, .long bfees, .int bmis, .int bbel, .int bref, .int bcau])), (bq0, .inl (bk0, 8, .inl bg0)), (bq1, .inl (bk1, 8, .inl bg1)), (bq2, .inl (bk2, 8, .inl bg2)), (bq3, .inl (bk3, 8, .inl bg3)), (bq4, .inl (bk4, 8, .inl bg4)), (bq5, .inl (bk5, 8, .inl bg5)), (bq6, .inl (bk6, 8, .inl bg6))] H := hP
        have hD : va_D A [(h0, .inr (0, [.ref aq0, .ref aq1, .ref aq2, .ref aq3, .ref aq4, .ref aq5, .ref aq6, .int bacc, .long afees, .int amis, .int abel, .int aref, .int acau])), (aq0, .inl (ak0, 8, .inl g1)), (aq1, .inl (ak1, 8, .inl g2)), (aq2, .inl (ak2, 8, .inl g3)), (aq3, .inl (ak3, 8, .inl gi)), (aq4, .inl (ak4, 8, .inl g4)), (aq5, .inl (ak5, 8, .inl g5)), (aq6, .inl (ak6, 8, .inl g6)), (h1, .inr (0, [.ref bq0, .ref bq1, .ref bq2, .ref bq3, .ref bq4, .ref bq5, .ref bq6, .int bacc, .long bfees, .int bmis, .int bbel, .int bref, .int bcau])), (bq0, .inl (bk0, 8, .inl bg0)), (bq1, .inl (bk1, 8, .inl bg1)), (bq2, .inl (bk2, 8, .inl bg2)), (bq3, .inl (bk3, 8, .inl bg3)), (bq4, .inl (bk4, 8, .inl bg4)), (bq5, .inl (bk5, 8, .inl bg5)), (bq6, .inl (bk6, 8, .inl bg6))] := hD
        refine lv_aload_n hx hb dX0_becomeAs_124 rfl (lv_at hl 1 rfl) ?_
        refine lv_aload_n hx hb dX0_becomeAs_125 rfl (lv_at hl 2 rfl) ?_
        refine va_get (D := (dC, dI)) (ci := 0) (v := .long bfees) (C := RX0) (T := TX0) (N := 13) hx hb hts in_X0_becomeAs_X0 hown hK hP 8 rfl rfl 8 (by decide) (hts (.fieldLink RX0 51 "ClearingGates$Books" "fees" "J") (List.mem_of_getElem? (i := 13) (by decide +kernel))) (fun _ h9 => h9) rfl dX0_becomeAs_126 ?_
        refine va_put (D := (dC, dI)) (ci := 0) (v := .long bfees) (ty := .long) (C := RX0) (T := TX0) (N := 13) hx hb hts in_X0_becomeAs_X0 tyX0 tyX0_ok nmX0 hown hK hP hD hS 0 rfl rfl 8 (by decide) (hts (.fieldLink RX0 51 "ClearingGates$Books" "fees" "J") (List.mem_of_getElem? (i := 13) (by decide +kernel))) (fun _ h9 => h9) rfl (by decide +kernel) rfl rfl (Nat.le_of_ble_eq_true rfl) dX0_becomeAs_129 (fun H locs hP hD hS => ?_)
        have hP : va_P (dC, dI) vwCl [(h0, .inr (0, [.ref aq0, .ref aq1, .ref aq2, .ref aq3, .ref aq4, .ref aq5, .ref aq6, .int bacc, .long bfees, .int amis, .int abel, .int aref, .int acau])), (aq0, .inl (ak0, 8, .inl g1)), (aq1, .inl (ak1, 8, .inl g2)), (aq2, .inl (ak2, 8, .inl g3)), (aq3, .inl (ak3, 8, .inl gi)), (aq4, .inl (ak4, 8, .inl g4)), (aq5, .inl (ak5, 8, .inl g5)), (aq6, .inl (ak6, 8, .inl g6)), (h1, .inr (0, [.ref bq0, .ref bq1, .ref bq2, .ref bq3, .ref bq4, .ref bq5, .ref bq6, .int bacc, .long bfees, .int bmis, .int bbel, .int bref, .int bcau])), (bq0, .inl (bk0, 8, .inl bg0)), (bq1, .inl (bk1, 8, .inl bg1)), (bq2, .inl (bk2, 8, .inl bg2)), (bq3, .inl (bk3, 8, .inl bg3)), (bq4, .inl (bk4, 8, .inl bg4)), (bq5, .inl (bk5, 8, .inl bg5)), (bq6, .inl (bk6, 8, .inl bg6))] H := hP
        have hD : va_D A [(h0, .inr (0, [.ref aq0, .ref aq1, .ref aq2, .ref aq3, .ref aq4, .ref aq5, .ref aq6, .int bacc, .long bfees, .int amis, .int abel, .int aref, .int acau])), (aq0, .inl (ak0, 8, .inl g1)), (aq1, .inl (ak1, 8, .inl g2)), (aq2, .inl (ak2, 8, .inl g3)), (aq3, .inl (ak3, 8, .inl gi)), (aq4, .inl (ak4, 8, .inl g4)), (aq5, .inl (ak5, 8, .inl g5)), (aq6, .inl (ak6, 8, .inl g6)), (h1, .inr (0, [.ref bq0, .ref bq1, .ref bq2, .ref bq3, .ref bq4, .ref bq5, .ref bq6, .int bacc, .long bfees, .int bmis, .int bbel, .int bref, .int bcau])), (bq0, .inl (bk0, 8, .inl bg0)), (bq1, .inl (bk1, 8, .inl bg1)), (bq2, .inl (bk2, 8, .inl bg2)), (bq3, .inl (bk3, 8, .inl bg3)), (bq4, .inl (bk4, 8, .inl bg4)), (bq5, .inl (bk5, 8, .inl bg5)), (bq6, .inl (bk6, 8, .inl bg6))] := hD
        refine lv_aload_n hx hb dX0_becomeAs_132 rfl (lv_at hl 1 rfl) ?_
        refine lv_aload_n hx hb dX0_becomeAs_133 rfl (lv_at hl 2 rfl) ?_
        refine va_get (D := (dC, dI)) (ci := 0) (v := .int bmis) (C := RX0) (T := TX0) (N := 13) hx hb hts in_X0_becomeAs_X0 hown hK hP 8 rfl rfl 9 (by decide) (hts (.fieldLink RX0 61 "ClearingGates$Books" "missed" "I") (List.mem_of_getElem? (i := 14) (by decide +kernel))) (fun _ h9 => h9) rfl dX0_becomeAs_134 ?_
        refine va_put (D := (dC, dI)) (ci := 0) (v := .int bmis) (ty := .int) (C := RX0) (T := TX0) (N := 13) hx hb hts in_X0_becomeAs_X0 tyX0 tyX0_ok nmX0 hown hK hP hD hS 0 rfl rfl 9 (by decide) (hts (.fieldLink RX0 61 "ClearingGates$Books" "missed" "I") (List.mem_of_getElem? (i := 14) (by decide +kernel))) (fun _ h9 => h9) rfl (by decide +kernel) rfl rfl (Nat.le_of_ble_eq_true rfl) dX0_becomeAs_137 (fun H locs hP hD hS => ?_)
        have hP : va_P (dC, dI) vwCl [(h0, .inr (0, [.ref aq0, .ref aq1, .ref aq2, .ref aq3, .ref aq4, .ref aq5, .ref aq6, .int bacc, .long bfees, .int bmis, .int abel, .int aref, .int acau])), (aq0, .inl (ak0, 8, .inl g1)), (aq1, .inl (ak1, 8, .inl g2)), (aq2, .inl (ak2, 8, .inl g3)), (aq3, .inl (ak3, 8, .inl gi)), (aq4, .inl (ak4, 8, .inl g4)), (aq5, .inl (ak5, 8, .inl g5)), (aq6, .inl (ak6, 8, .inl g6)), (h1, .inr (0, [.ref bq0, .ref bq1, .ref bq2, .ref bq3, .ref bq4, .ref bq5, .ref bq6, .int bacc, .long bfees, .int bmis, .int bbel, .int bref, .int bcau])), (bq0, .inl (bk0, 8, .inl bg0)), (bq1, .inl (bk1, 8, .inl bg1)), (bq2, .inl (bk2, 8, .inl bg2)), (bq3, .inl (bk3, 8, .inl bg3)), (bq4, .inl (bk4, 8, .inl bg4)), (bq5, .inl (bk5, 8, .inl bg5)), (bq6, .inl (bk6, 8, .inl bg6))] H := hP
        have hD : va_D A [(h0, .inr (0, [.ref aq0, .ref aq1, .ref aq2, .ref aq3, .ref aq4, .ref aq5, .ref aq6, .int bacc, .long bfees, .int bmis, .int abel, .int aref, .int acau])), (aq0, .inl (ak0, 8, .inl g1)), (aq1, .inl (ak1, 8, .inl g2)), (aq2, .inl (ak2, 8, .inl g3)), (aq3, .inl (ak3, 8, .inl gi)), (aq4, .inl (ak4, 8, .inl g4)), (aq5, .inl (ak5, 8, .inl g5)), (aq6, .inl (ak6, 8, .inl g6)), (h1, .inr (0, [.ref bq0, .ref bq1, .ref bq2, .ref bq3, .ref bq4, .ref bq5, .ref bq6, .int bacc, .long bfees, .int bmis, .int bbel, .int bref, .int bcau])), (bq0, .inl (bk0, 8, .inl bg0)), (bq1, .inl (bk1, 8, .inl bg1)), (bq2, .inl (bk2, 8, .inl bg2)), (bq3, .inl (bk3, 8, .inl bg3)), (bq4, .inl (bk4, 8, .inl bg4)), (bq5, .inl (bk5, 8, .inl bg5)), (bq6, .inl (bk6, 8, .inl bg6))] := hD
        refine lv_aload_n hx hb dX0_becomeAs_140 rfl (lv_at hl 1 rfl) ?_
        refine lv_aload_n hx hb dX0_becomeAs_141 rfl (lv_at hl 2 rfl) ?_
        refine va_get (D := (dC, dI)) (ci := 0) (v := .int bbel) (C := RX0) (T := TX0) (N := 13) hx hb hts in_X0_becomeAs_X0 hown hK hP 8 rfl rfl 10 (by decide) (hts (.fieldLink RX0 64 "ClearingGates$Books" "bells" "I") (List.mem_of_getElem? (i := 15) (by decide +kernel))) (fun _ h9 => h9) rfl dX0_becomeAs_142 ?_
        refine va_put (D := (dC, dI)) (ci := 0) (v := .int bbel) (ty := .int) (C := RX0) (T := TX0) (N := 13) hx hb hts in_X0_becomeAs_X0 tyX0 tyX0_ok nmX0 hown hK hP hD hS 0 rfl rfl 10 (by decide) (hts (.fieldLink RX0 64 "ClearingGates$Books" "bells" "I") (List.mem_of_getElem? (i := 15) (by decide +kernel))) (fun _ h9 => h9) rfl (by decide +kernel) rfl rfl (Nat.le_of_ble_eq_true rfl) dX0_becomeAs_145 (fun H locs hP hD hS => ?_)
        have hP : va_P (dC, dI) vwCl [(h0, .inr (0, [.ref aq0, .ref aq1, .ref aq2, .ref aq3, .ref aq4, .ref aq5, .ref aq6, .int bacc, .long bfees, .int bmis, .int bbel, .int aref, .int acau])), (aq0, .inl (ak0, 8, .inl g1)), (aq1, .inl (ak1, 8, .inl g2)), (aq2, .inl (ak2, 8, .inl g3)), (aq3, .inl (ak3, 8, .inl gi)), (aq4, .inl (ak4, 8, .inl g4)), (aq5, .inl (ak5, 8, .inl g5)), (aq6, .inl (ak6, 8, .inl g6)), (h1, .inr (0, [.ref bq0, .ref bq1, .ref bq2, .ref bq3, .ref bq4, .ref bq5, .ref bq6, .int bacc, .long bfees, .int bmis, .int bbel, .int bref, .int bcau])), (bq0, .inl (bk0, 8, .inl bg0)), (bq1, .inl (bk1, 8, .inl bg1)), (bq2, .inl (bk2, 8, .inl bg2)), (bq3, .inl (bk3, 8, .inl bg3)), (bq4, .inl (bk4, 8, .inl bg4)), (bq5, .inl (bk5, 8, .inl bg5)), (bq6, .inl (bk6, 8, .inl bg6))] H := hP
        have hD : va_D A [(h0, .inr (0, [.ref aq0, .ref aq1, .ref aq2, .ref aq3, .ref aq4, .ref aq5, .ref aq6, .int bacc, .long bfees, .int bmis, .int bbel, .int aref, .int acau])), (aq0, .inl (ak0, 8, .inl g1)), (aq1, .inl (ak1, 8, .inl g2)), (aq2, .inl (ak2, 8, .inl g3)), (aq3, .inl (ak3, 8, .inl gi)), (aq4, .inl (ak4, 8, .inl g4)), (aq5, .inl (ak5, 8, .inl g5)), (aq6, .inl (ak6, 8, .inl g6)), (h1, .inr (0, [.ref bq0, .ref bq1, .ref bq2, .ref bq3, .ref bq4, .ref bq5, .ref bq6, .int bacc, .long bfees, .int bmis, .int bbel, .int bref, .int bcau])), (bq0, .inl (bk0, 8, .inl bg0)), (bq1, .inl (bk1, 8, .inl bg1)), (bq2, .inl (bk2, 8, .inl bg2)), (bq3, .inl (bk3, 8, .inl bg3)), (bq4, .inl (bk4, 8, .inl bg4)), (bq5, .inl (bk5, 8, .inl bg5)), (bq6, .inl (bk6, 8, .inl bg6))] := hD
        refine lv_aload_n hx hb dX0_becomeAs_148 rfl (lv_at hl 1 rfl) ?_
        refine lv_aload_n hx hb dX0_becomeAs_149 rfl (lv_at hl 2 rfl) ?_
        refine va_get (D := (dC, dI)) (ci := 0) (v := .int bref) (C := RX0) (T := TX0) (N := 13) hx hb hts in_X0_becomeAs_X0 hown hK hP 8 rfl rfl 11 (by decide) (hts (.fieldLink RX0 67 "ClearingGates$Books" "refused" "I") (List.mem_of_getElem? (i := 16) (by decide +kernel))) (fun _ h9 => h9) rfl dX0_becomeAs_150 ?_
        refine va_put (D := (dC, dI)) (ci := 0) (v := .int bref) (ty := .int) (C := RX0) (T := TX0) (N := 13) hx hb hts in_X0_becomeAs_X0 tyX0 tyX0_ok nmX0 hown hK hP hD hS 0 rfl rfl 11 (by decide) (hts (.fieldLink RX0 67 "ClearingGates$Books" "refused" "I") (List.mem_of_getElem? (i := 16) (by decide +kernel))) (fun _ h9 => h9) rfl (by decide +kernel) rfl rfl (Nat.le_of_ble_eq_true rfl) dX0_becomeAs_153 (fun H locs hP hD hS => ?_)
        have hP : va_P (dC, dI) vwCl [(h0, .inr (0, [.ref aq0, .ref aq1, .ref aq2, .ref aq3, .ref aq4, .ref aq5, .ref aq6, .int bacc, .long bfees, .int bmis, .int bbel, .int bref, .int acau])), (aq0, .inl (ak0, 8, .inl g1)), (aq1, .inl (ak1, 8, .inl g2)), (aq2, .inl (ak2, 8, .inl g3)), (aq3, .inl (ak3, 8, .inl gi)), (aq4, .inl (ak4, 8, .inl g4)), (aq5, .inl (ak5, 8, .inl g5)), (aq6, .inl (ak6, 8, .inl g6)), (h1, .inr (0, [.ref bq0, .ref bq1, .ref bq2, .ref bq3, .ref bq4, .ref bq5, .ref bq6, .int bacc, .long bfees, .int bmis, .int bbel, .int bref, .int bcau])), (bq0, .inl (bk0, 8, .inl bg0)), (bq1, .inl (bk1, 8, .inl bg1)), (bq2, .inl (bk2, 8, .inl bg2)), (bq3, .inl (bk3, 8, .inl bg3)), (bq4, .inl (bk4, 8, .inl bg4)), (bq5, .inl (bk5, 8, .inl bg5)), (bq6, .inl (bk6, 8, .inl bg6))] H := hP
        have hD : va_D A [(h0, .inr (0, [.ref aq0, .ref aq1, .ref aq2, .ref aq3, .ref aq4, .ref aq5, .ref aq6, .int bacc, .long bfees, .int bmis, .int bbel, .int bref, .int acau])), (aq0, .inl (ak0, 8, .inl g1)), (aq1, .inl (ak1, 8, .inl g2)), (aq2, .inl (ak2, 8, .inl g3)), (aq3, .inl (ak3, 8, .inl gi)), (aq4, .inl (ak4, 8, .inl g4)), (aq5, .inl (ak5, 8, .inl g5)), (aq6, .inl (ak6, 8, .inl g6)), (h1, .inr (0, [.ref bq0, .ref bq1, .ref bq2, .ref bq3, .ref bq4, .ref bq5, .ref bq6, .int bacc, .long bfees, .int bmis, .int bbel, .int bref, .int bcau])), (bq0, .inl (bk0, 8, .inl bg0)), (bq1, .inl (bk1, 8, .inl bg1)), (bq2, .inl (bk2, 8, .inl bg2)), (bq3, .inl (bk3, 8, .inl bg3)), (bq4, .inl (bk4, 8, .inl bg4)), (bq5, .inl (bk5, 8, .inl bg5)), (bq6, .inl (bk6, 8, .inl bg6))] := hD
        refine lv_aload_n hx hb dX0_becomeAs_156 rfl (lv_at hl 1 rfl) ?_
        refine lv_aload_n hx hb dX0_becomeAs_157 rfl (lv_at hl 2 rfl) ?_
        refine va_get (D := (dC, dI)) (ci := 0) (v := .int bcau) (C := RX0) (T := TX0) (N := 13) hx hb hts in_X0_becomeAs_X0 hown hK hP 8 rfl rfl 12 (by decide) (hts (.fieldLink RX0 70 "ClearingGates$Books" "caught" "I") (List.mem_of_getElem? (i := 17) (by decide +kernel))) (fun _ h9 => h9) rfl dX0_becomeAs_158 ?_
        refine va_put (D := (dC, dI)) (ci := 0) (v := .int bcau) (ty := .int) (C := RX0) (T := TX0) (N := 13) hx hb hts in_X0_becomeAs_X0 tyX0 tyX0_ok nmX0 hown hK hP hD hS 0 rfl rfl 12 (by decide) (hts (.fieldLink RX0 70 "ClearingGates$Books" "caught" "I") (List.mem_of_getElem? (i := 17) (by decide +kernel))) (fun _ h9 => h9) rfl (by decide +kernel) rfl rfl (Nat.le_of_ble_eq_true rfl) dX0_becomeAs_161 (fun H locs hP hD hS => ?_)
        have hP : va_P (dC, dI) vwCl [(h0, .inr (0, [.ref aq0, .ref aq1, .ref aq2, .ref aq3, .ref aq4, .ref aq5, .ref aq6, .int bacc, .long bfees, .int bmis, .int bbel, .int bref, .int bcau])), (aq0, .inl (ak0, 8, .inl g1)), (aq1, .inl (ak1, 8, .inl g2)), (aq2, .inl (ak2, 8, .inl g3)), (aq3, .inl (ak3, 8, .inl gi)), (aq4, .inl (ak4, 8, .inl g4)), (aq5, .inl (ak5, 8, .inl g5)), (aq6, .inl (ak6, 8, .inl g6)), (h1, .inr (0, [.ref bq0, .ref bq1, .ref bq2, .ref bq3, .ref bq4, .ref bq5, .ref bq6, .int bacc, .long bfees, .int bmis, .int bbel, .int bref, .int bcau])), (bq0, .inl (bk0, 8, .inl bg0)), (bq1, .inl (bk1, 8, .inl bg1)), (bq2, .inl (bk2, 8, .inl bg2)), (bq3, .inl (bk3, 8, .inl bg3)), (bq4, .inl (bk4, 8, .inl bg4)), (bq5, .inl (bk5, 8, .inl bg5)), (bq6, .inl (bk6, 8, .inl bg6))] H := hP
        have hD : va_D A [(h0, .inr (0, [.ref aq0, .ref aq1, .ref aq2, .ref aq3, .ref aq4, .ref aq5, .ref aq6, .int bacc, .long bfees, .int bmis, .int bbel, .int bref, .int bcau])), (aq0, .inl (ak0, 8, .inl g1)), (aq1, .inl (ak1, 8, .inl g2)), (aq2, .inl (ak2, 8, .inl g3)), (aq3, .inl (ak3, 8, .inl gi)), (aq4, .inl (ak4, 8, .inl g4)), (aq5, .inl (ak5, 8, .inl g5)), (aq6, .inl (ak6, 8, .inl g6)), (h1, .inr (0, [.ref bq0, .ref bq1, .ref bq2, .ref bq3, .ref bq4, .ref bq5, .ref bq6, .int bacc, .long bfees, .int bmis, .int bbel, .int bref, .int bcau])), (bq0, .inl (bk0, 8, .inl bg0)), (bq1, .inl (bk1, 8, .inl bg1)), (bq2, .inl (bk2, 8, .inl bg2)), (bq3, .inl (bk3, 8, .inl bg3)), (bq4, .inl (bk4, 8, .inl bg4)), (bq5, .inl (bk5, 8, .inl bg5)), (bq6, .inl (bk6, 8, .inl bg6))] := hD
        have hP9 := hP.sub (ws' := [(h1, .inr (0, [.ref bq0, .ref bq1, .ref bq2, .ref bq3, .ref bq4, .ref bq5, .ref bq6, .int bacc, .long bfees, .int bmis, .int bbel, .int bref, .int bcau]))]) [8] rfl
        have hD9 := hD.sub (ws' := [(h1, .inr (0, [.ref bq0, .ref bq1, .ref bq2, .ref bq3, .ref bq4, .ref bq5, .ref bq6, .int bacc, .long bfees, .int bmis, .int bbel, .int bref, .int bcau]))]) [8] (by decide) rfl
        have hK9 := hK.sub (tys' := []) [] rfl
        exact W.vret hx hb hr (fun t ht hW => ⟨⟨(), rfl, (by first | rfl | trivial), by rw [ht]; exact hP9, va_K.moved hW.alike hK9, hD9⟩, hS.F ht⟩) hS.2.2 dX0_becomeAs_164
      · skip
        have f_c7 := i_nle c7
        refine lv_aload_n hx hb dX0_becomeAs_98 rfl (lv_at hl 1 rfl) ?_
        refine va_get (D := (dC, dI)) (ci := 0) (v := .ref aq3) (C := RX0) (T := TX0) (N := 13) hx hb hts in_X0_becomeAs_X0 hown hK hP 0 rfl rfl 3 (by decide) (hts (.fieldLink RX0 21 "ClearingGates$Books" "gates" "[Z") (List.mem_of_getElem? (i := 11) (by decide +kernel))) (fun _ h9 => h9) rfl dX0_becomeAs_99 ?_
        refine lv_iload_n hx hb dX0_becomeAs_102 rfl (lv_at hl 0 rfl) ?_
        refine lv_aload_n hx hb dX0_becomeAs_103 rfl (lv_at hl 2 rfl) ?_
        refine va_get (D := (dC, dI)) (ci := 0) (v := .ref bq3) (C := RX0) (T := TX0) (N := 13) hx hb hts in_X0_becomeAs_X0 hown hK hP 8 rfl rfl 3 (by decide) (hts (.fieldLink RX0 21 "ClearingGates$Books" "gates" "[Z") (List.mem_of_getElem? (i := 11) (by decide +kernel))) (fun _ h9 => h9) rfl dX0_becomeAs_104 ?_
        refine lv_iload_n hx hb dX0_becomeAs_107 rfl (lv_at hl 0 rfl) ?_
        refine va_zald (D := (dC, dI)) hx hb hK hP 12 10 rfl rfl (vp_in_iff.mpr ⟨by omega, by omega⟩) dX0_becomeAs_108 ?_
        refine lv_topi (fun z8 e_z8 => ?_)
        refine va_zast (D := (dC, dI)) hx hb hK hP hD hS 4 3 rfl rfl (vp_in_iff.mpr ⟨by omega, by omega⟩) dX0_becomeAs_109 (fun H locs hP hD hS => ?_)
        generalize e_g9 : (upd gi (x_92).toNatClampNeg (vp_nar .boolean z8)) = g9 at hP hD
        have hP : va_P (dC, dI) vwCl [(h0, .inr (0, [.ref aq0, .ref aq1, .ref aq2, .ref aq3, .ref aq4, .ref aq5, .ref aq6, .int aacc, .long afees, .int amis, .int abel, .int aref, .int acau])), (aq0, .inl (ak0, 8, .inl g1)), (aq1, .inl (ak1, 8, .inl g2)), (aq2, .inl (ak2, 8, .inl g3)), (aq3, .inl (ak3, 8, .inl g9)), (aq4, .inl (ak4, 8, .inl g4)), (aq5, .inl (ak5, 8, .inl g5)), (aq6, .inl (ak6, 8, .inl g6)), (h1, .inr (0, [.ref bq0, .ref bq1, .ref bq2, .ref bq3, .ref bq4, .ref bq5, .ref bq6, .int bacc, .long bfees, .int bmis, .int bbel, .int bref, .int bcau])), (bq0, .inl (bk0, 8, .inl bg0)), (bq1, .inl (bk1, 8, .inl bg1)), (bq2, .inl (bk2, 8, .inl bg2)), (bq3, .inl (bk3, 8, .inl bg3)), (bq4, .inl (bk4, 8, .inl bg4)), (bq5, .inl (bk5, 8, .inl bg5)), (bq6, .inl (bk6, 8, .inl bg6))] H := hP
        have hD : va_D A [(h0, .inr (0, [.ref aq0, .ref aq1, .ref aq2, .ref aq3, .ref aq4, .ref aq5, .ref aq6, .int aacc, .long afees, .int amis, .int abel, .int aref, .int acau])), (aq0, .inl (ak0, 8, .inl g1)), (aq1, .inl (ak1, 8, .inl g2)), (aq2, .inl (ak2, 8, .inl g3)), (aq3, .inl (ak3, 8, .inl g9)), (aq4, .inl (ak4, 8, .inl g4)), (aq5, .inl (ak5, 8, .inl g5)), (aq6, .inl (ak6, 8, .inl g6)), (h1, .inr (0, [.ref bq0, .ref bq1, .ref bq2, .ref bq3, .ref bq4, .ref bq5, .ref bq6, .int bacc, .long bfees, .int bmis, .int bbel, .int bref, .int bcau])), (bq0, .inl (bk0, 8, .inl bg0)), (bq1, .inl (bk1, 8, .inl bg1)), (bq2, .inl (bk2, 8, .inl bg2)), (bq3, .inl (bk3, 8, .inl bg3)), (bq4, .inl (bk4, 8, .inl bg4)), (bq5, .inl (bk5, 8, .inl bg5)), (bq6, .inl (bk6, 8, .inl bg6))] := hD
        obtain ⟨x10, e_x10⟩ : ∃ y : Int32, y = x_92 + 1 := ⟨_, rfl⟩
        refine lv_iinc (v := x10) (lv' := [(2, .int x10), (0, .ref h0), (1, .ref h1)]) hx hb dX0_becomeAs_110 hl (k := 0) rfl (by rw [e_x10]; rfl) (by decide) rfl (fun ls hl => ?_)
        refine lv_goto (tgt := 92) hx hb dX0_becomeAs_113 (by decide) ?_
        exact ih_92 (i_92 + 1) x10 (by omega) (by omega) (by rw [e_x10, e_x_92]; exact nI_1 i_92) g9  _ _ (hK.sub [0, 1, 2, 3, 4, 5, 6, 7, 8, 9, 10, 11, 12, 13] rfl) (hP.sub [0, 1, 2, 3, 4, 5, 6, 7, 8, 9, 10, 11, 12, 13, 14, 15] rfl) (hD.sub [0, 1, 2, 3, 4, 5, 6, 7, 8, 9, 10, 11, 12, 13, 14, 15] (by decide) rfl) hS ls (lv_sub hl [0, 1, 2] rfl)
  exact loop_92 (8 + 1) 0 0 (by omega) (by omega) rfl ag3  _ _ hK hP hD hS ls hl

theorem in_X1_becomeAs_X1 : ∀ w ∈ wsX10, w ∈ wsX1_becomeAs := fun _ h => List.mem_cons_of_mem _ (List.mem_append_right _ h)
set_option maxRecDepth 100000 in
set_option maxHeartbeats 4000000 in
/-- Debts.becomeAs -/
theorem c_X1_becomeAs (l : Launch) (dC : Nat → ClassId) (dI : Nat → Nat → Nat) (h0 : Nat) (h1 : Nat) (qa : Nat) (ka : ClassId) (fa : Nat → Int32) (qb : Nat) (kb : ClassId) (fb : Nat → Int32) (sz : Nat) : Met l yX1_becomeAs wsX1_becomeAs ({ frames := 1, cells := 0, slots := 0, locals := 60 }) (va_Pc [.ref h0, .ref h1] (fun U => U.heap.size = sz ∧ va_P (dC, dI) vwCl [(h0, .inr (1, [.ref qa])), (qa, .inl (ka, 64, .inl fa)), (h1, .inr (1, [.ref qb])), (qb, .inl (kb, 64, .inl fb))] U.heap ∧ va_K (dC, dI) vwCl [(ka, .int), (kb, .int)] U ∧ va_D (fun _ => True) [(h0, .inr (1, [.ref qa])), (qa, .inl (ka, 64, .inl fa)), (h1, .inr (1, [.ref qb])), (qb, .inl (kb, 64, .inl fb))])) (va_Qv (fun (_ : Unit) => True) (fun (_ : Unit) (t : State) => va_P (dC, dI) vwCl [] t.heap ∧ va_K (dC, dI) vwCl [] t ∧ va_D (va_A [(h0, .inr (1, [.ref qa])), (qa, .inl (ka, 64, .inl fa)), (h1, .inr (1, [.ref qb])), (qb, .inl (kb, 64, .inl fb))] sz) []) (va_A [(h0, .inr (1, [.ref qa])), (qa, .inl (ka, 64, .inl fa)), (h1, .inr (1, [.ref qb])), (qb, .inl (kb, 64, .inl fb))] sz)) 0 0 (va_A [(h0, .inr (1, [.ref qa])), (qa, .inl (ka, 64, .inl fa)), (h1, .inr (1, [.ref qb])), (qb, .inl (kb, 64, .inl fb))] sz) := by
  refine Met.ofW (cc := cX1_becomeAs) (maxL := 2) (ret := none) (by decide) rfl ?_
  intro p e s m args below meth c s₁ B hml hv
  obtain ⟨rfl, hsz, hP, hK, hD0⟩ := hv
  have hx := B.exec
  have hb := B.bytes
  have hr := B.returns
  have hts := atoms_spec (ws := wsX1_becomeAs) B.pre
  have hown : s.vm.findClass RX1 = some m.cls := findClass_of_methodNamed B.named
  have hlocks := B.notSynchronized
  subst hsz
  have hD := hD0.self (sz := s.heap.size)
  generalize hAe : va_A [(h0, .inr (1, [.ref qa])), (qa, .inl (ka, 64, .inl fa)), (h1, .inr (1, [.ref qb])), (qb, .inl (kb, 64, .inl fb))] s.heap.size = A at hD ⊢
  have hA : ∀ q : Nat, s.heap.size ≤ q → A q := fun q h => by rw [← hAe]; exact Or.inr h
  have hS : va_S A s.heap s.heap [] := va_S.rf
  have hP : va_P (dC, dI) vwCl [(h0, .inr (1, [.ref qa])), (qa, .inl (ka, 64, .inl fa)), (h1, .inr (1, [.ref qb])), (qb, .inl (kb, 64, .inl fb))] s.heap := hP
  have hl := lv_entry ([.ref h0, .ref h1]) (n := 2) (Nat.le_of_ble_eq_true rfl)
  rw [lg_entry_eq]
  generalize (lg_sl ([.ref h0, .ref h1]) ++ List.replicate (2 - (lg_sl ([.ref h0, .ref h1])).length) Slot.unset).toArray = ls at hl ⊢
  have hl : lv_has ls 2 [(0, .ref h0), (1, .ref h1)] := hl
  refine lv_aload_n hx hb dX1_becomeAs_0 rfl (lv_at hl 1 rfl) ?_
  refine va_get (D := (dC, dI)) (ci := 1) (v := .ref qb) (C := RX1) (T := TX1) (N := 1) hx hb hts in_X1_becomeAs_X1 hown hK hP 2 rfl rfl 0 (by decide) (hts (.fieldLink RX1 9 "ClearingGates$Debts" "row" "[I") (List.mem_of_getElem? (i := 1) (by decide +kernel))) (fun _ h9 => h9) rfl dX1_becomeAs_1 ?_
  refine lv_iconst (v := 0) hx hb dX1_becomeAs_4 (by decide) ?_
  refine lv_aload_n hx hb dX1_becomeAs_5 rfl (lv_at hl 0 rfl) ?_
  refine va_get (D := (dC, dI)) (ci := 1) (v := .ref qa) (C := RX1) (T := TX1) (N := 1) hx hb hts in_X1_becomeAs_X1 hown hK hP 0 rfl rfl 0 (by decide) (hts (.fieldLink RX1 9 "ClearingGates$Debts" "row" "[I") (List.mem_of_getElem? (i := 1) (by decide +kernel))) (fun _ h9 => h9) rfl dX1_becomeAs_6 ?_
  refine lv_iconst (v := 0) hx hb dX1_becomeAs_9 (by decide) ?_
  refine lv_aload_n hx hb dX1_becomeAs_10 rfl (lv_at hl 0 rfl) ?_
  refine va_get (D := (dC, dI)) (ci := 1) (v := .ref qa) (C := RX1) (T := TX1) (N := 1) hx hb hts in_X1_becomeAs_X1 hown hK hP 0 rfl rfl 0 (by decide) (hts (.fieldLink RX1 9 "ClearingGates$Debts" "row" "[I") (List.mem_of_getElem? (i := 1) (by decide +kernel))) (fun _ h9 => h9) rfl dX1_becomeAs_11 ?_
  refine va_alen (D := (dC, dI)) (v := 64) hx hb hK hP 1 0 rfl rfl rfl dX1_becomeAs_14 ?_
  refine va_copyi (D := (dC, dI)) hx hb (hml.trans hl.1.symm) hown (hts (.methodLink RX1 19 arraycopyName) (List.mem_of_getElem? (i := 2) (by decide +kernel))) (hts (.native arraycopyName) (List.mem_of_getElem? (i := 3) (by decide +kernel))) (hts (.static arraycopyName) (List.mem_of_getElem? (i := 4) (by decide +kernel))) (hts (.initialized "java/lang/System") (List.mem_of_getElem? (i := 5) (by decide +kernel))) hK hP hD hS 3 1 1 0 rfl rfl rfl rfl rfl (by decide) (by decide) (by decide) (by decide) (by decide) (fun _ _ => rfl) (Nat.le_of_ble_eq_true rfl) (by decide) dX1_becomeAs_15 (fun H locs hP hD hS => ?_)
  generalize e_g1 : (va_cpy fb fa (0 : Int32).toNatClampNeg (0 : Int32).toNatClampNeg (64 : Int32).toNatClampNeg) = g1 at hP hD
  have hP : va_P (dC, dI) vwCl [(h0, .inr (1, [.ref qa])), (qa, .inl (ka, 64, .inl g1)), (h1, .inr (1, [.ref qb])), (qb, .inl (kb, 64, .inl fb))] H := hP
  have hD : va_D A [(h0, .inr (1, [.ref qa])), (qa, .inl (ka, 64, .inl g1)), (h1, .inr (1, [.ref qb])), (qb, .inl (kb, 64, .inl fb))] := hD
  have hP9 := hP.sub (ws' := []) [] rfl
  have hD9 := hD.sub (ws' := []) [] (by decide) rfl
  have hK9 := hK.sub (tys' := []) [] rfl
  exact W.vret hx hb hr (fun t ht hW => ⟨⟨(), rfl, (by first | rfl | trivial), by rw [ht]; exact hP9, va_K.moved hW.alike hK9, hD9⟩, hS.F ht⟩) hS.2.2 dX1_becomeAs_18

theorem in_X1_total_X1 : ∀ w ∈ wsX10, w ∈ wsX1_total := fun _ h => List.mem_cons_of_mem _ (List.mem_append_right _ h)
set_option maxRecDepth 100000 in
set_option maxHeartbeats 4000000 in
/-- Debts.total where nothing is owed -/
theorem c_X1_total (l : Launch) (dC : Nat → ClassId) (dI : Nat → Nat → Nat) (h0 : Nat) (qa : Nat) (ka : ClassId) (fa : Nat → Int32) (sz : Nat) (hf : ∀ k : Nat, fa k = 0) : Met l yX1_total wsX1_total ({ frames := 0, cells := 0, slots := 0, locals := 0 }) (va_Pc [.ref h0] (fun U => U.heap.size = sz ∧ va_P (dC, dI) vwCl [(h0, .inr (1, [.ref qa])), (qa, .inl (ka, 64, .inl fa))] U.heap ∧ va_K (dC, dI) vwCl [(ka, .int)] U ∧ va_D (fun _ => True) [(h0, .inr (1, [.ref qa])), (qa, .inl (ka, 64, .inl fa))])) (va_Ql (fun (r : Int64) (_ : Unit) => r = 0) (fun (_ : Unit) (t : State) => va_P (dC, dI) vwCl [] t.heap ∧ va_K (dC, dI) vwCl [] t ∧ va_D (va_A [(h0, .inr (1, [.ref qa])), (qa, .inl (ka, 64, .inl fa))] sz) []) (va_A [(h0, .inr (1, [.ref qa])), (qa, .inl (ka, 64, .inl fa))] sz)) 0 0 (va_A [(h0, .inr (1, [.ref qa])), (qa, .inl (ka, 64, .inl fa))] sz) := by
  refine Met.ofW (cc := cX1_total) (maxL := 4) (ret := (some .long)) (by decide) rfl ?_
  intro p e s m args below meth c s₁ B hml hv
  obtain ⟨rfl, hsz, hP, hK, hD0⟩ := hv
  have hx := B.exec
  have hb := B.bytes
  have hr := B.returns
  have hts := atoms_spec (ws := wsX1_total) B.pre
  have hown : s.vm.findClass RX1 = some m.cls := findClass_of_methodNamed B.named
  have hlocks := B.notSynchronized
  subst hsz
  have hD := hD0.self (sz := s.heap.size)
  generalize hAe : va_A [(h0, .inr (1, [.ref qa])), (qa, .inl (ka, 64, .inl fa))] s.heap.size = A at hD ⊢
  have hA : ∀ q : Nat, s.heap.size ≤ q → A q := fun q h => by rw [← hAe]; exact Or.inr h
  have hS : va_S A s.heap s.heap [] := va_S.rf
  have hP : va_P (dC, dI) vwCl [(h0, .inr (1, [.ref qa])), (qa, .inl (ka, 64, .inl fa))] s.heap := hP
  have hl := lv_entry ([.ref h0]) (n := 4) (Nat.le_of_ble_eq_true rfl)
  rw [lg_entry_eq]
  generalize (lg_sl ([.ref h0]) ++ List.replicate (4 - (lg_sl ([.ref h0])).length) Slot.unset).toArray = ls at hl ⊢
  have hl : lv_has ls 4 [(0, .ref h0)] := hl
  have k_64 : (64 : Int32).toInt = 64 := by decide
  refine lv_lconst (v := 0) hx hb dX1_total_0 (by decide) ?_
  refine lv_lstore_n (lv' := [(1, .long 0), (0, .ref h0)]) hx hb dX1_total_1 rfl hl (by decide) rfl (fun ls hl => ?_)
  refine lv_iconst (v := 0) hx hb dX1_total_2 (by decide) ?_
  refine lv_istore_n (lv' := [(3, .int 0), (1, .long 0), (0, .ref h0)]) hx hb dX1_total_3 rfl hl (by decide) rfl (fun ls hl => ?_)
  have loop_4 : ∀ (n i_4 : Nat) (x_4 : Int32), i_4 ≤ 64 → 64 < i_4 + n → x_4 = nI i_4 → ∀ (al : Int64), (al = 0) → ∀ (H : Heap) (locs : List Loc), va_K (dC, dI) vwCl [(ka, .int)] s → va_P (dC, dI) vwCl [(h0, .inr (1, [.ref qa])), (qa, .inl (ka, 64, .inl fa))] H → va_D A [(h0, .inr (1, [.ref qa])), (qa, .inl (ka, 64, .inl fa))] → va_S A s.heap H locs → ∀ (ls : Array Slot), lv_has ls 4 [(3, .int x_4), (1, .long al), (0, .ref h0)] → W p l e ({ frames := 0, cells := 0, slots := 0, locals := 0 }) s m (([.ref h0] : List Value).toArray) below meth c H locs 0 0 (MQ below (va_Ql (fun (r : Int64) (_ : Unit) => r = 0) (fun (_ : Unit) (t : State) => va_P (dC, dI) vwCl [] t.heap ∧ va_K (dC, dI) vwCl [] t ∧ va_D A []) A) (([.ref h0] : List Value).toArray) s 0 0 A) (F0 m 4 ls []) := by
    intro n
    induction n with
    | zero => intro i_4 x_4 h1 h2; exact absurd h2 (by omega)
    | succ n ih_4 =>
      intro i_4 x_4 hi_4 hn_4 e_x_4 al hal H locs hK hP hD hS ls hl
      have t_x_4 : x_4.toInt = (i_4 : Int) := by rw [e_x_4]; exact nI_toInt (by omega)
      refine lv_iload_n hx hb dX1_total_4 rfl (lv_at hl 0 rfl) ?_
      refine lv_aload_n hx hb dX1_total_5 rfl (lv_at hl 2 rfl) ?_
      refine va_get (D := (dC, dI)) (ci := 1) (v := .ref qa) (C := RX1) (T := TX1) (N := 1) hx hb hts in_X1_total_X1 hown hK hP 0 rfl rfl 0 (by decide) (hts (.fieldLink RX1 9 "ClearingGates$Debts" "row" "[I") (List.mem_of_getElem? (i := 1) (by decide +kernel))) (fun _ h9 => h9) rfl dX1_total_6 ?_
      refine va_alen (D := (dC, dI)) (v := 64) hx hb hK hP 1 0 rfl rfl rfl dX1_total_9 ?_
      refine lv_icmp_ge (tgt := 29) hx hb dX1_total_10 (by decide) (fun c1 => ?_) (fun c1 => ?_)
      · skip
        have f_c1 := i_le c1
        refine lv_lload_n hx hb dX1_total_29 rfl (lv_at hl 1 rfl) ?_
        have hP9 := hP.sub (ws' := []) [] rfl
        have hD9 := hD.sub (ws' := []) [] (by decide) rfl
        have hK9 := hK.sub (tys' := []) [] rfl
        exact W.lret (v := al) hx hb hr (fun t ht hW => ⟨⟨al, (), rfl, hal, by rw [ht]; exact hP9, va_K.moved hW.alike hK9, hD9⟩, hS.F ht⟩) hS.2.2 dX1_total_30
      · skip
        have f_c1 := i_nle c1
        refine lv_lload_n hx hb dX1_total_13 rfl (lv_at hl 1 rfl) ?_
        refine lv_aload_n hx hb dX1_total_14 rfl (lv_at hl 2 rfl) ?_
        refine va_get (D := (dC, dI)) (ci := 1) (v := .ref qa) (C := RX1) (T := TX1) (N := 1) hx hb hts in_X1_total_X1 hown hK hP 0 rfl rfl 0 (by decide) (hts (.fieldLink RX1 9 "ClearingGates$Debts" "row" "[I") (List.mem_of_getElem? (i := 1) (by decide +kernel))) (fun _ h9 => h9) rfl dX1_total_15 ?_
        refine lv_iload_n hx hb dX1_total_18 rfl (lv_at hl 0 rfl) ?_
        refine va_iald (D := (dC, dI)) hx hb hK hP 1 0 rfl rfl (vp_in_iff.mpr ⟨by omega, by omega⟩) dX1_total_19 ?_
        refine lv_topi (fun z2 e_z2 => ?_)
        have h_z2 : z2 = 0 := e_z2.trans (hf _)
        refine lv_i2l (v := z2.toInt64) hx hb dX1_total_20 rfl ?_
        have t_t3 := Int32.toInt_toInt64 z2
        refine lv_ladd hx hb dX1_total_21 ?_
        refine lv_topl (fun z4 e_z4 => ?_)
        refine lv_lstore_n (lv' := [(1, .long z4), (3, .int x_4), (0, .ref h0)]) hx hb dX1_total_22 rfl hl (by decide) rfl (fun ls hl => ?_)
        obtain ⟨x5, e_x5⟩ : ∃ y : Int32, y = x_4 + 1 := ⟨_, rfl⟩
        refine lv_iinc (v := x5) (lv' := [(3, .int x5), (1, .long z4), (0, .ref h0)]) hx hb dX1_total_23 hl (k := 1) rfl (by rw [e_x5]; rfl) (by decide) rfl (fun ls hl => ?_)
        refine lv_goto (tgt := 4) hx hb dX1_total_26 (by decide) ?_
        exact ih_4 (i_4 + 1) x5 (by omega) (by omega) (by rw [e_x5, e_x_4]; exact nI_1 i_4) z4 (by rw [e_z4, hal, h_z2]; rfl) _ _ (hK.sub [0] rfl) (hP.sub [0, 1] rfl) (hD.sub [0, 1] (by decide) rfl) hS ls (lv_sub hl [0, 1, 2] rfl)
  exact loop_4 (64 + 1) 0 0 (by omega) (by omega) rfl 0 rfl _ _ hK hP hD hS ls hl
end
