/-! ===== CORE: worlds by names, contracts with exact answers ===== -/
abbrev I2 : Type := Nat × Nat
def iup {α : Type} (f : I2 → α) (i : I2) (v : α) : I2 → α := fun j => if j = i then v else f j
theorem iup_s {α : Type} (f : I2 → α) (i : I2) (v : α) : iup f i v i = v := if_pos rfl
theorem iup_n {α : Type} (f : I2 → α) {i j : I2} (v : α) (h : j ≠ i) : iup f i v j = f j := if_neg h
theorem iup_k {α : Type} (f : I2 → α) {k k' a b : Nat} (v : α) (h : k' ≠ k) : iup f (k, a) v (k', b) = f (k', b) := if_neg (fun e => h (congrArg Prod.fst e))
theorem iup_i {α : Type} (f : I2 → α) {k a b : Nat} (v : α) (h : b ≠ a) : iup f (k, a) v (k, b) = f (k, b) := if_neg (fun e => h (congrArg Prod.snd e))
theorem nd_ix {α : Type} {l : List α} (h : l.Nodup) {i j : Nat} {x : α} (hi : l[i]? = some x) (hj : l[j]? = some x) : i = j := by
  obtain ⟨a1, a2⟩ := List.getElem?_eq_some_iff.mp hi
  obtain ⟨b1, b2⟩ := List.getElem?_eq_some_iff.mp hj
  exact (List.getElem_inj h).mp (a2.trans b2.symm)
/-- the world's cells as a row of the kit -/
def fl (ids : List I2) (ad : I2 → Nat) (en : I2 → va_E) : va_W := ids.map (fun i => (ad i, en i))
/-- a world: names that live, their addresses, what they are; all apart, in A -/
def fw (D : va_G) (lv : I2 → Prop) (ad : I2 → Nat) (en : I2 → va_E) (A : Nat → Prop) (H : Heap) : Prop :=
  ∃ ids : List I2, ids.Nodup ∧ (∀ i, i ∈ ids ↔ lv i) ∧ va_P D vwCl (fl ids ad en) H ∧ va_D A (fl ids ad en)
theorem fl_get {ids : List I2} {ad : I2 → Nat} {en : I2 → va_E} {i : I2} (h : i ∈ ids) : ∃ q0 : Nat, ids[q0]? = some i ∧ (fl ids ad en)[q0]? = some (ad i, en i) := by
  obtain ⟨q0, hq⟩ := List.getElem?_of_mem h
  exact ⟨q0, hq, by rw [fl, List.getElem?_map, hq]; rfl⟩
theorem fl_set {ids : List I2} {ad : I2 → Nat} {en : I2 → va_E} {i : I2} {q0 : Nat} (hn : ids.Nodup) (hq : ids[q0]? = some i) (e : va_E) : (fl ids ad en).set q0 (ad i, e) = fl ids ad (iup en i e) := by
  apply List.ext_getElem?
  intro k
  have hl := (List.getElem?_eq_some_iff.mp hq).1
  by_cases hk : k = q0
  · subst hk
    rw [List.getElem?_set_self (by simpa [fl] using hl), fl, List.getElem?_map, hq]
    simp [iup]
  · rw [List.getElem?_set_ne (Ne.symm hk), fl, fl, List.getElem?_map, List.getElem?_map]
    cases hj : ids[k]? with
    | none => rfl
    | some j =>
      have hne : j ≠ i := by
        intro e1
        subst e1
        exact hk (nd_ix hn hj hq)
      simp [iup, hne]
theorem fl_push {ids : List I2} {ad : I2 → Nat} {en : I2 → va_E} {i : I2} (h : i ∉ ids) (q : Nat) (e : va_E) : fl ids ad en ++ [(q, e)] = fl (ids ++ [i]) (iup ad i q) (iup en i e) := by
  unfold fl
  rw [List.map_append]
  congr 1
  · apply List.map_congr_left
    intro j hj
    have hne : j ≠ i := fun z => h (z ▸ hj)
    rw [iup_n _ _ hne, iup_n _ _ hne]
  · simp [iup]
theorem fw.at {D : va_G} {lv : I2 → Prop} {ad : I2 → Nat} {en : I2 → va_E} {A : Nat → Prop} {H : Heap} (F : fw D lv ad en A H) {i : I2} (hi : lv i) : va_at D vwCl (ad i, en i) H := by
  obtain ⟨ids, -, h2, h3, -⟩ := F
  obtain ⟨q0, -, h⟩ := fl_get (ad := ad) (en := en) ((h2 i).mpr hi)
  exact h3 q0 _ h
theorem fw.in {D : va_G} {lv : I2 → Prop} {ad : I2 → Nat} {en : I2 → va_E} {A : Nat → Prop} {H : Heap} (F : fw D lv ad en A H) {i : I2} (hi : lv i) : A (ad i) := by
  obtain ⟨ids, -, h2, -, h4⟩ := F
  obtain ⟨q0, -, h⟩ := fl_get (ad := ad) (en := en) ((h2 i).mpr hi)
  exact h4.2 q0 _ h
theorem fw.inj {D : va_G} {lv : I2 → Prop} {ad : I2 → Nat} {en : I2 → va_E} {A : Nat → Prop} {H : Heap} (F : fw D lv ad en A H) {i j : I2} (hi : lv i) (hj : lv j) (h : ad i = ad j) : i = j := by
  obtain ⟨ids, -, h2, -, h4⟩ := F
  obtain ⟨q0, g0, e0⟩ := fl_get (ad := ad) (en := en) ((h2 i).mpr hi)
  obtain ⟨q1, g1, e1⟩ := fl_get (ad := ad) (en := en) ((h2 j).mpr hj)
  have := h4.1 q0 q1 _ _ e0 e1 h
  subst this
  exact Option.some.inj (g0.symm.trans g1)
theorem fw.lt {D : va_G} {lv : I2 → Prop} {ad : I2 → Nat} {en : I2 → va_E} {A : Nat → Prop} {H : Heap} (F : fw D lv ad en A H) {i : I2} (hi : lv i) : ad i < H.size := (F.at hi).lt
/-- fewer names, the rest alike -/
theorem fw.sub {D : va_G} {lv lv' : I2 → Prop} {ad ad' : I2 → Nat} {en en' : I2 → va_E} {A : Nat → Prop} {H : Heap} (F : fw D lv ad en A H) (h : ∀ i, lv' i → lv i ∧ ad' i = ad i ∧ en' i = en i) : fw D lv' ad' en' A H := by
  have F0 := F
  obtain ⟨ids, h1, h2, -, -⟩ := F
  classical
  refine ⟨ids.filter (fun i => decide (lv' i)), h1.filter _, fun i => ?_, fun k q hk => ?_, fun i j p q hi hj hpq => ?_, fun k q hk => ?_⟩
  · rw [List.mem_filter, h2]
    simp only [decide_eq_true_eq]
    exact ⟨fun z => z.2, fun z => ⟨(h i z).1, z⟩⟩
  · obtain ⟨i, hm, rfl⟩ := List.mem_map.mp (List.mem_of_getElem? hk)
    have hv : lv' i := by simpa using (List.mem_filter.mp hm).2
    obtain ⟨a1, a2, a3⟩ := h i hv
    show va_at D vwCl (ad' i, en' i) H
    rw [a2, a3]
    exact F0.at a1
  · rw [fl, List.getElem?_map] at hi hj
    cases gi : (ids.filter (fun i => decide (lv' i)))[i]? with
    | none => rw [gi] at hi; cases hi
    | some x =>
      cases gj : (ids.filter (fun i => decide (lv' i)))[j]? with
      | none => rw [gj] at hj; cases hj
      | some y =>
        rw [gi] at hi; rw [gj] at hj
        cases hi; cases hj
        have hx : lv' x := by simpa using (List.mem_filter.mp (List.mem_of_getElem? gi)).2
        have hy : lv' y := by simpa using (List.mem_filter.mp (List.mem_of_getElem? gj)).2
        have hxy : x = y := F0.inj (h x hx).1 (h y hy).1 (by rw [← (h x hx).2.1, ← (h y hy).2.1]; exact hpq)
        subst hxy
        exact nd_ix (h1.filter _) gi gj
  · obtain ⟨i, hm, rfl⟩ := List.mem_map.mp (List.mem_of_getElem? hk)
    have hv : lv' i := by simpa using (List.mem_filter.mp hm).2
    obtain ⟨a1, a2, a3⟩ := h i hv
    show A (ad' i)
    rw [a2]
    exact F0.in a1
/-- another heap that has the same at these addresses -/
theorem fw.kept {D : va_G} {lv : I2 → Prop} {ad : I2 → Nat} {en : I2 → va_E} {A : Nat → Prop} {H H1 : Heap} (F : fw D lv ad en A H) (h : ∀ i, lv i → H1[ad i]? = H[ad i]?) : fw D lv ad en A H1 := by
  obtain ⟨ids, h1, h2, h3, h4⟩ := F
  refine ⟨ids, h1, h2, h3.kept fun k q hk => ?_, h4⟩
  obtain ⟨i, hm, rfl⟩ := List.mem_map.mp (List.mem_of_getElem? hk)
  exact h i ((h2 i).mp hm)
theorem fw.weaken {D : va_G} {lv : I2 → Prop} {ad : I2 → Nat} {en : I2 → va_E} {A B : Nat → Prop} {H : Heap} (F : fw D lv ad en A H) (h : ∀ q, A q → B q) : fw D lv ad en B H := by
  obtain ⟨ids, h1, h2, h3, h4⟩ := F
  exact ⟨ids, h1, h2, h3, h4.weaken fun _ q _ z => h q.1 z⟩
theorem fw.nil {D : va_G} {ad : I2 → Nat} {en : I2 → va_E} {A : Nat → Prop} {H : Heap} : fw D (fun _ => False) ad en A H :=
  ⟨[], List.nodup_nil, fun i => by simp, fun k q h => by simp [fl] at h, fun i j p q h => by simp [fl] at h, fun k q h => by simp [fl] at h⟩
