/-- two worlds side by side: the second's names from 100 on -/
theorem fw.union {D : va_G} {lv1 lv2 : I2 → Prop} {ad1 ad2 : I2 → Nat} {en1 en2 : I2 → va_E} {A : Nat → Prop} {H : Heap} (F1 : fw D lv1 ad1 en1 A H) (F2 : fw D lv2 ad2 en2 A H) (hd : ∀ i j, lv1 i → lv2 j → ad1 i ≠ ad2 j) (h100 : ∀ i, lv1 i → i.1 < 100) :
    fw D (fun i => lv1 i ∨ (100 ≤ i.1 ∧ lv2 (i.1 - 100, i.2))) (fun i => if i.1 < 100 then ad1 i else ad2 (i.1 - 100, i.2)) (fun i => if i.1 < 100 then en1 i else en2 (i.1 - 100, i.2)) A H := by
  have G1 := F1
  have G2 := F2
  obtain ⟨ids1, a1, a2, -, -⟩ := F1
  obtain ⟨ids2, b1, b2, -, -⟩ := F2
  have hin : ∀ i, i ∈ ids1 ++ ids2.map (fun j => (j.1 + 100, j.2)) ↔ (lv1 i ∨ (100 ≤ i.1 ∧ lv2 (i.1 - 100, i.2))) := by
    intro i
    rw [List.mem_append, a2, List.mem_map]
    constructor
    · rintro (h | ⟨j, hj, rfl⟩)
      · exact Or.inl h
      · exact Or.inr ⟨by show 100 ≤ j.1 + 100; omega, by show lv2 (j.1 + 100 - 100, j.2); rw [Nat.add_sub_cancel]; exact (b2 j).mp hj⟩
    · rintro (h | ⟨h1, h2⟩)
      · exact Or.inl h
      · exact Or.inr ⟨(i.1 - 100, i.2), (b2 _).mpr h2, by show (i.1 - 100 + 100, i.2) = i; rw [Nat.sub_add_cancel h1]⟩
  have hn : (ids1 ++ ids2.map (fun j => ((j.1 + 100, j.2) : I2))).Nodup := by
    rw [List.nodup_append]
    refine ⟨a1, ?_, fun x hx y hy z => ?_⟩
    · refine List.pairwise_map.mpr (List.Pairwise.imp (fun {u v} hne z => hne ?_) b1)
      have z1 : u.1 + 100 = v.1 + 100 := congrArg Prod.fst z
      have z2 : u.2 = v.2 := (Prod.mk.inj z).2
      exact Prod.ext (by omega) z2
    · obtain ⟨j, hj, rfl⟩ := List.mem_map.mp hy
      have h3 := h100 x ((a2 x).mp hx)
      rw [z] at h3
      have h4 : j.1 + 100 < 100 := h3
      omega
  have hat : ∀ i, (lv1 i ∨ (100 ≤ i.1 ∧ lv2 (i.1 - 100, i.2))) → va_at D vwCl ((if i.1 < 100 then ad1 i else ad2 (i.1 - 100, i.2)), (if i.1 < 100 then en1 i else en2 (i.1 - 100, i.2))) H ∧ A (if i.1 < 100 then ad1 i else ad2 (i.1 - 100, i.2)) := by
    rintro i (h | ⟨h1, h2⟩)
    · rw [if_pos (h100 i h), if_pos (h100 i h)]
      exact ⟨G1.at h, G1.in h⟩
    · rw [if_neg (by omega), if_neg (by omega)]
      exact ⟨G2.at h2, G2.in h2⟩
  have hinj : ∀ i j, (lv1 i ∨ (100 ≤ i.1 ∧ lv2 (i.1 - 100, i.2))) → (lv1 j ∨ (100 ≤ j.1 ∧ lv2 (j.1 - 100, j.2))) → (if i.1 < 100 then ad1 i else ad2 (i.1 - 100, i.2)) = (if j.1 < 100 then ad1 j else ad2 (j.1 - 100, j.2)) → i = j := by
    rintro i j (h | ⟨h1, h2⟩) (k | ⟨k1, k2⟩) z
    · rw [if_pos (h100 i h), if_pos (h100 j k)] at z
      exact G1.inj h k z
    · rw [if_pos (h100 i h), if_neg (by omega)] at z
      exact absurd z (hd _ _ h k2)
    · rw [if_neg (by omega), if_pos (h100 j k)] at z
      exact absurd z.symm (hd _ _ k h2)
    · rw [if_neg (by omega), if_neg (by omega)] at z
      have h3 := G2.inj h2 k2 z
      have z1 : i.1 - 100 = j.1 - 100 := congrArg Prod.fst h3
      have z2 : i.2 = j.2 := (Prod.mk.inj h3).2
      exact Prod.ext (by omega) z2
  refine ⟨_, hn, hin, fun k q hk => ?_, fun i j p q hi hj hpq => ?_, fun k q hk => ?_⟩
  · obtain ⟨i, hm, rfl⟩ := List.mem_map.mp (List.mem_of_getElem? hk)
    exact (hat i ((hin i).mp hm)).1
  · rw [fl, List.getElem?_map] at hi hj
    cases gi : (ids1 ++ ids2.map (fun j => ((j.1 + 100, j.2) : I2)))[i]? with
    | none => rw [gi] at hi; cases hi
    | some x =>
      cases gj : (ids1 ++ ids2.map (fun j => ((j.1 + 100, j.2) : I2)))[j]? with
      | none => rw [gj] at hj; cases hj
      | some y =>
        rw [gi] at hi; rw [gj] at hj
        cases hi; cases hj
        have hxy : x = y := hinj x y ((hin x).mp (List.mem_of_getElem? gi)) ((hin y).mp (List.mem_of_getElem? gj)) hpq
        subst hxy
        exact nd_ix hn gi gj
  · obtain ⟨i, hm, rfl⟩ := List.mem_map.mp (List.mem_of_getElem? hk)
    exact (hat i ((hin i).mp hm)).2
