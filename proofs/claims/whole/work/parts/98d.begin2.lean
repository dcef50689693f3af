theorem cLv_100 {g : CG} {σ : Sg} : ∀ i : I2, cLv g σ i → i.1 < 17
  | (a, b), h => by
    rcases Nat.lt_or_ge a 17 with q | q
    · exact q
    · obtain ⟨n, rfl⟩ : ∃ n, a = n + 17 := ⟨a - 17, by omega⟩
      exact False.elim h
section BEGINS2
variable {p : Program} {l : Launch} {e : Env} {hR rc rs : Nat} {s : State} {m : MethodId} {args : Array Value} {below : List Frame} {meth : Method} {c : Code} {Q : State → Prop} {G : GT} {b : Nat} {ls : Array Slot}
theorem law_b3 {H : Heap} {locs : List Loc} {x cells slots : Nat} {mad : I2 → Nat} (X : CF p s m args meth c cL_law 9 "CourseForgeLaw" (some .boolean)) (g0 : GG G s s.heap) (hM : mw G mad (fun q => ∃ i, mLv i ∧ mad i = q) sg0 H) (hCB : CB G (fun q => s.heap.size ≤ q ∧ ¬ ∃ i, mLv i ∧ mad i = q) x sg0 H) (hAm : ∀ q, (∃ i, mLv i ∧ mad i = q) → s.heap.size ≤ q ∧ q < H.size) (hS : va_S (fun q => s.heap.size ≤ q) s.heap H locs) (hl : lv_has ls 9 [(2, .ref (mad (0, 0))), (1, .ref x), (0, .ref b)]) (h1 : cells + 2 ≤ rc) (h2 : slots + 2 ≤ rs)
    (kk : ∀ (oad : I2 → Nat) (H : Heap) (locs : List Loc) (ls : Array Slot), lawW G (fun q => s.heap.size ≤ q ∧ ¬ (∃ i, mLv i ∧ mad i = q) ∧ ¬ (q = oad (0, 0) ∨ q = oad (0, 1))) (fun q => ∃ i, mLv i ∧ mad i = q) (fun q => q = oad (0, 0) ∨ q = oad (0, 1)) x mad oad sg0 (fun _ => 0) (fun _ => 0) H → (∀ i, mLv i → mad i ≠ oad (0, 0) ∧ mad i ≠ oad (0, 1)) → (s.heap.size ≤ oad (0, 0) ∧ s.heap.size ≤ oad (0, 1)) → va_S (fun q => s.heap.size ≤ q) s.heap H locs → lv_has ls 9 [(5, .int (nI 0)), (4, .ref (oad (0, 1))), (3, .ref (oad (0, 0))), (2, .ref (mad (0, 0))), (1, .ref x), (0, .ref b)] → W p l e (RM hR rc rs) s m args below meth c H locs (cells + 1 + 1) (slots + 1 + 1) Q (F0 m 28 ls [])) :
    W p l e (RM hR rc rs) s m args below meth c H locs cells slots Q (F0 m 16 ls []) := by
  obtain ⟨g, ad, rfl, hCI, F⟩ := hCB
  have U := fw.union (A := fun q => s.heap.size ≤ q) (fw.narrow F (fun i hi => (fw.in F hi).1)) (fw.narrow hM (fun i hi => (hAm _ (fw.in hM hi)).1)) (fun i j hi hj z => (fw.in F hi).2 ⟨j, hj, z.symm⟩) (fun i hi => Nat.lt_of_lt_of_le (cLv_100 i hi) (by decide))
  refine lv_iconst (v := 1) X.ex X.co dL_law_16 (by decide) ?_
  refine f_newa (atype := .long) X g0.1 U hS (fun q h => h) (17, 0) (fun z => z.elim (fun z => z) (fun z => absurd z.1 (by decide))) 5 rfl rfl (fun _ => by intro z; cases z) m_1746 (a0 := (1, .inr (.inl (fun _ => 0)))) (fun _ => rfl) (by decide) (N' := 1) (by decide) (by decide) (by show _ ≤ rc; omega) (by show _ ≤ rs; omega) dL_law_17 (fun q H U hS => ?_)
  refine lv_astore_n (lv' := [(3, .ref q), (2, .ref (mad (0, 0))), (1, .ref (ad (0, 0))), (0, .ref b)]) X.ex X.co dL_law_19 rfl hl (by decide) rfl (fun ls hl => ?_)
  refine lv_iconst (v := 1) X.ex X.co dL_law_20 (by decide) ?_
  refine f_newa (atype := .double) X g0.1 U hS (fun q h => h) (17, 1) (fun z => z.elim (fun z => z.elim (fun z => z) (fun z => absurd z.1 (by decide))) (ine (by decide))) 6 rfl rfl (fun _ => by intro z; cases z) m_1747 (a0 := (1, .inr (.inr (.inr (.inl (fun _ => 0)))))) (fun _ => rfl) (by decide) (N' := 1) (by decide) (by decide) (by show _ ≤ rc; omega) (by show _ ≤ rs; omega) dL_law_21 (fun q2 H U hS => ?_)
  refine lv_astore (lv' := [(4, .ref q2), (3, .ref q), (2, .ref (mad (0, 0))), (1, .ref (ad (0, 0))), (0, .ref b)]) X.ex X.co dL_law_23 hl (by decide) rfl (fun ls hl => ?_)
  refine lv_iconst (v := 0) X.ex X.co dL_law_25 (by decide) ?_
  refine lv_istore (lv' := [(5, .int 0), (4, .ref q2), (3, .ref q), (2, .ref (mad (0, 0))), (1, .ref (ad (0, 0))), (0, .ref b)]) X.ex X.co dL_law_26 hl (by decide) rfl (fun ls hl => ?_)
  have n17 : ∀ (i : I2) (k : Nat), i.1 ≠ 17 → i ≠ (17, k) := fun i k h z => h (by rw [z])
  have hF : fw G.1 (cLv g sg0) ad (cEnL G g ad sg0 (lstN sg0)) (fun q => s.heap.size ≤ q) H := fw.sub U fun i hi => by
    have h3 := cLv_100 i hi
    refine ⟨Or.inl (Or.inl (Or.inl hi)), ?_, ?_⟩
    · rw [iup_n _ _ (n17 i 1 (by omega)), iup_n _ _ (n17 i 0 (by omega)), if_pos (by omega)]
    · rw [iup_n _ _ (n17 i 1 (by omega)), iup_n _ _ (n17 i 0 (by omega)), if_pos (by omega)]
  have hM2 : mw G mad (fun q => s.heap.size ≤ q) sg0 H := fw.map U (fun i => (i.1 + 100, i.2)) (fun i => (i.1 - 100, i.2)) (fun i hi => by
    refine ⟨Or.inl (Or.inl (Or.inr ⟨by show 100 ≤ i.1 + 100; omega, by show mLv (i.1 + 100 - 100, i.2); rw [Nat.add_sub_cancel]; exact hi⟩)), ?_, ?_⟩
    · rw [iup_n _ _ (n17 _ 1 (by show i.1 + 100 ≠ 17; omega)), iup_n _ _ (n17 _ 0 (by show i.1 + 100 ≠ 17; omega)), if_neg (by show ¬ i.1 + 100 < 100; omega)]
      show mad i = mad (i.1 + 100 - 100, i.2)
      rw [Nat.add_sub_cancel]
    · rw [iup_n _ _ (n17 _ 1 (by show i.1 + 100 ≠ 17; omega)), iup_n _ _ (n17 _ 0 (by show i.1 + 100 ≠ 17; omega)), if_neg (by show ¬ i.1 + 100 < 100; omega)]
      have e9 : ((((i.1 + 100, i.2) : I2).1 - 100, ((i.1 + 100, i.2) : I2).2) : I2) = i := by show (i.1 + 100 - 100, i.2) = i; rw [Nat.add_sub_cancel]
      rw [e9]) (fun i hi => by show (i.1 + 100 - 100, i.2) = i; rw [Nat.add_sub_cancel])
  have hO : fw G.1 lvO (fun i => if i = (0, 1) then q2 else q) (enO G (fun _ => 0) (fun _ => 0)) (fun q => s.heap.size ≤ q) H := fw.map U (fun i => (17, i.2)) (fun i => (0, i.2)) (fun i hi => by
    rcases hi with rfl | rfl
    · exact ⟨Or.inl (Or.inr rfl), by rw [iup_n _ _ (ine (by decide)), iup_s]; rfl, by rw [iup_n _ _ (ine (by decide)), iup_s]; rfl⟩
    · exact ⟨Or.inr rfl, by rw [iup_s]; rfl, by rw [iup_s]; rfl⟩) (fun i hi => by rcases hi with rfl | rfl <;> rfl)
  have hmo : ∀ i, mLv i → mad i ≠ q ∧ mad i ≠ q2 := fun i hi => by
    have e1 : iup (iup (fun i : I2 => if i.1 < 100 then ad i else mad (i.1 - 100, i.2)) (17, 0) q) (17, 1) q2 (i.1 + 100, i.2) = mad i := by
      rw [iup_n _ _ (n17 _ 1 (by show i.1 + 100 ≠ 17; omega)), iup_n _ _ (n17 _ 0 (by show i.1 + 100 ≠ 17; omega)), if_neg (by show ¬ i.1 + 100 < 100; omega)]
      show mad (i.1 + 100 - 100, i.2) = mad i
      rw [Nat.add_sub_cancel]
    have hlv : mLv (i.1 + 100 - 100, i.2) := by rw [Nat.add_sub_cancel]; exact hi
    constructor
    · intro z
      have h3 := fw.inj U (i := (i.1 + 100, i.2)) (j := (17, 0)) (Or.inl (Or.inl (Or.inr ⟨by show 100 ≤ i.1 + 100; omega, hlv⟩))) (Or.inl (Or.inr rfl)) (by rw [e1, iup_n _ _ (ine (by decide)), iup_s]; exact z)
      have h4 : i.1 + 100 = 17 := (Prod.mk.inj h3).1
      omega
    · intro z
      have h3 := fw.inj U (i := (i.1 + 100, i.2)) (j := (17, 1)) (Or.inl (Or.inl (Or.inr ⟨by show 100 ≤ i.1 + 100; omega, hlv⟩))) (Or.inr rfl) (by rw [e1, iup_s]; exact z)
      have h4 : i.1 + 100 = 17 := (Prod.mk.inj h3).1
      omega
  have hco : ∀ i, cLv g sg0 i → ad i ≠ q ∧ ad i ≠ q2 := fun i hi => by
    have h3 := cLv_100 i hi
    have e1 : iup (iup (fun i : I2 => if i.1 < 100 then ad i else mad (i.1 - 100, i.2)) (17, 0) q) (17, 1) q2 i = ad i := by
      rw [iup_n _ _ (n17 i 1 (by omega)), iup_n _ _ (n17 i 0 (by omega)), if_pos (by omega)]
    constructor
    · intro z
      have h5 := fw.inj U (i := i) (j := (17, 0)) (Or.inl (Or.inl (Or.inl hi))) (Or.inl (Or.inr rfl)) (by rw [e1, iup_n _ _ (ine (by decide)), iup_s]; exact z)
      rw [h5] at h3
      exact absurd h3 (by decide)
    · intro z
      have h5 := fw.inj U (i := i) (j := (17, 1)) (Or.inl (Or.inl (Or.inl hi))) (Or.inr rfl) (by rw [e1, iup_s]; exact z)
      rw [h5] at h3
      exact absurd h3 (by decide)
  refine kk (fun i => if i = (0, 1) then q2 else q) H locs ls ⟨Qs_0, fw.narrow hM2 (fun i hi => ⟨i, hi, rfl⟩), ⟨g, ad, rfl, hCI, fw.narrow hF (fun i hi => ⟨fw.in hF hi, (fw.in F hi).2, fun z => z.elim (hco i hi).1 (hco i hi).2⟩)⟩, fun q' hq => ⟨Nat.le_trans hS.1 hq, fun ⟨i, hi, ei⟩ => absurd (fw.lt hM2 hi) (by omega), fun z => ?_⟩, fw.narrow hO (fun i hi => ?_)⟩ hmo ⟨fw.in hO (i := (0, 0)) (Or.inl rfl), fw.in hO (i := (0, 1)) (Or.inr rfl)⟩ hS hl
  · have o0 := fw.lt hO (i := (0, 0)) (Or.inl rfl)
    have o1 := fw.lt hO (i := (0, 1)) (Or.inr rfl)
    rcases z with z | z <;> omega
  · rcases hi with rfl | rfl
    · exact Or.inl rfl
    · exact Or.inr rfl
end BEGINS2
