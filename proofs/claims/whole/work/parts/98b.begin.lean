/-! ===== the law's beginning ===== -/
section BEGINS
variable {p : Program} {l : Launch} {e : Env} {hR rc rs : Nat} {s : State} {m : MethodId} {args : Array Value} {below : List Frame} {meth : Method} {c : Code} {Q : State → Prop} {G : GT} {b : Nat} {ls : Array Slot}
theorem CB.narrow {G : GT} {A B : Nat → Prop} {b : Nat} {σ : Sg} {H : Heap} (h : CB G A b σ H) (hB : ∀ q, A q → q < H.size → B q) : CB G B b σ H := by
  obtain ⟨g, ad, h1, h2, F⟩ := h
  exact ⟨g, ad, h1, h2, fw.narrow F fun i hi => hB _ (fw.in F hi) (fw.lt F hi)⟩
theorem law_b1 (X : CF p s m args meth c cL_law 9 "CourseForgeLaw" (some .boolean)) (g0 : GG G s s.heap) (hAg : ∀ q, s.heap.size ≤ q → gA G q) (hl : lv_has ls 9 [(0, .ref b)]) (h9 : 10 ≤ hR) (h1 : 30 ≤ rc) (h2 : 200 ≤ rs)
    (kk : ∀ (x : Nat) (H : Heap) (locs : List Loc) (ls : Array Slot), CB G (fun q => s.heap.size ≤ q) x sg0 H → va_S (fun q => s.heap.size ≤ q) s.heap H locs → lv_has ls 9 [(1, .ref x), (0, .ref b)] → W p l e (RM hR rc rs) s m args below meth c H locs (0 + 1 + 20) (0 + 11 + 100) Q (F0 m 8 ls [])) :
    W p l e (RM hR rc rs) s m args below meth c s.heap [] 0 0 Q (F0 m 0 ls []) := by
  have hS : va_S (fun q => s.heap.size ≤ q) s.heap s.heap [] := va_S.rf
  refine f_new X g0.1 (fw.nil (ad := fun _ => 0) (en := fun _ => .inr (0, [])) (A := fun q => s.heap.size ≤ q)) hS (fun q h => h) (0, 0) (fun z => z) (ci := 14) okX9 rfl m_39 m_40 m_1 [.null, .null, .null, .null, .null, .null, .null, .null, .null, .null, .int 0] (by intro j hj; match j, hj with | 0, _ => rfl | 1, _ => rfl | 2, _ => rfl | 3, _ => rfl | 4, _ => rfl | 5, _ => rfl | 6, _ => rfl | 7, _ => rfl | 8, _ => rfl | 9, _ => rfl | 10, _ => rfl | n + 11, h => exact absurd h (by omega)) (by show _ ≤ rc; omega) (by show _ ≤ rs; omega) dL_law_0 (fun q H F hS => ?_)
  refine lv_dup X.ex X.co dL_law_3 rfl ?_
  refine q_cI X ce_X9_init m_41 (c_X9_init l G (fun q => s.heap.size ≤ q) hAg (iup (fun _ => 0) (0, 0) q) (iup (fun _ => .inr (0, [])) (0, 0) _) (iup_s _ _ _)) (g0.step hS hAg) ⟨F, fun q hq => Nat.le_trans hS.1 hq⟩ (by omega) rfl hl.1 rfl (Nat.le_of_ble_eq_true rfl) dL_law_4 (by omega) (by omega) hS (fun _ h => h) (fun v0 H locs hB hz hk9 hS => ?_)
  obtain ⟨rfl, hCB⟩ := hB
  refine lv_astore_n (lv' := [(1, .ref q), (0, .ref b)]) X.ex X.co dL_law_7 rfl hl (by decide) rfl (fun ls hl => ?_)
  exact kk q H locs ls hCB hS hl
theorem law_b2 {H : Heap} {locs : List Loc} {x cells slots : Nat} (X : CF p s m args meth c cL_law 9 "CourseForgeLaw" (some .boolean)) (g0 : GG G s s.heap) (hAg : ∀ q, s.heap.size ≤ q → gA G q) (hCB : CB G (fun q => s.heap.size ≤ q) x sg0 H) (hS : va_S (fun q => s.heap.size ≤ q) s.heap H locs) (hl : lv_has ls 9 [(1, .ref x), (0, .ref b)]) (h9 : 10 ≤ hR) (h1 : cells + 40 ≤ rc) (h2 : slots + 1600 ≤ rs)
    (kk : ∀ (mad : I2 → Nat) (H : Heap) (locs : List Loc) (ls : Array Slot), mw G mad (fun q => ∃ i, mLv i ∧ mad i = q) sg0 H → CB G (fun q => s.heap.size ≤ q ∧ ¬ ∃ i, mLv i ∧ mad i = q) x sg0 H → (∀ q, (∃ i, mLv i ∧ mad i = q) → s.heap.size ≤ q ∧ q < H.size) → va_S (fun q => s.heap.size ≤ q) s.heap H locs → lv_has ls 9 [(2, .ref (mad (0, 0))), (1, .ref x), (0, .ref b)] → W p l e (RM hR rc rs) s m args below meth c H locs (cells + 1 + 33) (slots + 44 + 1492) Q (F0 m 16 ls [])) :
    W p l e (RM hR rc rs) s m args below meth c H locs cells slots Q (F0 m 8 ls []) := by
  obtain ⟨g, ad, rfl, hCI, F⟩ := hCB
  refine f_new X g0.1 F hS (fun q h => h) (17, 0) (fun z => z) (ci := 15) okX10 rfl m_1345 m_1346 m_9 (xfl (fun _ => 0) []) (by intro j hj; match j, hj with | 0, _ => rfl | 1, _ => rfl | 2, _ => rfl | 3, _ => rfl | 4, _ => rfl | 5, _ => rfl | 6, _ => rfl | 7, _ => rfl | 8, _ => rfl | 9, _ => rfl | 10, _ => rfl | 11, _ => rfl | 12, _ => rfl | 13, _ => rfl | 14, _ => rfl | 15, _ => rfl | 16, _ => rfl | 17, _ => rfl | 18, _ => rfl | 19, _ => rfl | 20, _ => rfl | 21, _ => rfl | 22, _ => rfl | 23, _ => rfl | 24, _ => rfl | 25, _ => rfl | 26, _ => rfl | 27, _ => rfl | 28, _ => rfl | 29, _ => rfl | 30, _ => rfl | 31, _ => rfl | 32, _ => rfl | 33, _ => rfl | 34, _ => rfl | 35, _ => rfl | 36, _ => rfl | 37, _ => rfl | 38, _ => rfl | 39, _ => rfl | 40, _ => rfl | 41, _ => rfl | 42, _ => rfl | 43, _ => rfl | n + 44, h => exact absurd h (by omega)) (by show _ ≤ rc; omega) (by show _ ≤ rs; omega) dL_law_8 (fun q H F hS => ?_)
  refine lv_dup X.ex X.co dL_law_11 rfl ?_
  have hC : cw G g (fun q => s.heap.size ≤ q) ad sg0 H := fw_drop (t := (17, 0)) (fun z => z) F
  have hx : xw G (fun _ => q) (fun q' => s.heap.size ≤ q' ∧ ¬ ∃ j, cLv g sg0 j ∧ ad j = q') [] H := by
    refine fw.narrow (A := fun q => s.heap.size ≤ q) (fw.map F (fun _ => (17, 0)) (fun _ => (0, 0)) (fun i hi => ?_) (fun i hi => ?_)) (fun i hi => ⟨?_, ?_⟩)
    · have h3 : i = (0, 0) := hi.elim id (fun z => absurd z.2 List.not_mem_nil)
      subst h3
      exact ⟨Or.inr rfl, (iup_s _ _ _).symm, (iup_s _ _ _).symm⟩
    · exact (hi.elim id (fun z => absurd z.2 List.not_mem_nil)).symm
    · have h3 := fw.in F (i := (17, 0)) (Or.inr rfl)
      rw [iup_s] at h3
      exact h3
    · rintro ⟨j, hj, ej⟩
      have hne : j ≠ (17, 0) := fun z => by rw [z] at hj; exact hj
      have h3 := fw.inj F (i := j) (j := (17, 0)) (Or.inl hj) (Or.inr rfl) (by rw [iup_n _ _ hne, iup_s]; exact ej)
      exact hne h3
  refine q_cI X ce_X10_init m_1347 (c_X10_init l G (fun _ => q) (fun q' => s.heap.size ≤ q' ∧ ¬ ∃ j, cLv g sg0 j ∧ ad j = q') (fun q h => hAg q h.1)) (g0.step hS hAg) ⟨hx, fun q' hq => ⟨Nat.le_trans hS.1 hq, fun ⟨j, hj, ej⟩ => absurd (fw.lt hC hj) (by omega)⟩⟩ (by omega) rfl hl.1 rfl (Nat.le_of_ble_eq_true rfl) dL_law_12 (by omega) (by omega) hS (fun q h => h.1) (fun v0 H locs hB hz hk9 hS => ?_)
  obtain ⟨rfl, mad, hmad, hM⟩ := hB
  have hC := fw.kept hC (fun j hj => hk9 _ (fw.lt hC hj) (fun z => z.2 ⟨j, hj, rfl⟩))
  refine lv_astore_n (lv' := [(2, .ref q), (1, .ref (ad (0, 0))), (0, .ref b)]) X.ex X.co dL_law_15 rfl hl (by decide) rfl (fun ls hl => ?_)
  rw [show q = mad (0, 0) from hmad.symm] at hl
  refine kk mad H locs ls (fw.narrow hM (fun i hi => ⟨i, hi, rfl⟩)) ⟨g, ad, rfl, hCI, fw.narrow hC (fun i hi => ⟨fw.in hC hi, ?_⟩)⟩ (fun q' h => ?_) hS hl
  · rintro ⟨j, hj, ej⟩
    exact (fw.in hM hj).2 ⟨i, hi, ej.symm⟩
  · obtain ⟨i, hi, rfl⟩ := h
    exact ⟨(fw.in hM hi).1, fw.lt hM hi⟩
end BEGINS
