section LALL
variable {p : Program} {l : Launch} {e : Env} {hR rc rs : Nat} {s : State} {m : MethodId} {args : Array Value} {below : List Frame} {meth : Method} {c : Code} {Q : State → Prop} {G : GT} {b L : Nat} {xs : Nat → Int32} {ls : Array Slot}
/-- the law from its first instruction to its last two -/
theorem law_all (hst : l.stackTraces = false) (X : CF p s m args meth c cL_law 9 "CourseForgeLaw" (some .boolean)) (g0 : GG G s s.heap) (hAg : ∀ q, s.heap.size ≤ q → gA G q) (hX : va_X b L xs s s.heap) (hbl : b < s.heap.size) (hL : L ≤ 2560) (hl : lv_has ls 9 [(0, .ref b)]) (h9 : 20 ≤ hR) (h1 : 57000 ≤ rc) (h2 : 1140000 ≤ rs)
    (kend : ∀ (A3 : Nat → Prop) (H : Heap) (locs : List Loc) (ls : Array Slot) (cells slots : Nat), (∀ q, A3 q → s.heap.size ≤ q) → va_S A3 s.heap H locs → ls.size = 9 → cells ≤ rc → slots ≤ rs → W p l e (RM hR rc rs) s m args below meth c H locs cells slots Q (F0 m 2354 ls [])) :
    W p l e (RM hR rc rs) s m args below meth c s.heap [] 0 0 Q (F0 m 0 ls []) := by
  refine law_b1 X g0 hAg hl (by omega) (by omega) (by omega) (fun x H locs ls hCB hS hl => ?_)
  refine law_b2 X g0 hAg hCB hS hl (by omega) (by omega) (by omega) (fun mad H locs ls hM hCB hAm hS hl => ?_)
  refine law_b3 X g0 hM hCB hAm hS hl (by omega) (by omega) (fun oad H locs ls W0 hmo hao hS hl => ?_)
  have hge : ∀ q, ((s.heap.size ≤ q ∧ ¬ (∃ i, mLv i ∧ mad i = q) ∧ ¬ (q = oad (0, 0) ∨ q = oad (0, 1))) ∨ (q = oad (0, 0) ∨ q = oad (0, 1)) ∨ (∃ i, mLv i ∧ mad i = q)) → s.heap.size ≤ q := fun q h => by
    rcases h with h | (rfl | rfl) | h
    · exact h.1
    · exact hao.1
    · exact hao.2
    · exact (hAm q h).1
  exact law_loop hst (Ac := fun q => s.heap.size ≤ q ∧ ¬ (∃ i, mLv i ∧ mad i = q) ∧ ¬ (q = oad (0, 0) ∨ q = oad (0, 1))) (Am := fun q => ∃ i, mLv i ∧ mad i = q) (AO := fun q => q = oad (0, 0) ∨ q = oad (0, 1)) (fun q h => hAg q h.1) (fun q h => hAg q (hAm q h).1) (fun q h => hAg q (hge q h)) (fun q h => h.2.2) (fun q h => h.2.1) (fun q h z => by
    obtain ⟨i, hi, rfl⟩ := h
    exact z.elim (hmo i hi).1 (hmo i hi).2) X g0 hX hbl (fun z => absurd (hge b z) (by omega)) h9 hL 60 1660 (by omega) (by omega) (fun ρ f f2 H locs ls cells slots W0 hS hls hc hs => kend _ H locs ls cells slots hge hS hls hc hs) 512 0 (by omega) sg0 _ _ H locs ls _ _ W0 (hS.up fun q hq => by
    rcases Classical.em (∃ i, mLv i ∧ mad i = q) with z | z
    · exact Or.inr (Or.inr z)
    · rcases Classical.em (q = oad (0, 0) ∨ q = oad (0, 1)) with y | y
      · exact Or.inr (Or.inl y)
      · exact Or.inl ⟨hq, z, y⟩) (lv_sub hl [5, 4, 3, 2, 1, 0] rfl) (by omega) (by omega)
end LALL
