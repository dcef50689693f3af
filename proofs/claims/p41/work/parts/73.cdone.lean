/-! ===== from what a call leaves to the bench between calls ===== -/
theorem c_addLv (l : Launch) (G : GT) (A : Nat → Prop) (hAg : ∀ q, A q → gA G q) (g : CG) (ad : I2 → Nat) (σ : Sg) (L : Nat → List I2) (hC : CLL g σ L) (hL : okL g σ L) (k : Nat) (hk : lsB σ k) (j : I2) (hj : cLv g σ j) (h3 : 3 ≤ j.1) (h9 : j.1 ≤ 9) (hn : (L k).length ≤ 100) (a v : Nat) (ha : ad (1, k) = a) (hv : ad j = v) : cM l yJx4a65c_add_9ea2d cJx4a65c_add_9ea2d 2 ((Option.some FieldType.boolean)) 6 1 (addS (L k).length (g.1 k)) G [.ref a, .ref v] (fun H => cwL G g A ad σ L H ∧ ∀ q, H.size ≤ q → A q) (eB (some (.int 1)) (fun H => ∃ q2, cwL G (gls g k (ncap (L k).length (g.1 k)) (g.2.1 k + 1)) A (iup ad (2, k) q2) σ (upL L k (L k ++ [j])) H)) A := by
  subst ha
  subst hv
  exact c_addL l G A hAg g ad σ L hC hL k hk j hj h3 h9 hn
theorem upL_s (L : Nat → List I2) (k : Nat) (M : List I2) : upL L k M k = M := if_pos rfl
theorem upL_n (L : Nat → List I2) {k x : Nat} (M : List I2) (h : x ≠ k) : upL L k M x = L x := if_neg h
theorem gls_n {g : CG} {k q y : Nat} {x : Int32} (h : y ≠ k) : (gls g k q x).1 y = g.1 y := if_neg h
theorem okL_mono {g g' : CG} {σ τ : Sg} {L : Nat → List I2} (h : okL g σ L) (hc : nCo σ ≤ nCo τ ∧ nSt σ ≤ nSt τ ∧ nLe σ ≤ nLe τ ∧ nEx σ ≤ nEx τ ∧ nAn σ ≤ nAn τ ∧ nCr σ ≤ nCr τ ∧ nCe σ ≤ nCe τ) (hl : ∀ k, lsB τ k → lsB σ k ∨ L k = []) : okL g' τ L := by
  intro k hk i hi
  rcases hl k hk with h1 | h1
  · obtain ⟨a1, a2, a3⟩ := h k h1 i hi
    refine ⟨?_, a2, a3⟩
    obtain ⟨x, y⟩ := i
    have hx : x = 3 ∨ x = 4 ∨ x = 5 ∨ x = 6 ∨ x = 7 ∨ x = 8 ∨ x = 9 := by
      have b1 : 3 ≤ x := a2
      have b2 : x ≤ 9 := a3
      omega
    rcases hx with rfl | rfl | rfl | rfl | rfl | rfl | rfl
    · exact Nat.lt_of_lt_of_le a1 hc.1
    · exact Nat.lt_of_lt_of_le a1 hc.2.1
    · exact Nat.lt_of_lt_of_le a1 hc.2.2.1
    · exact Nat.lt_of_lt_of_le a1 hc.2.2.2.1
    · exact Nat.lt_of_lt_of_le a1 hc.2.2.2.2.1
    · exact Nat.lt_of_lt_of_le a1 hc.2.2.2.2.2.1
    · exact Nat.lt_of_lt_of_le a1 hc.2.2.2.2.2.2
  · rw [h1] at hi
    cases hi
theorem okL_up {g g' : CG} {σ : Sg} {L : Nat → List I2} (h : okL g σ L) {k : Nat} {M : List I2} (hM : ∀ i ∈ M, cLv g σ i ∧ 3 ≤ i.1 ∧ i.1 ≤ 9) : okL g' σ (upL L k M) := by
  refine okL_mono (g := g) (σ := σ) (τ := σ) ?_ ⟨Nat.le_refl _, Nat.le_refl _, Nat.le_refl _, Nat.le_refl _, Nat.le_refl _, Nat.le_refl _, Nat.le_refl _⟩ (fun k hk => Or.inl hk)
  intro x hx i hi
  by_cases hxk : x = k
  · rw [hxk, upL_s] at hi
    exact hM i hi
  · rw [upL_n _ _ hxk] at hi
    exact h x hx i hi
theorem okL_push {g g' : CG} {σ : Sg} {L : Nat → List I2} (h : okL g σ L) {k : Nat} (hk : lsB σ k) {j : I2} (hj : cLv g σ j) (h3 : 3 ≤ j.1) (h9 : j.1 ≤ 9) : okL g' σ (upL L k (L k ++ [j])) :=
  okL_up h fun i hi => by
    rcases List.mem_append.mp hi with h1 | h1
    · exact h k hk i h1
    · rw [List.mem_singleton.mp h1]
      exact ⟨hj, h3, h9⟩
theorem CLL_up {g : CG} {σ : Sg} {L : Nat → List I2} (hC : CLL g σ L) {k q : Nat} {x : Int32} {M : List I2} (h : M.length ≤ q ∧ q ≤ 200) : CLL (gls g k q x) σ (upL L k M) := by
  intro y hy
  by_cases hyk : y = k
  · subst hyk
    rw [upL_s]
    show M.length ≤ (if y = y then q else g.1 y) ∧ (if y = y then q else g.1 y) ≤ 200
    rw [if_pos rfl]
    exact h
  · rw [upL_n _ _ hyk, gls_n hyk]
    exact hC y hy
theorem CLL_push {g : CG} {σ : Sg} {L : Nat → List I2} (hC : CLL g σ L) {k : Nat} (hk : lsB σ k) {x : Int32} {j : I2} (hn : (L k).length ≤ 100) : CLL (gls g k (ncap (L k).length (g.1 k)) x) σ (upL L k (L k ++ [j])) := by
  have := ncap_b (hC k hk).1 hn (hC k hk).2
  exact CLL_up hC (by simp; exact this)
/-- a claim of every list -/
theorem lsAll {σ : Sg} {P : Nat → Prop} (h0 : P 0) (h1 : P 1) (h2 : P 2) (h3 : P 3) (h4 : P 4) (h5 : P 5) (h6 : P 6) (h7 : P 7) (h8 : P 8) (h9 : ∀ l, l < nLe σ → P (9 + l)) (h17 : ∀ e, e < nEx σ → P (17 + e)) : ∀ k, lsB σ k → P k := by
  intro k hk
  by_cases h : k < 9
  · have hc : k = 0 ∨ k = 1 ∨ k = 2 ∨ k = 3 ∨ k = 4 ∨ k = 5 ∨ k = 6 ∨ k = 7 ∨ k = 8 := by omega
    rcases hc with rfl | rfl | rfl | rfl | rfl | rfl | rfl | rfl | rfl <;> assumption
  · rcases hk with h' | h'
    · have := h9 (k - 9) (by omega)
      rw [show 9 + (k - 9) = k by omega] at this
      exact this
    · have := h17 (k - 17) (by omega)
      rw [show 17 + (k - 17) = k by omega] at this
      exact this
theorem rng_s (n : Nat) (f : Nat → I2) : (List.range (n + 1)).map f = (List.range n).map f ++ [f n] := by
  rw [List.range_succ, List.map_append]
  rfl
/-! what a grade hangs on, place by place -/
theorem sumS_c {τ σ : Sg} {a : Nat} (he : exe τ a = exe σ a) (h13 : τ.2 13 (exe σ a) = σ.2 13 (exe σ a)) (h14 : τ.2 14 (exe σ a) = σ.2 14 (exe σ a)) (h15 : τ.2 15 (exe σ a) = σ.2 15 (exe σ a)) (h22 : τ.2 22 a = σ.2 22 a) (h23 : τ.2 23 a = σ.2 23 a) : ∀ n, (∀ k, k < n → wei τ (6 * exe σ a + k) = wei σ (6 * exe σ a + k) ∧ τ.2 17 (6 * exe σ a + k) = σ.2 17 (6 * exe σ a + k)) → sumS τ a n = sumS σ a n
  | 0, _ => rfl
  | n + 1, h => by
    have ih := sumS_c he h13 h14 h15 h22 h23 n (fun k hk => h k (by omega))
    have hn := h n (by omega)
    simp only [sumS, ih]
    congr 1
    unfold cred credR gapS moreS
    rw [he, h13, h14, h15, h22, h23, hn.1, hn.2]
theorem allS_c {τ σ : Sg} {e : Nat} : ∀ n, (∀ k, k < n → wei τ (6 * e + k) = wei σ (6 * e + k)) → allS τ e n = allS σ e n
  | 0, _ => rfl
  | n + 1, h => by
    have ih := allS_c n (fun k hk => h k (by omega))
    simp only [allS, ih, h n (by omega)]
theorem grade_c {τ σ : Sg} {a : Nat} (he : exe τ a = exe σ a) (hc : cas τ (exe σ a) = cas σ (exe σ a)) (h13 : τ.2 13 (exe σ a) = σ.2 13 (exe σ a)) (h14 : τ.2 14 (exe σ a) = σ.2 14 (exe σ a)) (h15 : τ.2 15 (exe σ a) = σ.2 15 (exe σ a)) (h22 : τ.2 22 a = σ.2 22 a) (h23 : τ.2 23 a = σ.2 23 a) (h25 : τ.2 25 a = σ.2 25 a) (h : ∀ k, k < cas σ (exe σ a) → wei τ (6 * exe σ a + k) = wei σ (6 * exe σ a + k) ∧ τ.2 17 (6 * exe σ a + k) = σ.2 17 (6 * exe σ a + k)) : grade τ a = grade σ a := by
  unfold grade grade0
  rw [he, hc, h25, sumS_c he h13 h14 h15 h22 h23 _ h, allS_c _ (fun k hk => (h k hk).1)]
theorem waitS_c {τ σ : Sg} (h : app τ = app σ) (a : Nat) : ∀ n, waitS τ a n = waitS σ a n
  | 0 => rfl
  | n + 1 => by simp only [waitS, waitS_c h a n, h]
theorem mkCB2 {G : GT} {g g' : CG} {A : Nat → Prop} {ad : I2 → Nat} {σ τ : Sg} {L : Nat → List I2} {H : Heap} {b : Nat} (hgr : ∀ a, a < nAn σ → g.2.2.1 0 a = grade σ a) (hwt : ∀ a, a < nAn σ → g.2.2.1 1 a = bI (waitS σ a (nAp σ))) (hsb : LI g σ) (hb : ad (0, 0) = b) (hL : ∀ k, lsB τ k → lstN τ k = L k) (hC : CLL g' τ L) (hg : g'.2.2 = g.2.2) (hn : nAn τ = nAn σ) (hgc : ∀ a, a < nAn σ → grade τ a = grade σ a) (hp : nAp τ = nAp σ) (hap : app τ = app σ) (hz : nSz τ = nSz σ) (h42 : τ.2 42 = σ.2 42) (F : cwL G g' A ad τ L H) : CB G A b τ H := by
  refine mkCB hb hL hC (fun a ha => ?_) (fun a ha => ?_) ?_ F
  · rw [hg, hgc a (by omega)]
    exact hgr a (by omega)
  · rw [hg, hp, waitS_c hap]
    exact hwt a (by omega)
  · unfold LI at hsb ⊢
    rw [hg, hz, h42]
    exact hsb
theorem nlt_of_le {a b : Int32} (h : a ≤ b) : ¬ b < a := by
  rw [Int32.le_iff_toInt_le] at h
  rw [Int32.lt_iff_toInt_lt]
  omega
theorem coh_ok {a b : Int32} : (inB a 0 999 && inB b a 999) = true ↔ ¬ a < 0 ∧ ¬ b < a ∧ ¬ 999 < b := by
  unfold inB
  rw [Bool.and_eq_true, decide_eq_true_eq, decide_eq_true_eq]
  constructor
  · rintro ⟨⟨h1, h2⟩, h3, h4⟩
    exact ⟨h1, h3, h4⟩
  · rintro ⟨h1, h2, h3⟩
    refine ⟨⟨h1, ?_⟩, h2, h3⟩
    rw [Int32.lt_iff_toInt_lt] at *
    omega
theorem crs_ok {x d : Int32} {n : Nat} (hn : n ≤ 8) : (inB x 1 ((1 <<< (nI n &&& 31)) - 1) && inB d 1 100) = true ↔ ¬ x = 0 ∧ areU x n = true ∧ inB d 1 100 = true := by
  rw [areU_in hn, Bool.and_eq_true]
  unfold inB
  rw [decide_eq_true_eq, decide_eq_true_eq, decide_eq_true_eq]
  have e1 : (1 : Int32).toInt = 1 := by decide
  have e0 : (0 : Int32).toInt = 0 := by decide
  constructor
  · rintro ⟨⟨h1, h2⟩, h3⟩
    refine ⟨?_, ⟨?_, h2⟩, h3⟩
    · rintro rfl
      exact h1 (by decide)
    · intro z
      apply h1
      rw [Int32.lt_iff_toInt_lt] at *
      omega
  · rintro ⟨h1, ⟨h2, h3⟩, h4⟩
    refine ⟨⟨?_, h3⟩, h4⟩
    intro z
    rw [Int32.lt_iff_toInt_lt] at *
    exact h1 (Int32.toInt_inj.mp (by omega))
theorem ans_len {σ : Sg} {e : Nat} : ∀ n, ansS σ e n = true ↔ 0 < ((List.range n).filter (fun a => decide (exe σ a = e))).length
  | 0 => by simp [ansS]
  | n + 1 => by
    rw [List.range_succ, List.filter_append, List.length_append]
    simp only [ansS, Bool.or_eq_true, decide_eq_true_eq, ans_len n]
    by_cases h : exe σ n = e
    · rw [List.filter_cons_of_pos (by simpa using h)]
      simp [h]
    · rw [List.filter_cons_of_neg (by simpa using h)]
      simp [h]
