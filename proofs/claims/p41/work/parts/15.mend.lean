/-! ===== a mend's way, state by state ===== -/
theorem befL_1 (σ : Sg) (e : Nat) : ∀ k, (befL σ e k).1 = σ.1
  | 0 => rfl
  | k + 1 => befL_1 σ e k
theorem befL_V (σ : Sg) (e : Nat) {b : Nat} (hb : b ≠ 31) : ∀ k, (befL σ e k).2 b = σ.2 b
  | 0 => rfl
  | k + 1 => (funext fun _ => if_neg (fun z => hb z.1) : (befL σ e (k + 1)).2 b = (befL σ e k).2 b).trans (befL_V σ e hb k)
theorem befL_N (σ : Sg) (e k : Nat) : eqN (befL σ e k) σ := fun a b _ _ _ _ _ _ => by rw [befL_1]
theorem men1_N (σ : Sg) (e : Nat) (f a : Int32) : eqN (men1 σ e f a) σ := (((((befL_N σ e (nAn σ)).v 13 e f).v 14 e a).v 10 _ _).n (by decide) 0 0)
theorem dropL_o (σ : Sg) (a : Nat) {b : Nat} (hb : b ≠ 28) : ∀ k, (dropL σ a k).2.1 b = σ.1 b
  | 0 => rfl
  | k + 1 => by
    have := dropL_o σ a hb k
    simp only [dropL]
    split
    · exact this
    · rw [← this]
      funext j
      exact if_neg (fun z => hb z.1)
theorem dropL_2 (σ : Sg) (a : Nat) : ∀ k, (dropL σ a k).2.2 = σ.2
  | 0 => rfl
  | k + 1 => by
    have := dropL_2 σ a k
    simp only [dropL]
    split
    · exact this
    · exact this
theorem dropL_val (σ : Sg) (a : Nat) : ∀ k q, q < (dropL σ a k).1 → ∃ j, j < k ∧ app (dropL σ a k).2 q = app σ j ∧ app σ j ≠ a
  | 0, q, h => absurd h (Nat.not_lt_zero q)
  | k + 1, q, h => by
    have h1 := dropL_val σ a k q
    have h2 := dropL_app σ a k k (Nat.le_refl k)
    have h3 := dropL_le σ a k
    simp only [dropL] at h ⊢
    split at h
    · rename_i hc
      rw [if_pos hc]
      obtain ⟨j, hj, e, ne⟩ := h1 h
      exact ⟨j, by omega, e, ne⟩
    · rename_i hc
      rw [if_neg hc]
      have h' : q < (dropL σ a k).1 + 1 := h
      by_cases hq : q = (dropL σ a k).1
      · refine ⟨k, by omega, ?_, ?_⟩
        · show (if (28 : Nat) = 28 ∧ q = (dropL σ a k).1 then app (dropL σ a k).2 k else _) = _
          rw [if_pos ⟨rfl, hq⟩, h2]
        · rw [← h2]
          exact hc
      · obtain ⟨j, hj, e, ne⟩ := h1 (by omega)
        refine ⟨j, by omega, ?_, ne⟩
        rw [← e]
        exact if_neg (fun z => hq z.2)
theorem dropS_1 (σ : Sg) (a : Nat) {b : Nat} (hb : b ≠ 28) (hc : b ≠ 27) : (dropS σ a).1 b = σ.1 b := by
  rw [← dropL_o σ a hb (nAp σ)]
  funext j
  exact if_neg (fun z => hc z.1)
theorem dropS_2 (σ : Sg) (a : Nat) : (dropS σ a).2 = σ.2 := dropL_2 σ a _
theorem dropS_val (σ : Sg) (a : Nat) {q : Nat} (h : q < nAp (dropS σ a)) : ∃ j, j < nAp σ ∧ app (dropS σ a) q = app σ j ∧ app σ j ≠ a := by
  rw [dropS_n] at h
  obtain ⟨j, hj, e, ne⟩ := dropL_val σ a _ q h
  refine ⟨j, hj, ?_, ne⟩
  rw [← e]
  simp [app, dropS, sN]
theorem dropS_le (σ : Sg) (a : Nat) : nAp (dropS σ a) ≤ nAp σ := by
  rw [dropS_n]
  exact dropL_le σ a _
theorem harD_1 (k : Nat) {b : Nat} (hb : b ≠ 30) : ∀ (q : Nat) (τ : Sg), (harD τ k q).2.1 b = τ.1 b
  | 0, τ => rfl
  | q + 1, τ => by
    unfold harD
    split
    · rfl
    · rw [harD_1 k hb q]
      funext j
      exact if_neg (fun z => hb z.1)
theorem harD_2 (k : Nat) : ∀ (q : Nat) (τ : Sg), (harD τ k q).2.2 = τ.2
  | 0, τ => rfl
  | q + 1, τ => by
    unfold harD
    split
    · rfl
    · exact harD_2 k q _
theorem harD_b (k n h : Nat) : ∀ (q : Nat) (τ : Sg), q ≤ h → (∀ z, z < h + 1 → z ≠ q → har τ z < n) → (harD τ k q).1 ≤ q ∧ ∀ z, z < h + 1 → z ≠ (harD τ k q).1 → har (harD τ k q).2 z < n
  | 0, τ, _, hz => ⟨Nat.le_refl 0, hz⟩
  | q + 1, τ, hq, hz => by
    unfold harD
    split
    · exact ⟨Nat.le_refl _, hz⟩
    · have := harD_b k n h q (sN τ 30 (q + 1) (har τ q)) (by omega) (fun z h1 h2 => by
        show (if (30 : Nat) = 30 ∧ z = q + 1 then har τ q else har τ z) < n
        split
        · exact hz q (by omega) (by omega)
        · rename_i hc
          exact hz z h1 (fun w => hc ⟨rfl, w⟩))
      exact ⟨by omega, this.2⟩
theorem harP_ap (τ : Sg) (k : Nat) : nAp (harP τ k) = nAp τ ∧ app (harP τ k) = app τ := by
  constructor
  · show (harD τ k (nHa τ)).2.1 27 0 = τ.1 27 0
    rw [harD_1 k (by decide)]
  · show (harD τ k (nHa τ)).2.1 28 = τ.1 28
    rw [harD_1 k (by decide)]
theorem harP_n (τ : Sg) (k : Nat) : nHa (harP τ k) = nHa τ + 1 := rfl
theorem harP_b (τ : Sg) {k n : Nat} (hk : k < n) (h : ∀ z, z < nHa τ → har τ z < n) : ∀ z, z < nHa (harP τ k) → har (harP τ k) z < n := by
  intro z hz
  rw [harP_n] at hz
  have := (harD_b k n (nHa τ) (nHa τ) τ (Nat.le_refl _) (fun y h1 h2 => h y (by omega))).2 z hz
  show (if (30 : Nat) = 30 ∧ z = (harD τ k (nHa τ)).1 then k else har (harD τ k (nHa τ)).2 z) < n
  split
  · exact hk
  · rename_i hc
    exact this (fun w => hc ⟨rfl, w⟩)
theorem harD_N {τ σ : Sg} (h : eqN τ σ) (k q : Nat) : eqN (harD τ k q).2 σ := fun a b h1 h2 h3 h4 h5 h6 => by
  rw [harD_1 k h5]
  exact h a b h1 h2 h3 h4 h5 h6
theorem harP_N {τ σ : Sg} (h : eqN τ σ) (k : Nat) : eqN (harP τ k) σ := ((harD_N h k (nHa τ)).n (by decide) _ k).n (by decide) 0 _
theorem menA_N {τ σ : Sg} (h : eqN τ σ) (k : Nat) : eqN (menA τ k) σ := ((h.drop k).v 25 k 0).v 26 k 0
theorem menL_N (σ : Sg) (e : Nat) : ∀ k, eqN (menL σ e k).2 σ
  | 0 => eqN.rf σ
  | k + 1 => by
    have := menL_N σ e k
    simp only [menL]
    split
    · exact harP_N (menA_N this k) k
    · exact this
/-- the lists on the way: who waits is one of those before; the harmed are of those gone through -/
def menI (σ τ : Sg) (k : Nat) : Prop := nAp τ ≤ nAp σ ∧ (∀ q, q < nAp τ → ∃ j, j < nAp σ ∧ app τ q = app σ j) ∧ nHa τ ≤ k ∧ (∀ q, q < nHa τ → har τ q < k)
theorem menL_I (σ : Sg) (e : Nat) (h0 : nHa σ = 0) : ∀ k, menI σ (menL σ e k).2 k
  | 0 => ⟨Nat.le_refl _, fun q h => ⟨q, h, rfl⟩, by show nHa σ ≤ 0; omega, fun q h => absurd h (by show ¬ q < nHa σ; omega)⟩
  | k + 1 => by
    obtain ⟨h1, h2, h3, h4⟩ := menL_I σ e h0 k
    simp only [menL]
    split
    · have a1 : nHa (menA (menL σ e k).2 k) = nHa (menL σ e k).2 := congrFun (dropS_1 (menL σ e k).2 k (b := 29) (by decide) (by decide)) 0
      have a2 : har (menA (menL σ e k).2 k) = har (menL σ e k).2 := dropS_1 (menL σ e k).2 k (b := 30) (by decide) (by decide)
      have a3 := harP_ap (menA (menL σ e k).2 k) k
      have a4 := dropS_le (menL σ e k).2 k
      refine ⟨?_, ?_, ?_, ?_⟩
      · show nAp (harP (menA (menL σ e k).2 k) k) ≤ nAp σ
        rw [a3.1]
        exact Nat.le_trans a4 h1
      · intro q hq
        have hq' : q < nAp (harP (menA (menL σ e k).2 k) k) := hq
        rw [a3.1] at hq'
        show ∃ j, j < nAp σ ∧ app (harP (menA (menL σ e k).2 k) k) q = app σ j
        rw [a3.2]
        obtain ⟨j, hj, ej, -⟩ := dropS_val (menL σ e k).2 k (q := q) hq'
        obtain ⟨i, hi, ei⟩ := h2 j hj
        exact ⟨i, hi, ej.trans ei⟩
      · show nHa (harP (menA (menL σ e k).2 k) k) ≤ k + 1
        rw [harP_n, a1]
        omega
      · refine harP_b _ (Nat.lt_succ_self k) fun z hz => ?_
        rw [a1] at hz
        rw [a2]
        exact Nat.lt_succ_of_lt (h4 z hz)
    · exact ⟨h1, h2, Nat.le_succ_of_le h3, fun q hq => Nat.lt_succ_of_lt (h4 q hq)⟩
theorem revL_1 (σ : Sg) : ∀ k, (revL σ k).1 = σ.1
  | 0 => rfl
  | k + 1 => revL_1 σ k
theorem revL_N (σ : Sg) (k : Nat) : eqN (revL σ k) σ := fun a b _ _ _ _ _ _ => by rw [revL_1]
theorem eqN.tr {a b d : Sg} (h : eqN a b) (g : eqN b d) : eqN a d := fun k j h1 h2 h3 h4 h5 h6 => (h k j h1 h2 h3 h4 h5 h6).trans (g k j h1 h2 h3 h4 h5 h6)
theorem harD_s {τ : Sg} {k j : Nat} (h : ¬ grade τ (har τ j) - τ.2 31 (har τ j) ≤ grade τ k - τ.2 31 k) : harD τ k (j + 1) = harD (sN τ 30 (j + 1) (har τ j)) k j := by
  rw [harD]
  exact if_neg h
theorem harD_g {τ : Sg} {k j : Nat} (h : grade τ (har τ j) - τ.2 31 (har τ j) ≤ grade τ k - τ.2 31 k) : harD τ k (j + 1) = (j + 1, τ) := by
  rw [harD]
  exact if_pos h
