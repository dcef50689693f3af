/-! ===== grades are natural, and what they hang on ===== -/
theorem cred_n {σ : Sg} (h : MI0 σ) {a k : Nat} (ha : a < nAn σ) (hk : k < cas σ (exe σ a)) : ∃ q, q ≤ wei σ (6 * exe σ a + k) ∧ cred σ a k = nI q := by
  have hw := h.we (h.an ha).2.1 hk
  unfold cred credR
  split
  · exact ⟨_, Nat.le_refl _, rfl⟩
  · split
    · exact ⟨wei σ (6 * exe σ a + k) / 2, Nat.div_le_self _ _, pk_div (a := wei σ (6 * exe σ a + k)) (d := 2) (by omega) (by decide) (by decide)⟩
    · split
      · exact ⟨2 * wei σ (6 * exe σ a + k) / 3, by omega, pk_div (a := 2 * wei σ (6 * exe σ a + k)) (d := 3) (by omega) (by decide) (by decide)⟩
      · exact ⟨0, Nat.zero_le _, rfl⟩
theorem sum_n {σ : Sg} (h : MI0 σ) {a : Nat} (ha : a < nAn σ) : ∀ k, k ≤ cas σ (exe σ a) → ∃ q, q ≤ allS σ (exe σ a) k ∧ sumS σ a k = nI q
  | 0, _ => ⟨0, Nat.le_refl _, rfl⟩
  | k + 1, hk => by
    obtain ⟨x, hx, ex⟩ := sum_n h ha k (by omega)
    obtain ⟨y, hy, ey⟩ := cred_n h ha (k := k) (by omega)
    refine ⟨x + y, ?_, ?_⟩
    · simp only [allS]
      omega
    · simp only [sumS]
      rw [ex, ey, nI_add]
theorem grade0_n {σ : Sg} (h : MI0 σ) {a : Nat} (ha : a < nAn σ) (hp : ∃ q, q ≤ 100 ∧ σ.2 25 a = nI q) : ∃ g, g ≤ 200 ∧ grade0 σ a = nI g := by
  obtain ⟨x, hx, ex⟩ := sum_n h ha _ (Nat.le_refl _)
  obtain ⟨y, hy, ey⟩ := hp
  have h1 := allS_b h (h.an ha).2.1 _ (Nat.le_refl _)
  have h2 := (h.an ha).2.2
  have h3 := (h.ex (h.an ha).2.1).2
  have h4 : 100 * x / allS σ (exe σ a) (cas σ (exe σ a)) ≤ 100 := Nat.div_le_of_le_mul (by rw [Nat.mul_comm]; exact Nat.mul_le_mul_right 100 hx)
  refine ⟨100 * x / allS σ (exe σ a) (cas σ (exe σ a)) + y, by omega, ?_⟩
  unfold grade0
  rw [ex, ey]
  show nI 100 * nI x / nI (allS σ (exe σ a) (cas σ (exe σ a))) + nI y = _
  rw [pk_mul, pk_div (by omega) (by omega) (by omega), nI_add]
theorem grade_n {σ : Sg} (h : MI0 σ) {a : Nat} (ha : a < nAn σ) (hp : ∃ q, q ≤ 100 ∧ σ.2 25 a = nI q) : ∃ g, g ≤ 100 ∧ grade σ a = nI g := by
  obtain ⟨g, hg, e⟩ := grade0_n h ha hp
  unfold grade
  rw [e]
  split
  · rename_i hc
    exact ⟨g, (nI_leI (by omega) (by decide)).mp (show nI g ≤ nI 100 from hc), rfl⟩
  · exact ⟨100, Nat.le_refl _, rfl⟩
theorem grade_g {σ : Sg} (h : MI σ) {a : Nat} (ha : a < nAn σ) : grade σ a = nI (graN σ a) ∧ graN σ a ≤ 100 := by
  obtain ⟨g, hg, e⟩ := grade_n h.1 ha (h.pt ha)
  have : graN σ a = g := by unfold graN; rw [e, nI_clamp (by omega)]
  rw [this]
  exact ⟨e, hg⟩
/-- the same numbers, but for which exception, the waiting, the harmed and the line's size -/
def eqN (τ σ : Sg) : Prop := ∀ k j, k ≠ 0 → k ≠ 27 → k ≠ 28 → k ≠ 29 → k ≠ 30 → k ≠ 43 → τ.1 k j = σ.1 k j
theorem eqN.rf (σ : Sg) : eqN σ σ := fun _ _ _ _ _ _ _ _ => rfl
theorem eqN.v {τ σ : Sg} (h : eqN τ σ) (k j : Nat) (x : Int32) : eqN (sV τ k j x) σ := h
theorem eqN.n {τ σ : Sg} (h : eqN τ σ) {k : Nat} (hk : k = 0 ∨ k = 27 ∨ k = 28 ∨ k = 29 ∨ k = 30 ∨ k = 43) (j x : Nat) : eqN (sN τ k j x) σ := fun a b h1 h2 h3 h4 h5 h6 => by
  rw [← h a b h1 h2 h3 h4 h5 h6]
  exact if_neg (fun z => by have := z.1; omega)
theorem eqN.put {τ σ : Sg} (h : eqN τ σ) (x : Int32) : eqN (putS τ x) σ := (h.v 42 _ x).n (by decide) 0 _
theorem eqN.pl (L : List Nat) : ∀ {τ σ : Sg}, eqN τ σ → eqN (putL τ L) σ := by
  induction L with
  | nil => intro τ σ h; exact h
  | cons x L ih => intro τ σ h; exact ih (h.put (nI x))
theorem eqN.dl {τ σ : Sg} (h : eqN τ σ) (a : Nat) : ∀ k, eqN (dropL τ a k).2 σ
  | 0 => h
  | k + 1 => by
    have := eqN.dl h a k
    simp only [dropL]
    split
    · exact this
    · exact this.n (by decide) _ _
theorem eqN.drop {τ σ : Sg} (h : eqN τ σ) (a : Nat) : eqN (dropS τ a) σ := (h.dl a _).n (by decide) _ _
theorem eqN.s {τ σ : Sg} (h : eqN τ σ) {k : Nat} (hk : k ≠ 0 ∧ k ≠ 27 ∧ k ≠ 28 ∧ k ≠ 29 ∧ k ≠ 30 ∧ k ≠ 43) : τ.1 k = σ.1 k := funext fun j => h k j hk.1 hk.2.1 hk.2.2.1 hk.2.2.2.1 hk.2.2.2.2.1 hk.2.2.2.2.2
theorem eqN.mi {τ σ : Sg} (h : eqN τ σ) (hI : MI0 σ) : MI0 τ := by
  have e1 : nCo τ = nCo σ := congrFun (h.s (k := 2) (by decide)) 0
  have e2 : nSt τ = nSt σ := congrFun (h.s (k := 5) (by decide)) 0
  have e3 : nLe τ = nLe σ := congrFun (h.s (k := 7) (by decide)) 0
  have e4 : nEx τ = nEx σ := congrFun (h.s (k := 11) (by decide)) 0
  have e5 : nAn τ = nAn σ := congrFun (h.s (k := 19) (by decide)) 0
  have e6 : nCr τ = nCr σ := congrFun (h.s (k := 32) (by decide)) 0
  have e7 : nCe τ = nCe σ := congrFun (h.s (k := 35) (by decide)) 0
  have f1 : coh τ = coh σ := h.s (k := 6) (by decide)
  have f2 : les τ = les σ := h.s (k := 12) (by decide)
  have f3 : cas τ = cas σ := h.s (k := 16) (by decide)
  have f4 : wei τ = wei σ := h.s (k := 18) (by decide)
  have f5 : stu τ = stu σ := h.s (k := 20) (by decide)
  have f6 : exe τ = exe σ := h.s (k := 21) (by decide)
  have f7 : hol τ = hol σ := h.s (k := 36) (by decide)
  have f8 : cou τ = cou σ := h.s (k := 37) (by decide)
  have f9 : eTh τ = eTh σ := h.s (k := 39) (by decide)
  have f0 : aTh τ = aTh σ := h.s (k := 40) (by decide)
  unfold MI0
  rw [e1, e2, e3, e4, e5, e6, e7, f1, f2, f3, f4, f5, f6, f7, f8, f9, f0]
  exact hI
/-- what a grade hangs on -/
def eqG (τ σ : Sg) : Prop := τ.2 13 = σ.2 13 ∧ τ.2 14 = σ.2 14 ∧ τ.2 15 = σ.2 15 ∧ τ.2 17 = σ.2 17 ∧ τ.2 22 = σ.2 22 ∧ τ.2 23 = σ.2 23
theorem cred_e {τ σ : Sg} (h : eqN τ σ) (g : eqG τ σ) (a k : Nat) : cred τ a k = cred σ a k := by
  have f4 : wei τ = wei σ := h.s (k := 18) (by decide)
  have f6 : exe τ = exe σ := h.s (k := 21) (by decide)
  obtain ⟨g1, g2, g3, g4, g5, g6⟩ := g
  unfold cred credR gapS moreS
  rw [f4, f6, g1, g2, g3, g4, g5, g6]
theorem sumS_e {τ σ : Sg} (h : eqN τ σ) (g : eqG τ σ) (a : Nat) : ∀ k, sumS τ a k = sumS σ a k
  | 0 => rfl
  | k + 1 => by
    simp only [sumS, cred_e h g, sumS_e h g a k]
theorem allS_e {τ σ : Sg} (h : eqN τ σ) (e : Nat) : ∀ k, allS τ e k = allS σ e k
  | 0 => rfl
  | k + 1 => by
    have f4 : wei τ = wei σ := h.s (k := 18) (by decide)
    simp only [allS, f4, allS_e h e k]
theorem grade_e {τ σ : Sg} (h : eqN τ σ) (g : eqG τ σ) {a : Nat} (hp : τ.2 25 a = σ.2 25 a) : grade τ a = grade σ a := by
  have f3 : cas τ = cas σ := h.s (k := 16) (by decide)
  have f6 : exe τ = exe σ := h.s (k := 21) (by decide)
  unfold grade grade0
  rw [f6, f3, sumS_e h g, allS_e h, hp]
theorem putL_V (L : List Nat) : ∀ (σ : Sg) (k : Nat), k ≠ 42 → (putL σ L).2 k = σ.2 k := by
  induction L with
  | nil => intro σ k _; rfl
  | cons x L ih =>
    intro σ k hk
    refine (ih (putS σ (nI x)) k hk).trans ?_
    funext j
    exact if_neg (fun z => hk z.1)
theorem putS_V (σ : Sg) (c : Int32) {k : Nat} (hk : k ≠ 42) : (putS σ c).2 k = σ.2 k := funext fun _ => if_neg (fun z => hk z.1)
/-- behind what was written, all but the line is as it was -/
def eqW (τ σ : Sg) : Prop := eqN τ σ ∧ ∀ k, k ≠ 42 → τ.2 k = σ.2 k
theorem eqW.rf (σ : Sg) : eqW σ σ := ⟨eqN.rf σ, fun _ _ => rfl⟩
theorem eqW.z {τ σ : Sg} (h : eqW τ σ) (j x : Nat) : eqW (sN τ 43 j x) σ := ⟨h.1.n (by decide) j x, h.2⟩
theorem eqW.p {τ σ : Sg} (h : eqW τ σ) (x : Int32) : eqW (putS τ x) σ := ⟨h.1.put x, fun k hk => (putS_V τ x hk).trans (h.2 k hk)⟩
theorem eqW.l {τ σ : Sg} (h : eqW τ σ) (L : List Nat) : eqW (putL τ L) σ := ⟨h.1.pl L, fun k hk => (putL_V L τ k hk).trans (h.2 k hk)⟩
theorem eqW.g {τ σ : Sg} (h : eqW τ σ) (a : Nat) : grade τ a = grade σ a :=
  grade_e h.1 ⟨h.2 13 (by decide), h.2 14 (by decide), h.2 15 (by decide), h.2 17 (by decide), h.2 22 (by decide), h.2 23 (by decide)⟩ (congrFun (h.2 25 (by decide)) a)
theorem nSz0 (σ : Sg) : nSz (sN σ 43 0 0) = 0 := by simp [nSz, sN]
theorem eqW.an {τ σ : Sg} (h : eqW τ σ) : nAn τ = nAn σ := congrFun (h.1.s (k := 19) (by decide)) 0
