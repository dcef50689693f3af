/-! ===== what the law keeps of a state: the appeals' points, the days ===== -/
def MK (σ : Sg) : Prop := (∀ a, σ.2 26 a = 0 → σ.2 25 a = 0) ∧ ∀ i, i < nAp σ → σ.2 26 (app σ i) = 0
def MD (d : Nat) (σ : Sg) : Prop := dayV σ = nI d ∧ (∀ a, a < nAn σ → ∃ q, q ≤ d ∧ σ.2 24 a = nI q) ∧ ∀ l, l < nLe σ → ∃ q, q ≤ 9 ∧ σ.2 9 l = nI q
def Lw (d : Nat) (σ : Sg) : Prop := (Qs σ ∧ σ.1 0 0 = 0) ∧ MK σ ∧ MD d σ
theorem sN_00 {σ : Sg} (h : σ.1 0 0 = 0) : sN σ 0 0 0 = σ := by
  refine Prod.ext (funext fun a => funext fun b => ?_) rfl
  show (if a = 0 ∧ b = 0 then 0 else σ.1 a b) = σ.1 a b
  split
  · rename_i hc
    rw [hc.1, hc.2, h]
  · rfl
theorem sN_0k {σ : Sg} (h : σ.1 0 0 = 0) (k : Nat) : sN (sN σ 0 0 k) 0 0 0 = σ := by
  refine Prod.ext (funext fun a => funext fun b => ?_) rfl
  show (if a = 0 ∧ b = 0 then 0 else if a = 0 ∧ b = 0 then k else σ.1 a b) = σ.1 a b
  split
  · rename_i hc
    rw [hc.1, hc.2, h]
  · rfl
theorem lS_err {σ : Sg} (h : σ.1 0 0 = 0) (k : Nat) : lS (err σ k) = σ := sN_0k h k
theorem lS_ok {σ : Sg} (h : σ.1 0 0 = 0) (v : Int32) : lS (v, σ) = σ := sN_00 h
theorem lC_err (cs : List Int32) (σ : Sg) (k : Nat) : lC cs (err σ (k + 1)) = cs.getD k 0 := by
  have h : (err σ (k + 1)).2.1 0 0 = k + 1 := rfl
  rw [lC, if_neg (by rw [h]; omega), h]
  rfl
theorem lC_ok (cs : List Int32) {σ : Sg} (h : σ.1 0 0 = 0) (v : Int32) : lC cs (v, σ) = v := if_pos h
theorem lS_z (r : Int32 × Sg) : (lS r).1 0 0 = 0 := rfl
theorem Lw_of {d : Nat} {σ τ : Sg} (h : Lw d σ) (hQ : Qs τ) (h0 : τ.1 0 0 = 0) (e25 : τ.2 25 = σ.2 25) (e26 : τ.2 26 = σ.2 26) (eAp : nAp τ = nAp σ) (eap : app τ = app σ) (ed : dayV τ = dayV σ) (h24 : ∀ a, a < nAn τ → ∃ q, q ≤ d ∧ τ.2 24 a = nI q) (h9 : ∀ l, l < nLe τ → ∃ q, q ≤ 9 ∧ τ.2 9 l = nI q) : Lw d τ := by
  obtain ⟨-, ⟨k1, k2⟩, d1, -, -⟩ := h
  refine ⟨⟨hQ, h0⟩, ⟨fun a ha => ?_, fun i hi => ?_⟩, ed.trans d1, h24, h9⟩
  · rw [e26] at ha
    rw [e25]
    exact k1 a ha
  · rw [eAp] at hi
    rw [e26, eap]
    exact k2 i hi
theorem okP_t {j n : Nat} (h : j < n) (hn : n < 2 ^ 31) : okP (nI j) n = true := (okP_ix hn).mpr ⟨j, h, rfl⟩
theorem okP_f {j n : Nat} (h : n ≤ j) (hj : j < 2 ^ 31) : okP (nI j) n = false := by
  cases hc : okP (nI j) n with
  | false => rfl
  | true =>
    obtain ⟨i, hi, e⟩ := (okP_ix (by omega)).mp hc
    have := (nI_eq hj (by omega)).mp e
    omega
theorem okP_m {n : Nat} (hn : n < 2 ^ 31) : okP (-1) n = false := by
  cases hc : okP (-1) n with
  | false => rfl
  | true =>
    obtain ⟨i, hi, e⟩ := (okP_ix hn).mp hc
    exact absurd e.symm (nI_m1 (by omega))
theorem inB_n {x a b : Nat} (h1 : a ≤ x) (h2 : x ≤ b) (hb : b < 2 ^ 31) : inB (nI x) (nI a) (nI b) = true := by
  unfold inB
  rw [decide_eq_true_eq]
  exact ⟨nI_nlt h1 (by omega), nI_nlt h2 (by omega)⟩
theorem inB_2n {q n : Nat} (hn : n ≤ 8) (h : q < 2 ^ n) : inB (nI q) 0 ((1 <<< (nI n &&& 31)) - 1) = true := by
  have h2 : 2 ^ n ≤ 2 ^ 8 := Nat.pow_le_pow_right (by decide) hn
  have h3 : (2 : Nat) ^ 8 = 256 := by decide
  rw [sh_1 n (by omega)]
  exact (inB_ix (by omega)).mpr ⟨q, h, rfl⟩
theorem isR_n : ∀ f, f < 5 → ∀ a, a < 9 → isR (nI f - 2) (nI a) = true := by decide +kernel
/-! ===== the deeds ===== -/
theorem s_addLesson {d : Nat} {σ : Sg} (h : Lw d σ) {q x : Nat} (hq : q < 2 ^ nLe σ) (hx : x < 5) :
    (nLe σ = 8 ∧ lC [(-2002), (-2003)] (fAddLesson σ (nI q) (nI x)) = -2003 ∧ lS (fAddLesson σ (nI q) (nI x)) = σ) ∨
    (nLe σ < 8 ∧ lC [(-2002), (-2003)] (fAddLesson σ (nI q) (nI x)) = nI (nLe σ) ∧ ∃ τ, lS (fAddLesson σ (nI q) (nI x)) = τ ∧ Lw d τ ∧ nSt τ = nSt σ ∧ nLe τ = nLe σ + 1 ∧ nEx τ = nEx σ ∧ nCr τ = nCr σ ∧ nCe τ = nCe σ ∧ les τ = les σ ∧ τ.2 41 = σ.2 41) := by
  have h8 : nLe σ ≤ 8 := h.1.1.1.1.1.2.2.1
  have hc : (inB (nI q) 0 ((1 <<< (nI (nLe σ) &&& 31)) - 1) && inB (nI x) 0 9) = true := Bool.and_eq_true_iff.mpr ⟨inB_2n h8 hq, inB_n (a := 0) (b := 9) (by omega) (by omega) (by omega)⟩
  rcases Nat.lt_or_ge (nLe σ) 8 with h7 | h7
  · refine Or.inr ⟨h7, ?_, _, rfl, ?_⟩
    · have e : fAddLesson σ (nI q) (nI x) = (nI (nLe σ), sN (sV (sV σ 8 (nLe σ) (nI q)) 9 (nLe σ) (nI x)) 7 0 (nLe σ + 1)) := by
        unfold fAddLesson
        rw [if_pos hc, if_neg (by omega)]
      rw [e]
      exact lC_ok _ h.1.2 _
    · have hQ := (pr_addLesson h.1.1 (nI q) (nI x)).z 0
      have e : fAddLesson σ (nI q) (nI x) = (nI (nLe σ), sN (sV (sV σ 8 (nLe σ) (nI q)) 9 (nLe σ) (nI x)) 7 0 (nLe σ + 1)) := by
        unfold fAddLesson
        rw [if_pos hc, if_neg (by omega)]
      rw [e] at hQ
      rw [e]
      refine ⟨Lw_of h hQ rfl rfl rfl rfl rfl rfl h.2.2.2.1 (fun l hl => ?_), rfl, rfl, rfl, rfl, rfl, rfl, rfl⟩
      have hl' : l < nLe σ + 1 := hl
      show ∃ q, q ≤ 9 ∧ (if (9 : Nat) = 9 ∧ l = nLe σ then nI x else σ.2 9 l) = nI q
      by_cases hc : l = nLe σ
      · rw [if_pos ⟨rfl, hc⟩]
        exact ⟨x, by omega, rfl⟩
      · rw [if_neg (fun z => hc z.2)]
        exact h.2.2.2.2 l (by omega)
  · have e : fAddLesson σ (nI q) (nI x) = err σ 2 := by
      unfold fAddLesson
      rw [if_pos hc, if_pos (by omega)]
    rw [e]
    exact Or.inl ⟨by omega, lC_err _ _ 1, lS_err h.1.2 2⟩
theorem s_addExercise {d : Nat} {σ : Sg} (h : Lw d σ) {q f a g : Nat} (hq : q < nLe σ) (hf : f < 5) (ha : a < 9) (hg : g < 3) :
    (nEx σ = 12 ∧ lC [(-2001), (-2002), (-2003)] (fAddExercise σ (nI q) (nI f - 2) (nI a) (nI g)) = -2003 ∧ lS (fAddExercise σ (nI q) (nI f - 2) (nI a) (nI g)) = σ) ∨
    (nEx σ < 12 ∧ lC [(-2001), (-2002), (-2003)] (fAddExercise σ (nI q) (nI f - 2) (nI a) (nI g)) = nI (nEx σ) ∧ ∃ τ, lS (fAddExercise σ (nI q) (nI f - 2) (nI a) (nI g)) = τ ∧ Lw d τ ∧ nSt τ = nSt σ ∧ nLe τ = nLe σ ∧ nEx τ = nEx σ + 1 ∧ nCr τ = nCr σ ∧ nCe τ = nCe σ ∧ (∀ e, e < nEx σ → les τ e = les σ e) ∧ les τ (nEx σ) = q ∧ τ.2 41 = σ.2 41) := by
  have hb := h.1.1.1.1.1
  have h1 : okP (nI q) (nLe σ) = true := okP_t hq (by omega)
  have h2 : (isR (nI f - 2) (nI a) && inB (nI g) 0 2) = true := Bool.and_eq_true_iff.mpr ⟨isR_n f hf a ha, inB_n (a := 0) (b := 2) (by omega) (by omega) (by omega)⟩
  rcases Nat.lt_or_ge (nEx σ) 12 with h7 | h7
  · have e : fAddExercise σ (nI q) (nI f - 2) (nI a) (nI g) = (nI (nEx σ), sN (sV (sV (sV (sN σ 12 (nEx σ) q) 13 (nEx σ) (nI f - 2)) 14 (nEx σ) (nI a)) 15 (nEx σ) (nI g)) 11 0 (nEx σ + 1)) := by
      unfold fAddExercise
      rw [if_pos h1, if_pos h2, if_neg (by omega), ix_nI (by omega)]
    refine Or.inr ⟨h7, ?_, _, rfl, ?_⟩
    · rw [e]
      exact lC_ok _ h.1.2 _
    · have hQ := (pr_addExercise h.1.1 (nI q) (nI f - 2) (nI a) (nI g)).z 0
      rw [e] at hQ
      rw [e]
      refine ⟨Lw_of h hQ rfl rfl rfl rfl rfl rfl h.2.2.2.1 h.2.2.2.2, rfl, rfl, rfl, rfl, rfl, fun e he => ?_, ?_, rfl⟩
      · exact if_neg (fun z => by have := z.2; omega)
      · exact if_pos ⟨rfl, rfl⟩
  · have e : fAddExercise σ (nI q) (nI f - 2) (nI a) (nI g) = err σ 3 := by
      unfold fAddExercise
      rw [if_pos h1, if_pos h2, if_pos (by omega)]
    rw [e]
    exact Or.inl ⟨by omega, lC_err _ _ 2, lS_err h.1.2 3⟩
theorem s_addCase {d : Nat} {σ : Sg} (h : Lw d σ) {e i w : Nat} (he : e < nEx σ) (hi : i < 6) (hw : 1 ≤ w ∧ w ≤ 9) :
    (lC [(-2001), (-2002), (-2003)] (fAddCase σ (nI e) (nI i) (nI w)) = -2003 ∧ lS (fAddCase σ (nI e) (nI i) (nI w)) = σ) ∨
    (∃ c, 1 ≤ c ∧ c ≤ 6 ∧ lC [(-2001), (-2002), (-2003)] (fAddCase σ (nI e) (nI i) (nI w)) = nI c ∧ ∃ τ, lS (fAddCase σ (nI e) (nI i) (nI w)) = τ ∧ Lw d τ ∧ nSt τ = nSt σ ∧ nLe τ = nLe σ ∧ nEx τ = nEx σ ∧ nCr τ = nCr σ ∧ nCe τ = nCe σ ∧ les τ = les σ ∧ τ.2 41 = σ.2 41) := by
  have hb := h.1.1.1.1.1
  have h1 : okP (nI e) (nEx σ) = true := okP_t he (by omega)
  have h2 : (inB (nI i) 0 99 && inB (nI w) 1 9) = true := Bool.and_eq_true_iff.mpr ⟨inB_n (a := 0) (b := 99) (by omega) (by omega) (by omega), inB_n (a := 1) (b := 9) (by omega) (by omega) (by omega)⟩
  have hc6 := (h.1.1.1.1.ex he).2
  by_cases h7 : cas σ e = 6 ∨ ansS σ e (nAn σ) = true
  · have e1 : fAddCase σ (nI e) (nI i) (nI w) = err σ 3 := by
      unfold fAddCase
      rw [if_pos h1, if_pos h2, ix_nI (by omega), if_pos h7]
    rw [e1]
    exact Or.inl ⟨lC_err _ _ 2, lS_err h.1.2 3⟩
  · have e1 : fAddCase σ (nI e) (nI i) (nI w) = (nI (cas σ e + 1), sN (sN (sV σ 17 (6 * e + cas σ e) (nI i)) 18 (6 * e + cas σ e) w) 16 e (cas σ e + 1)) := by
      unfold fAddCase
      rw [if_pos h1, if_pos h2, ix_nI (by omega), if_neg h7, ix_nI (by omega)]
    have h8 : cas σ e ≠ 6 := fun z => h7 (Or.inl z)
    refine Or.inr ⟨cas σ e + 1, by omega, by omega, ?_, _, rfl, ?_⟩
    · rw [e1]
      exact lC_ok _ h.1.2 _
    · have hQ := (pr_addCase h.1.1 (nI e) (nI i) (nI w)).z 0
      rw [e1] at hQ
      rw [e1]
      exact ⟨Lw_of h hQ rfl rfl rfl rfl rfl rfl h.2.2.2.1 h.2.2.2.2, rfl, rfl, rfl, rfl, rfl, rfl, rfl⟩
theorem s_addStudent {d : Nat} {σ : Sg} (h : Lw d σ) {q : Nat} (hq : q < nCo σ) (h8 : nSt σ < 8) :
    lC [(-2001), (-2003)] (fAddStudent σ (nI q)) = nI (nSt σ) ∧ ∃ τ, lS (fAddStudent σ (nI q)) = τ ∧ Lw d τ ∧ nCo τ = nCo σ ∧ nSt τ = nSt σ + 1 ∧ nLe τ = nLe σ ∧ nEx τ = nEx σ ∧ nCr τ = nCr σ ∧ nCe τ = nCe σ ∧ les τ = les σ ∧ τ.2 41 = σ.2 41 := by
  have hb := h.1.1.1.1.1
  have h1 : okP (nI q) (nCo σ) = true := okP_t hq (by omega)
  have e : fAddStudent σ (nI q) = (nI (nSt σ), sN (sN σ 6 (nSt σ) q) 5 0 (nSt σ + 1)) := by
    unfold fAddStudent
    rw [if_pos h1, if_neg (by omega), ix_nI (by omega)]
  refine ⟨?_, _, rfl, ?_⟩
  · rw [e]
    exact lC_ok _ h.1.2 _
  · have hQ := (pr_addStudent h.1.1 (nI q)).z 0
    rw [e] at hQ
    rw [e]
    exact ⟨Lw_of h hQ rfl rfl rfl rfl rfl rfl h.2.2.2.1 h.2.2.2.2, rfl, rfl, rfl, rfl, rfl, rfl, rfl, rfl⟩
theorem s_addCohort {d : Nat} {σ : Sg} (h : Lw d σ) {x y : Nat} (hxy : x ≤ y) (hy : y ≤ 999) (h4 : nCo σ < 4) :
    lC [(-2002), (-2003)] (fAddCohort σ (nI x) (nI y)) = nI (nCo σ) ∧ ∃ τ, lS (fAddCohort σ (nI x) (nI y)) = τ ∧ Lw d τ ∧ nCo τ = nCo σ + 1 ∧ nSt τ = nSt σ ∧ nLe τ = nLe σ ∧ nEx τ = nEx σ ∧ nCr τ = nCr σ ∧ nCe τ = nCe σ ∧ les τ = les σ ∧ τ.2 41 = σ.2 41 := by
  have hb := h.1.1.1.1.1
  have h1 : (inB (nI x) 0 999 && inB (nI y) (nI x) 999) = true := Bool.and_eq_true_iff.mpr ⟨inB_n (a := 0) (b := 999) (by omega) (by omega) (by omega), inB_n (b := 999) hxy hy (by omega)⟩
  have e : fAddCohort σ (nI x) (nI y) = (nI (nCo σ), sN (sV (sV σ 3 (nCo σ) (nI x)) 4 (nCo σ) (nI y)) 2 0 (nCo σ + 1)) := by
    unfold fAddCohort
    rw [if_pos h1, if_neg (by omega)]
  refine ⟨?_, _, rfl, ?_⟩
  · rw [e]
    exact lC_ok _ h.1.2 _
  · have hQ := (pr_addCohort h.1.1 (nI x) (nI y)).z 0
    rw [e] at hQ
    rw [e]
    exact ⟨Lw_of h hQ rfl rfl rfl rfl rfl rfl h.2.2.2.1 h.2.2.2.2, rfl, rfl, rfl, rfl, rfl, rfl, rfl, rfl⟩
theorem s_addCourse {d : Nat} {σ : Sg} (h : Lw d σ) {q x : Nat} (hq : q < 2 ^ nLe σ) (hx : 1 ≤ x ∧ x ≤ 80) :
    (lC [(-2002), (-2003)] (fAddCourse σ (nI q) (nI x)) = -2002 ∧ lS (fAddCourse σ (nI q) (nI x)) = σ) ∨
    (nCr σ = 4 ∧ lC [(-2002), (-2003)] (fAddCourse σ (nI q) (nI x)) = -2003 ∧ lS (fAddCourse σ (nI q) (nI x)) = σ) ∨
    (nCr σ < 4 ∧ lC [(-2002), (-2003)] (fAddCourse σ (nI q) (nI x)) = nI (nCr σ) ∧ ∃ τ, lS (fAddCourse σ (nI q) (nI x)) = τ ∧ Lw d τ ∧ nSt τ = nSt σ ∧ nLe τ = nLe σ ∧ nEx τ = nEx σ ∧ nCr τ = nCr σ + 1 ∧ nCe τ = nCe σ ∧ les τ = les σ ∧ τ.2 41 = σ.2 41) := by
  have hb := h.1.1.1.1.1
  by_cases hc : (inB (nI q) 1 ((1 <<< (nI (nLe σ) &&& 31)) - 1) && inB (nI x) 1 100) = true
  · rcases Nat.lt_or_ge (nCr σ) 4 with h7 | h7
    · have e : fAddCourse σ (nI q) (nI x) = (nI (nCr σ), sN (sV (sV σ 33 (nCr σ) (nI q)) 34 (nCr σ) (nI x)) 32 0 (nCr σ + 1)) := by
        unfold fAddCourse
        rw [if_pos hc, if_neg (by omega)]
      refine Or.inr (Or.inr ⟨h7, ?_, _, rfl, ?_⟩)
      · rw [e]
        exact lC_ok _ h.1.2 _
      · have hQ := (pr_addCourse h.1.1 (nI q) (nI x)).z 0
        rw [e] at hQ
        rw [e]
        exact ⟨Lw_of h hQ rfl rfl rfl rfl rfl rfl h.2.2.2.1 h.2.2.2.2, rfl, rfl, rfl, rfl, rfl, rfl, rfl⟩
    · have e : fAddCourse σ (nI q) (nI x) = err σ 2 := by
        unfold fAddCourse
        rw [if_pos hc, if_pos (by omega)]
      rw [e]
      exact Or.inr (Or.inl ⟨by omega, lC_err _ _ 1, lS_err h.1.2 2⟩)
  · have e : fAddCourse σ (nI q) (nI x) = err σ 1 := by
      unfold fAddCourse
      rw [if_neg hc]
    rw [e]
    exact Or.inl ⟨lC_err _ _ 0, lS_err h.1.2 1⟩
/-- a certificate that is issued -/
theorem iss_o (σ : Sg) (s c z : Nat) (h : z ≠ nCe σ) : hol (issS σ s c) z = hol σ z ∧ cou (issS σ s c) z = cou σ z ∧ (issS σ s c).2 41 z = σ.2 41 z := ⟨by simp [hol, issS, sN, sV, h], by simp [cou, issS, sN, sV, h], by simp [issS, sN, sV, h]⟩
theorem iss_n (σ : Sg) (s c : Nat) : hol (issS σ s c) (nCe σ) = s ∧ cou (issS σ s c) (nCe σ) = c ∧ (issS σ s c).2 41 (nCe σ) = 0 := ⟨by simp [hol, issS, sN, sV], by simp [cou, issS, sN, sV], by simp [issS, sN, sV]⟩
theorem s_issue {d : Nat} {σ : Sg} (h : Lw d σ) {s c : Nat} (hs : s < nSt σ) (hc : c ≤ nCr σ) :
    ∃ τ, lS (fIssue σ (nI s) (nI c)) = τ ∧ Lw d τ ∧ nSt τ = nSt σ ∧ nLe τ = nLe σ ∧ nEx τ = nEx σ ∧ nCr τ = nCr σ ∧ les τ = les σ ∧ (∀ z, z < nCe σ → τ.2 41 z = σ.2 41 z) ∧
    ((c = nCr σ ∧ lC [(-2001), (-2003), (-2004)] (fIssue σ (nI s) (nI c)) = -2001 ∧ nCe τ = nCe σ) ∨
    (c < nCr σ ∧ lC [(-2001), (-2003), (-2004)] (fIssue σ (nI s) (nI c)) = -2004 ∧ nCe τ = nCe σ) ∨
    (c < nCr σ ∧ lC [(-2001), (-2003), (-2004)] (fIssue σ (nI s) (nI c)) = -2003 ∧ nCe τ = nCe σ ∧ (nCe σ = 30 ∨ ∃ z, z < 30 ∧ lC [(-2001), (-2005)] (fCertificateOf τ (nI s) (nI c)) = nI z)) ∨
    (c < nCr σ ∧ lC [(-2001), (-2003), (-2004)] (fIssue σ (nI s) (nI c)) = nI (nCe σ) ∧ nCe τ = nCe σ + 1 ∧ nCe σ < 30 ∧ lC [(-2001), (-2005)] (fCertificateOf τ (nI s) (nI c)) = nI (nCe σ))) := by
  have hb := h.1.1.1.1.1
  have h1 : okP (nI s) (nSt σ) = true := okP_t hs (by omega)
  have hSame : Lw d σ ∧ nSt σ = nSt σ ∧ nLe σ = nLe σ ∧ nEx σ = nEx σ ∧ nCr σ = nCr σ ∧ les σ = les σ ∧ (∀ z, z < nCe σ → σ.2 41 z = σ.2 41 z) := ⟨h, rfl, rfl, rfl, rfl, rfl, fun _ _ => rfl⟩
  rcases Nat.lt_or_ge c (nCr σ) with hlt | hge
  · have h2 : okP (nI c) (nCr σ) = true := okP_t hlt (by omega)
    have h12 : (okP (nI s) (nSt σ) && okP (nI c) (nCr σ)) = true := Bool.and_eq_true_iff.mpr ⟨h1, h2⟩
    by_cases h3 : ¬ stdS σ s c (nCe σ) = none ∨ nCe σ = 30
    · have e : fIssue σ (nI s) (nI c) = err σ 2 := by
        unfold fIssue
        rw [if_pos h12, ix_nI (by omega), ix_nI (by omega), if_pos h3]
      rw [e, lS_err h.1.2]
      refine ⟨σ, rfl, h, rfl, rfl, rfl, rfl, rfl, fun _ _ => rfl, Or.inr (Or.inr (Or.inl ⟨hlt, lC_err _ _ 1, rfl, ?_⟩))⟩
      rcases h3 with h3 | h3
      · right
        cases hq : stdS σ s c (nCe σ) with
        | none => exact absurd hq h3
        | some z =>
          have hz := stdS_b hq
          refine ⟨z, by omega, ?_⟩
          have e2 : fCertificateOf σ (nI s) (nI c) = (nI z, σ) := by
            unfold fCertificateOf
            rw [if_pos h12, ix_nI (by omega), ix_nI (by omega), hq]
          rw [e2]
          exact lC_ok _ h.1.2 _
      · exact Or.inl h3
    · have n30 : nCe σ ≠ 30 := fun z => h3 (Or.inr z)
      by_cases h4 : enoS (issS σ s c) (nCe σ) (nLe (issS σ s c)) = true
      · have e : fIssue σ (nI s) (nI c) = (nI (nCe σ), sN (issS σ s c) 35 0 (nCe σ + 1)) := by
          unfold fIssue
          rw [if_pos h12, ix_nI (by omega), ix_nI (by omega), if_neg h3, if_pos h4]
        have hQ := (pr_issue h.1.1 (nI s) (nI c)).z 0
        rw [e] at hQ
        refine ⟨_, rfl, ?_⟩
        rw [e]
        refine ⟨Lw_of h hQ rfl rfl rfl rfl rfl rfl h.2.2.2.1 h.2.2.2.2, rfl, rfl, rfl, rfl, rfl, fun z hz => (iss_o σ s c z (by omega)).2.2, Or.inr (Or.inr (Or.inr ⟨hlt, lC_ok _ h.1.2 _, rfl, by omega, ?_⟩))⟩
        obtain ⟨T, hT⟩ : ∃ T, T = lS (nI (nCe σ), sN (issS σ s c) 35 0 (nCe σ + 1)) := ⟨_, rfl⟩
        rw [← hT]
        have t1 : nSt T = nSt σ := by rw [hT]; rfl
        have t2 : nCr T = nCr σ := by rw [hT]; rfl
        have t3 : nCe T = nCe σ + 1 := by rw [hT]; rfl
        have t0 : T.1 0 0 = 0 := by rw [hT]; rfl
        have hh : hol T (nCe σ) = s ∧ cou T (nCe σ) = c ∧ T.2 41 (nCe σ) = 0 := by rw [hT]; exact iss_n σ s c
        have e2 : fCertificateOf T (nI s) (nI c) = (nI (nCe σ), T) := by
          unfold fCertificateOf
          rw [t1, t2, if_pos h12, ix_nI (by omega), ix_nI (by omega), t3]
          simp only [stdS]
          rw [if_pos hh]
        rw [e2]
        exact lC_ok _ t0 _
      · have e : fIssue σ (nI s) (nI c) = err (issS σ s c) 3 := by
          unfold fIssue
          rw [if_pos h12, ix_nI (by omega), ix_nI (by omega), if_neg h3, if_neg h4]
        have hQ := (pr_issue h.1.1 (nI s) (nI c)).z 0
        rw [e] at hQ
        refine ⟨_, rfl, ?_⟩
        rw [e]
        exact ⟨Lw_of h hQ rfl rfl rfl rfl rfl rfl h.2.2.2.1 h.2.2.2.2, rfl, rfl, rfl, rfl, rfl, fun z hz => (iss_o σ s c z (by omega)).2.2, Or.inr (Or.inl ⟨hlt, lC_err _ _ 2, rfl⟩)⟩
  · have hf : okP (nI c) (nCr σ) = false := okP_f hge (by omega)
    have e : fIssue σ (nI s) (nI c) = err σ 1 := by
      unfold fIssue
      rw [if_neg (by rw [hf, Bool.and_false]; exact Bool.false_ne_true)]
    rw [e, lS_err h.1.2]
    exact ⟨σ, rfl, h, rfl, rfl, rfl, rfl, rfl, fun _ _ => rfl, Or.inl ⟨by omega, lC_err _ _ 0, rfl⟩⟩
