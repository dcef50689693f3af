/-! ===== masteries: of a day, of a later day ===== -/
theorem worth_n {d : Nat} {σ : Sg} (h : Lw d σ) {a : Nat} (ha : a < nAn σ) : ∃ g c b, g ≤ 100 ∧ c ≤ 9 ∧ b ≤ d ∧ ∀ D, d ≤ D → D ≤ 2000 → worth σ a (nI D) = nI (g - c * (D - b)) := by
  have hI := h.1.1.1
  have h1 := grade_g hI ha
  obtain ⟨b, hb, eb⟩ := h.2.2.2.1 a ha
  obtain ⟨c, hc, ec⟩ := h.2.2.2.2 (les σ (exe σ a)) (hI.1.ex (hI.1.an ha).2.1).1
  refine ⟨graN σ a, c, b, h1.2, hc, hb, fun D hD hD2 => ?_⟩
  have hm : c * (D - b) ≤ 9 * 2000 := Nat.mul_le_mul hc (by omega)
  have e0 : worth0 σ a (nI D) = nI (graN σ a) - nI (c * (D - b)) := by
    unfold worth0
    rw [h1.1, ec, eb, pk_sub (by omega), pk_mul]
  unfold worth
  rw [e0]
  rcases Nat.lt_or_ge (graN σ a) (c * (D - b)) with q | q
  · have h3 : nI (graN σ a) - nI (c * (D - b)) ≤ 0 := by
      have h4 := pk_sneg (a := graN σ a) (b := c * (D - b)) (by omega) q
      rw [Int32.lt_iff_toInt_lt] at h4
      rw [Int32.le_iff_toInt_le]
      omega
    rw [if_pos h3, show graN σ a - c * (D - b) = 0 by omega]
    rfl
  · rw [pk_sub q]
    split
    · rename_i h3
      have := (nI_leI (a := graN σ a - c * (D - b)) (b := 0) (by omega) (by decide)).mp h3
      rw [show graN σ a - c * (D - b) = 0 by omega]
      rfl
    · rfl
theorem oW_n {d : Nat} {σ : Sg} (h : Lw d σ) (st e : Nat) {D D2 : Nat} (hD : d ≤ D) (hD2 : D ≤ D2) (h3 : D2 ≤ 2000) : ∀ k, k ≤ nAn σ → ∃ m m2, oW σ (nI D) (bestS σ st e (nI D) k) = nI m ∧ oW σ (nI D2) (bestS σ st e (nI D2) k) = nI m2 ∧ m2 ≤ m ∧ m ≤ 100
  | 0, _ => ⟨0, 0, rfl, rfl, Nat.le_refl 0, by omega⟩
  | k + 1, hk => by
    obtain ⟨m, m2, e1, e2, h1, h2⟩ := oW_n h st e hD hD2 h3 k (by omega)
    by_cases hc : stu σ k = st ∧ exe σ k = e
    · obtain ⟨g, c, b, hg, hc9, hb, hw⟩ := worth_n h (a := k) (by omega)
      have w1 := hw D hD (by omega)
      have w2 := hw D2 (by omega) h3
      obtain ⟨x, hx⟩ : ∃ x, x = g - c * (D - b) := ⟨_, rfl⟩
      obtain ⟨y, hy⟩ : ∃ y, y = g - c * (D2 - b) := ⟨_, rfl⟩
      have hle : y ≤ x := by
        have : c * (D - b) ≤ c * (D2 - b) := Nat.mul_le_mul_left c (by omega)
        omega
      have hx9 : x ≤ 100 := by omega
      rw [← hx] at w1
      rw [← hy] at w2
      rw [bw_s hc, bw_s hc, e1, e2, w1, w2]
      refine ⟨if m < x then x else m, if m2 < y then y else m2, ?_, ?_, ?_, ?_⟩
      · by_cases q : m < x
        · rw [if_pos (nI_lt q (by omega)), if_pos q]
        · rw [if_neg (nI_nlt (by omega) (by omega)), if_neg q]
      · by_cases q : m2 < y
        · rw [if_pos (nI_lt q (by omega)), if_pos q]
        · rw [if_neg (nI_nlt (by omega) (by omega)), if_neg q]
      · split <;> split <;> omega
      · split <;> omega
    · rw [bw_n hc, bw_n hc]
      exact ⟨m, m2, e1, e2, h1, h2⟩
/-- how many of a lesson's exercises are answered -/
def ansN (σ : Sg) (st l : Nat) (on : Int32) (mA : Nat) : Nat → Nat
  | 0 => 0
  | e + 1 => if les σ e = l ∧ bestS σ st e on mA ≠ none then ansN σ st l on mA e + 1 else ansN σ st l on mA e
theorem ansN_le (σ : Sg) (st l : Nat) (on : Int32) (mA : Nat) : ∀ k, ansN σ st l on mA k ≤ masN σ l k
  | 0 => Nat.le_refl 0
  | e + 1 => by
    have := ansN_le σ st l on mA e
    simp only [ansN, masN]
    by_cases h1 : les σ e = l
    · rw [if_pos h1]
      split <;> omega
    · rw [if_neg h1, if_neg (fun z => h1 z.1)]
      exact this
theorem mas_n {d : Nat} {σ : Sg} (h : Lw d σ) (st l : Nat) {D D2 : Nat} (hD : d ≤ D) (hD2 : D ≤ D2) (h3 : D2 ≤ 2000) : ∀ k, ∃ t t2, masT σ st l (nI D) (nAn σ) k = nI t ∧ masT σ st l (nI D2) (nAn σ) k = nI t2 ∧ t2 ≤ t ∧ t ≤ 100 * ansN σ st l (nI D) (nAn σ) k
  | 0 => ⟨0, 0, rfl, rfl, Nat.le_refl 0, Nat.zero_le _⟩
  | e + 1 => by
    obtain ⟨t, t2, e1, e2, h1, h2⟩ := mas_n h st l hD hD2 h3 e
    obtain ⟨m, m2, w1, w2, h4, h5⟩ := oW_n h st e hD hD2 h3 (nAn σ) (Nat.le_refl _)
    simp only [masT, ansN]
    by_cases hc : les σ e = l
    · rw [if_pos hc, if_pos hc, e1, e2, w1, w2, nI_add, nI_add]
      refine ⟨t + m, t2 + m2, rfl, rfl, by omega, ?_⟩
      by_cases hn : bestS σ st e (nI D) (nAn σ) = none
      · rw [if_neg (fun z => z.2 hn)]
        rw [hn] at w1
        have : (0 : Nat) = m := (nI_eq (a := 0) (b := m) (by omega) (by omega)).mp w1
        omega
      · rw [if_pos ⟨hc, hn⟩]
        omega
    · rw [if_neg hc, if_neg hc, if_neg (fun z => hc z.1)]
      exact ⟨t, t2, e1, e2, h1, h2⟩
theorem masBy_n {d : Nat} {σ : Sg} (h : Lw d σ) (st l : Nat) {D D2 : Nat} (hD : d ≤ D) (hD2 : D ≤ D2) (h3 : D2 ≤ 2000) : ∃ M M2, masBy σ st l (nI D) (nEx σ) (nAn σ) = nI M ∧ masBy σ st l (nI D2) (nEx σ) (nAn σ) = nI M2 ∧ M2 ≤ M ∧ M ≤ 100 ∧ (masN σ l (nEx σ) = 0 → M = 100) ∧ (0 < masN σ l (nEx σ) → M ≤ 100 * ansN σ st l (nI D) (nAn σ) (nEx σ) / masN σ l (nEx σ)) := by
  obtain ⟨t, t2, e1, e2, h1, h2⟩ := mas_n h st l hD hD2 h3 (nEx σ)
  have hn := masN_b σ l (nEx σ)
  have ha := ansN_le σ st l (nI D) (nAn σ) (nEx σ)
  have hb := h.1.1.1.1.1
  unfold masBy
  rw [e1, e2]
  rcases Nat.eq_zero_or_pos (masN σ l (nEx σ)) with h0 | h0
  · rw [if_pos h0, if_pos h0]
    exact ⟨100, 100, rfl, rfl, Nat.le_refl _, Nat.le_refl _, fun _ => rfl, fun z => by omega⟩
  · rw [if_neg (by omega), if_neg (by omega), pk_div (by omega) h0 (by omega), pk_div (by omega) h0 (by omega)]
    refine ⟨_, _, rfl, rfl, Nat.div_le_div_right h1, ?_, fun z => by omega, fun _ => Nat.div_le_div_right h2⟩
    exact Nat.div_le_of_le_mul (by rw [Nat.mul_comm]; omega)
theorem bestS_c {τ σ : Sg} (e1 : stu τ = stu σ) (e2 : exe τ = exe σ) (hw : worth τ = worth σ) (st e : Nat) (on : Int32) : ∀ k, bestS τ st e on k = bestS σ st e on k
  | 0 => rfl
  | k + 1 => by simp only [bestS, e1, e2, hw, bestS_c e1 e2 hw st e on k]
theorem masT_c {τ σ : Sg} (e0 : les τ = les σ) (e1 : stu τ = stu σ) (e2 : exe τ = exe σ) (hw : worth τ = worth σ) (st l : Nat) (on : Int32) (mA : Nat) : ∀ k, masT τ st l on mA k = masT σ st l on mA k
  | 0 => rfl
  | e + 1 => by
    have h1 : ∀ o, oW τ on o = oW σ on o := fun o => by
      cases o with
      | none => rfl
      | some b => exact congrFun (congrFun hw b) on
    simp only [masT, e0, bestS_c e1 e2 hw, h1, masT_c e0 e1 e2 hw st l on mA e]
theorem masN_c {τ σ : Sg} (e0 : les τ = les σ) (l : Nat) : ∀ k, masN τ l k = masN σ l k
  | 0 => rfl
  | e + 1 => by simp only [masN, e0, masN_c e0 l e]
theorem masBy_c {τ σ : Sg} (e0 : les τ = les σ) (e1 : stu τ = stu σ) (e2 : exe τ = exe σ) (hw : worth τ = worth σ) (st l : Nat) (on : Int32) (mE mA : Nat) : masBy τ st l on mE mA = masBy σ st l on mE mA := by
  unfold masBy
  rw [masN_c e0, masT_c e0 e1 e2 hw]
theorem s_pass {d : Nat} {σ : Sg} (h : Lw d σ) {x : Nat} (hx : 1 ≤ x ∧ x ≤ 4) (hd : d + x ≤ 999) :
    lC [(-2002), (-2003)] (fPass σ (nI x)) = nI (d + x) ∧ ∃ τ, lS (fPass σ (nI x)) = τ ∧ Lw (d + x) τ ∧ nSt τ = nSt σ ∧ nLe τ = nLe σ ∧ nEx τ = nEx σ ∧ nCr τ = nCr σ ∧ nCe τ = nCe σ ∧ les τ = les σ ∧ τ.2 41 = σ.2 41 ∧ ∀ st l, ∃ M M2, masNow σ st l = nI M ∧ masNow τ st l = nI M2 ∧ M2 ≤ M ∧ M ≤ 100 := by
  have h1 : inB (nI x) 1 99 = true := inB_n (a := 1) (b := 99) (by omega) (by omega) (by omega)
  have e : fPass σ (nI x) = (nI (d + x), sV σ 1 0 (nI (d + x))) := by
    unfold fPass
    rw [if_pos h1, h.2.2.1, nI_add, if_pos (show nI (d + x) ≤ 999 from nI_le (b := 999) hd (by omega))]
  have hQ := (pr_pass h.1.1 (nI x)).z 0
  rw [e] at hQ
  refine ⟨by rw [e]; exact lC_ok _ h.1.2 _, lS (nI (d + x), sV σ 1 0 (nI (d + x))), by rw [e], ?_, rfl, rfl, rfl, rfl, rfl, rfl, rfl, fun st l => ?_⟩
  · obtain ⟨-, ⟨k1, k2⟩, d1, d2, d3⟩ := h
    refine ⟨⟨hQ, lS_z _⟩, ⟨k1, k2⟩, rfl, fun a ha => ?_, d3⟩
    obtain ⟨q, hq, eq⟩ := d2 a ha
    exact ⟨q, by omega, eq⟩
  · obtain ⟨M, M2, q1, q2, q3, q4, -, -⟩ := masBy_n h st l (D := d) (D2 := d + x) (Nat.le_refl _) (by omega) (by omega)
    refine ⟨M, M2, ?_, ?_, q3, q4⟩
    · unfold masNow
      rw [h.2.2.1]
      exact q1
    · obtain ⟨τ, hτ⟩ : ∃ τ, τ = lS (nI (d + x), sV σ 1 0 (nI (d + x))) := ⟨_, rfl⟩
      rw [← hτ]
      have hg : ∀ a, grade τ a = grade σ a := fun a => by
        rw [hτ]
        exact grade_e (((eqN.rf σ).v 1 0 _).n (by decide) 0 0) ⟨rfl, rfl, rfl, rfl, rfl, rfl⟩ rfl
      have hw : worth τ = worth σ := by
        funext a on
        have e0 : worth0 τ a on = worth0 σ a on := by
          unfold worth0
          rw [hg]
          rw [hτ]
          rfl
        unfold worth
        rw [e0]
      unfold masNow
      rw [show dayV τ = nI (d + x) by rw [hτ]; rfl, show nEx τ = nEx σ by rw [hτ]; rfl, show nAn τ = nAn σ by rw [hτ]; rfl, masBy_c (by rw [hτ]; rfl) (by rw [hτ]; rfl) (by rw [hτ]; rfl) hw]
      exact q2
