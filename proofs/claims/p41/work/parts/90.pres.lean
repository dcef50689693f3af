/-! ===== what holds of a state holds behind every call ===== -/
def Qs (σ : Sg) : Prop := MI σ ∧ MJ σ
theorem Qs.z {σ : Sg} (h : Qs σ) (k : Nat) : Qs (sN σ 0 0 k) := h
theorem Qs.e {σ : Sg} (h : Qs σ) (k : Nat) : Qs (err σ k).2 := h.z k
theorem Qs_0 : Qs sg0 :=
  ⟨⟨⟨⟨Nat.zero_le _, Nat.zero_le _, Nat.zero_le _, Nat.zero_le _, Nat.zero_le _, Nat.zero_le _, Nat.zero_le _⟩, fun i h => absurd h (Nat.not_lt_zero i), fun i h => absurd h (Nat.not_lt_zero i), fun i h => absurd h (Nat.not_lt_zero i), fun i h => absurd h (Nat.not_lt_zero i)⟩, ⟨Nat.le_refl 0, Nat.le_refl 0, Nat.zero_le _⟩, fun i h => absurd h (Nat.not_lt_zero i), fun i j h => absurd h (Nat.not_lt_zero i), fun i h => absurd h (Nat.not_lt_zero i), fun i h => absurd h (Nat.not_lt_zero i), fun i h => absurd h (Nat.not_lt_zero i)⟩,
    fun _ _ => rfl, fun _ _ => rfl, fun _ _ => ⟨rfl, rfl⟩, fun l h => absurd h (Nat.not_lt_zero l), fun l h => absurd h (Nat.not_lt_zero l), fun c d h => absurd h (Nat.not_lt_zero c)⟩
theorem pr_addCohort {σ : Sg} (h : Qs σ) (a b : Int32) : Qs (fAddCohort σ a b).2 := by
  unfold fAddCohort
  split
  · split
    · exact h.e _
    · rename_i h2
      obtain ⟨⟨⟨⟨b1, b2, b3, b4, b5, b6, b7⟩, m1, m2, m3, m4⟩, m5⟩, j⟩ := h
      exact ⟨⟨⟨⟨by show nCo σ + 1 ≤ 4; omega, b2, b3, b4, b5, b6, b7⟩, fun i hi => Nat.lt_succ_of_lt (m1 i hi), m2, m3, m4⟩, m5⟩, j⟩
  · exact h.e _
theorem pr_addStudent {σ : Sg} (h : Qs σ) (v : Int32) : Qs (fAddStudent σ v).2 := by
  unfold fAddStudent
  split
  · rename_i h1
    split
    · exact h.e _
    · rename_i h2
      obtain ⟨⟨⟨⟨b1, b2, b3, b4, b5, b6, b7⟩, m1, m2, m3, m4⟩, m5⟩, j⟩ := h
      obtain ⟨x, hx, rfl⟩ := (okP_ix (by omega)).mp h1
      rw [ix_nI (by omega)]
      refine ⟨⟨⟨⟨b1, by show nSt σ + 1 ≤ 8; omega, b3, b4, b5, b6, b7⟩, fun i hi => ?_, m2, fun i hi => ⟨Nat.lt_succ_of_lt (m3 i hi).1, (m3 i hi).2⟩, fun i hi => ⟨Nat.lt_succ_of_lt (m4 i hi).1, (m4 i hi).2⟩⟩, m5⟩, j⟩
      have hi' : i < nSt σ + 1 := hi
      show (if (6 : Nat) = 6 ∧ i = nSt σ then x else coh σ i) < nCo σ
      by_cases hq : i = nSt σ
      · rw [if_pos ⟨rfl, hq⟩]
        exact hx
      · rw [if_neg (fun z => hq z.2)]
        exact m1 i (by omega)
  · exact h.e _
theorem need_q {x : Int32} {n : Nat} (hn : n ≤ 8) (h : inB x 0 ((1 <<< (nI n &&& 31)) - 1) = true) : ∃ q, q < 2 ^ n ∧ x = nI q := by
  have h2 : 2 ^ n ≤ 2 ^ 8 := Nat.pow_le_pow_right (by decide) hn
  have h3 : (2 : Nat) ^ 8 = 256 := by decide
  rw [sh_1 n (by omega)] at h
  exact (inB_ix (by omega)).mp h
theorem pr_addLesson {σ : Sg} (h : Qs σ) (x d : Int32) : Qs (fAddLesson σ x d).2 := by
  unfold fAddLesson
  split
  · rename_i h1
    split
    · exact h.e _
    · rename_i h2
      obtain ⟨⟨⟨⟨b1, b2, b3, b4, b5, b6, b7⟩, m1, m2, m3, m4⟩, m5⟩, j1, j2, j3, j4, j5⟩ := h
      obtain ⟨q, hq, e⟩ := need_q b3 (Bool.and_eq_true_iff.mp h1).1
      refine ⟨⟨⟨⟨b1, b2, by show nLe σ + 1 ≤ 8; omega, b4, b5, b6, b7⟩, m1, fun i hi => ⟨Nat.lt_succ_of_lt (m2 i hi).1, (m2 i hi).2⟩, m3, m4⟩, m5⟩, j1, fun l hl => j2 l (Nat.le_of_succ_le hl), j3, fun l hl => ?_, j5⟩
      have hl' : l < nLe σ + 1 := hl
      show ∃ q, q < 2 ^ l ∧ (if (8 : Nat) = 8 ∧ l = nLe σ then x else σ.2 8 l) = nI q
      by_cases hc : l = nLe σ
      · rw [if_pos ⟨rfl, hc⟩, hc]
        exact ⟨q, hq, e⟩
      · rw [if_neg (fun z => hc z.2)]
        exact j4 l (by omega)
  · exact h.e _
theorem pr_addExercise {σ : Sg} (h : Qs σ) (v f a g : Int32) : Qs (fAddExercise σ v f a g).2 := by
  unfold fAddExercise
  split
  · rename_i h1
    split
    · split
      · exact h.e _
      · rename_i h2
        obtain ⟨⟨⟨⟨b1, b2, b3, b4, b5, b6, b7⟩, m1, m2, m3, m4⟩, m5⟩, j1, j2⟩ := h
        obtain ⟨x, hx, rfl⟩ := (okP_ix (by omega)).mp h1
        rw [ix_nI (by omega)]
        refine ⟨⟨⟨⟨b1, b2, b3, by show nEx σ + 1 ≤ 12; omega, b5, b6, b7⟩, m1, fun i hi => ?_, fun i hi => ⟨(m3 i hi).1, Nat.lt_succ_of_lt (m3 i hi).2.1, (m3 i hi).2.2⟩, fun i hi => ⟨(m4 i hi).1, (m4 i hi).2.1, Nat.le_succ_of_le (m4 i hi).2.2.1, (m4 i hi).2.2.2⟩⟩, m5⟩, fun i hi => j1 i (Nat.le_of_succ_le hi), j2⟩
        have hi' : i < nEx σ + 1 := hi
        show (if (12 : Nat) = 12 ∧ i = nEx σ then x else les σ i) < nLe σ ∧ cas σ i ≤ 6 ∧ ∀ k, k < cas σ i → 1 ≤ wei σ (6 * i + k) ∧ wei σ (6 * i + k) ≤ 9
        by_cases hq : i = nEx σ
        · rw [if_pos ⟨rfl, hq⟩, j1 i (by omega)]
          exact ⟨hx, Nat.zero_le _, fun k hk => absurd hk (Nat.not_lt_zero k)⟩
        · rw [if_neg (fun z => hq z.2)]
          exact m2 i (by omega)
    · exact h.e _
  · exact h.e _
theorem pr_addCase {σ : Sg} (h : Qs σ) (v x w : Int32) : Qs (fAddCase σ v x w).2 := by
  unfold fAddCase
  split
  · rename_i h1
    split
    · rename_i h3
      split
      · exact h.e _
      · rename_i h2
        obtain ⟨⟨⟨⟨b1, b2, b3, b4, b5, b6, b7⟩, m1, m2, m3, m4⟩, m5⟩, j1, j2⟩ := h
        obtain ⟨e, he, rfl⟩ := (okP_ix (by omega)).mp h1
        rw [ix_nI (by omega)] at h2 ⊢
        obtain ⟨y, hy1, hy2, rfl⟩ := inB_w (Bool.and_eq_true_iff.mp h3).2
        rw [ix_nI (by omega)]
        have hc6 := (m2 e he).2.1
        have hc5 : cas σ e < 6 := by
          rcases Nat.lt_or_ge (cas σ e) 6 with q | q
          · exact q
          · exact absurd (Or.inl (by omega)) h2
        have tc : ∀ i, cas (sN (sN (sV σ 17 (6 * e + cas σ e) x) 18 (6 * e + cas σ e) y) 16 e (cas σ e + 1)) i = if i = e then cas σ e + 1 else cas σ i := fun i => by
          show (if (16 : Nat) = 16 ∧ i = e then cas σ e + 1 else cas σ i) = _
          by_cases hi : i = e
          · rw [if_pos ⟨rfl, hi⟩, if_pos hi]
          · rw [if_neg (fun z => hi z.2), if_neg hi]
        have tw : ∀ q, wei (sN (sN (sV σ 17 (6 * e + cas σ e) x) 18 (6 * e + cas σ e) y) 16 e (cas σ e + 1)) q = if q = 6 * e + cas σ e then y else wei σ q := fun q => by
          show (if (18 : Nat) = 18 ∧ q = 6 * e + cas σ e then y else wei σ q) = _
          by_cases hi : q = 6 * e + cas σ e
          · rw [if_pos ⟨rfl, hi⟩, if_pos hi]
          · rw [if_neg (fun z => hi z.2), if_neg hi]
        refine ⟨⟨⟨⟨b1, b2, b3, b4, b5, b6, b7⟩, m1, fun i hi => ⟨(m2 i hi).1, ?_, fun k hk => ?_⟩, fun i hi => ⟨(m3 i hi).1, (m3 i hi).2.1, ?_⟩, m4⟩, m5⟩, fun i hi => ?_, j2⟩
        · rw [tc]
          have := (m2 i hi).2.1
          split <;> omega
        · rw [tc] at hk
          rw [tw]
          have hi6 := (m2 i hi).2.1
          have hold := (m2 i hi).2.2 k
          split
          · omega
          · rename_i hne
            split at hk
            · rename_i hie
              subst hie
              exact hold (by omega)
            · exact hold hk
        · rw [tc]
          have := (m3 i hi).2.2
          split
          · omega
          · exact this
        · have hi' : nEx σ ≤ i := hi
          rw [tc, if_neg (by omega)]
          exact j1 i hi'
    · exact h.e _
  · exact h.e _
theorem pr_pass {σ : Sg} (h : Qs σ) (d : Int32) : Qs (fPass σ d).2 := by
  unfold fPass
  split
  · split
    · exact h
    · exact h.e _
  · exact h.e _
theorem pr_addCourse {σ : Sg} (h : Qs σ) (x d : Int32) : Qs (fAddCourse σ x d).2 := by
  unfold fAddCourse
  split
  · rename_i h1
    split
    · exact h.e _
    · rename_i h2
      obtain ⟨⟨⟨⟨b1, b2, b3, b4, b5, b6, b7⟩, m1, m2, m3, m4⟩, m5⟩, j1, j2, j3, j4, j5, j6⟩ := h
      have hx : ∃ q, q < 2 ^ 31 ∧ x = nI q := by
        have h3 := (crs_ok (x := x) (d := d) b3).mp h1
        rw [areU_in b3] at h3
        obtain ⟨q, hq, e⟩ := need_q b3 h3.2.1
        have h4 : 2 ^ nLe σ ≤ 2 ^ 8 := Nat.pow_le_pow_right (by decide) b3
        have h5 : (2 : Nat) ^ 8 = 256 := by decide
        exact ⟨q, by omega, e⟩
      refine ⟨⟨⟨⟨b1, b2, b3, b4, b5, by show nCr σ + 1 ≤ 4; omega, b7⟩, m1, m2, m3, fun i hi => ⟨(m4 i hi).1, Nat.lt_succ_of_lt (m4 i hi).2.1, (m4 i hi).2.2⟩⟩, m5⟩, j1, j2, j3, j4, fun c hc => ?_, j6⟩
      have hc' : c < nCr σ + 1 := hc
      show ∃ q, q < 2 ^ 31 ∧ (if (33 : Nat) = 33 ∧ c = nCr σ then x else σ.2 33 c) = nI q
      by_cases hq : c = nCr σ
      · rw [if_pos ⟨rfl, hq⟩]
        exact hx
      · rw [if_neg (fun z => hq z.2)]
        exact j5 c (by omega)
  · exact h.e _
