/-! ===== a mend: the harmed in their order, and how many of them changed ===== -/
def dd (τ : Sg) (x : Nat) : Int32 := grade τ x - τ.2 31 x
theorem harD_sp (k : Nat) : ∀ (q : Nat) (τ : Sg), (∀ j, (harD τ k q).1 ≤ j → j < q → ¬ dd τ (har τ j) ≤ dd τ k) ∧ (0 < (harD τ k q).1 → dd τ (har τ ((harD τ k q).1 - 1)) ≤ dd τ k)
  | 0, τ => ⟨fun j _ h => absurd h (Nat.not_lt_zero j), fun h => absurd h (Nat.lt_irrefl 0)⟩
  | q + 1, τ => by
    by_cases h : grade τ (har τ q) - τ.2 31 (har τ q) ≤ grade τ k - τ.2 31 k
    · rw [harD_g h]
      exact ⟨fun j h1 h2 => absurd h1 (by show ¬ q + 1 ≤ j; omega), fun _ => h⟩
    · rw [harD_s h]
      obtain ⟨h1, h2⟩ := harD_sp k q (sN τ 30 (q + 1) (har τ q))
      have h3 := harD_le k q (sN τ 30 (q + 1) (har τ q))
      have hg : ∀ x, dd (sN τ 30 (q + 1) (har τ q)) x = dd τ x := fun x => by
        unfold dd
        rw [grade_e ((eqN.rf τ).n (by decide) _ _) ⟨rfl, rfl, rfl, rfl, rfl, rfl⟩ rfl]
        rfl
      have hh : ∀ j, ¬ j = q + 1 → har (sN τ 30 (q + 1) (har τ q)) j = har τ j := fun j hj => sN_no τ (har τ q) hj
      refine ⟨fun j a1 a2 => ?_, fun a1 => ?_⟩
      · rcases Nat.lt_or_ge j q with c | c
        · have := h1 j a1 c
          rw [hg, hg, hh j (by omega)] at this
          exact this
        · rw [show j = q by omega]
          exact h
      · have := h2 a1
        rw [hg, hg, hh _ (by omega)] at this
        exact this
theorem har_P (τ : Sg) (k z : Nat) : har (harP τ k) z = if z = (harD τ k (nHa τ)).1 then k else if (harD τ k (nHa τ)).1 < z ∧ z ≤ nHa τ then har τ (z - 1) else har τ z := by
  show (if (30 : Nat) = 30 ∧ z = (harD τ k (nHa τ)).1 then k else har (harD τ k (nHa τ)).2 z) = _
  by_cases hz : z = (harD τ k (nHa τ)).1
  · rw [if_pos ⟨rfl, hz⟩, if_pos hz]
  · rw [if_neg (fun w => hz w.2), if_neg hz, harD_val]
/-- how many of the first n are P -/
def cH (P : Nat → Bool) (f : Nat → Nat) : Nat → Nat
  | 0 => 0
  | n + 1 => cH P f n + (P (f n)).toNat
theorem cH_le (P : Nat → Bool) (f : Nat → Nat) : ∀ n, cH P f n ≤ n
  | 0 => Nat.le_refl 0
  | n + 1 => by
    have := cH_le P f n
    simp only [cH]
    cases P (f n) <;> simp <;> omega
theorem cH_c {P P' : Nat → Bool} {f f' : Nat → Nat} : ∀ n, (∀ z, z < n → P (f z) = P' (f' z)) → cH P f n = cH P' f' n
  | 0, _ => rfl
  | n + 1, h => by
    simp only [cH]
    rw [cH_c n (fun z hz => h z (by omega)), h n (by omega)]
theorem cH_ins {P : Nat → Bool} {f f' : Nat → Nat} {k : Nat} : ∀ (n r : Nat), r ≤ n → (∀ z, z < r → f' z = f z) → f' r = k → (∀ z, r < z → z ≤ n → f' z = f (z - 1)) → cH P f' (n + 1) = cH P f n + (P k).toNat
  | 0, r, hr, _, h2, _ => by
    have : r = 0 := by omega
    subst this
    simp only [cH]
    rw [h2]
  | n + 1, r, hr, h1, h2, h3 => by
    rcases Nat.lt_or_ge n r with c | c
    · have : r = n + 1 := by omega
      subst this
      have e := cH_c (P := P) (P' := P) (f := f') (f' := f) (n + 1) (fun z hz => by rw [h1 z hz])
      show cH P f' (n + 1) + (P (f' (n + 1))).toNat = _
      rw [e, h2]
    · have e := cH_ins (P := P) n r c h1 h2 (fun z a1 a2 => h3 z a1 (by omega))
      show cH P f' (n + 1) + (P (f' (n + 1))).toNat = (cH P f n + (P (f n)).toNat) + (P k).toNat
      rw [e, h3 (n + 1) (by omega) (Nat.le_refl _)]
      show _ + (P (f n)).toNat = _
      omega
/-- a grade without points, on the way -/
def gx (σ : Sg) (x : Nat) : Int32 := grade (sV σ 25 x 0) x
def DR (D : Nat → Int32) (x y : Nat) : Prop := D x < D y ∨ (D x = D y ∧ x < y)
theorem le_tr {a b c : Int32} (h : a ≤ b) (h2 : b ≤ c) : a ≤ c := by
  rw [Int32.le_iff_toInt_le] at *
  omega
theorem lt_le {a b : Int32} (h : a < b) : a ≤ b := by
  rw [Int32.lt_iff_toInt_lt] at h
  rw [Int32.le_iff_toInt_le]
  omega
theorem le_lt_eq {a b : Int32} (h : a ≤ b) : a < b ∨ a = b := by
  rw [Int32.le_iff_toInt_le] at h
  rcases Int.lt_or_eq_of_le h with q | q
  · exact Or.inl (Int32.lt_iff_toInt_lt.mpr q)
  · exact Or.inr (Int32.toInt_inj.mp q)
theorem DR_le {D : Nat → Int32} {x y : Nat} (h : DR D x y) : D x ≤ D y := by
  rcases h with h | h
  · exact lt_le h
  · rw [h.1]
    rw [Int32.le_iff_toInt_le]
    omega
/-- what holds behind each answer that is graded anew -/
def mI (σ : Sg) (N : List Nat) (p : Nat × Sg) : Prop :=
  eqN p.2 σ ∧ (∀ k, k ≠ 25 → k ≠ 26 → p.2.2 k = σ.2 k) ∧ (∀ j, j < nHa p.2 → har p.2 j ∈ N ∧ p.2.2 25 (har p.2 j) = 0) ∧
  (∀ i j, i < j → j < nHa p.2 → DR (fun x => gx σ x - σ.2 31 x) (har p.2 i) (har p.2 j)) ∧ p.1 = cH (fun x => decide (¬ gx σ x = σ.2 31 x)) (har p.2) (nHa p.2)
theorem gx_e {σ τ : Sg} (hN : eqN τ σ) (hV : ∀ k, k ≠ 25 → k ≠ 26 → τ.2 k = σ.2 k) {x : Nat} (h25 : τ.2 25 x = 0) : grade τ x = gx σ x := by
  unfold gx
  refine grade_e (σ := sV σ 25 x 0) hN ⟨hV 13 (by decide) (by decide), hV 14 (by decide) (by decide), hV 15 (by decide) (by decide), hV 17 (by decide) (by decide), hV 22 (by decide) (by decide), hV 23 (by decide) (by decide)⟩ ?_
  rw [h25]
  exact (if_pos ⟨rfl, rfl⟩).symm
theorem mI_s {σ : Sg} {N : List Nat} {p : Nat × Sg} {y : Nat} (h : mI σ N p) (hy : y ∈ N) (hlt : ∀ j, j < nHa p.2 → har p.2 j < y) : mI σ N (mst p y) ∧ ∀ j, j < nHa (mst p y).2 → har (mst p y).2 j < y + 1 := by
  obtain ⟨i1, i2, i3, i4, i5⟩ := h
  obtain ⟨n0, hn0⟩ : ∃ n, n = nHa p.2 := ⟨_, rfl⟩
  rw [← hn0] at i3 i4 i5 hlt
  obtain ⟨τ, hτ⟩ : ∃ τ, τ = menA p.2 y := ⟨_, rfl⟩
  have a1 : nHa τ = n0 := by rw [hτ, hn0]; exact (menA_H p.2 y).1
  have a2 : har τ = har p.2 := by rw [hτ]; exact (menA_H p.2 y).2
  have t1 : eqN τ σ := by rw [hτ]; exact menA_N i1 y
  have t2 : ∀ k, k ≠ 25 → k ≠ 26 → τ.2 k = σ.2 k := fun k h1 h2 => by rw [hτ, menA_V p.2 y h1 h2]; exact i2 k h1 h2
  have t25 : ∀ x, τ.2 25 x = if x = y then 0 else p.2.2 25 x := fun x => by rw [hτ]; exact menA_25 p.2 y x
  have gy : grade τ y = gx σ y := gx_e t1 t2 (by rw [t25, if_pos rfl])
  have gj : ∀ j, j < n0 → grade τ (har τ j) = gx σ (har τ j) := fun j hj => gx_e t1 t2 (by
    rw [a2, t25]
    split
    · rfl
    · exact (i3 j hj).2)
  have e31 : τ.2 31 = σ.2 31 := t2 31 (by decide) (by decide)
  have dy : dd τ y = gx σ y - σ.2 31 y := by unfold dd; rw [gy, e31]
  have dj : ∀ j, j < n0 → dd τ (har τ j) = gx σ (har τ j) - σ.2 31 (har τ j) := fun j hj => by unfold dd; rw [gj j hj, e31]
  have hm : mst p y = (p.1 + (decide (¬ grade τ y = τ.2 31 y)).toNat, harP τ y) := by rw [hτ]; rfl
  obtain ⟨r, hr⟩ : ∃ r, r = (harD τ y (nHa τ)).1 := ⟨_, rfl⟩
  have hrn : r ≤ n0 := by rw [hr, ← a1]; exact harD_le y _ τ
  have hsp := harD_sp y (nHa τ) τ
  rw [← hr, a1] at hsp
  have hv : ∀ z, har (harP τ y) z = if z = r then y else if r < z ∧ z ≤ n0 then har τ (z - 1) else har τ z := fun z => by
    have := har_P τ y z
    rw [← hr, a1] at this
    exact this
  have hn : nHa (harP τ y) = n0 + 1 := by rw [harP_n, a1]
  rw [hm]
  have hval : ∀ z, z < n0 + 1 → z = r ∨ (z < r ∧ har (harP τ y) z = har τ z) ∨ (r < z ∧ har (harP τ y) z = har τ (z - 1)) := fun z hz => by
    rcases Nat.lt_trichotomy z r with c | c | c
    · refine Or.inr (Or.inl ⟨c, ?_⟩)
      rw [hv, if_neg (by omega), if_neg (by omega)]
    · exact Or.inl c
    · refine Or.inr (Or.inr ⟨c, ?_⟩)
      rw [hv, if_neg (by omega), if_pos (by omega)]
  have hvr : har (harP τ y) r = y := by rw [hv, if_pos rfl]
  have hV2 : (harP τ y).2 = τ.2 := harP_V τ y
  have hbelow : ∀ i, i < r → DR (fun x => gx σ x - σ.2 31 x) (har τ i) y := fun i hi => by
    have h1 := hsp.2 (by omega)
    rw [dy, dj (r - 1) (by omega)] at h1
    have h2 : gx σ (har τ i) - σ.2 31 (har τ i) ≤ gx σ (har τ (r - 1)) - σ.2 31 (har τ (r - 1)) := by
      rcases Nat.lt_or_ge i (r - 1) with c | c
      · have := DR_le (i4 i (r - 1) c (by omega))
        rw [← a2] at this
        exact this
      · rw [show i = r - 1 by omega]
        rw [Int32.le_iff_toInt_le]
        omega
    rcases le_lt_eq (le_tr h2 h1) with q | q
    · exact Or.inl q
    · exact Or.inr ⟨q, by rw [a2]; exact hlt i (by omega)⟩
  have habove : ∀ j, r ≤ j → j < n0 → DR (fun x => gx σ x - σ.2 31 x) y (har τ j) := fun j h1 h2 => by
    have h3 := hsp.1 j h1 h2
    rw [dy, dj j h2] at h3
    exact Or.inl (lt_of_nle h3)
  refine ⟨⟨harP_N t1 y, fun k h1 h2 => by rw [hV2]; exact t2 k h1 h2, fun j hj => ?_, fun i j hij hj => ?_, ?_⟩, fun j hj => ?_⟩
  · have hj' : j < n0 + 1 := by rw [← hn]; exact hj
    show har (harP τ y) j ∈ N ∧ (harP τ y).2 25 (har (harP τ y) j) = 0
    rw [hV2, t25]
    rcases hval j hj' with c | ⟨c, e⟩ | ⟨c, e⟩
    · rw [c, hvr]
      exact ⟨hy, if_pos rfl⟩
    · rw [e, a2]
      refine ⟨(i3 j (by omega)).1, ?_⟩
      split
      · rfl
      · exact (i3 j (by omega)).2
    · rw [e, a2]
      refine ⟨(i3 (j - 1) (by omega)).1, ?_⟩
      split
      · rfl
      · exact (i3 (j - 1) (by omega)).2
  · have hj' : j < n0 + 1 := by rw [← hn]; exact hj
    show DR _ (har (harP τ y) i) (har (harP τ y) j)
    rcases hval i (by omega) with c | ⟨c, e⟩ | ⟨c, e⟩
    · rcases hval j hj' with c2 | ⟨c2, e2⟩ | ⟨c2, e2⟩
      · omega
      · omega
      · rw [c, hvr, e2]
        exact habove (j - 1) (by omega) (by omega)
    · rcases hval j hj' with c2 | ⟨c2, e2⟩ | ⟨c2, e2⟩
      · rw [e, c2, hvr]
        exact hbelow i c
      · rw [e, e2, a2]
        exact i4 i j hij (by omega)
      · rw [e, e2, a2]
        exact i4 i (j - 1) (by omega) (by omega)
    · rcases hval j hj' with c2 | ⟨c2, e2⟩ | ⟨c2, e2⟩
      · omega
      · omega
      · rw [e, e2, a2]
        exact i4 (i - 1) (j - 1) (by omega) (by omega)
  · show p.1 + (decide (¬ grade τ y = τ.2 31 y)).toNat = cH _ (har (harP τ y)) (nHa (harP τ y))
    rw [hn, gy, e31, i5]
    refine (cH_ins (P := fun x => decide (¬ gx σ x = σ.2 31 x)) (f := har p.2) (k := y) n0 r hrn (fun z hz => ?_) hvr (fun z h1 h2 => ?_)).symm
    · rw [hv, if_neg (by omega), if_neg (by omega), a2]
    · rw [hv, if_neg (by omega), if_pos ⟨h1, h2⟩, a2]
  · have hj' : j < n0 + 1 := by rw [← hn]; exact hj
    show har (harP τ y) j < y + 1
    rcases hval j hj' with c | ⟨c, e⟩ | ⟨c, e⟩
    · rw [c, hvr]
      omega
    · have := hlt j (by omega)
      rw [e, a2]
      omega
    · have := hlt (j - 1) (by omega)
      rw [e, a2]
      omega
theorem mI_f {σ : Sg} {N : List Nat} : ∀ (M : List Nat) (p : Nat × Sg), mI σ N p → (∀ x ∈ M, x ∈ N) → M.Pairwise (· < ·) → (∀ x ∈ M, ∀ j, j < nHa p.2 → har p.2 j < x) → mI σ N (M.foldl mst p)
  | [], _, h, _, _, _ => h
  | y :: M, p, h, hN, hp, hl => by
    obtain ⟨p1, p2⟩ := List.pairwise_cons.mp hp
    obtain ⟨q1, q2⟩ := mI_s h (hN y List.mem_cons_self) (hl y List.mem_cons_self)
    refine mI_f M (mst p y) q1 (fun x hx => hN x (List.mem_cons_of_mem _ hx)) p2 (fun x hx j hj => ?_)
    have h1 := q2 j hj
    have h2 := p1 x hx
    omega
theorem anL_lt (σ : Sg) (e : Nat) : (anL σ e).Pairwise (· < ·) := List.Pairwise.filter _ List.pairwise_lt_range
theorem s_mend {d : Nat} {σ : Sg} (h : Lw d σ) {e f a : Nat} (he : e < nEx σ) (hf : f < 5) (ha : a < 9) :
    (lC [(-2001), (-2002), (-2003)] (fMend σ (nI e) (nI f - 2) (nI a)) = -2003 ∧ lS (fMend σ (nI e) (nI f - 2) (nI a)) = σ) ∨
    (∃ c, lC [(-2001), (-2002), (-2003)] (fMend σ (nI e) (nI f - 2) (nI a)) = nI c ∧ ∃ τ, lS (fMend σ (nI e) (nI f - 2) (nI a)) = τ ∧ Lw d τ ∧ nSt τ = nSt σ ∧ nLe τ = nLe σ ∧ nEx τ = nEx σ ∧ nCr τ = nCr σ ∧ nCe τ = nCe σ ∧ les τ = les σ ∧ (∀ z, z < nCe σ → ¬ σ.2 41 z = 0 → ¬ τ.2 41 z = 0) ∧
      nAn τ = nAn σ ∧ c ≤ nHa τ ∧ nHa τ ≤ 100 ∧ τ.2 10 (les σ e) = σ.2 10 (les σ e) + 1 ∧ lC [(-2001), (-2002), (-2003)] (fMend τ (nI e) (nI f - 2) (nI a)) = -2003 ∧ lS (fMend τ (nI e) (nI f - 2) (nI a)) = τ ∧
      (∀ j, j < nHa τ → har τ j < nAn σ) ∧ (∀ i j, i < j → j < nHa τ → DR (fun x => grade τ x - grade σ x) (har τ i) (har τ j)) ∧ c = cH (fun x => decide (¬ grade τ x - grade σ x = 0)) (har τ) (nHa τ) ∧
      (∀ j p, j < nHa τ → p < nAp τ → ¬ app τ p = har τ j)) := by
  have hb := h.1.1.1.1.1
  have h1 : okP (nI e) (nEx σ) = true := okP_t he (by omega)
  have h2 := isR_n f hf a ha
  obtain ⟨F, hF⟩ : ∃ F, F = nI f - 2 := ⟨_, rfl⟩
  obtain ⟨B, hB⟩ : ∃ B, B = nI a := ⟨_, rfl⟩
  rw [← hF, ← hB] at h2 ⊢
  by_cases h3 : σ.2 13 e = F ∧ σ.2 14 e = B
  · have e1 : fMend σ (nI e) F B = err σ 3 := by
      unfold fMend
      rw [if_pos h1, if_pos h2, ix_nI (by omega), if_pos h3]
    rw [e1]
    exact Or.inl ⟨lC_err _ _ 2, lS_err h.1.2 3⟩
  · obtain ⟨w, hw⟩ : ∃ w, w = men2 σ e F B := ⟨_, rfl⟩
    have e1 : fMend σ (nI e) F B = (nI w.1, revL w.2 (nCe σ)) := by
      unfold fMend
      rw [if_pos h1, if_pos h2, ix_nI (by omega), if_neg h3, hw]
    have hQ := pr_mend h.1.1 (nI e) F B
    rw [e1] at hQ
    have hwF : w = menF (men1 σ e F B) (anL (men1 σ e F B) e) := by rw [hw, anL_m1, menF_m1]
    have hτ' : w.2 = (menF (men1 σ e F B) (anL (men1 σ e F B) e)).2 := by rw [hwF]
    have hmI : mI (men1 σ e F B) (anL σ e) w := by
      rw [hwF, anL_m1]
      refine mI_f (anL σ e) (0, men1 σ e F B) ⟨eqN.rf _, fun _ _ _ => rfl, fun j hj => ?_, fun i j _ hj => ?_, rfl⟩ (fun _ hx => hx) (anL_lt σ e) (fun x _ j hj => ?_)
      · exact absurd hj (Nat.not_lt_zero j)
      · exact absurd hj (Nat.not_lt_zero j)
      · exact absurd hj (Nat.not_lt_zero j)
    obtain ⟨i1, i2, i3, i4, i5⟩ := hmI
    obtain ⟨τ, hτ⟩ : ∃ τ, τ = revL w.2 (nCe σ) := ⟨_, rfl⟩
    rw [← hτ] at e1 hQ
    have hr1 : τ.1 = w.2.1 := by rw [hτ]; exact revL_1 _ _
    have R : ∀ k, k ≠ 41 → τ.2 k = w.2.2 k := fun k hk => by rw [hτ]; exact revL_V w.2 hk _
    have h1s := me_1 hτ'
    have n1 : ∀ k, k ≠ 27 → k ≠ 28 → k ≠ 29 → k ≠ 30 → τ.1 k = σ.1 k := fun k q1 q2 q3 q4 => by rw [hr1]; exact h1s k q1 q2 q3 q4
    have c : ∀ k, k ≠ 27 → k ≠ 28 → k ≠ 29 → k ≠ 30 → τ.1 k 0 = σ.1 k 0 := fun k q1 q2 q3 q4 => congrFun (n1 k q1 q2 q3 q4) 0
    have z0 : τ.1 0 0 = 0 := (c 0 (by decide) (by decide) (by decide) (by decide)).trans h.1.2
    have c5 : nAn τ = nAn σ := c 19 (by decide) (by decide) (by decide) (by decide)
    have cH9 : nHa τ = nHa w.2 := congrFun (congrFun hr1 29) 0
    have fH9 : har τ = har w.2 := congrFun hr1 30
    have v : ∀ k, k ≠ 25 → k ≠ 26 → k ≠ 13 → k ≠ 14 → k ≠ 10 → k ≠ 31 → k ≠ 41 → τ.2 k = σ.2 k := fun k q1 q2 q3 q4 q5 q6 q7 => by rw [R k q7]; exact (me_V hτ' q1 q2).trans (m1_V q3 q4 q5 q6)
    have v25 : ∀ x, τ.2 25 x = if x ∈ anL σ e then 0 else σ.2 25 x := fun x => by
      rw [R 25 (by decide), hτ']
      unfold menF
      rw [mf_25, anL_m1]
      rw [show ((0, men1 σ e F B) : Nat × Sg).2.2 25 x = σ.2 25 x from congrFun (m1_V (by decide) (by decide) (by decide) (by decide)) x]
    have v26 : ∀ x, τ.2 26 x = if x ∈ anL σ e then 0 else σ.2 26 x := fun x => by
      rw [R 26 (by decide), hτ']
      unfold menF
      rw [mf_26, anL_m1]
      rw [show ((0, men1 σ e F B) : Nat × Sg).2.2 26 x = σ.2 26 x from congrFun (m1_V (by decide) (by decide) (by decide) (by decide)) x]
    have hapL : appL τ = (appL σ).filter (fun x => decide (x ∉ anL σ e)) := by
      have := me_app hτ'
      rw [anL_m1] at this
      rw [← this]
      unfold appL
      rw [show nAp τ = nAp w.2 from congrFun (congrFun hr1 27) 0, show app τ = app w.2 from congrFun hr1 28]
    have hap : ∀ i, i < nAp τ → app τ i ∉ anL σ e ∧ ∃ j, j < nAp σ ∧ app τ i = app σ j := fun i hi => by
      have hm : app τ i ∈ appL τ := List.mem_map.mpr ⟨i, List.mem_range.mpr hi, rfl⟩
      rw [hapL] at hm
      obtain ⟨m1, m2⟩ := List.mem_filter.mp hm
      obtain ⟨j, hj, ej⟩ := List.mem_map.mp m1
      exact ⟨of_decide_eq_true m2, j, List.mem_range.mp hj, ej.symm⟩
    have hL : Lw d τ := by
      obtain ⟨-, ⟨k1, k2⟩, d1, d2, d3⟩ := h
      refine ⟨⟨hQ, z0⟩, ⟨fun y hy => ?_, fun i hi => ?_⟩, ?_, ?_, ?_⟩
      · rw [v26] at hy
        rw [v25]
        split
        · rfl
        · rename_i hc
          rw [if_neg hc] at hy
          exact k1 y hy
      · obtain ⟨q1, j, hj, ej⟩ := hap i hi
        rw [v26, if_neg q1, ej]
        exact k2 j hj
      · show τ.2 1 0 = nI d
        rw [v 1 (by decide) (by decide) (by decide) (by decide) (by decide) (by decide) (by decide)]
        exact d1
      · rw [c5, v 24 (by decide) (by decide) (by decide) (by decide) (by decide) (by decide) (by decide)]
        exact d2
      · rw [show nLe τ = nLe σ from c 7 (by decide) (by decide) (by decide) (by decide), v 9 (by decide) (by decide) (by decide) (by decide) (by decide) (by decide) (by decide)]
        exact d3
    have hin : ∀ j, j < nHa τ → har τ j ∈ anL σ e := fun j hj => by
      rw [fH9]
      exact (i3 j (by rw [← cH9]; exact hj)).1
    have hgr : ∀ x, x ∈ anL σ e → (∃ j, j < nHa τ ∧ har τ j = x) → grade τ x = gx (men1 σ e F B) x ∧ (men1 σ e F B).2 31 x = grade σ x := fun x hx hj => by
      obtain ⟨j, hj, ej⟩ := hj
      have hx2 := anL_mem hx
      refine ⟨?_, by rw [m1_31, if_pos hx2.1, if_pos hx2.2]⟩
      rw [hτ, gr_revL]
      refine gx_e i1 i2 ?_
      rw [← ej, fH9]
      exact (i3 j (by rw [← cH9]; exact hj)).2
    have hdx : ∀ j, j < nHa τ → gx (men1 σ e F B) (har τ j) - (men1 σ e F B).2 31 (har τ j) = grade τ (har τ j) - grade σ (har τ j) := fun j hj => by
      obtain ⟨q1, q2⟩ := hgr (har τ j) (hin j hj) ⟨j, hj, rfl⟩
      rw [q1, q2]
    have han : ∀ j, j < nHa τ → har τ j < nAn σ := fun j hj => (anL_mem (hin j hj)).1
    have hord : ∀ i j, i < j → j < nHa τ → DR (fun x => grade τ x - grade σ x) (har τ i) (har τ j) := fun i j hij hj => by
      have := i4 i j hij (by rw [← cH9]; exact hj)
      rw [← fH9] at this
      unfold DR at this ⊢
      show (grade τ (har τ i) - grade σ (har τ i) < grade τ (har τ j) - grade σ (har τ j)) ∨ (grade τ (har τ i) - grade σ (har τ i) = grade τ (har τ j) - grade σ (har τ j) ∧ har τ i < har τ j)
      rw [← hdx i (by omega), ← hdx j hj]
      exact this
    have hcnt : w.1 = cH (fun x => decide (¬ grade τ x - grade σ x = 0)) (har τ) (nHa τ) := by
      rw [i5, ← cH9, ← fH9]
      refine cH_c _ fun j hj => ?_
      obtain ⟨q1, q2⟩ := hgr (har τ j) (hin j hj) ⟨j, hj, rfl⟩
      have g1 := grade_g hL.1.1.1 (a := har τ j) (by rw [c5]; exact han j hj)
      have g2 := grade_g h.1.1.1 (han j hj)
      show decide (¬ gx (men1 σ e F B) (har τ j) = (men1 σ e F B).2 31 (har τ j)) = decide (¬ grade τ (har τ j) - grade σ (har τ j) = 0)
      rw [← q1, q2, g1.1, g2.1]
      have := fall_0 (a := graN σ (har τ j)) (b := graN τ (har τ j)) g2.2 g1.2
      rw [decide_eq_decide]
      exact not_congr ⟨fun z => this.mpr z.symm, fun z => (this.mp z).symm⟩
    have hha : nHa τ ≤ 100 := by
      have := hL.1.1.1.2.1.2.1
      have := hL.1.1.1.1.1.2.2.2.2.1
      omega
    have h13 : τ.2 13 e = F := by
      rw [R 13 (by decide), me_V hτ' (by decide) (by decide)]
      show (if (13 : Nat) = 10 ∧ e = les σ e then σ.2 10 (les σ e) + 1 else if (13 : Nat) = 14 ∧ e = e then B else if (13 : Nat) = 13 ∧ e = e then F else (befL σ e (nAn σ)).2 13 e) = F
      rw [if_neg (fun z => absurd z.1 (by decide)), if_neg (fun z => absurd z.1 (by decide)), if_pos ⟨rfl, rfl⟩]
    have h14 : τ.2 14 e = B := by
      rw [R 14 (by decide), me_V hτ' (by decide) (by decide)]
      show (if (14 : Nat) = 10 ∧ e = les σ e then σ.2 10 (les σ e) + 1 else if (14 : Nat) = 14 ∧ e = e then B else if (14 : Nat) = 13 ∧ e = e then F else (befL σ e (nAn σ)).2 14 e) = B
      rw [if_neg (fun z => absurd z.1 (by decide)), if_pos ⟨rfl, rfl⟩]
    have h10 : τ.2 10 (les σ e) = σ.2 10 (les σ e) + 1 := by
      rw [R 10 (by decide), me_V hτ' (by decide) (by decide)]
      exact if_pos ⟨rfl, rfl⟩
    have e2 : fMend τ (nI e) F B = err τ 3 := by
      unfold fMend
      rw [if_pos (show okP (nI e) (nEx τ) = true by rw [show nEx τ = nEx σ from c 11 (by decide) (by decide) (by decide) (by decide)]; exact h1), if_pos h2, ix_nI (by omega), if_pos ⟨h13, h14⟩]
    refine Or.inr ⟨w.1, by rw [e1]; exact lC_ok _ z0 _, τ, by rw [e1]; exact lS_ok z0 _, hL, c 5 (by decide) (by decide) (by decide) (by decide), c 7 (by decide) (by decide) (by decide) (by decide), c 11 (by decide) (by decide) (by decide) (by decide), c 32 (by decide) (by decide) (by decide) (by decide), c 35 (by decide) (by decide) (by decide) (by decide), n1 12 (by decide) (by decide) (by decide) (by decide), fun z _ hz hz2 => ?_, c5, ?_, hha, h10, by rw [e2]; exact lC_err _ _ 2, by rw [e2]; exact lS_err z0 3, han, hord, hcnt, fun j p hj hp hq => ?_⟩
    · rw [hτ] at hz2
      have := rev_41 w.2 _ z hz2
      rw [me_V hτ' (by decide) (by decide), m1_V (by decide) (by decide) (by decide) (by decide)] at this
      exact hz this
    · rw [hcnt]
      exact cH_le _ _ _
    · exact (hap p hp).1 (by rw [hq]; exact hin j hj)
