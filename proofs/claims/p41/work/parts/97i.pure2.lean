/-! ===== answers, appeals, days ===== -/
theorem bestS_top {σ : Sg} {st e : Nat} {on : Int32} {k : Nat} (h : stu σ k = st ∧ exe σ k = e) : ∃ z, bestS σ st e on (k + 1) = some z := by
  simp only [bestS]
  rw [if_pos h]
  split
  · exact ⟨_, rfl⟩
  · split
    · exact ⟨_, rfl⟩
    · exact ⟨_, rfl⟩
theorem s_answer {d : Nat} {σ : Sg} (h : Lw d σ) {s e f a : Nat} (hs : s < nSt σ) (he : e < nEx σ) (hf : f < 5) (ha : a < 9) :
    (whyS σ s e ≠ 45 ∧ lC [(-2001), (-2002), (-2004), (-2003)] (fAnswer σ (nI s) (nI e) (nI f - 2) (nI a)) = -2004 ∧ lS (fAnswer σ (nI s) (nI e) (nI f - 2) (nI a)) = σ) ∨
    (whyS σ s e = 45 ∧ nAn σ = 100 ∧ lC [(-2001), (-2002), (-2004), (-2003)] (fAnswer σ (nI s) (nI e) (nI f - 2) (nI a)) = -2003 ∧ lS (fAnswer σ (nI s) (nI e) (nI f - 2) (nI a)) = σ) ∨
    (whyS σ s e = 45 ∧ nAn σ < 100 ∧ lC [(-2001), (-2002), (-2004), (-2003)] (fAnswer σ (nI s) (nI e) (nI f - 2) (nI a)) = nI (nAn σ) ∧ ∃ τ, lS (fAnswer σ (nI s) (nI e) (nI f - 2) (nI a)) = τ ∧ Lw d τ ∧ nSt τ = nSt σ ∧ nLe τ = nLe σ ∧ nEx τ = nEx σ ∧ nCr τ = nCr σ ∧ nCe τ = nCe σ ∧ les τ = les σ ∧ τ.2 41 = σ.2 41 ∧
      nAn τ = nAn σ + 1 ∧ stu τ (nAn σ) = s ∧ τ.2 24 (nAn σ) = dayV τ ∧ ∃ z, bestS τ s e (dayV τ) (nAn τ) = some z) := by
  have hb := h.1.1.1.1.1
  have h12 : (okP (nI s) (nSt σ) && okP (nI e) (nEx σ)) = true := Bool.and_eq_true_iff.mpr ⟨okP_t hs (by omega), okP_t he (by omega)⟩
  have h2 := isR_n f hf a ha
  by_cases hw : whyS σ s e = 45
  · rcases Nat.lt_or_ge (nAn σ) 100 with h7 | h7
    · have e1 : fAnswer σ (nI s) (nI e) (nI f - 2) (nI a) = (nI (nAn σ), sN (sV (sV (sV (sN (sN σ 20 (nAn σ) s) 21 (nAn σ) e) 22 (nAn σ) (nI f - 2)) 23 (nAn σ) (nI a)) 24 (nAn σ) (dayV σ)) 19 0 (nAn σ + 1)) := by
        unfold fAnswer
        rw [if_pos h12, if_pos h2, ix_nI (by omega), ix_nI (by omega), if_pos hw, if_neg (by omega)]
      refine Or.inr (Or.inr ⟨hw, h7, ?_, _, rfl, ?_⟩)
      · rw [e1]
        exact lC_ok _ h.1.2 _
      · have hQ := (pr_answer h.1.1 (nI s) (nI e) (nI f - 2) (nI a)).z 0
        rw [e1] at hQ
        rw [e1]
        have ts : stu (lS (nI (nAn σ), sN (sV (sV (sV (sN (sN σ 20 (nAn σ) s) 21 (nAn σ) e) 22 (nAn σ) (nI f - 2)) 23 (nAn σ) (nI a)) 24 (nAn σ) (dayV σ)) 19 0 (nAn σ + 1))) (nAn σ) = s := if_pos ⟨rfl, rfl⟩
        have te : exe (lS (nI (nAn σ), sN (sV (sV (sV (sN (sN σ 20 (nAn σ) s) 21 (nAn σ) e) 22 (nAn σ) (nI f - 2)) 23 (nAn σ) (nI a)) 24 (nAn σ) (dayV σ)) 19 0 (nAn σ + 1))) (nAn σ) = e := if_pos ⟨rfl, rfl⟩
        refine ⟨Lw_of h hQ rfl rfl rfl rfl rfl rfl (fun x hx => ?_) h.2.2.2.2, rfl, rfl, rfl, rfl, rfl, rfl, rfl, rfl, ts, if_pos ⟨rfl, rfl⟩, bestS_top ⟨ts, te⟩⟩
        have hx' : x < nAn σ + 1 := hx
        show ∃ q, q ≤ d ∧ (if (24 : Nat) = 24 ∧ x = nAn σ then dayV σ else σ.2 24 x) = nI q
        by_cases hq : x = nAn σ
        · rw [if_pos ⟨rfl, hq⟩]
          exact ⟨d, Nat.le_refl _, h.2.2.1⟩
        · rw [if_neg (fun z => hq z.2)]
          exact h.2.2.2.1 x (by omega)
    · have e1 : fAnswer σ (nI s) (nI e) (nI f - 2) (nI a) = err σ 4 := by
        unfold fAnswer
        rw [if_pos h12, if_pos h2, ix_nI (by omega), ix_nI (by omega), if_pos hw, if_pos (by omega)]
      rw [e1]
      exact Or.inr (Or.inl ⟨hw, by omega, lC_err _ _ 3, lS_err h.1.2 4⟩)
  · have e1 : fAnswer σ (nI s) (nI e) (nI f - 2) (nI a) = err σ 3 := by
      unfold fAnswer
      rw [if_pos h12, if_pos h2, ix_nI (by omega), ix_nI (by omega), if_neg hw]
    rw [e1]
    exact Or.inl ⟨hw, lC_err _ _ 2, lS_err h.1.2 3⟩
theorem ap_again {τ : Sg} (h0 : τ.1 0 0 = 0) {a : Nat} (ha : a < nAn τ) (hn : nAn τ ≤ 100) (hw : waitS τ a (nAp τ) = true ∨ ¬ τ.2 26 a = 0) : lC [(-2001), (-2003)] (fAppeal τ (nI a)) = -2003 ∧ lS (fAppeal τ (nI a)) = τ := by
  have e : fAppeal τ (nI a) = err τ 2 := by
    unfold fAppeal
    rw [if_pos (okP_t ha (by omega)), ix_nI (by omega), if_pos hw]
  rw [e]
  exact ⟨lC_err _ _ 1, lS_err h0 2⟩
theorem s_appeal {d : Nat} {σ : Sg} (h : Lw d σ) {a : Nat} (ha : a ≤ nAn σ) :
    (a = nAn σ ∧ lC [(-2001), (-2003)] (fAppeal σ (nI a)) = -2001 ∧ lS (fAppeal σ (nI a)) = σ) ∨
    (a < nAn σ ∧ lC [(-2001), (-2003)] (fAppeal σ (nI a)) = -2003 ∧ lS (fAppeal σ (nI a)) = σ) ∨
    (a < nAn σ ∧ lC [(-2001), (-2003)] (fAppeal σ (nI a)) = nI (nAp σ + 1) ∧ ∃ τ, lS (fAppeal σ (nI a)) = τ ∧ Lw d τ ∧ nSt τ = nSt σ ∧ nLe τ = nLe σ ∧ nEx τ = nEx σ ∧ nCr τ = nCr σ ∧ nCe τ = nCe σ ∧ les τ = les σ ∧ τ.2 41 = σ.2 41 ∧
      nAp τ = nAp σ + 1 ∧ app τ (nAp σ) = a ∧ lC [(-2001), (-2003)] (fAppeal τ (nI a)) = -2003 ∧ lS (fAppeal τ (nI a)) = τ) := by
  have hb := h.1.1.1.1.1
  rcases Nat.lt_or_ge a (nAn σ) with hlt | hge
  · have h1 : okP (nI a) (nAn σ) = true := okP_t hlt (by omega)
    by_cases h3 : waitS σ a (nAp σ) = true ∨ ¬ σ.2 26 a = 0
    · have := ap_again h.1.2 hlt (by omega) h3
      exact Or.inr (Or.inl ⟨hlt, this.1, this.2⟩)
    · have e : fAppeal σ (nI a) = (nI (nAp σ + 1), sN (sN σ 28 (nAp σ) a) 27 0 (nAp σ + 1)) := by
        unfold fAppeal
        rw [if_pos h1, ix_nI (by omega), if_neg h3]
      have hQ := (pr_appeal h.1.1 (nI a)).z 0
      rw [e] at hQ
      have h26 : σ.2 26 a = 0 := Classical.byContradiction fun z => h3 (Or.inr z)
      obtain ⟨τ, hτ⟩ : ∃ τ, τ = lS (nI (nAp σ + 1), sN (sN σ 28 (nAp σ) a) 27 0 (nAp σ + 1)) := ⟨_, rfl⟩
      have ta : ∀ i, app τ i = if i = nAp σ then a else app σ i := fun i => by
        rw [hτ]
        show (if (28 : Nat) = 28 ∧ i = nAp σ then a else app σ i) = _
        by_cases hi : i = nAp σ
        · rw [if_pos ⟨rfl, hi⟩, if_pos hi]
        · rw [if_neg (fun z => hi z.2), if_neg hi]
      have c1 : nAp τ = nAp σ + 1 := by rw [hτ]; rfl
      have c2 : nAn τ = nAn σ := by rw [hτ]; rfl
      have v2 : τ.2 = σ.2 := by rw [hτ]; rfl
      have z0 : τ.1 0 0 = 0 := by rw [hτ]; exact lS_z _
      have hL : Lw d τ := by
        obtain ⟨-, ⟨k1, k2⟩, d1, d2, d3⟩ := h
        refine ⟨⟨by rw [hτ]; exact hQ, z0⟩, ⟨?_, fun i hi => ?_⟩, ?_, ?_, ?_⟩
        · rw [v2]
          exact k1
        · rw [c1] at hi
          rw [ta, v2]
          split
          · exact h26
          · exact k2 i (by omega)
        · show τ.2 1 0 = nI d
          rw [v2]
          exact d1
        · rw [c2, v2]
          exact d2
        · rw [v2, show nLe τ = nLe σ by rw [hτ]; rfl]
          exact d3
      have hag := ap_again (τ := τ) z0 (a := a) (by rw [c2]; exact hlt) (by rw [c2]; omega) (Or.inl (by rw [c1]; simp only [waitS]; rw [ta, if_pos rfl]; simp))
      refine Or.inr (Or.inr ⟨hlt, by rw [e]; exact lC_ok _ h.1.2 _, τ, by rw [e, hτ], hL, ?_, ?_, ?_, ?_, ?_, ?_, by rw [v2], c1, by rw [ta, if_pos rfl], hag⟩) <;> (rw [hτ]; rfl)
  · have e : fAppeal σ (nI a) = err σ 1 := by
      unfold fAppeal
      rw [if_neg (by rw [okP_f hge (by omega)]; exact Bool.false_ne_true)]
    rw [e]
    exact Or.inl ⟨by omega, lC_err _ _ 0, lS_err h.1.2 1⟩
theorem appL_len (σ : Sg) : (appL σ).length = nAp σ := by unfold appL; simp
theorem nd_flt : ∀ (L : List Nat), L.Nodup → ∀ x ∈ L, (L.filter (fun y => decide (y ≠ x))).length + 1 = L.length
  | [], _, x, hx => absurd hx List.not_mem_nil
  | y :: L, hn, x, hx => by
    obtain ⟨h1, h2⟩ := List.nodup_cons.mp hn
    by_cases hy : y = x
    · subst hy
      rw [List.filter_cons_of_neg (by simp), List.length_cons]
      have : L.filter (fun z => decide (z ≠ y)) = L := List.filter_eq_self.mpr fun z hz => decide_eq_true (fun q => h1 (by rw [← q]; exact hz))
      rw [this]
    · rw [List.filter_cons_of_pos (by simpa using hy), List.length_cons, List.length_cons]
      have hx' : x ∈ L := (List.mem_cons.mp hx).resolve_left (fun q => hy q.symm)
      have := nd_flt L h2 x hx'
      omega
theorem drop_n1 {σ : Sg} (hI : MI σ) {a : Nat} (h : waitS σ a (nAp σ) = true) : nAp (dropS σ a) + 1 = nAp σ := by
  rw [wait_L] at h
  have := nd_flt (appL σ) (nd_app hI.2.2.2.1) a (of_decide_eq_true h)
  rw [← appL_drop, appL_len, appL_len] at this
  exact this
theorem MK_drop {d : Nat} {σ : Sg} (h : Lw d σ) (x : Nat) : ∀ i, i < nAp (dropS σ x) → σ.2 26 (app (dropS σ x) i) = 0 ∧ app (dropS σ x) i ≠ x := fun i hi => by
  obtain ⟨j, hj, ej, ne⟩ := dropS_val σ x hi
  rw [ej]
  exact ⟨h.2.1.2 j hj, ne⟩
theorem drop_c (σ : Sg) (x : Nat) {k : Nat} (h1 : k ≠ 27) (h2 : k ≠ 28) : (dropS σ x).1 k = σ.1 k := dropS_1 σ x h2 h1
theorem s_withdraw {d : Nat} {σ : Sg} (h : Lw d σ) {a : Nat} (ha : a ≤ nAn σ) :
    (a = nAn σ ∧ lC [(-2001), (-2005)] (fWithdraw σ (nI a)) = -2001 ∧ lS (fWithdraw σ (nI a)) = σ) ∨
    (a < nAn σ ∧ lC [(-2001), (-2005)] (fWithdraw σ (nI a)) = -2005 ∧ lS (fWithdraw σ (nI a)) = σ) ∨
    (a < nAn σ ∧ 0 < nAp σ ∧ lC [(-2001), (-2005)] (fWithdraw σ (nI a)) = nI (nAp σ - 1) ∧ ∃ τ, lS (fWithdraw σ (nI a)) = τ ∧ Lw d τ ∧ nSt τ = nSt σ ∧ nLe τ = nLe σ ∧ nEx τ = nEx σ ∧ nCr τ = nCr σ ∧ nCe τ = nCe σ ∧ les τ = les σ ∧ τ.2 41 = σ.2 41) := by
  have hb := h.1.1.1.1.1
  rcases Nat.lt_or_ge a (nAn σ) with hlt | hge
  · have h1 : okP (nI a) (nAn σ) = true := okP_t hlt (by omega)
    by_cases h3 : waitS σ a (nAp σ) = true
    · have e : fWithdraw σ (nI a) = (nI (nAp (dropS σ a)), dropS σ a) := by
        unfold fWithdraw
        rw [if_pos h1, ix_nI (by omega), if_pos h3]
      have hQ := (pr_withdraw h.1.1 (nI a)).z 0
      rw [e] at hQ
      have hn := drop_n1 h.1.1.1 h3
      have z0 : (dropS σ a).1 0 0 = 0 := (congrFun (drop_c σ a (k := 0) (by decide) (by decide)) 0).trans h.1.2
      have c : ∀ k, k ≠ 27 → k ≠ 28 → (dropS σ a).1 k 0 = σ.1 k 0 := fun k h1 h2 => congrFun (drop_c σ a h1 h2) 0
      have hQ2 : Qs (dropS σ a) := ⟨hQ.1, hQ.2⟩
      refine Or.inr (Or.inr ⟨hlt, by omega, ?_, dropS σ a, ?_, ?_, c 5 (by decide) (by decide), c 7 (by decide) (by decide), c 11 (by decide) (by decide), c 32 (by decide) (by decide), c 35 (by decide) (by decide), drop_c σ a (k := 12) (by decide) (by decide), by rw [dropS_2]⟩)
      · rw [e, lC_ok _ z0, show nAp (dropS σ a) = nAp σ - 1 by omega]
      · rw [e]
        exact lS_ok z0 _
      · obtain ⟨-, ⟨k1, k2⟩, d1, d2, d3⟩ := h
        refine ⟨⟨hQ2, z0⟩, ⟨by rw [dropS_2]; exact k1, fun i hi => ?_⟩, ?_, ?_, ?_⟩
        · obtain ⟨j, hj, ej, ne⟩ := dropS_val σ a hi
          rw [dropS_2, ej]
          exact k2 j hj
        · show (dropS σ a).2 1 0 = nI d
          rw [dropS_2]
          exact d1
        · rw [show nAn (dropS σ a) = nAn σ from c 19 (by decide) (by decide), dropS_2]
          exact d2
        · rw [show nLe (dropS σ a) = nLe σ from c 7 (by decide) (by decide), dropS_2]
          exact d3
    · have e : fWithdraw σ (nI a) = err σ 2 := by
        unfold fWithdraw
        rw [if_pos h1, ix_nI (by omega), if_neg h3]
      rw [e]
      exact Or.inr (Or.inl ⟨hlt, lC_err _ _ 1, lS_err h.1.2 2⟩)
  · have e : fWithdraw σ (nI a) = err σ 1 := by
      unfold fWithdraw
      rw [if_neg (by rw [okP_f hge (by omega)]; exact Bool.false_ne_true)]
    rw [e]
    exact Or.inl ⟨by omega, lC_err _ _ 0, lS_err h.1.2 1⟩
/-- a grade without its points -/
theorem base_n {σ : Sg} (h : MI0 σ) {a : Nat} (ha : a < nAn σ) : ∃ g, g ≤ 100 ∧ 100 * sumS σ a (cas σ (exe σ a)) / nI (allS σ (exe σ a) (cas σ (exe σ a))) = nI g := by
  obtain ⟨x, hx, ex⟩ := sum_n h ha _ (Nat.le_refl _)
  have h1 := allS_b h (h.an ha).2.1 _ (Nat.le_refl _)
  have h2 := (h.an ha).2.2
  have h3 := (h.ex (h.an ha).2.1).2
  have h4 : 100 * x / allS σ (exe σ a) (cas σ (exe σ a)) ≤ 100 := Nat.div_le_of_le_mul (by rw [Nat.mul_comm]; exact Nat.mul_le_mul_right 100 hx)
  refine ⟨100 * x / allS σ (exe σ a) (cas σ (exe σ a)), h4, ?_⟩
  rw [ex]
  show nI 100 * nI x / nI (allS σ (exe σ a) (cas σ (exe σ a))) = _
  rw [pk_mul, pk_div (by omega) (by omega) (by omega)]
theorem grade_bp {σ : Sg} {a g p : Nat} (hg : g ≤ 100) (hp : p ≤ 100) (h : 100 * sumS σ a (cas σ (exe σ a)) / nI (allS σ (exe σ a) (cas σ (exe σ a))) = nI g) (h25 : σ.2 25 a = nI p) : grade σ a = nI (if g + p < 100 then g + p else 100) := by
  have e0 : grade0 σ a = nI (g + p) := by
    unfold grade0
    rw [h, h25, nI_add]
  unfold grade
  rw [e0]
  by_cases hc : g + p ≤ 100
  · rw [if_pos (show nI (g + p) ≤ 100 from nI_le (b := 100) hc (by omega))]
    split
    · rfl
    · rw [show g + p = 100 by omega]
  · rw [if_neg (show ¬ nI (g + p) ≤ 100 from nI_ge (a := 100) (by omega) (by omega)), if_neg (by omega)]
    rfl
theorem s_decide {d : Nat} {σ : Sg} (h : Lw d σ) {p : Nat} (hp : p < 60) :
    (nAp σ = 0 ∧ lC [(-2002), (-2005)] (fDecide σ (nI p)) = -2005 ∧ lS (fDecide σ (nI p)) = σ) ∨
    (0 < nAp σ ∧ app σ 0 < nAn σ ∧ lC [(-2002), (-2005)] (fDecide σ (nI p)) = nI (app σ 0) ∧ ∃ τ, lS (fDecide σ (nI p)) = τ ∧ Lw d τ ∧ nSt τ = nSt σ ∧ nLe τ = nLe σ ∧ nEx τ = nEx σ ∧ nCr τ = nCr σ ∧ nCe τ = nCe σ ∧ les τ = les σ ∧ τ.2 41 = σ.2 41 ∧
      nAn τ = nAn σ ∧ (∃ g, g ≤ 100 ∧ grade σ (app σ 0) = nI g ∧ grade τ (app σ 0) = nI (if g + p < 100 then g + p else 100)) ∧ lC [(-2001), (-2003)] (fAppeal τ (nI (app σ 0))) = -2003 ∧ lS (fAppeal τ (nI (app σ 0))) = τ) := by
  have hb := h.1.1.1.1.1
  have h1 : inB (nI p) 0 100 = true := inB_n (a := 0) (b := 100) (by omega) (by omega) (by omega)
  rcases Nat.eq_zero_or_pos (nAp σ) with h0 | h0
  · have e : fDecide σ (nI p) = err σ 2 := by
      unfold fDecide
      rw [if_pos h1, if_pos h0]
    rw [e]
    exact Or.inl ⟨h0, lC_err _ _ 1, lS_err h.1.2 2⟩
  · have ha : app σ 0 < nAn σ := h.1.1.1.ap h0
    obtain ⟨x, hx⟩ : ∃ x, x = app σ 0 := ⟨_, rfl⟩
    rw [← hx] at ha ⊢
    obtain ⟨τ, hτ⟩ : ∃ τ, τ = sV (sV (dropS σ x) 25 x (nI p)) 26 x 1 := ⟨_, rfl⟩
    have e : fDecide σ (nI p) = (nI x, τ) := by
      unfold fDecide
      rw [if_pos h1, if_neg (by omega), ← hx, hτ]
    have hQ := (pr_decide h.1.1 (nI p)).z 0
    rw [e] at hQ
    have n1 : ∀ k, k ≠ 27 → k ≠ 28 → τ.1 k = σ.1 k := fun k h1 h2 => by
      rw [hτ]
      exact drop_c σ x h1 h2
    have v2 : ∀ k, k ≠ 25 → k ≠ 26 → τ.2 k = σ.2 k := fun k h1 h2 => by
      rw [hτ]
      funext y
      show (if k = 26 ∧ y = x then (1 : Int32) else if k = 25 ∧ y = x then nI p else (dropS σ x).2 k y) = _
      rw [if_neg (fun z => h2 z.1), if_neg (fun z => h1 z.1), dropS_2]
    have v25 : ∀ y, τ.2 25 y = if y = x then nI p else σ.2 25 y := fun y => by
      rw [hτ]
      show (if (25 : Nat) = 26 ∧ y = x then (1 : Int32) else if (25 : Nat) = 25 ∧ y = x then nI p else (dropS σ x).2 25 y) = _
      rw [if_neg (fun z => absurd z.1 (by decide)), dropS_2]
      by_cases hy : y = x
      · rw [if_pos ⟨rfl, hy⟩, if_pos hy]
      · rw [if_neg (fun z => hy z.2), if_neg hy]
    have v26 : ∀ y, τ.2 26 y = if y = x then 1 else σ.2 26 y := fun y => by
      rw [hτ]
      show (if (26 : Nat) = 26 ∧ y = x then (1 : Int32) else if (26 : Nat) = 25 ∧ y = x then nI p else (dropS σ x).2 26 y) = _
      by_cases hy : y = x
      · rw [if_pos ⟨rfl, hy⟩, if_pos hy]
      · rw [if_neg (fun z => hy z.2), if_neg hy, if_neg (fun z => absurd z.1 (by decide)), dropS_2]
    have z0 : τ.1 0 0 = 0 := (congrFun (n1 0 (by decide) (by decide)) 0).trans h.1.2
    have c : ∀ k, k ≠ 27 → k ≠ 28 → τ.1 k 0 = σ.1 k 0 := fun k h1 h2 => congrFun (n1 k h1 h2) 0
    have c5 : nAn τ = nAn σ := c 19 (by decide) (by decide)
    have hap : ∀ i, i < nAp τ → σ.2 26 (app τ i) = 0 ∧ app τ i ≠ x := fun i hi => by
      rw [hτ] at hi ⊢
      exact MK_drop h x i hi
    have hL : Lw d τ := by
      obtain ⟨-, ⟨k1, k2⟩, d1, d2, d3⟩ := h
      refine ⟨⟨⟨hQ.1, hQ.2⟩, z0⟩, ⟨fun y hy => ?_, fun i hi => ?_⟩, ?_, ?_, ?_⟩
      · rw [v26] at hy
        rw [v25]
        by_cases hyx : y = x
        · rw [if_pos hyx] at hy
          exact absurd hy (by decide)
        · rw [if_neg hyx] at hy ⊢
          exact k1 y hy
      · obtain ⟨q1, q2⟩ := hap i hi
        rw [v26, if_neg q2]
        exact q1
      · show τ.2 1 0 = nI d
        rw [v2 1 (by decide) (by decide)]
        exact d1
      · rw [c5, v2 24 (by decide) (by decide)]
        exact d2
      · rw [show nLe τ = nLe σ from c 7 (by decide) (by decide), v2 9 (by decide) (by decide)]
        exact d3
    have h26 : σ.2 26 x = 0 := by
      rw [hx]
      exact h.2.1.2 0 h0
    obtain ⟨g, hg, hbase⟩ := base_n h.1.1.1.1 ha
    have hN : eqN τ σ := fun k j q0 q27 q28 _ _ _ => congrFun (n1 k q27 q28) j
    have hG : eqG τ σ := ⟨v2 13 (by decide) (by decide), v2 14 (by decide) (by decide), v2 15 (by decide) (by decide), v2 17 (by decide) (by decide), v2 22 (by decide) (by decide), v2 23 (by decide) (by decide)⟩
    have hbase2 : 100 * sumS τ x (cas τ (exe τ x)) / nI (allS τ (exe τ x) (cas τ (exe τ x))) = nI g := by
      rw [show exe τ = exe σ from n1 21 (by decide) (by decide), show cas τ = cas σ from n1 16 (by decide) (by decide), sumS_e hN hG, allS_e hN]
      exact hbase
    have hg1 : grade σ x = nI g := by
      have := grade_bp (p := 0) hg (by omega) hbase (h.2.1.1 x h26)
      rw [this, Nat.add_zero]
      split
      · rfl
      · rw [show g = 100 by omega]
    have hg2 := grade_bp (σ := τ) (a := x) (p := p) hg (by omega) hbase2 (by rw [v25, if_pos rfl])
    have hag := ap_again z0 (a := x) (by rw [c5]; exact ha) (by rw [c5]; omega) (Or.inr (by rw [v26, if_pos rfl]; decide))
    exact Or.inr ⟨h0, ha, by rw [e]; exact lC_ok _ z0 _, τ, by rw [e]; exact lS_ok z0 _, hL, c 5 (by decide) (by decide), c 7 (by decide) (by decide), c 11 (by decide) (by decide), c 32 (by decide) (by decide), c 35 (by decide) (by decide), n1 12 (by decide) (by decide), v2 41 (by decide) (by decide), c5, ⟨g, hg, hg1, hg2⟩, hag⟩
