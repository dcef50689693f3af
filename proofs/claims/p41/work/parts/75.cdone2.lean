/-! ===== more of what calls leave ===== -/
theorem cLv1 {g : CG} {σ : Sg} {k : Nat} : cLv g σ (1, k) ↔ lsB σ k := Iff.rfl
theorem exL_nil {σ : Sg} (hI0 : MI0 σ) {l : Nat} (h : nLe σ ≤ l) : exL σ l = [] := by
  unfold exL
  rw [List.filter_eq_nil_iff]
  intro e he
  have h1 := hI0.ex (List.mem_range.mp he)
  simp only [decide_eq_true_eq]
  omega
theorem anL_nil {σ : Sg} (hI0 : MI0 σ) {e : Nat} (h : nEx σ ≤ e) : anL σ e = [] := by
  unfold anL
  rw [List.filter_eq_nil_iff]
  intro a ha
  have h1 := hI0.an (List.mem_range.mp ha)
  simp only [decide_eq_true_eq]
  omega
theorem filt_c {n : Nat} {f g : Nat → Nat} {l : Nat} (h : ∀ e, e < n → f e = g e) : (List.range n).filter (fun e => decide (f e = l)) = (List.range n).filter (fun e => decide (g e = l)) :=
  List.filter_congr fun e he => by rw [h e (List.mem_range.mp he)]
theorem exL_push {σ τ : Sg} {l : Nat} (hn : nEx τ = nEx σ + 1) (h : ∀ e, e < nEx σ → les τ e = les σ e) : exL τ l = exL σ l ++ (if les τ (nEx σ) = l then [nEx σ] else []) := by
  unfold exL
  rw [hn, List.range_succ, List.filter_append, filt_c h]
  congr 1
  by_cases h1 : les τ (nEx σ) = l
  · rw [if_pos h1, List.filter_cons_of_pos (by simpa using h1)]
    rfl
  · rw [if_neg h1, List.filter_cons_of_neg (by simpa using h1)]
    rfl
theorem anL_push {σ τ : Sg} {l : Nat} (hn : nAn τ = nAn σ + 1) (h : ∀ e, e < nAn σ → exe τ e = exe σ e) : anL τ l = anL σ l ++ (if exe τ (nAn σ) = l then [nAn σ] else []) := by
  unfold anL
  rw [hn, List.range_succ, List.filter_append, filt_c h]
  congr 1
  by_cases h1 : exe τ (nAn σ) = l
  · rw [if_pos h1, List.filter_cons_of_pos (by simpa using h1)]
    rfl
  · rw [if_neg h1, List.filter_cons_of_neg (by simpa using h1)]
    rfl
theorem CLL_new {g : CG} {σ τ : Sg} {L : Nat → List I2} {k0 : Nat} (hC : CLL g σ L) (hl : ∀ k, lsB τ k → k ≠ k0 → lsB σ k) (h0 : L k0 = []) : CLL (gls g k0 0 0) τ L := by
  intro k hk
  by_cases h : k = k0
  · subst h
    rw [h0]
    show 0 ≤ (if k = k then 0 else g.1 k) ∧ (if k = k then 0 else g.1 k) ≤ 200
    rw [if_pos rfl]
    omega
  · rw [gls_n h]
    exact hC k (hl k hk h)
theorem ls5 {σ τ : Sg} (h1 : nLe τ = nLe σ + 1) (h2 : nEx τ = nEx σ) : ∀ k, lsB τ k → k ≠ 9 + nLe σ → lsB σ k := by
  intro k hk h
  unfold lsB at *
  omega
theorem ls6 {σ τ : Sg} (h1 : nLe τ = nLe σ) (h2 : nEx τ = nEx σ + 1) : ∀ k, lsB τ k → k ≠ 17 + nEx σ → lsB σ k := by
  intro k hk h
  unfold lsB at *
  omega
theorem lsm {σ τ : Sg} {L : Nat → List I2} {k0 : Nat} (h : ∀ k, lsB τ k → k ≠ k0 → lsB σ k) (h0 : L k0 = []) : ∀ k, lsB τ k → lsB σ k ∨ L k = [] := by
  intro k hk
  by_cases hk0 : k = k0
  · exact Or.inr (by rw [hk0]; exact h0)
  · exact Or.inl (h k hk hk0)
/-- states that the bench's world doesn't tell apart, but for its lists -/
def sameC (σ τ : Sg) : Prop := (∀ k, k ≠ 0 → k ≠ 27 → k ≠ 28 → k ≠ 29 → k ≠ 30 → τ.1 k = σ.1 k) ∧ ∀ k, k ≠ 31 → k ≠ 42 → τ.2 k = σ.2 k
theorem sameC.f {σ τ : Sg} (h : sameC σ τ) {k : Nat} (hk : k ≠ 0 ∧ k ≠ 27 ∧ k ≠ 28 ∧ k ≠ 29 ∧ k ≠ 30) : τ.1 k = σ.1 k := h.1 k hk.1 hk.2.1 hk.2.2.1 hk.2.2.2.1 hk.2.2.2.2
theorem cwL_sg {G : GT} {g : CG} {A : Nat → Prop} {ad : I2 → Nat} {σ τ : Sg} {L : Nat → List I2} {H : Heap} (h : sameC σ τ) (F : cwL G g A ad σ L H) : cwL G g A ad τ L H := by
  have c1 : nCo τ = nCo σ := congrFun (h.f (k := 2) (by decide)) 0
  have c2 : nSt τ = nSt σ := congrFun (h.f (k := 5) (by decide)) 0
  have c3 : nLe τ = nLe σ := congrFun (h.f (k := 7) (by decide)) 0
  have c4 : nEx τ = nEx σ := congrFun (h.f (k := 11) (by decide)) 0
  have c5 : nAn τ = nAn σ := congrFun (h.f (k := 19) (by decide)) 0
  have c6 : nCr τ = nCr σ := congrFun (h.f (k := 32) (by decide)) 0
  have c7 : nCe τ = nCe σ := congrFun (h.f (k := 35) (by decide)) 0
  have c8 : nSz τ = nSz σ := congrFun (h.f (k := 43) (by decide)) 0
  have f1 : coh τ = coh σ := h.f (k := 6) (by decide)
  have f2 : les τ = les σ := h.f (k := 12) (by decide)
  have f3 : cas τ = cas σ := h.f (k := 16) (by decide)
  have f4 : wei τ = wei σ := h.f (k := 18) (by decide)
  have f5 : stu τ = stu σ := h.f (k := 20) (by decide)
  have f6 : exe τ = exe σ := h.f (k := 21) (by decide)
  have f7 : hol τ = hol σ := h.f (k := 36) (by decide)
  have f8 : cou τ = cou σ := h.f (k := 37) (by decide)
  have f9 : eTh τ = eTh σ := h.f (k := 39) (by decide)
  have f0 : aTh τ = aTh σ := h.f (k := 40) (by decide)
  have v : ∀ k, k ≠ 31 → k ≠ 42 → τ.2 k = σ.2 k := h.2
  have hlb : ∀ k, lsB τ k → lsB σ k := fun k hk => by unfold lsB at *; omega
  refine fw.sub F (cwAll ⟨rfl, rfl, ?_⟩ (fun k hk => ⟨hlb k hk, rfl, rfl⟩) (fun k hk h0 => ⟨⟨hlb k hk, h0⟩, rfl, rfl⟩) (fun i h => ⟨by have h9 := h; rw [c1] at h9; exact h9, rfl, ?_⟩) (fun i h => ⟨by have h9 := h; rw [c2] at h9; exact h9, rfl, ?_⟩) (fun i h => ⟨by have h9 := h; rw [c3] at h9; exact h9, rfl, ?_⟩) (fun i h => ⟨by have h9 := h; rw [c4] at h9; exact h9, rfl, ?_⟩) (fun i h => ⟨by have h9 := h; rw [c5] at h9; exact h9, rfl, ?_⟩) (fun i h => ⟨by have h9 := h; rw [c6] at h9; exact h9, rfl, ?_⟩) (fun i h => ⟨by have h9 := h; rw [c7] at h9; exact h9, rfl, ?_⟩) (fun i h => ⟨by have h9 := h; rw [c7] at h9; exact h9, rfl, ?_⟩) (fun i h => ⟨by have h9 := h; rw [c4] at h9; exact h9, rfl, ?_⟩) (fun i h => ⟨by have h9 := h; rw [c5] at h9; exact h9, rfl, ?_⟩) (fun i h => ⟨by have h9 := h; rw [c4] at h9; exact h9, rfl, ?_⟩) (fun i h => ⟨by have h9 := h; rw [c4] at h9; exact h9, rfl, ?_⟩) ⟨rfl, rfl, ?_⟩ ⟨rfl, rfl, rfl⟩)
  · show (eBe ad (τ.2 1 0) : va_E) = eBe ad (σ.2 1 0)
    rw [v 1 (by decide) (by decide)]
  · show (eCo τ i : va_E) = eCo σ i
    unfold eCo
    rw [v 3 (by decide) (by decide), v 4 (by decide) (by decide)]
  · exact eSt_w (by rw [f1])
  · exact eLe_w (by rw [v 8 (by decide) (by decide)]) (by rw [v 9 (by decide) (by decide)]) rfl (by rw [v 10 (by decide) (by decide)])
  · exact eEx_w f4 (by rw [f3]) (by rw [f2]) (by rw [v 15 (by decide) (by decide)]) rfl rfl rfl rfl
  · exact eAn_w (by rw [f5]) (by rw [f6]) rfl (by rw [v 24 (by decide) (by decide)]) rfl (by rw [v 25 (by decide) (by decide)]) rfl (by rw [v 26 (by decide) (by decide)]) rfl
  · show (eCr τ i : va_E) = eCr σ i
    unfold eCr
    rw [v 33 (by decide) (by decide), v 34 (by decide) (by decide)]
  · exact eCe_w (by rw [f7]) (by rw [f8]) rfl (by rw [v 41 (by decide) (by decide)])
  · show (eMo (τ.2 38 i) (eTh τ i) (aTh τ i) : va_E) = eMo (σ.2 38 i) (eTh σ i) (aTh σ i)
    rw [v 38 (by decide) (by decide), f9, f0]
  · show (eRu (τ.2 13 i) (τ.2 14 i) : va_E) = eRu (σ.2 13 i) (σ.2 14 i)
    rw [v 13 (by decide) (by decide), v 14 (by decide) (by decide)]
  · show (eRu (τ.2 22 i) (τ.2 23 i) : va_E) = eRu (σ.2 22 i) (σ.2 23 i)
    rw [v 22 (by decide) (by decide), v 23 (by decide) (by decide)]
  · show (.inl (G.2.1 0, 6, .inl (inpF τ i)) : va_E) = .inl (G.2.1 0, 6, .inl (inpF σ i))
    rw [show inpF τ i = inpF σ i from funext fun k => by unfold inpF; rw [f3, v 17 (by decide) (by decide)]]
  · show (.inl (G.2.1 0, 6, .inl (weiF τ i)) : va_E) = .inl (G.2.1 0, 6, .inl (weiF σ i))
    rw [show weiF τ i = weiF σ i from funext fun k => by unfold weiF; rw [f3, f4]]
  · show (SBO (ad (16, 0)) (g.2.2.1 3 0) (nSz τ) : va_E) = SBO (ad (16, 0)) (g.2.2.1 3 0) (nSz σ)
    rw [c8]
theorem sV_id (σ : Sg) (k j : Nat) : sV σ k j (σ.2 k j) = σ := by
  obtain ⟨a, b⟩ := σ
  show (a, _) = (a, b)
  congr 1
  funext x y
  show (if x = k ∧ y = j then b k j else b x y) = b x y
  split
  · rename_i h
    rw [h.1, h.2]
  · rfl
theorem waitS_cr {τ σ : Sg} (a : Nat) : ∀ n, (∀ k, k < n → app τ k = app σ k) → waitS τ a n = waitS σ a n
  | 0, _ => rfl
  | n + 1, h => by simp only [waitS, waitS_cr a n (fun k hk => h k (by omega)), h n (by omega)]
theorem gAn_g {g : CG} {a : Nat} {gr w fl : Int32} : (gAn g a gr w fl).2.2.1 0 a = gr := by simp [gAn]
theorem gAn_w {g : CG} {a : Nat} {gr w fl : Int32} : (gAn g a gr w fl).2.2.1 1 a = w := by simp [gAn]
/-- cases of an exercise grow -/
theorem upC {G : GT} {g : CG} {A : Nat → Prop} {ad : I2 → Nat} {σ : Sg} {L : Nat → List I2} {H : Heap} {ex w : Nat} {x : Int32} (hI0 : MI0 σ) (hx : ex < nEx σ) (hk : cas σ ex < 6)
    (F : fw G.1 (cLv g σ) ad (iup (iup (iup (cEnL G g ad σ L) (13, ex) (.inl (G.2.1 0, 6, .inl (upd (inpF σ ex) (cas σ ex) x)))) (14, ex) (.inl (G.2.1 0, 6, .inl (upd (weiF σ ex) (cas σ ex) (nI w))))) (6, ex) (.inr (9, [.int (nI ex), .ref (ad (5, les σ ex)), .int (σ.2 15 ex), .ref (ad (13, ex)), .ref (ad (14, ex)), .ref (ad (1, 17 + ex)), .ref (ad (11, ex)), .int (nI (cas σ ex + 1)), .int (nI (allS σ ex (cas σ ex) + w))]))) A H) : cwL G g A ad (sN (sN (sV σ 17 (6 * ex + cas σ ex) x) 18 (6 * ex + cas σ ex) w) 16 ex (cas σ ex + 1)) L H := by
  obtain ⟨τ, hτ⟩ : ∃ τ, τ = sN (sN (sV σ 17 (6 * ex + cas σ ex) x) 18 (6 * ex + cas σ ex) w) 16 ex (cas σ ex + 1) := ⟨_, rfl⟩
  rw [← hτ]
  have t1 : ∀ i, ¬ i = ex → cas τ i = cas σ i := fun i hi => by rw [hτ]; exact if_neg (fun z => hi z.2)
  have t2 : cas τ ex = cas σ ex + 1 := by rw [hτ]; exact if_pos ⟨rfl, rfl⟩
  have t3 : ∀ j, ¬ j = 6 * ex + cas σ ex → wei τ j = wei σ j := fun j hj => by rw [hτ]; exact if_neg (fun z => hj z.2)
  have t4 : wei τ (6 * ex + cas σ ex) = w := by rw [hτ]; exact if_pos ⟨rfl, rfl⟩
  have t5 : ∀ j, ¬ j = 6 * ex + cas σ ex → τ.2 17 j = σ.2 17 j := fun j hj => by rw [hτ]; exact if_neg (fun z => hj z.2)
  have t6 : τ.2 17 (6 * ex + cas σ ex) = x := by rw [hτ]; exact if_pos ⟨rfl, rfl⟩
  have hin : ∀ i, i < nEx σ → ¬ i = ex → inpF τ i = inpF σ i ∧ weiF τ i = weiF σ i ∧ allS τ i (cas τ i) = allS σ i (cas σ i) := fun i hi hne => by
    have h6 := (hI0.ex hi).2
    refine ⟨funext fun k => ?_, funext fun k => ?_, ?_⟩
    · unfold inpF
      rw [t1 i hne]
      by_cases hk' : k < cas σ i
      · rw [if_pos hk', if_pos hk', t5 _ (by omega)]
      · rw [if_neg hk', if_neg hk']
    · unfold weiF
      rw [t1 i hne]
      by_cases hk' : k < cas σ i
      · rw [if_pos hk', if_pos hk', t3 _ (by omega)]
      · rw [if_neg hk', if_neg hk']
    · rw [t1 i hne]
      exact allS_c _ fun k hk' => t3 _ (by omega)
  have t0 : nCo τ = nCo σ ∧ nSt τ = nSt σ ∧ nLe τ = nLe σ ∧ nEx τ = nEx σ ∧ nAn τ = nAn σ ∧ nCr τ = nCr σ ∧ nCe τ = nCe σ ∧ nSz τ = nSz σ := by rw [hτ]; exact ⟨rfl, rfl, rfl, rfl, rfl, rfl, rfl, rfl⟩
  have hlb : ∀ k, lsB τ k → lsB σ k := fun k hk => by unfold lsB at *; omega
  have tv : ∀ k, k ≠ 17 → τ.2 k = σ.2 k := fun k hk => by rw [hτ]; exact funext fun j => if_neg (fun z => hk z.1)
  have tn : ∀ k, k ≠ 16 → k ≠ 18 → τ.1 k = σ.1 k := fun k h1 h2 => by
    rw [hτ]
    funext j
    show (if k = 16 ∧ _ then _ else if k = 18 ∧ _ then _ else σ.1 k j) = _
    rw [if_neg (fun z => h1 z.1), if_neg (fun z => h2 z.1)]
  refine fw.sub F (cwAll ⟨rfl, rfl, ?_⟩ (fun k hk => ⟨hlb k hk, rfl, rfl⟩) (fun k hk h0 => ⟨⟨hlb k hk, h0⟩, rfl, rfl⟩) (fun i h => ⟨by have h9 := h; rw [t0.1] at h9; exact h9, rfl, ?_⟩) (fun i h => ⟨by have h9 := h; rw [t0.2.1] at h9; exact h9, rfl, ?_⟩) (fun i h => ⟨by have h9 := h; rw [t0.2.2.1] at h9; exact h9, rfl, ?_⟩) (fun i h => ?_) (fun i h => ⟨by have h9 := h; rw [t0.2.2.2.2.1] at h9; exact h9, rfl, ?_⟩) (fun i h => ⟨by have h9 := h; rw [t0.2.2.2.2.2.1] at h9; exact h9, rfl, ?_⟩) (fun i h => ⟨by have h9 := h; rw [t0.2.2.2.2.2.2.1] at h9; exact h9, rfl, ?_⟩) (fun i h => ⟨by have h9 := h; rw [t0.2.2.2.2.2.2.1] at h9; exact h9, rfl, ?_⟩) (fun i h => ⟨by have h9 := h; rw [t0.2.2.2.1] at h9; exact h9, rfl, ?_⟩) (fun i h => ⟨by have h9 := h; rw [t0.2.2.2.2.1] at h9; exact h9, rfl, ?_⟩) (fun i h => ?_) (fun i h => ?_) ⟨rfl, rfl, ?_⟩ ⟨rfl, rfl, rfl⟩)
  · show (eBe ad (τ.2 1 0) : va_E) = eBe ad (σ.2 1 0)
    rw [tv 1 (by decide)]
  · show (eCo τ i : va_E) = eCo σ i
    unfold eCo
    rw [tv 3 (by decide), tv 4 (by decide)]
  · exact eSt_w (by rw [show coh τ = coh σ from tn 6 (by decide) (by decide)])
  · exact eLe_w (by rw [tv 8 (by decide)]) (by rw [tv 9 (by decide)]) rfl (by rw [tv 10 (by decide)])
  · have hi : i < nEx σ := by have h9 := h; rw [t0.2.2.2.1] at h9; exact h9
    refine ⟨hi, rfl, ?_⟩
    by_cases hne : i = ex
    · subst hne
      rw [iup_s]
      show (eEx ad τ i : va_E) = _
      have ha : allS τ i (cas τ i) = allS σ i (cas σ i) + w := by
        rw [t2]
        simp only [allS]
        rw [t4, allS_c (τ := τ) (σ := σ) (cas σ i) fun k hk' => t3 _ (by omega)]
      unfold eEx
      rw [ha, t2, show les τ = les σ from tn 12 (by decide) (by decide), tv 15 (by decide)]
    · rw [iup_n _ _ (ine hne), iup_n _ _ (kne (by decide)), iup_n _ _ (kne (by decide))]
      show (eEx ad τ i : va_E) = eEx ad σ i
      unfold eEx
      rw [(hin i hi hne).2.2, t1 i hne, show les τ = les σ from tn 12 (by decide) (by decide), tv 15 (by decide)]
  · exact eAn_w (by rw [show stu τ = stu σ from tn 20 (by decide) (by decide)]) (by rw [show exe τ = exe σ from tn 21 (by decide) (by decide)]) rfl (by rw [tv 24 (by decide)]) rfl (by rw [tv 25 (by decide)]) rfl (by rw [tv 26 (by decide)]) rfl
  · show (eCr τ i : va_E) = eCr σ i
    unfold eCr
    rw [tv 33 (by decide), tv 34 (by decide)]
  · exact eCe_w (by rw [show hol τ = hol σ from tn 36 (by decide) (by decide)]) (by rw [show cou τ = cou σ from tn 37 (by decide) (by decide)]) rfl (by rw [tv 41 (by decide)])
  · show (eMo (τ.2 38 i) (eTh τ i) (aTh τ i) : va_E) = eMo (σ.2 38 i) (eTh σ i) (aTh σ i)
    rw [tv 38 (by decide), show eTh τ = eTh σ from tn 39 (by decide) (by decide), show aTh τ = aTh σ from tn 40 (by decide) (by decide)]
  · show (eRu (τ.2 13 i) (τ.2 14 i) : va_E) = eRu (σ.2 13 i) (σ.2 14 i)
    rw [tv 13 (by decide), tv 14 (by decide)]
  · show (eRu (τ.2 22 i) (τ.2 23 i) : va_E) = eRu (σ.2 22 i) (σ.2 23 i)
    rw [tv 22 (by decide), tv 23 (by decide)]
  · have hi : i < nEx σ := by have h9 := h; rw [t0.2.2.2.1] at h9; exact h9
    refine ⟨hi, rfl, ?_⟩
    by_cases hne : i = ex
    · subst hne
      rw [iup_n _ _ (kne (by decide)), iup_n _ _ (kne (by decide)), iup_s]
      refine congrArg (fun f9 => (.inl (G.2.1 0, 6, .inl f9) : va_E)) (funext fun j => ?_)
      show inpF τ i j = (if j = cas σ i then x else inpF σ i j)
      unfold inpF
      rw [t2]
      by_cases hj : j = cas σ i
      · rw [if_pos hj, if_pos (by omega), hj, t6]
      · rw [if_neg hj]
        by_cases hj2 : j < cas σ i
        · rw [if_pos hj2, if_pos (by omega), t5 _ (by omega)]
        · rw [if_neg hj2, if_neg (by omega)]
    · rw [iup_n _ _ (kne (by decide)), iup_n _ _ (kne (by decide)), iup_n _ _ (ine hne)]
      exact congrArg (fun f9 => (.inl (G.2.1 0, 6, .inl f9) : va_E)) (hin i hi hne).1
  · have hi : i < nEx σ := by have h9 := h; rw [t0.2.2.2.1] at h9; exact h9
    refine ⟨hi, rfl, ?_⟩
    by_cases hne : i = ex
    · subst hne
      rw [iup_n _ _ (kne (by decide)), iup_s]
      refine congrArg (fun f9 => (.inl (G.2.1 0, 6, .inl f9) : va_E)) (funext fun j => ?_)
      show weiF τ i j = (if j = cas σ i then nI w else weiF σ i j)
      unfold weiF
      rw [t2]
      by_cases hj : j = cas σ i
      · rw [if_pos hj, if_pos (by omega), hj, t4]
      · rw [if_neg hj]
        by_cases hj2 : j < cas σ i
        · rw [if_pos hj2, if_pos (by omega), t3 _ (by omega)]
        · rw [if_neg hj2, if_neg (by omega)]
    · rw [iup_n _ _ (kne (by decide)), iup_n _ _ (ine hne), iup_n _ _ (kne (by decide))]
      exact congrArg (fun f9 => (.inl (G.2.1 0, 6, .inl f9) : va_E)) (hin i hi hne).2.1
  · show (SBO (ad (16, 0)) (g.2.2.1 3 0) (nSz τ) : va_E) = SBO (ad (16, 0)) (g.2.2.1 3 0) (nSz σ)
    rw [t0.2.2.2.2.2.2.2]
