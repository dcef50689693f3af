theorem pi_iss {σ : Sg} (hI : MI σ) (s c : Nat) : MI (issS σ s c) := ⟨MI_iss hI.1 s c, hI.2⟩
theorem pj_iss {σ : Sg} (h : MJ σ) (s c : Nat) : MJ (issS σ s c) := by
  obtain ⟨j1, j2, j3, j4, j5, j6⟩ := h
  refine ⟨j1, j2, j3, j4, j5, fun x y hx hy h1 h2 h3 h4 => ?_⟩
  have hx' : x < nCe σ := hx
  have hy' : y < nCe σ := hy
  have ax : x ≠ nCe σ := by omega
  have ay : y ≠ nCe σ := by omega
  have e1 : ∀ z, z ≠ nCe σ → hol (issS σ s c) z = hol σ z ∧ cou (issS σ s c) z = cou σ z ∧ (issS σ s c).2 41 z = σ.2 41 z := fun z hz => ⟨by simp [hol, issS, sN, sV, hz], by simp [cou, issS, sN, sV, hz], by simp [issS, sN, sV, hz]⟩
  rw [(e1 x ax).1, (e1 y ay).1] at h1
  rw [(e1 x ax).2.1, (e1 y ay).2.1] at h2
  rw [(e1 x ax).2.2] at h3
  rw [(e1 y ay).2.2] at h4
  exact j6 x y hx' hy' h1 h2 h3 h4
theorem std_no {σ : Sg} {s c : Nat} : ∀ {n : Nat}, stdS σ s c n = none → ∀ z, z < n → ¬ (hol σ z = s ∧ cou σ z = c ∧ σ.2 41 z = 0)
  | 0, _, z, hz => absurd hz (Nat.not_lt_zero z)
  | n + 1, h, z, hz => by
    simp only [stdS] at h
    split at h
    · cases h
    · rename_i hc
      rcases Nat.lt_or_ge z n with q | q
      · exact std_no h z q
      · rw [show z = n by omega]
        exact hc
theorem pr_issue {σ : Sg} (h : Qs σ) (u v : Int32) : Qs (fIssue σ u v).2 := by
  unfold fIssue
  split
  · rename_i h1
    split
    · exact h.e _
    · rename_i h2
      split
      · have hMi := pi_iss h.1 (ix u) (ix v)
        have hMj := pj_iss h.2 (ix u) (ix v)
        have hb := h.1.1.1
        obtain ⟨h11, h12⟩ := Bool.and_eq_true_iff.mp h1
        obtain ⟨s, hs, rfl⟩ := (okP_ix (by omega)).mp h11
        obtain ⟨c, hc, rfl⟩ := (okP_ix (by omega)).mp h12
        rw [ix_nI (by omega), ix_nI (by omega)] at h2 hMi hMj ⊢
        have hnone : stdS σ s c (nCe σ) = none := by
          cases hq : stdS σ s c (nCe σ) with
          | none => rfl
          | some b => exact absurd (Or.inl (by rw [hq]; exact fun z => by cases z)) h2
        have hno := std_no hnone
        have n30 : nCe σ ≠ 30 := fun z => h2 (Or.inr z)
        have e1 : hol (issS σ s c) (nCe σ) = s ∧ cou (issS σ s c) (nCe σ) = c ∧ eTh (issS σ s c) (nCe σ) = nEx σ ∧ aTh (issS σ s c) (nCe σ) = nAn σ := ⟨by simp [hol, issS, sN, sV], by simp [cou, issS, sN, sV], by simp [eTh, issS, sN, sV], by simp [aTh, issS, sN, sV]⟩
        have e2 : ∀ z, z ≠ nCe σ → hol (issS σ s c) z = hol σ z ∧ cou (issS σ s c) z = cou σ z ∧ (issS σ s c).2 41 z = σ.2 41 z := fun z hz => ⟨by simp [hol, issS, sN, sV, hz], by simp [cou, issS, sN, sV, hz], by simp [issS, sN, sV, hz]⟩
        obtain ⟨⟨⟨b1, b2, b3, b4, b5, b6, b7⟩, m1, m2, m3, m4⟩, m5⟩ := hMi
        obtain ⟨j1, j2, j3, j4, j5, j6⟩ := hMj
        refine ⟨⟨⟨⟨b1, b2, b3, b4, b5, b6, by show nCe σ + 1 ≤ 30; omega⟩, m1, m2, m3, fun i hi => ?_⟩, m5⟩, j1, j2, j3, j4, j5, fun x y hx hy q1 q2 q3 q4 => ?_⟩
        · have hi' : i < nCe σ + 1 := hi
          rcases Nat.lt_or_ge i (nCe σ) with q | q
          · exact m4 i q
          · have : i = nCe σ := by omega
            subst this
            show hol (issS σ s c) (nCe σ) < nSt σ ∧ cou (issS σ s c) (nCe σ) < nCr σ ∧ eTh (issS σ s c) (nCe σ) ≤ nEx σ ∧ aTh (issS σ s c) (nCe σ) ≤ nAn σ
            rw [e1.1, e1.2.1, e1.2.2.1, e1.2.2.2]
            exact ⟨hs, hc, Nat.le_refl _, Nat.le_refl _⟩
        · have hx' : x < nCe σ + 1 := hx
          have hy' : y < nCe σ + 1 := hy
          have q1' : hol (issS σ s c) x = hol (issS σ s c) y := q1
          have q2' : cou (issS σ s c) x = cou (issS σ s c) y := q2
          have q3' : (issS σ s c).2 41 x = 0 := q3
          have q4' : (issS σ s c).2 41 y = 0 := q4
          by_cases ax : x = nCe σ
          · by_cases ay : y = nCe σ
            · omega
            · rw [ax, e1.1, (e2 y ay).1] at q1'
              rw [ax, e1.2.1, (e2 y ay).2.1] at q2'
              rw [(e2 y ay).2.2] at q4'
              exact absurd ⟨q1'.symm, q2'.symm, q4'⟩ (hno y (by omega))
          · by_cases ay : y = nCe σ
            · rw [ay, e1.1, (e2 x ax).1] at q1'
              rw [ay, e1.2.1, (e2 x ax).2.1] at q2'
              rw [(e2 x ax).2.2] at q3'
              exact absurd ⟨q1', q2', q3'⟩ (hno x (by omega))
            · exact j6 x y (by show x < nCe σ; omega) (by show y < nCe σ; omega) q1' q2' q3' q4'
      · exact (show Qs (issS σ (ix u) (ix v)) from ⟨pi_iss h.1 _ _, pj_iss h.2 _ _⟩).e _
  · exact h.e _
theorem lineS_b {σ : Sg} (hI : MI σ) {a : Nat} (ha : a < nAn σ) : (lineS σ a).length ≤ 40 ∧ ∀ x, x < (lineS σ a).length → (lineS σ a).getD x 0 < 128 := by
  obtain ⟨hg, hgl⟩ := grade_g hI ha
  obtain ⟨p, hp, hpe⟩ := hI.pt ha
  have hb := hI.1.1
  have hix : ix (σ.2 25 a) = p := by rw [hpe]; exact ix_nI (by omega)
  have hP : ∀ L : List Nat, (∀ y ∈ L, y < 128) → ∀ x, x < L.length → L.getD x 0 < 128 := fun L h x hx => by
    rw [List.getD_eq_getElem?_getD, List.getElem?_eq_getElem hx]
    exact h _ (List.getElem_mem hx)
  have hd : ∀ v, v < 101 → ∀ y ∈ decS v, y < 128 := by decide +kernel
  have d1 := decS_len a
  have d2 := decS_len (graN σ a)
  have d3 := decS_len p
  unfold lineS
  rw [hix]
  constructor
  · simp only [List.length_append]
    have t1 : tAns.length = 7 := rfl
    have t2 : tCol.length = 2 := rfl
    have t3 : (if grade σ a < 50 then tFai else tPas).length = 7 := by split <;> rfl
    have t4 : (if σ.2 25 a ≤ 0 then [] else tBy ++ decS p).length ≤ 7 := by
      split
      · exact Nat.zero_le _
      · rw [List.length_append]
        have : tBy.length = 4 := rfl
        omega
    omega
  · refine hP _ fun y hy => ?_
    rcases List.mem_append.mp hy with hy | hy
    · rcases List.mem_append.mp hy with hy | hy
      · rcases List.mem_append.mp hy with hy | hy
        · rcases List.mem_append.mp hy with hy | hy
          · rcases List.mem_append.mp hy with hy | hy
            · exact (show ∀ y ∈ tAns, y < 128 by decide) y hy
            · exact hd a (by omega) y hy
          · exact (show ∀ y ∈ tCol, y < 128 by decide) y hy
        · exact hd _ (by omega) y hy
      · split at hy
        · exact (show ∀ y ∈ tFai, y < 128 by decide) y hy
        · exact (show ∀ y ∈ tPas, y < 128 by decide) y hy
    · split at hy
      · cases hy
      · rcases List.mem_append.mp hy with hy | hy
        · exact (show ∀ y ∈ tBy, y < 128 by decide) y hy
        · exact hd p (by omega) y hy
theorem pr_writeAnswer {σ : Sg} (h : Qs σ) (v : Int32) : Qs (fWriteAnswer σ v).2 := by
  unfold fWriteAnswer
  split
  · rename_i h1
    have hb := h.1.1.1
    obtain ⟨a, ha, rfl⟩ := (okP_ix (by omega)).mp h1
    rw [ix_nI (by omega)]
    obtain ⟨hl, hc⟩ := lineS_b h.1 ha
    obtain ⟨τ, hτ⟩ : ∃ τ, τ = putL (sN σ 43 0 0) (lineS σ a) := ⟨_, rfl⟩
    show Qs (putL (sN σ 43 0 0) (lineS σ a))
    have hsz : nSz τ = (lineS σ a).length := by rw [hτ, putL_sz, nSz0, Nat.zero_add]
    have hv : ∀ x, x < (lineS σ a).length → τ.2 42 x = nI ((lineS σ a).getD x 0) := fun x hx => by
      have := putL_in (σ := sN σ 43 0 0) hx
      rw [nSz0, Nat.zero_add] at this
      rw [hτ]
      exact this
    have hw : eqW τ σ := by rw [hτ]; exact ((eqW.rf σ).z 0 0).l _
    have h1s : ∀ k, k ≠ 43 → τ.1 k = σ.1 k := fun k hk => by
      rw [hτ, putL_1s]
      exact funext fun y => (if_neg (fun z => hk z.1)).trans (if_neg (fun z => hk z.1))
    rw [← hτ]
    have c5 : nAn τ = nAn σ := hw.an
    have cA : nAp τ = nAp σ := congrFun (h1s 27 (by decide)) 0
    have cH : nHa τ = nHa σ := congrFun (h1s 29 (by decide)) 0
    have fA : app τ = app σ := h1s 28 (by decide)
    have fH : har τ = har σ := h1s 30 (by decide)
    have hn := h.1.2.1
    refine ⟨⟨hw.1.mi h.1.1, ⟨by omega, by omega, by omega⟩, fun i hi => ?_, fun i j hi hj he => ?_, fun i hi => ?_, fun i hi => ?_, fun i hi => ?_⟩, MJ_N h.2 (fun k _ _ _ _ h5 => h1s k h5) (fun l _ => by rw [hw.2 10 (by decide)]) (fun a _ => by rw [hw.2 25 (by decide), hw.2 26 (by decide)]; exact ⟨rfl, rfl⟩) (hw.2 8 (by decide)) (hw.2 33 (by decide)) (fun c hc => by rw [hw.2 41 (by decide)] at hc; exact hc)⟩
    · rw [cA] at hi
      rw [fA, c5]
      exact h.1.ap hi
    · rw [cA] at hi hj
      rw [fA] at he
      exact h.1.2.2.2.1 i j hi hj he
    · rw [cH] at hi
      rw [fH, c5]
      exact h.1.ha hi
    · rw [hsz] at hi
      rw [hv i hi]
      exact nar_c (Nat.lt_of_lt_of_le (hc i hi) (by decide))
    · rw [c5] at hi
      rw [hw.2 25 (by decide)]
      exact h.1.pt hi
  · exact h.e _
theorem mst_26 (p : Nat × Sg) (x y : Nat) : (mst p x).2.2 26 y = if y = x then 0 else p.2.2 26 y := by
  show (harP (menA p.2 x) x).2 26 y = _
  rw [harP_V]
  show (if (26 : Nat) = 26 ∧ y = x then (0 : Int32) else if (26 : Nat) = 25 ∧ y = x then 0 else (dropS p.2 x).2 26 y) = _
  by_cases h : y = x
  · rw [if_pos ⟨rfl, h⟩, if_pos h]
  · rw [if_neg (fun z => h z.2), if_neg (fun z => absurd z.1 (by decide)), if_neg h, dropS_V]
theorem mf_26 : ∀ (M : List Nat) (p : Nat × Sg) (y : Nat), (M.foldl mst p).2.2 26 y = if y ∈ M then 0 else p.2.2 26 y
  | [], _, y => by simp
  | x :: M, p, y => by
    rw [List.foldl_cons, mf_26 M (mst p x) y, mst_26]
    by_cases h1 : y ∈ M <;> by_cases h2 : y = x <;> simp [h1, h2]
theorem rev_41 (σ : Sg) : ∀ n c, (revL σ n).2 41 c = 0 → σ.2 41 c = 0
  | 0, _, h => h
  | n + 1, c, h => by
    have h' : (if (41 : Nat) = 41 ∧ c = n then bI (!(decide ((revL σ n).2 41 n = 0)) || !(enoS (revL σ n) n (nLe (revL σ n)))) else (revL σ n).2 41 c) = 0 := h
    by_cases hc : c = n
    · rw [if_pos ⟨rfl, hc⟩] at h'
      refine rev_41 σ n c ?_
      rw [hc]
      cases hd : decide ((revL σ n).2 41 n = 0) with
      | true => exact of_decide_eq_true hd
      | false =>
        rw [hd] at h'
        exact absurd h' (by simp [bI])
    · rw [if_neg (fun z => hc z.2)] at h'
      exact rev_41 σ n c h'
theorem pr_mend {σ : Sg} (h : Qs σ) (u f a : Int32) : Qs (fMend σ u f a).2 := by
  unfold fMend
  split
  · rename_i h1
    split
    · split
      · exact h.e _
      · have hb := h.1.1.1
        obtain ⟨e, he, rfl⟩ := (okP_ix (by omega)).mp h1
        rw [ix_nI (by omega)]
        obtain ⟨τ, hτ⟩ : ∃ τ, τ = (men2 σ e f a).2 := ⟨_, rfl⟩
        rw [← hτ]
        show Qs (revL τ (nCe σ))
        have hτ' : τ = (menF (men1 σ e f a) (anL (men1 σ e f a) e)).2 := by rw [hτ, anL_m1, menF_m1]
        have hN := me_N hτ'
        have h1s := me_1 hτ'
        have hr1 := revL_1 τ (nCe σ)
        have c5 : nAn (revL τ (nCe σ)) = nAn σ := (congrFun (congrFun hr1 19) 0).trans (congrFun (hN.s (k := 19) (by decide)) 0)
        have c5' : nAn τ = nAn σ := congrFun (hN.s (k := 19) (by decide)) 0
        have cA : nAp (revL τ (nCe σ)) = nAp τ := congrFun (congrFun hr1 27) 0
        have fA : app (revL τ (nCe σ)) = app τ := congrFun hr1 28
        have cH : nHa (revL τ (nCe σ)) = nHa τ := congrFun (congrFun hr1 29) 0
        have fH : har (revL τ (nCe σ)) = har τ := congrFun hr1 30
        have cz : nSz (revL τ (nCe σ)) = nSz σ := (congrFun (congrFun hr1 43) 0).trans (congrFun (h1s 43 (by decide) (by decide) (by decide) (by decide)) 0)
        have hn := h.1.2.1
        obtain ⟨k1, k2, k3, k4⟩ := menL_I (men1 σ e f a) e rfl (nAn σ)
        rw [show (menL (men1 σ e f a) e (nAn σ)).2 = τ from hτ.symm] at k1 k2 k3 k4
        have cA1 : nAp (men1 σ e f a) = nAp σ := congrFun (m1_1 (by decide)) 0
        have fA1 : app (men1 σ e f a) = app σ := m1_1 (by decide)
        have v : ∀ k, k ≠ 25 → k ≠ 26 → k ≠ 13 → k ≠ 14 → k ≠ 10 → k ≠ 31 → τ.2 k = σ.2 k := fun k q1 q2 q3 q4 q5 q6 => (me_V hτ' q1 q2).trans (m1_V q3 q4 q5 q6)
        have v25 : ∀ x, τ.2 25 x = if x ∈ anL (men1 σ e f a) e then 0 else σ.2 25 x := fun x => by
          rw [hτ']
          unfold menF
          rw [mf_25]
          rw [show ((0, men1 σ e f a) : Nat × Sg).2.2 25 x = σ.2 25 x from congrFun (m1_V (by decide) (by decide) (by decide) (by decide)) x]
        have v26 : ∀ x, τ.2 26 x = if x ∈ anL (men1 σ e f a) e then 0 else σ.2 26 x := fun x => by
          rw [hτ']
          unfold menF
          rw [mf_26]
          rw [show ((0, men1 σ e f a) : Nat × Sg).2.2 26 x = σ.2 26 x from congrFun (m1_V (by decide) (by decide) (by decide) (by decide)) x]
        have hout : ∀ x, nAn σ ≤ x → x ∉ anL (men1 σ e f a) e := fun x hx z => by
          rw [anL_m1] at z
          have := (anL_mem z).1
          omega
        have R : ∀ k, k ≠ 41 → (revL τ (nCe σ)).2 k = τ.2 k := fun k hk => revL_V τ hk _
        have hles : les σ e < nLe σ := (h.1.1.ex he).1
        refine ⟨⟨((revL_N τ (nCe σ)).tr hN).mi h.1.1, ⟨by omega, by omega, by omega⟩, fun i hi => ?_, ?_, fun i hi => ?_, fun i hi => ?_, fun i hi => ?_⟩, MJ_N h.2 (fun k q1 q2 q3 q4 _ => (congrFun hr1 k).trans (h1s k q1 q2 q3 q4)) (fun l hl => ?_) (fun x hx => ?_) ?_ ?_ (fun c hc => ?_)⟩
        · rw [cA] at hi
          rw [fA, c5]
          obtain ⟨j, hj, ej⟩ := k2 i hi
          rw [ej, fA1]
          exact h.1.ap (by omega)
        · rw [cA, fA]
          exact app_nd (by rw [me_app hτ']; exact (nd_app h.1.2.2.2.1).filter _)
        · rw [cH] at hi
          rw [fH, c5]
          exact k4 i hi
        · rw [cz] at hi
          rw [R 42 (by decide), v 42 (by decide) (by decide) (by decide) (by decide) (by decide) (by decide)]
          exact h.1.ln hi
        · rw [c5] at hi
          rw [R 25 (by decide), v25]
          split
          · exact ⟨0, by omega, rfl⟩
          · exact h.1.pt hi
        · rw [R 10 (by decide), me_V hτ' (by decide) (by decide)]
          show (if (10 : Nat) = 10 ∧ l = les σ e then _ else if (10 : Nat) = 14 ∧ l = e then a else if (10 : Nat) = 13 ∧ l = e then f else (befL σ e (nAn σ)).2 10 l) = _
          rw [if_neg (fun z => by have := z.2; omega), if_neg (fun z => absurd z.1 (by decide)), if_neg (fun z => absurd z.1 (by decide)), befL_V σ e (by decide)]
        · rw [R 25 (by decide), R 26 (by decide), v25, v26, if_neg (hout x hx), if_neg (hout x hx)]
          exact ⟨rfl, rfl⟩
        · rw [R 8 (by decide), v 8 (by decide) (by decide) (by decide) (by decide) (by decide) (by decide)]
        · rw [R 33 (by decide), v 33 (by decide) (by decide) (by decide) (by decide) (by decide) (by decide)]
        · have := rev_41 τ _ c hc
          rw [v 41 (by decide) (by decide) (by decide) (by decide) (by decide) (by decide)] at this
          exact this
    · exact h.e _
  · exact h.e _
