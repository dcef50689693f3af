theorem pr_answer {σ : Sg} (h : Qs σ) (u v f a : Int32) : Qs (fAnswer σ u v f a).2 := by
  unfold fAnswer
  split
  · rename_i h1
    split
    · split
      · rename_i h3
        split
        · exact h.e _
        · rename_i h2
          obtain ⟨⟨⟨⟨b1, b2, b3, b4, b5, b6, b7⟩, m1, m2, m3, m4⟩, ⟨n1, n2, n3⟩, p1, p2, p3, p4, p5⟩, j1, j2, j3, j4⟩ := h
          obtain ⟨h11, h12⟩ := Bool.and_eq_true_iff.mp h1
          obtain ⟨s, hs, rfl⟩ := (okP_ix (by omega)).mp h11
          obtain ⟨e, he, rfl⟩ := (okP_ix (by omega)).mp h12
          rw [ix_nI (by omega), ix_nI (by omega)] at h3 ⊢
          have hcs := why_cs h3
          have ts : ∀ i, stu (sN (sV (sV (sV (sN (sN σ 20 (nAn σ) s) 21 (nAn σ) e) 22 (nAn σ) f) 23 (nAn σ) a) 24 (nAn σ) (dayV σ)) 19 0 (nAn σ + 1)) i = if i = nAn σ then s else stu σ i := fun i => by
            show (if (20 : Nat) = 20 ∧ i = nAn σ then s else stu σ i) = _
            by_cases hi : i = nAn σ
            · rw [if_pos ⟨rfl, hi⟩, if_pos hi]
            · rw [if_neg (fun z => hi z.2), if_neg hi]
          have te : ∀ i, exe (sN (sV (sV (sV (sN (sN σ 20 (nAn σ) s) 21 (nAn σ) e) 22 (nAn σ) f) 23 (nAn σ) a) 24 (nAn σ) (dayV σ)) 19 0 (nAn σ + 1)) i = if i = nAn σ then e else exe σ i := fun i => by
            show (if (21 : Nat) = 21 ∧ i = nAn σ then e else exe σ i) = _
            by_cases hi : i = nAn σ
            · rw [if_pos ⟨rfl, hi⟩, if_pos hi]
            · rw [if_neg (fun z => hi z.2), if_neg hi]
          refine ⟨⟨⟨⟨b1, b2, b3, b4, by show nAn σ + 1 ≤ 100; omega, b6, b7⟩, m1, m2, fun i hi => ?_, fun i hi => ⟨(m4 i hi).1, (m4 i hi).2.1, (m4 i hi).2.2.1, Nat.le_succ_of_le (m4 i hi).2.2.2⟩⟩, ⟨Nat.le_succ_of_le n1, Nat.le_succ_of_le n2, n3⟩, fun i hi => Nat.lt_succ_of_lt (p1 i hi), p2, fun i hi => Nat.lt_succ_of_lt (p3 i hi), p4, fun i hi => ?_⟩, j1, j2, fun x hx => j3 x (Nat.le_of_succ_le hx), j4⟩
          · have hi' : i < nAn σ + 1 := hi
            rw [ts, te]
            by_cases hq : i = nAn σ
            · rw [if_pos hq, if_pos hq]
              exact ⟨hs, he, by show 1 ≤ cas σ e; omega⟩
            · rw [if_neg hq, if_neg hq]
              exact m3 i (by omega)
          · have hi' : i < nAn σ + 1 := hi
            show ∃ q, q ≤ 100 ∧ σ.2 25 i = nI q
            by_cases hq : i = nAn σ
            · rw [hq, (j3 (nAn σ) (Nat.le_refl _)).1]
              exact ⟨0, by omega, rfl⟩
            · exact p5 i (by omega)
      · exact h.e _
    · exact h.e _
  · exact h.e _
theorem pr_appeal {σ : Sg} (h : Qs σ) (v : Int32) : Qs (fAppeal σ v).2 := by
  unfold fAppeal
  split
  · rename_i h1
    split
    · exact h.e _
    · rename_i h2
      have hI := h.1
      obtain ⟨⟨⟨⟨b1, b2, b3, b4, b5, b6, b7⟩, m1, m2, m3, m4⟩, ⟨n1, n2, n3⟩, p1, p2, p3, p4, p5⟩, j⟩ := h
      obtain ⟨x, hx, rfl⟩ := (okP_ix (by omega)).mp h1
      rw [ix_nI (by omega)] at h2 ⊢
      have hw : waitS σ x (nAp σ) = false := by
        cases hc : waitS σ x (nAp σ) with
        | false => rfl
        | true => exact absurd (Or.inl hc) h2
      have hr := app_room hI hx hw
      have hn := waitS_no hw
      have ta : ∀ i, app (sN (sN σ 28 (nAp σ) x) 27 0 (nAp σ + 1)) i = if i = nAp σ then x else app σ i := fun i => by
        show (if (28 : Nat) = 28 ∧ i = nAp σ then x else app σ i) = _
        by_cases hi : i = nAp σ
        · rw [if_pos ⟨rfl, hi⟩, if_pos hi]
        · rw [if_neg (fun z => hi z.2), if_neg hi]
      refine ⟨⟨⟨⟨b1, b2, b3, b4, b5, b6, b7⟩, m1, m2, m3, m4⟩, ⟨hr, n2, n3⟩, fun i hi => ?_, fun i k hi hk he => ?_, p3, p4, p5⟩, j⟩
      · have hi' : i < nAp σ + 1 := hi
        rw [ta]
        split
        · exact hx
        · exact p1 i (by omega)
      · have hi' : i < nAp σ + 1 := hi
        have hk' : k < nAp σ + 1 := hk
        rw [ta, ta] at he
        split at he
        · split at he
          · omega
          · exact absurd he.symm (hn k (by omega))
        · split at he
          · exact absurd he (hn i (by omega))
          · exact p2 i k (by omega) (by omega) he
  · exact h.e _
theorem nd_app {σ : Sg} (h : ∀ i j, i < nAp σ → j < nAp σ → app σ i = app σ j → i = j) : (appL σ).Nodup := by
  unfold appL
  exact List.pairwise_map.mpr (List.Pairwise.imp_of_mem (fun {a b} ha hb hne z => hne (h a b (List.mem_range.mp ha) (List.mem_range.mp hb) z)) List.nodup_range)
theorem app_nd {σ : Sg} (h : (appL σ).Nodup) : ∀ i j, i < nAp σ → j < nAp σ → app σ i = app σ j → i = j := by
  intro i j hi hj he
  have e1 : ∀ k, k < nAp σ → (appL σ)[k]? = some (app σ k) := fun k hk => by
    unfold appL
    rw [List.getElem?_map, List.getElem?_range hk]
    rfl
  exact (List.getElem?_inj (by unfold appL; simpa using hi) h).mp ((e1 i hi).trans ((congrArg some he).trans (e1 j hj).symm))
theorem pr_drop {σ : Sg} (hI : MI σ) (x : Nat) : MI (dropS σ x) := by
  have hN : eqN (dropS σ x) σ := (eqN.rf σ).drop x
  have c5 : nAn (dropS σ x) = nAn σ := congrFun (hN.s (k := 19) (by decide)) 0
  have cH : nHa (dropS σ x) = nHa σ := congrFun (dropS_1 σ x (b := 29) (by decide) (by decide)) 0
  have fH : har (dropS σ x) = har σ := dropS_1 σ x (b := 30) (by decide) (by decide)
  have cz : nSz (dropS σ x) = nSz σ := congrFun (dropS_1 σ x (b := 43) (by decide) (by decide)) 0
  have hle := dropS_le σ x
  have hn := hI.2.1
  refine ⟨hN.mi hI.1, ⟨by omega, by omega, by omega⟩, fun i hi => ?_, app_nd ?_, fun i hi => ?_, fun i hi => ?_, fun i hi => ?_⟩
  · obtain ⟨j, hj, ej, -⟩ := dropS_val σ x hi
    rw [ej, c5]
    exact hI.ap hj
  · rw [appL_drop]
    exact (nd_app hI.2.2.2.1).filter _
  · rw [cH] at hi
    rw [fH, c5]
    exact hI.ha hi
  · rw [cz] at hi
    rw [dropS_2]
    exact hI.ln hi
  · rw [c5] at hi
    rw [dropS_2]
    exact hI.pt hi
theorem MJ_N {σ τ : Sg} (h : MJ σ) (hN : ∀ k, k ≠ 27 → k ≠ 28 → k ≠ 29 → k ≠ 30 → k ≠ 43 → τ.1 k = σ.1 k) (h10 : ∀ l, nLe σ ≤ l → τ.2 10 l = σ.2 10 l) (h25 : ∀ a, nAn σ ≤ a → τ.2 25 a = σ.2 25 a ∧ τ.2 26 a = σ.2 26 a) (h8 : τ.2 8 = σ.2 8) (h33 : τ.2 33 = σ.2 33) (h41 : ∀ c, τ.2 41 c = 0 → σ.2 41 c = 0) : MJ τ := by
  obtain ⟨j1, j2, j3, j4, j5, j6⟩ := h
  have c3 : nLe τ = nLe σ := congrFun (hN 7 (by decide) (by decide) (by decide) (by decide) (by decide)) 0
  have c4 : nEx τ = nEx σ := congrFun (hN 11 (by decide) (by decide) (by decide) (by decide) (by decide)) 0
  have c5 : nAn τ = nAn σ := congrFun (hN 19 (by decide) (by decide) (by decide) (by decide) (by decide)) 0
  have c6 : nCr τ = nCr σ := congrFun (hN 32 (by decide) (by decide) (by decide) (by decide) (by decide)) 0
  have c7 : nCe τ = nCe σ := congrFun (hN 35 (by decide) (by decide) (by decide) (by decide) (by decide)) 0
  have f3 : cas τ = cas σ := hN 16 (by decide) (by decide) (by decide) (by decide) (by decide)
  have f7 : hol τ = hol σ := hN 36 (by decide) (by decide) (by decide) (by decide) (by decide)
  have f8 : cou τ = cou σ := hN 37 (by decide) (by decide) (by decide) (by decide) (by decide)
  refine ⟨fun e he => ?_, fun l hl => ?_, fun a ha => ?_, fun l hl => ?_, fun c hc => ?_, fun c d hc hd h1 h2 h3 h4 => ?_⟩
  · rw [f3]
    exact j1 e (by omega)
  · rw [h10 l (by omega)]
    exact j2 l (by omega)
  · rw [(h25 a (by omega)).1, (h25 a (by omega)).2]
    exact j3 a (by omega)
  · rw [h8]
    exact j4 l (by omega)
  · rw [h33]
    exact j5 c (by omega)
  · rw [f7] at h1
    rw [f8] at h2
    exact j6 c d (by omega) (by omega) h1 h2 (h41 c h3) (h41 d h4)
theorem pj_drop {σ : Sg} (h : MJ σ) (x : Nat) : MJ (dropS σ x) := MJ_N h (fun k h1 h2 _ _ _ => dropS_N σ x h1 h2) (fun l _ => by rw [dropS_2]) (fun a _ => by rw [dropS_2]; exact ⟨rfl, rfl⟩) (by rw [dropS_2]) (by rw [dropS_2]) (fun c hc => by rw [dropS_2] at hc; exact hc)
theorem pr_withdraw {σ : Sg} (h : Qs σ) (v : Int32) : Qs (fWithdraw σ v).2 := by
  unfold fWithdraw
  split
  · split
    · exact ⟨pr_drop h.1 _, pj_drop h.2 _⟩
    · exact h.e _
  · exact h.e _
theorem inB_p {w : Int32} (h : inB w 0 100 = true) : ∃ j, j ≤ 100 ∧ w = nI j := by
  unfold inB at h
  rw [decide_eq_true_eq] at h
  obtain ⟨h1, h2⟩ := h
  obtain ⟨j, hj, rfl⟩ := nI_of h1
  refine ⟨j, ?_, rfl⟩
  rcases Nat.lt_or_ge 100 j with q | q
  · exact absurd (show nI 100 < nI j from nI_lt q (by omega)) h2
  · exact q
theorem pr_decide {σ : Sg} (h : Qs σ) (p : Int32) : Qs (fDecide σ p).2 := by
  unfold fDecide
  split
  · rename_i h1
    split
    · exact h.e _
    · rename_i h2
      obtain ⟨q, hq, rfl⟩ := inB_p h1
      have hI2 := pr_drop h.1 (app σ 0)
      have hJ2 := pj_drop h.2 (app σ 0)
      have ha : app σ 0 < nAn σ := h.1.ap (by omega)
      have c5 : nAn (dropS σ (app σ 0)) = nAn σ := congrFun (dropS_1 σ (app σ 0) (b := 19) (by decide) (by decide)) 0
      obtain ⟨m0, n0, p1, p2, p3, p4, p5⟩ := hI2
      have t25 : ∀ x, (sV (sV (dropS σ (app σ 0)) 25 (app σ 0) (nI q)) 26 (app σ 0) 1).2 25 x = if x = app σ 0 then nI q else (dropS σ (app σ 0)).2 25 x := fun x => by
        show (if (25 : Nat) = 26 ∧ x = app σ 0 then (1 : Int32) else if (25 : Nat) = 25 ∧ x = app σ 0 then nI q else (dropS σ (app σ 0)).2 25 x) = _
        rw [if_neg (fun z => absurd z.1 (by decide))]
        by_cases hx : x = app σ 0
        · rw [if_pos ⟨rfl, hx⟩, if_pos hx]
        · rw [if_neg (fun z => hx z.2), if_neg hx]
      have t26 : ∀ x, (sV (sV (dropS σ (app σ 0)) 25 (app σ 0) (nI q)) 26 (app σ 0) 1).2 26 x = if x = app σ 0 then 1 else (dropS σ (app σ 0)).2 26 x := fun x => by
        show (if (26 : Nat) = 26 ∧ x = app σ 0 then (1 : Int32) else if (26 : Nat) = 25 ∧ x = app σ 0 then nI q else (dropS σ (app σ 0)).2 26 x) = _
        by_cases hx : x = app σ 0
        · rw [if_pos ⟨rfl, hx⟩, if_pos hx]
        · rw [if_neg (fun z => hx z.2), if_neg hx, if_neg (fun z => absurd z.1 (by decide))]
      refine ⟨⟨m0, n0, p1, p2, p3, p4, fun i hi => ?_⟩, MJ_N hJ2 (fun k _ _ _ _ _ => rfl) (fun l _ => rfl) (fun a ha' => ?_) rfl rfl (fun c hc => hc)⟩
      · rw [t25]
        split
        · exact ⟨q, hq, rfl⟩
        · exact p5 i hi
      · have hne : ¬ a = app σ 0 := by omega
        rw [t25, t26, if_neg hne, if_neg hne]
        exact ⟨rfl, rfl⟩
  · exact h.e _
