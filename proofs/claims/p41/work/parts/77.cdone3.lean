/-! ===== what calls leave, further ===== -/
theorem noAn {σ : Sg} {e a : Nat} (h : (anL σ e).length = 0) (ha : a < nAn σ) : ¬ exe σ a = e := fun z => by
  have h1 : a ∈ anL σ e := List.mem_filter.mpr ⟨List.mem_range.mpr ha, by simpa using z⟩
  rw [List.length_eq_zero_iff.mp h] at h1
  cases h1
theorem no_ans {σ : Sg} {e : Nat} (h : (anL σ e).length = 0) : ¬ ansS σ e (nAn σ) = true := fun z => by
  have h1 : 0 < (anL σ e).length := (ans_len (nAn σ)).mp z
  omega
theorem an_ans {σ : Sg} {e : Nat} (h : ¬ (anL σ e).length = 0) : ansS σ e (nAn σ) = true := (ans_len (nAn σ)).mpr (Nat.pos_of_ne_zero h)
theorem case_gr {σ : Sg} {ex w : Nat} {x : Int32} (hI0 : MI0 σ) (h6 : cas σ ex < 6) (h : (anL σ ex).length = 0) : ∀ a, a < nAn σ → grade (sN (sN (sV σ 17 (6 * ex + cas σ ex) x) 18 (6 * ex + cas σ ex) w) 16 ex (cas σ ex + 1)) a = grade σ a := by
  intro a ha
  have hne := noAn h ha
  have h9 := (hI0.ex (hI0.an ha).2.1).2
  refine grade_c rfl (sN_no (sN (sV σ 17 (6 * ex + cas σ ex) x) 18 (6 * ex + cas σ ex) w) _ hne) rfl rfl rfl rfl rfl rfl (fun k hk => ⟨?_, ?_⟩)
  · exact sN_no (sV σ 17 (6 * ex + cas σ ex) x) w (k := 18) (by omega)
  · exact sV_no σ x (k := 17) (by omega)
theorem grade_R2 {σ : Sg} {a : Nat} (h : ¬ allS σ (exe σ a) (cas σ (exe σ a)) = 0) : gradR σ (σ.2 22 a) (σ.2 23 a) (exe σ a) (σ.2 25 a) = grade σ a := by
  have e1 : gradR0 σ (σ.2 22 a) (σ.2 23 a) (exe σ a) (σ.2 25 a) = grade0 σ a := by
    unfold gradR0 grade0
    rw [if_neg h, sumR_S]
  unfold gradR grade
  rw [e1]
  by_cases h3 : grade0 σ a < 100
  · rw [if_pos h3, if_pos]
    rw [Int32.le_iff_toInt_le]
    rw [Int32.lt_iff_toInt_lt] at h3
    omega
  · rw [if_neg h3]
    split
    · rename_i h4
      apply Int32.toInt_inj.mp
      rw [Int32.le_iff_toInt_le] at h4
      rw [Int32.lt_iff_toInt_lt] at h3
      omega
    · rfl
theorem app_push {σ : Sg} {j : Nat} : lstN (sN (sN σ 28 (nAp σ) j) 27 0 (nAp σ + 1)) 7 = lstN σ 7 ++ [(7, j)] := by
  show (List.range (nAp σ + 1)).map (fun x => ((7, app (sN (sN σ 28 (nAp σ) j) 27 0 (nAp σ + 1)) x) : I2)) = (List.range (nAp σ)).map (fun x => ((7, app σ x) : I2)) ++ [(7, j)]
  rw [rng_s]
  congr 1
  · refine List.map_congr_left fun x hx => ?_
    have hne : ¬ x = nAp σ := by have := List.mem_range.mp hx; omega
    rw [show app (sN (sN σ 28 (nAp σ) j) 27 0 (nAp σ + 1)) x = app σ x from sN_no σ j hne]
  · rw [show app (sN (sN σ 28 (nAp σ) j) 27 0 (nAp σ + 1)) (nAp σ) = j from if_pos ⟨rfl, rfl⟩]
theorem sameC_ap (σ : Sg) (j n : Nat) : sameC σ (sN (sN σ 28 (nAp σ) j) 27 0 n) :=
  ⟨fun k _ h1 h2 _ _ => by funext y; show (if k = 27 ∧ y = 0 then _ else if k = 28 ∧ _ then _ else _) = _; rw [if_neg (fun z => h1 z.1), if_neg (fun z => h2 z.1)], fun _ _ _ => rfl⟩
theorem wait_push {σ : Sg} {j a : Nat} : waitS (sN (sN σ 28 (nAp σ) j) 27 0 (nAp σ + 1)) a (nAp σ + 1) = (waitS σ a (nAp σ) || decide (j = a)) := by
  simp only [waitS]
  rw [waitS_cr (τ := sN (sN σ 28 (nAp σ) j) 27 0 (nAp σ + 1)) (σ := σ) a (nAp σ) (fun k hk => sN_no σ j (k := 28) (by omega)), show app (sN (sN σ 28 (nAp σ) j) 27 0 (nAp σ + 1)) (nAp σ) = j from if_pos ⟨rfl, rfl⟩]
/-- an appeal is waiting -/
theorem CB_app {G : GT} {g g' : CG} {A : Nat → Prop} {ad : I2 → Nat} {σ : Sg} {L : Nat → List I2} {H : Heap} {b j : Nat} {fl : Int32} (hgr : ∀ a, a < nAn σ → g.2.2.1 0 a = grade σ a) (hwt : ∀ a, a < nAn σ → g.2.2.1 1 a = bI (waitS σ a (nAp σ))) (hsb : LI g σ) (hj : j < nAn σ) (hb : ad (0, 0) = b) (hL : ∀ k, lsB (sN (sN σ 28 (nAp σ) j) 27 0 (nAp σ + 1)) k → lstN (sN (sN σ 28 (nAp σ) j) 27 0 (nAp σ + 1)) k = L k) (hC : CLL g' (sN (sN σ 28 (nAp σ) j) 27 0 (nAp σ + 1)) L) (hg : g'.2.2 = (gAn g j (g.2.2.1 0 j) 1 fl).2.2) (F : cwL G g' A ad (sN (sN σ 28 (nAp σ) j) 27 0 (nAp σ + 1)) L H) : CB G A b (sN (sN σ 28 (nAp σ) j) 27 0 (nAp σ + 1)) H := by
  refine mkCB hb hL hC (fun a ha => ?_) (fun a ha => ?_) ?_ F
  · have ha' : a < nAn σ := ha
    rw [hg, grade_c (σ := σ) (τ := sN (sN σ 28 (nAp σ) j) 27 0 (nAp σ + 1)) rfl rfl rfl rfl rfl rfl rfl rfl (fun k hk => ⟨rfl, rfl⟩), ← hgr a ha']
    by_cases h : a = j
    · rw [h, gAn_g]
    · rw [gAn_no h]
  · have ha' : a < nAn σ := ha
    rw [hg, show nAp (sN (sN σ 28 (nAp σ) j) 27 0 (nAp σ + 1)) = nAp σ + 1 from rfl, wait_push]
    by_cases h : a = j
    · rw [h, gAn_w]
      simp [bI]
    · rw [gAn_no h, hwt a ha', show decide (j = a) = false from decide_eq_false (fun z => h z.symm), Bool.or_false]
  · unfold LI at hsb ⊢
    rw [hg]
    exact hsb
theorem gradR_e {τ σ : Sg} (h13 : τ.2 13 = σ.2 13) (h14 : τ.2 14 = σ.2 14) (h15 : τ.2 15 = σ.2 15) (h16 : cas τ = cas σ) (h17 : τ.2 17 = σ.2 17) (h18 : wei τ = wei σ) (f a : Int32) (e : Nat) (p : Int32) : gradR τ f a e p = gradR σ f a e p := by
  have e3 : ∀ k, sumR τ f a e k = sumR σ f a e k := fun k => by
    induction k with
    | zero => rfl
    | succ k ih =>
      simp only [sumR, ih]
      unfold credR gapS moreS
      rw [h13, h14, h15, h17, h18]
  unfold gradR gradR0
  rw [e3, allS_w h18, h16]
/-- an answer was given -/
theorem CB_ans {G : GT} {g g' : CG} {A : Nat → Prop} {ad : I2 → Nat} {σ τ : Sg} {L : Nat → List I2} {H : Heap} {b sx ex : Nat} {f a fl : Int32} (hI : MI σ) (hτ : τ = sN (sV (sV (sV (sN (sN σ 20 (nAn σ) sx) 21 (nAn σ) ex) 22 (nAn σ) f) 23 (nAn σ) a) 24 (nAn σ) (dayV σ)) 19 0 (nAn σ + 1)) (h25 : σ.2 25 (nAn σ) = 0) (hex : ex < nEx σ) (hcs : ¬ cas σ ex = 0) (hgr : ∀ a, a < nAn σ → g.2.2.1 0 a = grade σ a) (hwt : ∀ a, a < nAn σ → g.2.2.1 1 a = bI (waitS σ a (nAp σ))) (hsb : LI g σ) (hb : ad (0, 0) = b) (hL : ∀ k, lsB τ k → lstN τ k = L k) (hC : CLL g' τ L) (hg : g'.2.2 = (gAn g (nAn σ) (gradR σ f a ex 0) 0 fl).2.2) (F : cwL G g' A ad τ L H) : CB G A b τ H := by
  have tn : nAn τ = nAn σ + 1 := by rw [hτ]; rfl
  have tp : nAp τ = nAp σ := by rw [hτ]; rfl
  have tz : nSz τ = nSz σ := by rw [hτ]; rfl
  have ta : app τ = app σ := by rw [hτ]; rfl
  have tc : cas τ = cas σ := by rw [hτ]; rfl
  have tw : wei τ = wei σ := by rw [hτ]; rfl
  have t13 : τ.2 13 = σ.2 13 := by rw [hτ]; rfl
  have t14 : τ.2 14 = σ.2 14 := by rw [hτ]; rfl
  have t15 : τ.2 15 = σ.2 15 := by rw [hτ]; rfl
  have t17 : τ.2 17 = σ.2 17 := by rw [hτ]; rfl
  have t25 : τ.2 25 = σ.2 25 := by rw [hτ]; rfl
  have t42 : τ.2 42 = σ.2 42 := by rw [hτ]; rfl
  have te : exe τ (nAn σ) = ex := by rw [hτ]; exact if_pos ⟨rfl, rfl⟩
  have t22 : τ.2 22 (nAn σ) = f := by rw [hτ]; exact if_pos ⟨rfl, rfl⟩
  have t23 : τ.2 23 (nAn σ) = a := by rw [hτ]; exact if_pos ⟨rfl, rfl⟩
  have te' : ∀ x, ¬ x = nAn σ → exe τ x = exe σ x := fun x h => by rw [hτ]; exact if_neg (fun z => h z.2)
  have t22' : ∀ x, ¬ x = nAn σ → τ.2 22 x = σ.2 22 x := fun x h => by rw [hτ]; exact if_neg (fun z => h z.2)
  have t23' : ∀ x, ¬ x = nAn σ → τ.2 23 x = σ.2 23 x := fun x h => by rw [hτ]; exact if_neg (fun z => h z.2)
  refine mkCB hb hL hC (fun x hx => ?_) (fun x hx => ?_) ?_ F
  · by_cases h : x = nAn σ
    · subst h
      rw [hg, gAn_g]
      have h1 := allS_b hI.1 hex _ (Nat.le_refl _)
      have e2 := grade_R2 (σ := τ) (a := nAn σ) (by
        rw [te, tc, allS_w tw]
        omega)
      rw [← e2, te, t22, t23, t25, h25, gradR_e t13 t14 t15 tc t17 tw]
    · have hx9 : x < nAn σ := by omega
      rw [hg, gAn_no h, hgr x hx9]
      exact (grade_c (σ := σ) (te' x h) (by rw [tc]) (by rw [t13]) (by rw [t14]) (by rw [t15]) (t22' x h) (t23' x h) (by rw [t25]) (fun k hk => ⟨by rw [tw], by rw [t17]⟩)).symm
  · rw [hg, tp, waitS_c ta]
    by_cases h : x = nAn σ
    · subst h
      rw [gAn_w]
      have h1 : waitS σ (nAn σ) (nAp σ) = false := by
        have : ∀ n, n ≤ nAp σ → waitS σ (nAn σ) n = false := by
          intro n
          induction n with
          | zero => intro _; rfl
          | succ n ih =>
            intro hn
            have h2 := hI.ap (i := n) (by omega)
            simp only [waitS, ih (by omega), Bool.false_or, decide_eq_false_iff_not]
            omega
        exact this _ (Nat.le_refl _)
      rw [h1]
      rfl
    · rw [gAn_no h, hwt x (by omega)]
  · unfold LI at hsb ⊢
    rw [hg, tz, t42]
    exact hsb
theorem fw_drop {C : va_G} {lv : I2 → Prop} {ad : I2 → Nat} {en : I2 → va_E} {A : Nat → Prop} {H : Heap} {t : I2} {q : Nat} {E : va_E} (ht : ¬ lv t) (F : fw C (fun j => lv j ∨ j = t) (iup ad t q) (iup en t E) A H) : fw C lv ad en A H :=
  fw.sub F fun i hi => ⟨Or.inl hi, (iup_n _ _ (fun z => ht (by rw [← z]; exact hi))).symm, (iup_n _ _ (fun z => ht (by rw [← z]; exact hi))).symm⟩
/-- a certificate's numbers, before it counts -/
theorem iss_cw {G : GT} {g : CG} {A : Nat → Prop} {ad : I2 → Nat} {σ : Sg} {L : Nat → List I2} {H : Heap} (sx cx : Nat) (F : cwL G g A ad σ L H) : cwL G g A ad (issS σ sx cx) L H := by
  refine fw.sub F (cwAll ⟨rfl, rfl, rfl⟩ (fun k hk => ⟨hk, rfl, rfl⟩) (fun k hk h0 => ⟨⟨hk, h0⟩, rfl, rfl⟩) (fun i h => ⟨h, rfl, rfl⟩) (fun i h => ⟨h, rfl, rfl⟩) (fun i h => ⟨h, rfl, rfl⟩) (fun i h => ⟨h, rfl, eEx_w (ad := ad) (ad' := ad) (σ := σ) (τ := issS σ sx cx) (i := i) rfl rfl rfl rfl rfl rfl rfl rfl⟩) (fun i h => ⟨h, rfl, rfl⟩) (fun i h => ⟨h, rfl, rfl⟩) (fun i h => ?_) (fun i h => ?_) (fun i h => ⟨h, rfl, rfl⟩) (fun i h => ⟨h, rfl, rfl⟩) (fun i h => ⟨h, rfl, rfl⟩) (fun i h => ⟨h, rfl, rfl⟩) ⟨rfl, rfl, rfl⟩ ⟨rfl, rfl, rfl⟩)
  · have hi : i < nCe σ := h
    have hne : i ≠ nCe σ := by omega
    refine ⟨h, rfl, ?_⟩
    show (eCe ad (issS σ sx cx) i : va_E) = eCe ad σ i
    exact eCe_w (by rw [show hol (issS σ sx cx) i = hol σ i by simp [hol, issS, sN, sV, hne]]) (by rw [show cou (issS σ sx cx) i = cou σ i by simp [cou, issS, sN, sV, hne]]) rfl (by simp [issS, sN, sV, hne])
  · have hi : i < nCe σ := h
    have hne : i ≠ nCe σ := by omega
    refine ⟨h, rfl, ?_⟩
    show (eMo ((issS σ sx cx).2 38 i) (eTh (issS σ sx cx) i) (aTh (issS σ sx cx) i) : va_E) = eMo (σ.2 38 i) (eTh σ i) (aTh σ i)
    rw [show (issS σ sx cx).2 38 i = σ.2 38 i by simp [issS, sN, sV, hne], show eTh (issS σ sx cx) i = eTh σ i by simp [eTh, issS, sN, sV, hne], show aTh (issS σ sx cx) i = aTh σ i by simp [aTh, issS, sN, sV, hne]]
theorem iss_gr {σ : Sg} (sx cx a : Nat) : grade (issS σ sx cx) a = grade σ a := grade_c (σ := σ) rfl rfl rfl rfl rfl rfl rfl rfl (fun k hk => ⟨rfl, rfl⟩)
theorem iss_eno {σ : Sg} (hI0 : MI0 σ) {sx cx : Nat} {q : Nat} (hq : q < 2 ^ 31) (e : σ.2 33 cx = nI q) : hasS σ sx (σ.2 33 cx) (σ.2 34 cx) (dayV σ) (nEx σ) (nAn σ) (nLe σ) = enoS (issS σ sx cx) (nCe σ) (nLe (issS σ sx cx)) := by
  have h8 : nLe σ ≤ 8 := hI0.1.2.2.1
  have h1 := enough_n (σ := issS σ sx cx) (st := sx) (cr := cx) (on := dayV σ) (mE := nEx σ) (mA := nAn σ) (c := nCe σ) hq e (by simp [hol, issS, sN, sV]) (by simp [cou, issS, sN, sV]) (by simp [issS, sN, sV]) (by simp [eTh, issS, sN, sV]) (by simp [aTh, issS, sN, sV]) (nLe σ) (by omega)
  refine Eq.trans ?_ h1
  have hg : ∀ a, grade (issS σ sx cx) a = grade σ a := iss_gr sx cx
  have hw : ∀ a on, worth (issS σ sx cx) a on = worth σ a on := fun a on => by
    unfold worth worth0
    rw [hg]
    rfl
  have hb : ∀ e on k, bestS (issS σ sx cx) sx e on k = bestS σ sx e on k := fun e on k => by
    induction k with
    | zero => rfl
    | succ k ih =>
      simp only [bestS, ih, hw]
      rfl
  have hO : ∀ on o, oW (issS σ sx cx) on o = oW σ on o := fun on o => by
    cases o with
    | none => rfl
    | some b => exact hw b on
  have hT : ∀ l on mA k, masT (issS σ sx cx) sx l on mA k = masT σ sx l on mA k := fun l on mA k => by
    induction k with
    | zero => rfl
    | succ k ih =>
      simp only [masT, ih, hb, hO]
      rfl
  have hN : ∀ l k, masN (issS σ sx cx) l k = masN σ l k := fun l k => by
    induction k with
    | zero => rfl
    | succ k ih =>
      simp only [masN, ih]
      rfl
  have : ∀ n, hasS σ sx (σ.2 33 cx) (σ.2 34 cx) (dayV σ) (nEx σ) (nAn σ) n = hasS (issS σ sx cx) sx ((issS σ sx cx).2 33 cx) ((issS σ sx cx).2 34 cx) (dayV σ) (nEx σ) (nAn σ) n := fun n => by
    induction n with
    | zero => rfl
    | succ n ih =>
      simp only [hasS]
      rw [← ih]
      unfold masBy
      rw [hT, hN]
      rfl
  exact this _
theorem why_cs {σ : Sg} {st e : Nat} (h : whyS σ st e = 45) : ¬ cas σ e = 0 := by
  intro z
  unfold whyS at h
  rw [if_pos z] at h
  split at h
  · exact absurd h (by decide)
  · exact absurd h (by decide)
theorem CB_iss {G : GT} {g : CG} {A : Nat → Prop} {ad : I2 → Nat} {σ : Sg} {H : Heap} (sx cx : Nat) (hC : CL g σ) (hgr : ∀ a, a < nAn σ → g.2.2.1 0 a = grade σ a) (hwt : ∀ a, a < nAn σ → g.2.2.1 1 a = bI (waitS σ a (nAp σ))) (hsb : LI g σ) (F : cw G g A ad σ H) : CB G A (ad (0, 0)) (issS σ sx cx) H :=
  mkCB (σ := issS σ sx cx) (L := lstN σ) rfl (fun k hk => rfl) hC (fun a ha => (hgr a ha).trans (iss_gr sx cx a).symm) (fun a ha => (hwt a ha).trans (congrArg bI (waitS_c (τ := issS σ sx cx) (σ := σ) rfl a _).symm)) hsb (iss_cw sx cx F)
