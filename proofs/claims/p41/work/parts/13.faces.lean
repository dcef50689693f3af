/-! ===== the calls of the face: the answer and the state behind it; place 0 of the state: which exception, 0 for none ===== -/
def err (σ : Sg) (k : Nat) : Int32 × Sg := (0, sN σ 0 0 k)
def ix (v : Int32) : Nat := v.toNatClampNeg
def okP (v : Int32) (n : Nat) : Bool := inB v 0 (nI n - 1)
theorem okP_ix {v : Int32} {n : Nat} (hn : n < 2 ^ 31) : okP v n = true ↔ ∃ j, j < n ∧ v = nI j := inB_ix hn
theorem ix_nI {j : Nat} (h : j < 2 ^ 31) : ix (nI j) = j := nI_clamp h
def fAddCohort (σ : Sg) (a b : Int32) : Int32 × Sg := if (inB a 0 999 && inB b a 999) = true then (if nCo σ = 4 then err σ 2 else (nI (nCo σ), sN (sV (sV σ 3 (nCo σ) a) 4 (nCo σ) b) 2 0 (nCo σ + 1))) else err σ 1
def fAddStudent (σ : Sg) (v : Int32) : Int32 × Sg := if okP v (nCo σ) = true then (if nSt σ = 8 then err σ 2 else (nI (nSt σ), sN (sN σ 6 (nSt σ) (ix v)) 5 0 (nSt σ + 1))) else err σ 1
def fAddLesson (σ : Sg) (n d : Int32) : Int32 × Sg := if (inB n 0 ((1 <<< (nI (nLe σ) &&& 31)) - 1) && inB d 0 9) = true then (if nLe σ = 8 then err σ 2 else (nI (nLe σ), sN (sV (sV σ 8 (nLe σ) n) 9 (nLe σ) d) 7 0 (nLe σ + 1))) else err σ 1
def fAddExercise (σ : Sg) (l f a g : Int32) : Int32 × Sg := if okP l (nLe σ) = true then (if (isR f a && inB g 0 2) = true then (if nEx σ = 12 then err σ 3 else (nI (nEx σ), sN (sV (sV (sV (sN σ 12 (nEx σ) (ix l)) 13 (nEx σ) f) 14 (nEx σ) a) 15 (nEx σ) g) 11 0 (nEx σ + 1))) else err σ 2) else err σ 1
def fAddCase (σ : Sg) (e i w : Int32) : Int32 × Sg := if okP e (nEx σ) = true then (if (inB i 0 99 && inB w 1 9) = true then (if cas σ (ix e) = 6 ∨ ansS σ (ix e) (nAn σ) = true then err σ 3 else (nI (cas σ (ix e) + 1), sN (sN (sV σ 17 (6 * ix e + cas σ (ix e)) i) 18 (6 * ix e + cas σ (ix e)) (ix w)) 16 (ix e) (cas σ (ix e) + 1))) else err σ 2) else err σ 1
def fVersionOf (σ : Sg) (l : Int32) : Int32 × Sg := if okP l (nLe σ) = true then (σ.2 10 (ix l), σ) else err σ 1
def fOpenLessons (σ : Sg) (s : Int32) : Int32 × Sg := if okP s (nSt σ) = true then (nI (opnS σ (ix s) (nLe σ)), σ) else err σ 1
def fReason (σ : Sg) (s e : Int32) : Int32 × Sg := if (okP s (nSt σ) && okP e (nEx σ)) = true then (whyS σ (ix s) (ix e), σ) else err σ 1
def fAnswer (σ : Sg) (s e f a : Int32) : Int32 × Sg := if (okP s (nSt σ) && okP e (nEx σ)) = true then (if isR f a = true then (if whyS σ (ix s) (ix e) = 45 then (if nAn σ = 100 then err σ 4 else (nI (nAn σ), sN (sV (sV (sV (sN (sN σ 20 (nAn σ) (ix s)) 21 (nAn σ) (ix e)) 22 (nAn σ) f) 23 (nAn σ) a) 24 (nAn σ) (dayV σ)) 19 0 (nAn σ + 1))) else err σ 3) else err σ 2) else err σ 1
def fAnswerCount (σ : Sg) : Int32 × Sg := (nI (nAn σ), σ)
def fGradeOf (σ : Sg) (a : Int32) : Int32 × Sg := if okP a (nAn σ) = true then (grade σ (ix a), σ) else err σ 1
def fCreditOf (σ : Sg) (a k : Int32) : Int32 × Sg := if okP a (nAn σ) = true then (if okP k (cas σ (exe σ (ix a))) = true then (cred σ (ix a) (ix k), σ) else err σ 2) else err σ 1
def fStudentOf (σ : Sg) (a : Int32) : Int32 × Sg := if okP a (nAn σ) = true then (nI (stu σ (ix a)), σ) else err σ 1
def fDayOf (σ : Sg) (a : Int32) : Int32 × Sg := if okP a (nAn σ) = true then (σ.2 24 (ix a), σ) else err σ 1
def fBestAnswer (σ : Sg) (s e : Int32) : Int32 × Sg := if (okP s (nSt σ) && okP e (nEx σ)) = true then (match bestS σ (ix s) (ix e) (dayV σ) (nAn σ) with
  | none => err σ 2
  | some b => (nI b, σ)) else err σ 1
def fMastery (σ : Sg) (s l : Int32) : Int32 × Sg := if (okP s (nSt σ) && okP l (nLe σ)) = true then (masNow σ (ix s) (ix l), σ) else err σ 1
def fAppeal (σ : Sg) (a : Int32) : Int32 × Sg := if okP a (nAn σ) = true then (if waitS σ (ix a) (nAp σ) = true ∨ ¬ σ.2 26 (ix a) = 0 then err σ 2 else (nI (nAp σ + 1), sN (sN σ 28 (nAp σ) (ix a)) 27 0 (nAp σ + 1))) else err σ 1
def fWithdraw (σ : Sg) (a : Int32) : Int32 × Sg := if okP a (nAn σ) = true then (if waitS σ (ix a) (nAp σ) = true then (nI (nAp (dropS σ (ix a))), dropS σ (ix a)) else err σ 2) else err σ 1
def fDecide (σ : Sg) (p : Int32) : Int32 × Sg := if inB p 0 100 = true then (if nAp σ = 0 then err σ 2 else (nI (app σ 0), sV (sV (dropS σ (app σ 0)) 25 (app σ 0) p) 26 (app σ 0) 1)) else err σ 1
def fAppealCount (σ : Sg) : Int32 × Sg := (nI (nAp σ), σ)
def fAppealAt (σ : Sg) (q : Int32) : Int32 × Sg := if okP q (nAp σ) = true then (nI (app σ (ix q)), σ) else err σ 1
/-- a mend, step by step: the grades before, the new rule, each answer graded anew and put among the harmed, the certificates -/
def befL (σ : Sg) (e : Nat) : Nat → Sg
  | 0 => σ
  | k + 1 => sV (befL σ e k) 31 k (if exe σ k = e then grade (befL σ e k) k else 0)
/-- the walk to the place of answer k among the harmed, from place at down -/
def harD (τ : Sg) (k : Nat) (at_ : Nat) : Nat × Sg := match at_ with
  | 0 => (0, τ)
  | j + 1 => if grade τ (har τ j) - τ.2 31 (har τ j) ≤ grade τ k - τ.2 31 k then (j + 1, τ) else harD (sN τ 30 (j + 1) (har τ j)) k j
def harP (τ : Sg) (k : Nat) : Sg := sN (sN (harD τ k (nHa τ)).2 30 (harD τ k (nHa τ)).1 k) 29 0 (nHa τ + 1)
def menA (τ : Sg) (k : Nat) : Sg := sV (sV (dropS τ k) 25 k 0) 26 k 0
def menL (σ : Sg) (e : Nat) : Nat → Nat × Sg
  | 0 => (0, σ)
  | k + 1 => if exe σ k = e then ((menL σ e k).1 + (decide (¬ grade (menA (menL σ e k).2 k) k = (menA (menL σ e k).2 k).2 31 k)).toNat, harP (menA (menL σ e k).2 k) k) else menL σ e k
def revL (σ : Sg) : Nat → Sg
  | 0 => σ
  | c + 1 => sV (revL σ c) 41 c (bI (!(decide ((revL σ c).2 41 c = 0)) || !(enoS (revL σ c) c (nLe (revL σ c)))))
def men1 (σ : Sg) (e : Nat) (f a : Int32) : Sg := sN (sV (sV (sV (befL σ e (nAn σ)) 13 e f) 14 e a) 10 (les σ e) (σ.2 10 (les σ e) + 1)) 29 0 0
def men2 (σ : Sg) (e : Nat) (f a : Int32) : Nat × Sg := menL (men1 σ e f a) e (nAn σ)
def fMend (σ : Sg) (e f a : Int32) : Int32 × Sg := if okP e (nEx σ) = true then (if isR f a = true then (if σ.2 13 (ix e) = f ∧ σ.2 14 (ix e) = a then err σ 3 else (nI (men2 σ (ix e) f a).1, revL (men2 σ (ix e) f a).2 (nCe σ))) else err σ 2) else err σ 1
def fHarmedCount (σ : Sg) : Int32 × Sg := (nI (nHa σ), σ)
def fHarmedAt (σ : Sg) (q : Int32) : Int32 × Sg := if okP q (nHa σ) = true then (nI (har σ (ix q)), σ) else err σ 1
def fAddCourse (σ : Sg) (n d : Int32) : Int32 × Sg := if (inB n 1 ((1 <<< (nI (nLe σ) &&& 31)) - 1) && inB d 1 100) = true then (if nCr σ = 4 then err σ 2 else (nI (nCr σ), sN (sV (sV σ 33 (nCr σ) n) 34 (nCr σ) d) 32 0 (nCr σ + 1))) else err σ 1
def issS (σ : Sg) (s c : Nat) : Sg := sV (sN (sN (sV (sN (sN σ 36 (nCe σ) s) 37 (nCe σ) c) 38 (nCe σ) (dayV σ)) 39 (nCe σ) (nEx σ)) 40 (nCe σ) (nAn σ)) 41 (nCe σ) 0
def fIssue (σ : Sg) (s c : Int32) : Int32 × Sg := if (okP s (nSt σ) && okP c (nCr σ)) = true then (if ¬ stdS σ (ix s) (ix c) (nCe σ) = none ∨ nCe σ = 30 then err σ 2 else (if enoS (issS σ (ix s) (ix c)) (nCe σ) (nLe (issS σ (ix s) (ix c))) = true then (nI (nCe σ), sN (issS σ (ix s) (ix c)) 35 0 (nCe σ + 1)) else err (issS σ (ix s) (ix c)) 3)) else err σ 1
def fDoesStand (σ : Sg) (c : Int32) : Int32 × Sg := if okP c (nCe σ) = true then (bI (decide (σ.2 41 (ix c) = 0)), σ) else err σ 1
def fCertificateOf (σ : Sg) (s c : Int32) : Int32 × Sg := if (okP s (nSt σ) && okP c (nCr σ)) = true then (match stdS σ (ix s) (ix c) (nCe σ) with
  | none => err σ 2
  | some b => (nI b, σ)) else err σ 1
def fRevoked (σ : Sg) : Int32 × Sg := (nI (revS σ (nCe σ)), σ)
def fPass (σ : Sg) (d : Int32) : Int32 × Sg := if inB d 1 99 = true then (if dayV σ + d ≤ 999 then (dayV σ + d, sV σ 1 0 (dayV σ + d)) else err σ 2) else err σ 1
def fToday (σ : Sg) : Int32 × Sg := (dayV σ, σ)
def fIsConsistent (σ : Sg) : Int32 × Sg := (1, σ)
def graSum (σ : Sg) : Nat → Int32
  | 0 => 0
  | a + 1 => graSum σ a + grade σ a
def graN (σ : Sg) (a : Nat) : Nat := (grade σ a).toNatClampNeg
def lineS (σ : Sg) (a : Nat) : List Nat := tAns ++ decS a ++ tCol ++ decS (graN σ a) ++ (if grade σ a < 50 then tFai else tPas) ++ (if σ.2 25 a ≤ 0 then [] else tBy ++ decS (ix (σ.2 25 a)))
def fWriteAnswer (σ : Sg) (a : Int32) : Int32 × Sg := if okP a (nAn σ) = true then (nI (lineS σ (ix a)).length, putL (sN σ 43 0 0) (lineS σ (ix a))) else err σ 1
def fLineAt (σ : Sg) (q : Int32) : Int32 × Sg := if okP q (nSz σ) = true then (σ.2 42 (ix q), σ) else err σ 1
theorem MI_iss {σ : Sg} (h : MI0 σ) (s c : Nat) : MI0 (issS σ s c) := by
  obtain ⟨h1, h2, h3, h4, h8⟩ := h
  refine ⟨h1, h2, h3, h4, fun i hi => ?_⟩
  have hi' : i < nCe σ := hi
  have hne : i ≠ nCe σ := by omega
  have h9 := h8 i hi'
  have e1 : hol (issS σ s c) i = hol σ i := by simp [hol, issS, sN, sV, hne]
  have e2 : cou (issS σ s c) i = cou σ i := by simp [cou, issS, sN, sV, hne]
  have e3 : eTh (issS σ s c) i = eTh σ i := by simp [eTh, issS, sN, sV, hne]
  have e4 : aTh (issS σ s c) i = aTh σ i := by simp [aTh, issS, sN, sV, hne]
  rw [e1, e2, e3, e4]
  exact h9
theorem inB_w {w : Int32} (h : inB w 1 9 = true) : ∃ j, 1 ≤ j ∧ j ≤ 9 ∧ w = nI j := by
  unfold inB at h
  rw [decide_eq_true_eq] at h
  obtain ⟨h1, h2⟩ := h
  have h0 : ¬ w < 0 := fun z => h1 (Int32.lt_iff_toInt_lt.mpr (by
    have a1 := Int32.lt_iff_toInt_lt.mp z
    have a2 : (0 : Int32).toInt = 0 := by decide
    have a3 : (1 : Int32).toInt = 1 := by decide
    omega))
  obtain ⟨j, hj, rfl⟩ := nI_of h0
  refine ⟨j, ?_, ?_, rfl⟩
  · rcases Nat.lt_or_ge j 1 with q | q
    · exact absurd (show nI j < nI 1 from nI_lt q (by omega)) h1
    · exact q
  · rcases Nat.lt_or_ge 9 j with q | q
    · exact absurd (show nI 9 < nI j from nI_lt q (by omega)) h2
    · exact q
theorem dropS_n (σ : Sg) (a : Nat) : nAp (dropS σ a) = (dropL σ a (nAp σ)).1 := by simp [dropS, nAp, sN]
theorem lin_nar {x : Int32} (h : vp_nar .char x = x) : narrow .char (.int x) = .int x := by
  rw [vp_nar_char] at h
  have : narrow .char (.int x) = .int x.toUInt32.toUInt16.toUInt32.toInt32 := rfl
  rw [this, h]
theorem ph : ∀ (n k : Nat) (f : Nat → Nat), (∀ i, i < k → f i < n) → (∀ i j, i < k → j < k → f i = f j → i = j) → k ≤ n
  | 0, k, f, h1, h2 => by
    rcases Nat.eq_zero_or_pos k with h | h
    · omega
    · exact absurd (h1 0 h) (by omega)
  | n + 1, 0, f, h1, h2 => Nat.zero_le _
  | n + 1, k + 1, f, h1, h2 => by
    have hk := h1 k (by omega)
    have hne : ∀ i, i < k → f i ≠ f k := fun i hi z => by
      have := h2 i k (by omega) (by omega) z
      omega
    have := ph n k (fun i => if f k < f i then f i - 1 else f i) (fun i hi => by
      have a1 := h1 i (by omega)
      have a2 := hne i hi
      show (if f k < f i then f i - 1 else f i) < n
      split <;> omega) (fun i j hi hj hq => by
      have a1 := hne i hi
      have a2 := hne j hj
      apply h2 i j (by omega) (by omega)
      have hq' : (if f k < f i then f i - 1 else f i) = (if f k < f j then f j - 1 else f j) := hq
      split at hq' <;> split at hq' <;> omega)
    omega
theorem waitS_no {σ : Sg} {a : Nat} : ∀ {k : Nat}, waitS σ a k = false → ∀ i, i < k → app σ i ≠ a
  | 0, _, i, hi => absurd hi (by omega)
  | k + 1, h, i, hi => by
    simp only [waitS, Bool.or_eq_false_iff, decide_eq_false_iff_not] at h
    rcases Nat.lt_or_ge i k with q | q
    · exact waitS_no h.1 i q
    · rw [show i = k by omega]
      exact h.2
/-- who is not waiting has room among the waiting -/
theorem app_room {σ : Sg} (hI : MI σ) {a : Nat} (ha : a < nAn σ) (h : waitS σ a (nAp σ) = false) : nAp σ < nAn σ := by
  have hn := waitS_no h
  have := ph (nAn σ) (nAp σ + 1) (fun i => if i = nAp σ then a else app σ i) (fun i hi => by
    show (if i = nAp σ then a else app σ i) < nAn σ
    split
    · exact ha
    · exact hI.ap (by omega)) (fun i j hi hj hq => by
    have hq' : (if i = nAp σ then a else app σ i) = (if j = nAp σ then a else app σ j) := hq
    split at hq'
    · split at hq'
      · omega
      · exact absurd hq'.symm (hn j (by omega))
    · split at hq'
      · exact absurd hq' (hn i (by omega))
      · exact hI.2.2.2.1 i j (by omega) (by omega) hq')
  omega
