/-! ===== what the reference answers, as functions of its state ===== -/
/-- ranges: of what a call does not change on its way -/
def MI0 (σ : Sg) : Prop :=
  (nCo σ ≤ 4 ∧ nSt σ ≤ 8 ∧ nLe σ ≤ 8 ∧ nEx σ ≤ 12 ∧ nAn σ ≤ 100 ∧ nCr σ ≤ 4 ∧ nCe σ ≤ 30) ∧
  (∀ i, i < nSt σ → coh σ i < nCo σ) ∧
  (∀ i, i < nEx σ → les σ i < nLe σ ∧ cas σ i ≤ 6 ∧ ∀ k, k < cas σ i → 1 ≤ wei σ (6 * i + k) ∧ wei σ (6 * i + k) ≤ 9) ∧
  (∀ i, i < nAn σ → stu σ i < nSt σ ∧ exe σ i < nEx σ ∧ 1 ≤ cas σ (exe σ i)) ∧
  (∀ i, i < nCe σ → hol σ i < nSt σ ∧ cou σ i < nCr σ ∧ eTh σ i ≤ nEx σ ∧ aTh σ i ≤ nAn σ)
/-- and of the lists, and the line -/
def MI (σ : Sg) : Prop := MI0 σ ∧ (nAp σ ≤ nAn σ ∧ nHa σ ≤ nAn σ ∧ nSz σ ≤ 60) ∧
  (∀ i, i < nAp σ → app σ i < nAn σ) ∧
  (∀ i j, i < nAp σ → j < nAp σ → app σ i = app σ j → i = j) ∧
  (∀ i, i < nHa σ → har σ i < nAn σ) ∧
  (∀ i, i < nSz σ → vp_nar .char (σ.2 42 i) = σ.2 42 i) ∧
  (∀ i, i < nAn σ → ∃ q, q ≤ 100 ∧ σ.2 25 i = nI q)
def inB (v lo hi : Int32) : Bool := decide (¬ v < lo ∧ ¬ hi < v)
def isR (f a : Int32) : Bool := inB f (-9) 9 && inB a (-99) 99
def ansS (σ : Sg) (e : Nat) : Nat → Bool
  | 0 => false
  | k + 1 => ansS σ e k || decide (exe σ k = e)
def moreS (σ : Sg) (f a : Int32) (e k : Nat) : Int32 := (σ.2 13 e - f) * σ.2 17 (6 * e + k) + σ.2 14 e - a
def gapS (σ : Sg) (f a : Int32) (e k : Nat) : Int32 := if 0 ≤ moreS σ f a e k then moreS σ f a e k else -moreS σ f a e k
def credR (σ : Sg) (f a : Int32) (e k : Nat) : Int32 :=
  if gapS σ f a e k = 0 then nI (wei σ (6 * e + k))
  else if σ.2 15 e = 1 ∧ ¬ 2 < gapS σ f a e k then nI (wei σ (6 * e + k)) / 2
  else if σ.2 15 e = 2 ∧ ¬ 9 < gapS σ f a e k then nI (2 * wei σ (6 * e + k)) / 3
  else 0
def cred (σ : Sg) (a k : Nat) : Int32 := credR σ (σ.2 22 a) (σ.2 23 a) (exe σ a) k
def allS (σ : Sg) (e : Nat) : Nat → Nat
  | 0 => 0
  | k + 1 => allS σ e k + wei σ (6 * e + k)
def sumS (σ : Sg) (a : Nat) : Nat → Int32
  | 0 => 0
  | k + 1 => sumS σ a k + cred σ a k
def grade0 (σ : Sg) (a : Nat) : Int32 := 100 * sumS σ a (cas σ (exe σ a)) / nI (allS σ (exe σ a) (cas σ (exe σ a))) + σ.2 25 a
def grade (σ : Sg) (a : Nat) : Int32 := if grade0 σ a ≤ 100 then grade0 σ a else 100
def worth0 (σ : Sg) (a : Nat) (on : Int32) : Int32 := grade σ a - σ.2 9 (les σ (exe σ a)) * (on - σ.2 24 a)
def worth (σ : Sg) (a : Nat) (on : Int32) : Int32 := if worth0 σ a on ≤ 0 then 0 else worth0 σ a on
def bestS (σ : Sg) (st e : Nat) (on : Int32) : Nat → Option Nat
  | 0 => none
  | k + 1 => if stu σ k = st ∧ exe σ k = e then (match bestS σ st e on k with
      | none => some k
      | some b => if worth σ k on ≤ worth σ b on then some b else some k) else bestS σ st e on k
def oI (o : Option Nat) : Int32 := match o with
  | none => -1
  | some b => nI b
def oW (σ : Sg) (on : Int32) (o : Option Nat) : Int32 := match o with
  | none => 0
  | some b => worth σ b on
def masN (σ : Sg) (l : Nat) : Nat → Nat
  | 0 => 0
  | e + 1 => if les σ e = l then masN σ l e + 1 else masN σ l e
def masT (σ : Sg) (st l : Nat) (on : Int32) (mA : Nat) : Nat → Int32
  | 0 => 0
  | e + 1 => if les σ e = l then masT σ st l on mA e + oW σ on (bestS σ st e on mA) else masT σ st l on mA e
def masBy (σ : Sg) (st l : Nat) (on : Int32) (mE mA : Nat) : Int32 := if masN σ l mE = 0 then 100 else masT σ st l on mA mE / nI (masN σ l mE)
def masNow (σ : Sg) (st l : Nat) : Int32 := masBy σ st l (dayV σ) (nEx σ) (nAn σ)
def needB (σ : Sg) (l k : Nat) : Int32 := (σ.2 8 l >>> (nI k &&& 31)) &&& 1
def openS (σ : Sg) (st l : Nat) : Nat → Bool
  | 0 => true
  | k + 1 => openS σ st l k && (decide (needB σ l k = 0) || decide (¬ masNow σ st k < 50))
def opnS (σ : Sg) (st : Nat) : Nat → Nat
  | 0 => 0
  | l + 1 => opnS σ st l + (openS σ st l l).toNat
def whyS (σ : Sg) (st e : Nat) : Int32 :=
  if inB (dayV σ) (σ.2 3 (coh σ st)) (σ.2 4 (coh σ st)) = false then 100
  else if cas σ e = 0 then 99 else if openS σ st (les σ e) (les σ e) = true then 45 else 112
def waitS (σ : Sg) (a : Nat) : Nat → Bool
  | 0 => false
  | k + 1 => waitS σ a k || decide (app σ k = a)
def hasB (σ : Sg) (c l : Nat) : Int32 := (σ.2 33 (cou σ c) >>> (nI l &&& 31)) &&& 1
def enoS (σ : Sg) (c : Nat) : Nat → Bool
  | 0 => true
  | l + 1 => enoS σ c l && (!(decide (hasB σ c l = 1)) || decide (¬ masBy σ (hol σ c) l (σ.2 38 c) (eTh σ c) (aTh σ c) < σ.2 34 (cou σ c)))
def stdS (σ : Sg) (st r : Nat) : Nat → Option Nat
  | 0 => none
  | c + 1 => if hol σ c = st ∧ cou σ c = r ∧ σ.2 41 c = 0 then some c else stdS σ st r c
def revS (σ : Sg) : Nat → Nat
  | 0 => 0
  | c + 1 => revS σ c + (decide (¬ σ.2 41 c = 0)).toNat
/-! bounds -/
theorem MI0.st {σ : Sg} (h : MI0 σ) {i : Nat} (hi : i < nSt σ) : coh σ i < nCo σ := h.2.1 i hi
theorem MI0.ex {σ : Sg} (h : MI0 σ) {i : Nat} (hi : i < nEx σ) : les σ i < nLe σ ∧ cas σ i ≤ 6 := ⟨(h.2.2.1 i hi).1, (h.2.2.1 i hi).2.1⟩
theorem MI0.we {σ : Sg} (h : MI0 σ) {i k : Nat} (hi : i < nEx σ) (hk : k < cas σ i) : 1 ≤ wei σ (6 * i + k) ∧ wei σ (6 * i + k) ≤ 9 := (h.2.2.1 i hi).2.2 k hk
theorem MI0.an {σ : Sg} (h : MI0 σ) {i : Nat} (hi : i < nAn σ) : stu σ i < nSt σ ∧ exe σ i < nEx σ ∧ 1 ≤ cas σ (exe σ i) := h.2.2.2.1 i hi
theorem MI0.ce {σ : Sg} (h : MI0 σ) {i : Nat} (hi : i < nCe σ) : hol σ i < nSt σ ∧ cou σ i < nCr σ ∧ eTh σ i ≤ nEx σ ∧ aTh σ i ≤ nAn σ := h.2.2.2.2 i hi
theorem MI.ap {σ : Sg} (h : MI σ) {i : Nat} (hi : i < nAp σ) : app σ i < nAn σ := h.2.2.1 i hi
theorem MI.apb {σ : Sg} (h : MI σ) : ∀ i, i < nAp σ → app σ i < 2 ^ 31 := fun i hi => by
  have h1 := h.ap hi
  have h2 := h.1.1
  omega
theorem MI.ha {σ : Sg} (h : MI σ) {i : Nat} (hi : i < nHa σ) : har σ i < nAn σ := h.2.2.2.2.1 i hi
theorem MI.ln {σ : Sg} (h : MI σ) {i : Nat} (hi : i < nSz σ) : vp_nar .char (σ.2 42 i) = σ.2 42 i := h.2.2.2.2.2.1 i hi
theorem MI.pt {σ : Sg} (h : MI σ) {i : Nat} (hi : i < nAn σ) : ∃ q, q ≤ 100 ∧ σ.2 25 i = nI q := h.2.2.2.2.2.2 i hi
theorem nI_m1 {n : Nat} (h : n < 2 ^ 31) : ¬ nI n = -1 := fun z => nI_pos h (by rw [z]; decide)
theorem allS_b {σ : Sg} (h : MI0 σ) {e : Nat} (he : e < nEx σ) : ∀ k, k ≤ cas σ e → k ≤ allS σ e k ∧ allS σ e k ≤ 9 * k
  | 0, _ => ⟨Nat.le_refl 0, Nat.le_refl 0⟩
  | k + 1, hk => by
    have h1 := allS_b h he k (by omega)
    have h2 := h.we he (k := k) (by omega)
    simp only [allS]
    omega
theorem nI_nz {n : Nat} (h0 : 0 < n) (h : n < 2 ^ 31) : ¬ nI n = 0 := fun z => by
  have := (nI_eq h (by decide)).mp (show nI n = nI 0 from z)
  omega
theorem allS_nz {σ : Sg} (h : MI0 σ) {a : Nat} (ha : a < nAn σ) : ¬ nI (allS σ (exe σ a) (cas σ (exe σ a))) = 0 := by
  have h1 := allS_b h (h.an ha).2.1 _ (Nat.le_refl _)
  have h2 := (h.an ha).2.2
  have h3 := (h.ex (h.an ha).2.1).2
  exact nI_nz (by omega) (by omega)
theorem masN_b (σ : Sg) (l : Nat) : ∀ e, masN σ l e ≤ e
  | 0 => Nat.le_refl 0
  | e + 1 => by
    have := masN_b σ l e
    simp only [masN]
    split <;> omega
theorem bestS_b {σ : Sg} {st e : Nat} {on : Int32} : ∀ {k b : Nat}, bestS σ st e on k = some b → b < k
  | 0, b, h => by cases h
  | k + 1, b, h => by
    simp only [bestS] at h
    split at h
    · split at h
      · cases h; omega
      · rename_i b' hb'
        have := bestS_b hb'
        split at h <;> cases h <;> omega
    · have := bestS_b h
      omega
theorem stdS_b {σ : Sg} {st r : Nat} : ∀ {k b : Nat}, stdS σ st r k = some b → b < k
  | 0, b, h => by cases h
  | k + 1, b, h => by
    simp only [stdS] at h
    split at h
    · cases h; omega
    · have := stdS_b h
      omega
theorem opnS_b (σ : Sg) (st : Nat) : ∀ l, opnS σ st l ≤ l
  | 0 => Nat.le_refl 0
  | l + 1 => by
    have := opnS_b σ st l
    simp only [opnS]
    cases openS σ st l l <;> simp <;> omega
theorem revS_b (σ : Sg) : ∀ l, revS σ l ≤ l
  | 0 => Nat.le_refl 0
  | l + 1 => by
    have := revS_b σ l
    simp only [revS]
    cases h : decide (¬ σ.2 41 l = 0) <;> simp <;> omega
/-- a number in the range of places is a place -/
theorem inB_ix {v : Int32} {n : Nat} (hn : n < 2 ^ 31) : inB v 0 (nI n - 1) = true ↔ ∃ j, j < n ∧ v = nI j := by
  unfold inB
  rw [decide_eq_true_eq]
  constructor
  · rintro ⟨h1, h2⟩
    rcases Nat.eq_zero_or_pos n with h0 | h0
    · subst h0
      exfalso
      obtain ⟨j, hj, rfl⟩ := nI_of h1
      apply h2
      have e1 : nI 0 - 1 = -1 := by decide
      rw [e1]
      rw [Int32.lt_iff_toInt_lt, nI_toInt hj]
      have : (-1 : Int32).toInt = -1 := by decide
      rw [this]
      omega
    · obtain ⟨j, hj, rfl⟩ := nI_of h1
      refine ⟨j, ?_, rfl⟩
      have e1 : nI n - 1 = nI (n - 1) := by
        have := pk_sub (a := n) (b := 1) h0
        exact this
      rw [e1] at h2
      rcases Nat.lt_or_ge j n with q | q
      · exact q
      · exact absurd (nI_lt (show n - 1 < j by omega) hj) h2
  · rintro ⟨j, hj, rfl⟩
    refine ⟨nI_pos (by omega), ?_⟩
    have e1 : nI n - 1 = nI (n - 1) := by
      have := pk_sub (a := n) (b := 1) (by omega)
      exact this
    rw [e1]
    exact nI_nlt (by omega) (by omega)
theorem whyS_nar (σ : Sg) (st e : Nat) : narrow .char (.int (whyS σ st e)) = .int (whyS σ st e) := by
  unfold whyS
  split
  · decide
  · split
    · decide
    · split <;> decide
