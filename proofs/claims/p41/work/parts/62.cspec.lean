/-! ===== what the class's own methods answer, and that it is the reference's ===== -/
theorem cw_lsn {G : GT} {g : CG} {A : Nat → Prop} {ad : I2 → Nat} {σ : Sg} {L : Nat → List I2} {H : Heap} (F : cwL G g A ad σ L H) {k n : Nat} (h : lsB σ k) (hn : (L k).length = n) : va_at G.1 vwCl (ad (1, k), LO (g.2.1 k) (lrow G g ad k) n) H := hn ▸ cw_ls F h
theorem cl_n {g : CG} {σ : Sg} {L : Nat → List I2} (hC : CLL g σ L) {k n : Nat} (h : lsB σ k) (hn : (L k).length = n) : n ≤ g.1 k := hn ▸ (hC k h).1
theorem cl_q {g : CG} {σ : Sg} {L : Nat → List I2} (hC : CLL g σ L) {k : Nat} (h : lsB σ k) : g.1 k < 2 ^ 31 := Nat.lt_of_le_of_lt (hC k h).2 (by decide)
theorem c_getR (l : Launch) (G : GT) (a : Nat) (x : Int32) (d n q : Nat) (f : Nat → Option Nat) (j : Nat) (hj : j < n) (hn : n ≤ q) (hq : q < 2 ^ 31) {y : Nat} (hy : f j = some y) : rM l yJx4a65c_get_915e3 cJx4a65c_get_915e3 2 ((Option.some (FieldType.object "java/lang/Object"))) 2 G [.ref a, .int (nI j)] (fun H => va_at G.1 vwCl (a, LO x d n) H ∧ va_at G.1 vwCl (d, LA G q f) H) (some (.ref y)) := by
  have h := c_Jx4a65c_get_915e3 l G a x d n q f j hj hn hq
  rw [hy] at h
  exact h
theorem cw_inj {G : GT} {g : CG} {A : Nat → Prop} {ad : I2 → Nat} {σ : Sg} {L : Nat → List I2} {H : Heap} (F : cwL G g A ad σ L H) {k i j : Nat} (hi : cLv g σ (k, i)) (hj : cLv g σ (k, j)) (h : some (ad (k, i)) = some (ad (k, j))) : i = j := congrArg Prod.snd (fw.inj F hi hj (Option.some.inj h))
theorem app_get {σ : Sg} {x : Nat} (h : x < nAp σ) : (lstN σ 7)[x]? = some (7, app σ x) := by
  show ((List.range (nAp σ)).map (fun x => ((7, app σ x) : I2)))[x]? = _
  rw [List.getElem?_map, List.getElem?_range h]
  rfl
theorem har_get {σ : Sg} {x : Nat} (h : x < nHa σ) : (lstN σ 8)[x]? = some (7, har σ x) := by
  show ((List.range (nHa σ)).map (fun x => ((7, har σ x) : I2)))[x]? = _
  rw [List.getElem?_map, List.getElem?_range h]
  rfl
theorem exL_at {σ : Sg} {l i : Nat} (h : i < (exL σ l).length) : ∃ y, (exL σ l)[i]? = some y ∧ y < nEx σ ∧ les σ y = l := ⟨_, List.getElem?_eq_getElem h, exL_mem (List.getElem_mem h)⟩
theorem anL_at {σ : Sg} {e i : Nat} (h : i < (anL σ e).length) : ∃ y, (anL σ e)[i]? = some y ∧ y < nAn σ ∧ exe σ y = e := ⟨_, List.getElem?_eq_getElem h, anL_mem (List.getElem_mem h)⟩
theorem exL_get {σ : Sg} {l i y : Nat} (hl : l < 8) (h : (exL σ l)[i]? = some y) : (lstN σ (9 + l))[i]? = some (6, y) := by
  rw [lst_le σ hl, List.getElem?_map, h]
  rfl
theorem anL_get {σ : Sg} {e i y : Nat} (h : (anL σ e)[i]? = some y) : (lstN σ (17 + e))[i]? = some (7, y) := by
  rw [lst_ex, List.getElem?_map, h]
  rfl
theorem exL_n {σ : Sg} {l : Nat} (hl : l < 8) : (lstN σ (9 + l)).length = (exL σ l).length := by
  rw [lst_le σ hl, List.length_map]
theorem anL_n {σ : Sg} {e : Nat} : (lstN σ (17 + e)).length = (anL σ e).length := by
  rw [lst_ex, List.length_map]
theorem take_s {L : List Nat} {i y : Nat} (h : L[i]? = some y) : L.take (i + 1) = L.take i ++ [y] := by
  rw [List.take_succ, h]
  rfl
/-! credits and grades -/
def sumR (σ : Sg) (f a : Int32) (e : Nat) : Nat → Int32
  | 0 => 0
  | k + 1 => sumR σ f a e k + credR σ f a e k
theorem sumR_S (σ : Sg) (a : Nat) : ∀ k, sumR σ (σ.2 22 a) (σ.2 23 a) (exe σ a) k = sumS σ a k
  | 0 => rfl
  | k + 1 => by
    simp only [sumR, sumS, sumR_S σ a k]
    rfl
def gradR0 (σ : Sg) (f a : Int32) (e : Nat) (p : Int32) : Int32 := (if allS σ e (cas σ e) = 0 then 0 else 100 * sumR σ f a e (cas σ e) / nI (allS σ e (cas σ e))) + p
def gradR (σ : Sg) (f a : Int32) (e : Nat) (p : Int32) : Int32 := if gradR0 σ f a e p < 100 then gradR0 σ f a e p else 100
theorem le_of_nlt {a b : Int32} (h : ¬ a < b) : b ≤ a := by
  rw [Int32.le_iff_toInt_le]
  rw [Int32.lt_iff_toInt_lt] at h
  omega
theorem grade_R {σ : Sg} (h : MI0 σ) {a : Nat} (ha : a < nAn σ) : gradR σ (σ.2 22 a) (σ.2 23 a) (exe σ a) (σ.2 25 a) = grade σ a := by
  have h1 := allS_b h (h.an ha).2.1 _ (Nat.le_refl _)
  have h2 := (h.an ha).2.2
  have e1 : gradR0 σ (σ.2 22 a) (σ.2 23 a) (exe σ a) (σ.2 25 a) = grade0 σ a := by
    unfold gradR0 grade0
    rw [if_neg (by omega), sumR_S]
  unfold gradR grade
  rw [e1]
  by_cases h3 : grade0 σ a < 100
  · rw [if_pos h3, if_pos]
    rw [Int32.le_iff_toInt_le]
    rw [Int32.lt_iff_toInt_lt] at h3
    omega
  · rw [if_neg h3]
    split
    · rename_i h4
      apply Int32.toInt_inj.mp
      rw [Int32.le_iff_toInt_le] at h4
      rw [Int32.lt_iff_toInt_lt] at h3
      omega
    · rfl
theorem gap_abs (F D f a i : Int32) : (F * i + D) - (f * i + a) = (F - f) * i + D - a := by
  grind
theorem gap_R (σ : Sg) (f a : Int32) (e k : Nat) : (if 0 ≤ (σ.2 13 e * σ.2 17 (6 * e + k) + σ.2 14 e) - (f * σ.2 17 (6 * e + k) + a) then (σ.2 13 e * σ.2 17 (6 * e + k) + σ.2 14 e) - (f * σ.2 17 (6 * e + k) + a) else 0 - ((σ.2 13 e * σ.2 17 (6 * e + k) + σ.2 14 e) - (f * σ.2 17 (6 * e + k) + a))) = gapS σ f a e k := by
  rw [gap_abs]
  unfold gapS moreS
  split
  · rfl
  · exact Int32.zero_sub _
theorem inpF_in {σ : Sg} {e k : Nat} (h : k < cas σ e) : inpF σ e k = σ.2 17 (6 * e + k) := if_pos h
theorem weiF_in {σ : Sg} {e k : Nat} (h : k < cas σ e) : weiF σ e k = nI (wei σ (6 * e + k)) := if_pos h
def worV (σ : Sg) (e : Nat) (dA gr on : Int32) : Int32 := if 0 < gr - σ.2 9 (les σ e) * (on - dA) then gr - σ.2 9 (les σ e) * (on - dA) else 0
theorem worth_V (σ : Sg) (a : Nat) (on : Int32) : worV σ (exe σ a) (σ.2 24 a) (grade σ a) on = worth σ a on := by
  unfold worV worth worth0
  by_cases h : 0 < grade σ a - σ.2 9 (les σ (exe σ a)) * (on - σ.2 24 a)
  · rw [if_pos h, if_neg]
    intro z
    rw [Int32.le_iff_toInt_le] at z
    rw [Int32.lt_iff_toInt_lt] at h
    omega
  · rw [if_neg h, if_pos (le_of_nlt h)]
theorem worth_p (σ : Sg) (a : Nat) (on : Int32) : ¬ worth σ a on < 0 := by
  unfold worth
  split
  · decide
  · rename_i h
    intro z
    apply h
    rw [Int32.le_iff_toInt_le]
    rw [Int32.lt_iff_toInt_lt] at z
    omega
/-! the best answer, over an exercise's own list -/
def bstep (σ : Sg) (st : Nat) (on : Int32) (mA : Nat) (o : Option Nat) (a : Nat) : Option Nat := if stu σ a = st ∧ a < mA then (match o with
  | none => some a
  | some b => if worth σ a on ≤ worth σ b on then some b else some a) else o
def bestL (σ : Sg) (st : Nat) (on : Int32) (mA : Nat) (L : List Nat) : Option Nat := L.foldl (bstep σ st on mA) none
def oM (σ : Sg) (on : Int32) (o : Option Nat) : Int32 := match o with
  | none => -1
  | some b => worth σ b on
theorem bestL_s {σ : Sg} {st : Nat} {on : Int32} {mA : Nat} {L : List Nat} {i y : Nat} (h : L[i]? = some y) : bestL σ st on mA (L.take (i + 1)) = bstep σ st on mA (bestL σ st on mA (L.take i)) y := by
  unfold bestL
  rw [take_s h, List.foldl_append]
  rfl
theorem bestL_n (σ : Sg) (st e : Nat) (on : Int32) (mA : Nat) : ∀ n, bestL σ st on mA ((List.range n).filter (fun a => decide (exe σ a = e))) = bestS σ st e on (min n mA)
  | 0 => by
    rw [Nat.zero_min]
    rfl
  | n + 1 => by
    have ih := bestL_n σ st e on mA n
    rw [List.range_succ, List.filter_append]
    unfold bestL at ih ⊢
    rw [List.foldl_append, ih]
    by_cases he : exe σ n = e
    · rw [List.filter_cons_of_pos (by simpa using he)]
      show bstep σ st on mA (bestS σ st e on (min n mA)) n = _
      unfold bstep
      by_cases hm : n < mA
      · rw [show min (n + 1) mA = n + 1 by omega, show min n mA = n by omega]
        simp only [bestS, he, hm, and_true]
        rfl
      · rw [show min (n + 1) mA = min n mA by omega, if_neg (fun z => hm z.2)]
    · rw [List.filter_cons_of_neg (by simpa using he)]
      show bestS σ st e on (min n mA) = _
      by_cases hm : n < mA
      · rw [show min (n + 1) mA = n + 1 by omega, show min n mA = n by omega]
        simp only [bestS]
        rw [if_neg (fun z => he z.2)]
      · rw [show min (n + 1) mA = min n mA by omega]
theorem bestL_S {σ : Sg} {st e : Nat} {on : Int32} {mA : Nat} (h : mA ≤ nAn σ) : bestL σ st on mA (anL σ e) = bestS σ st e on mA := by
  have := bestL_n σ st e on mA (nAn σ)
  rw [show min (nAn σ) mA = mA by omega] at this
  exact this
theorem bestL_m {σ : Sg} {st : Nat} {on : Int32} {mA b : Nat} : ∀ {L : List Nat} {o : Option Nat}, L.foldl (bstep σ st on mA) o = some b → (∃ o', o = some o' ∧ o' = b) ∨ b ∈ L
  | [], o, h => Or.inl ⟨b, h, rfl⟩
  | x :: L, o, h => by
    rcases bestL_m (L := L) h with ⟨o', h1, h2⟩ | h1
    · subst h2
      unfold bstep at h1
      split at h1
      · split at h1
        · exact Or.inr (by cases h1; exact List.mem_cons_self)
        · split at h1
          · exact Or.inl ⟨_, rfl, by cases h1; rfl⟩
          · exact Or.inr (by cases h1; exact List.mem_cons_self)
      · exact Or.inl ⟨_, h1, rfl⟩
    · exact Or.inr (List.mem_cons_of_mem _ h1)
/-! a mastery, over a lesson's own list -/
def mstep (σ : Sg) (st : Nat) (on : Int32) (mE mA : Nat) (o : Int32 × Nat) (e : Nat) : Int32 × Nat := if e < mE then (o.1 + oW σ on (bestS σ st e on mA), o.2 + 1) else o
def masL (σ : Sg) (st : Nat) (on : Int32) (mE mA : Nat) (L : List Nat) : Int32 × Nat := L.foldl (mstep σ st on mE mA) (0, 0)
theorem masL_s {σ : Sg} {st : Nat} {on : Int32} {mE mA : Nat} {L : List Nat} {i y : Nat} (h : L[i]? = some y) : masL σ st on mE mA (L.take (i + 1)) = mstep σ st on mE mA (masL σ st on mE mA (L.take i)) y := by
  unfold masL
  rw [take_s h, List.foldl_append]
  rfl
theorem masL_n (σ : Sg) (st l : Nat) (on : Int32) (mE mA : Nat) : ∀ n, masL σ st on mE mA ((List.range n).filter (fun e => decide (les σ e = l))) = (masT σ st l on mA (min n mE), masN σ l (min n mE))
  | 0 => by
    rw [Nat.zero_min]
    rfl
  | n + 1 => by
    have ih := masL_n σ st l on mE mA n
    rw [List.range_succ, List.filter_append]
    unfold masL at ih ⊢
    rw [List.foldl_append, ih]
    by_cases he : les σ n = l
    · rw [List.filter_cons_of_pos (by simpa using he)]
      show mstep σ st on mE mA (masT σ st l on mA (min n mE), masN σ l (min n mE)) n = _
      unfold mstep
      by_cases hm : n < mE
      · rw [show min (n + 1) mE = n + 1 by omega, show min n mE = n by omega, if_pos hm]
        simp only [masT, masN, he, if_true]
      · rw [show min (n + 1) mE = min n mE by omega, if_neg hm]
    · rw [List.filter_cons_of_neg (by simpa using he)]
      show (masT σ st l on mA (min n mE), masN σ l (min n mE)) = _
      by_cases hm : n < mE
      · rw [show min (n + 1) mE = n + 1 by omega, show min n mE = n by omega]
        simp only [masT, masN, he, if_false]
      · rw [show min (n + 1) mE = min n mE by omega]
theorem masL_S {σ : Sg} {st l : Nat} {on : Int32} {mE mA : Nat} (h : mE ≤ nEx σ) : masL σ st on mE mA (exL σ l) = (masT σ st l on mA mE, masN σ l mE) := by
  have := masL_n σ st l on mE mA (nEx σ)
  rw [show min (nEx σ) mE = mE by omega] at this
  exact this
theorem masL_b (σ : Sg) (st : Nat) (on : Int32) (mE mA : Nat) (L : List Nat) : (masL σ st on mE mA L).2 ≤ L.length := by
  have : ∀ (L : List Nat) (o : Int32 × Nat), (L.foldl (mstep σ st on mE mA) o).2 ≤ o.2 + L.length := by
    intro L
    induction L with
    | nil => intro o; exact Nat.le_refl _
    | cons x L ih =>
      intro o
      have h1 := ih (mstep σ st on mE mA o x)
      have h2 : (mstep σ st on mE mA o x).2 ≤ o.2 + 1 := by
        unfold mstep
        split <;> simp
      simp only [List.foldl_cons, List.length_cons]
      omega
  have := this L (0, 0)
  simpa [masL] using this
/-! the worth by rules -/
theorem bw_s {σ : Sg} {st e : Nat} {on : Int32} {k : Nat} (h : stu σ k = st ∧ exe σ k = e) : oW σ on (bestS σ st e on (k + 1)) = if oW σ on (bestS σ st e on k) < worth σ k on then worth σ k on else oW σ on (bestS σ st e on k) := by
  simp only [bestS]
  rw [if_pos h]
  cases hb : bestS σ st e on k with
  | none =>
    show worth σ k on = if (0 : Int32) < worth σ k on then worth σ k on else 0
    split
    · rfl
    · rename_i h1
      have h2 := worth_p σ k on
      apply Int32.toInt_inj.mp
      rw [Int32.lt_iff_toInt_lt] at h1 h2
      omega
  | some b =>
    show oW σ on (if worth σ k on ≤ worth σ b on then some b else some k) = if worth σ b on < worth σ k on then worth σ k on else worth σ b on
    by_cases h1 : worth σ k on ≤ worth σ b on
    · rw [if_pos h1, if_neg]
      · rfl
      · intro z
        rw [Int32.le_iff_toInt_le] at h1
        rw [Int32.lt_iff_toInt_lt] at z
        omega
    · rw [if_neg h1, if_pos]
      · rfl
      · rw [Int32.lt_iff_toInt_lt]
        rw [Int32.le_iff_toInt_le] at h1
        omega
theorem bw_n {σ : Sg} {st e : Nat} {on : Int32} {k : Nat} (h : ¬ (stu σ k = st ∧ exe σ k = e)) : bestS σ st e on (k + 1) = bestS σ st e on k := by
  simp only [bestS]
  rw [if_neg h]
/-! masteries that are enough -/
def bitU (s : Int32) (i : Nat) : Bool := decide ((Int32.toUInt32 s >>> (Int32.toUInt32 (nI i) &&& Int32.toUInt32 31)).toInt32 &&& 1 = 1)
def hasS (σ : Sg) (st : Nat) (sum least on : Int32) (mE mA : Nat) : Nat → Bool
  | 0 => true
  | l + 1 => hasS σ st sum least on mE mA l && (!(bitU sum l) || decide (¬ masBy σ st l on mE mA < least))
theorem hasS_m {σ : Sg} {st : Nat} {sum least on : Int32} {mE mA i n : Nat} (hi : i < n) (h1 : bitU sum i = true) (h2 : masBy σ st i on mE mA < least) : hasS σ st sum least on mE mA n = false := by
  induction n with
  | zero => omega
  | succ n ih =>
    simp only [hasS]
    rcases Nat.lt_or_ge i n with q | q
    · rw [ih q]
      rfl
    · have : i = n := by omega
      subst this
      simp [h1, h2]
/-! certificates -/
theorem stdS_some {σ : Sg} {st r : Nat} {c : Nat} : ∀ {n : Nat}, stdS σ st r n = some c → c < n ∧ hol σ c = st ∧ cou σ c = r ∧ σ.2 41 c = 0
  | 0, h => by cases h
  | n + 1, h => by
    simp only [stdS] at h
    split at h
    · rename_i h1
      cases h
      exact ⟨Nat.lt_succ_self _, h1⟩
    · have := stdS_some h
      exact ⟨Nat.lt_succ_of_lt this.1, this.2⟩
theorem stdS_none {σ : Sg} {st r : Nat} : ∀ {n : Nat}, (∀ c, c < n → ¬ (hol σ c = st ∧ cou σ c = r ∧ σ.2 41 c = 0)) → stdS σ st r n = none
  | 0, _ => rfl
  | n + 1, h => by
    simp only [stdS]
    rw [if_neg (h n (Nat.lt_succ_self n))]
    exact stdS_none (fun c hc => h c (Nat.lt_succ_of_lt hc))
/-- at most one stands of a student's for a course -/
def oneS (σ : Sg) : Prop := ∀ c d, c < nCe σ → d < nCe σ → hol σ c = hol σ d → cou σ c = cou σ d → σ.2 41 c = 0 → σ.2 41 d = 0 → c = d
theorem stdS_one {σ : Sg} (h : oneS σ) {st r c : Nat} (hc : c < nCe σ) (h1 : hol σ c = st ∧ cou σ c = r ∧ σ.2 41 c = 0) : stdS σ st r (nCe σ) = some c := by
  cases hs : stdS σ st r (nCe σ) with
  | none =>
    exfalso
    have : ∀ n, c < n → stdS σ st r n ≠ none := by
      intro n
      induction n with
      | zero => intro h; omega
      | succ n ih =>
        intro hn
        simp only [stdS]
        split
        · intro z; cases z
        · rename_i h2
          rcases Nat.lt_or_ge c n with q | q
          · exact ih q
          · have : c = n := by omega
            subst this
            exact absurd h1 h2
    exact this _ hc hs
  | some d =>
    obtain ⟨d1, d2, d3, d4⟩ := stdS_some hs
    exact congrArg some (h d c d1 hc (d2.trans h1.1.symm) (d3.trans h1.2.1.symm) d4 h1.2.2)
def stnS (σ : Sg) : Nat → Nat
  | 0 => 0
  | c + 1 => stnS σ c + (decide (σ.2 41 c = 0)).toNat
theorem stn_rev (σ : Sg) : ∀ n, stnS σ n + revS σ n = n
  | 0 => rfl
  | n + 1 => by
    have := stn_rev σ n
    simp only [stnS, revS]
    by_cases h : σ.2 41 n = 0 <;> simp [h] <;> omega
theorem worth_m1 {σ : Sg} {a : Nat} {on : Int32} : ¬ worth σ a on ≤ -1 := by
  intro z
  have h := worth_p σ a on
  rw [Int32.le_iff_toInt_le] at z
  rw [Int32.lt_iff_toInt_lt] at h
  have h1 : (-1 : Int32).toInt = -1 := by decide
  have h2 : (0 : Int32).toInt = 0 := by decide
  omega
theorem masL_bt (σ : Sg) (st : Nat) (on : Int32) (mE mA : Nat) (L : List Nat) (i : Nat) : (masL σ st on mE mA (L.take i)).2 ≤ i := Nat.le_trans (masL_b σ st on mE mA (L.take i)) (List.length_take_le i L)
def areU (x : Int32) (n : Nat) : Bool := decide ((Int32.toUInt32 x >>> (Int32.toUInt32 (nI n) &&& Int32.toUInt32 31)).toInt32 = 0)
theorem lt_of_nle {a b : Int32} (h : ¬ a ≤ b) : b < a := by
  rw [Int32.le_iff_toInt_le] at h
  rw [Int32.lt_iff_toInt_lt]
  omega
