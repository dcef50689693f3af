/-! ===== the class's world between calls, and how it changes ===== -/
/-- what lies beyond the counts, and how the reference's numbers hang together -/
def MJ (σ : Sg) : Prop :=
  (∀ e, nEx σ ≤ e → cas σ e = 0) ∧ (∀ l, nLe σ ≤ l → σ.2 10 l = 0) ∧ (∀ a, nAn σ ≤ a → σ.2 25 a = 0 ∧ σ.2 26 a = 0) ∧
  (∀ l, l < nLe σ → ∃ q, q < 2 ^ l ∧ σ.2 8 l = nI q) ∧ (∀ c, c < nCr σ → ∃ q, q < 2 ^ 31 ∧ σ.2 33 c = nI q) ∧ oneS σ
/-- the builder's bytes are the line's letters -/
def LI (g : CG) (σ : Sg) : Prop := nSz σ ≤ g.2.2.2.1 ∧ g.2.2.2.1 ≤ 100 ∧ (∀ x, x < nSz σ → ∃ q, q < 128 ∧ g.2.2.2.2 x = nI q ∧ σ.2 42 x = nI q) ∧ ∀ x, x < g.2.2.2.1 → fits .byte (.int (g.2.2.2.2 x)) = true
def CI (g : CG) (σ : Sg) : Prop := CL g σ ∧ (∀ a, a < nAn σ → g.2.2.1 0 a = grade σ a) ∧ (∀ a, a < nAn σ → g.2.2.1 1 a = bI (waitS σ a (nAp σ))) ∧ LI g σ
/-- the bench at b, between calls -/
def CB (G : GT) (A : Nat → Prop) (b : Nat) (σ : Sg) (H : Heap) : Prop := ∃ (g : CG) (ad : I2 → Nat), ad (0, 0) = b ∧ CI g σ ∧ cw G g A ad σ H
/-- a call's answer -/
def fB (G : GT) (A : Nat → Prop) (b : Nat) (r : Int32 × Sg) : Option Value → Heap → Prop := fun v H => v = some (.int r.1) ∧ r.2.1 0 0 = 0 ∧ CB G A b r.2 H
/-- a call's exception: by the number of its row in T -/
def fX (T : List String) (G : GT) (A : Nat → Prop) (b : Nat) (r : Int32 × Sg) : String → Heap → Prop := fun E H => ∃ k, T[k]? = some E ∧ r.2.1 0 0 = k + 1 ∧ CB G A b r.2 H
theorem grade_0 (σ : Sg) (k a : Nat) : grade (sN σ 0 0 k) a = grade σ a := grade_e ((eqN.rf σ).n (by decide) 0 k) ⟨rfl, rfl, rfl, rfl, rfl, rfl⟩ rfl
theorem waitS_0 (σ : Sg) (k a : Nat) : ∀ n, waitS (sN σ 0 0 k) a n = waitS σ a n
  | 0 => rfl
  | n + 1 => by
    simp only [waitS, waitS_0 σ k a n]
    rfl
theorem CB_0 {G : GT} {A : Nat → Prop} {b : Nat} {σ : Sg} {H : Heap} (k : Nat) (h : CB G A b σ H) : CB G A b (sN σ 0 0 k) H := by
  obtain ⟨g, ad, h1, ⟨h2, h3, h4, h5⟩, F⟩ := h
  refine ⟨g, ad, h1, ⟨h2, fun a ha => (h3 a ha).trans (grade_0 σ k a).symm, fun a ha => (h4 a ha).trans ?_, h5⟩, fw.sub F (cwAll (g := g) ⟨rfl, rfl, rfl⟩ (fun k h => ⟨h, rfl, rfl⟩) (fun k h h0 => ⟨⟨h, h0⟩, rfl, rfl⟩) (fun i h => ⟨h, rfl, rfl⟩) (fun i h => ⟨h, rfl, rfl⟩) (fun i h => ⟨h, rfl, rfl⟩) (fun i h => ⟨h, rfl, ?_⟩) (fun i h => ⟨h, rfl, rfl⟩) (fun i h => ⟨h, rfl, rfl⟩) (fun i h => ⟨h, rfl, rfl⟩) (fun i h => ⟨h, rfl, rfl⟩) (fun i h => ⟨h, rfl, rfl⟩) (fun i h => ⟨h, rfl, rfl⟩) (fun i h => ⟨h, rfl, rfl⟩) (fun i h => ⟨h, rfl, rfl⟩) ⟨rfl, rfl, rfl⟩ ⟨rfl, rfl, rfl⟩)⟩
  · rw [show nAp (sN σ 0 0 k) = nAp σ from rfl, waitS_0]
  · show (eEx ad (sN σ 0 0 k) i : va_E) = eEx ad σ i
    have e1 : allS (sN σ 0 0 k) i (cas (sN σ 0 0 k) i) = allS σ i (cas σ i) := allS_e ((eqN.rf σ).n (by decide) 0 k) i _
    unfold eEx
    rw [e1]
    rfl
theorem CB_old {G : GT} {A : Nat → Prop} {b : Nat} {σ : Sg} {H H1 : Heap} (h : CB G A b σ H) (hq : ∀ q : Nat, q < H.size → H1[q]? = H[q]?) : CB G A b σ H1 := by
  obtain ⟨g, ad, h1, h2, F⟩ := h
  exact ⟨g, ad, h1, h2, fw.old F hq⟩
theorem fX_err {T : List String} {G : GT} {A : Nat → Prop} {b : Nat} {σ : Sg} {H : Heap} {r : Int32 × Sg} {k : Nat} {E : String} (q : r = err σ (k + 1)) (hT : T[k]? = some E) (h : CB G A b σ H) : fX T G A b r E H := by
  subst q
  exact ⟨k, hT, rfl, CB_0 _ h⟩
/-- the bench without what was made beside it -/
theorem cw_drop {G : GT} {g : CG} {A : Nat → Prop} {ad : I2 → Nat} {σ : Sg} {L : Nat → List I2} {H : Heap} {t : I2} {q : Nat} {E : va_E} (ht : ¬ cLv g σ t) (F : fw G.1 (fun j => cLv g σ j ∨ j = t) (iup ad t q) (iup (cEnL G g ad σ L) t E) A H) : cwL G g A ad σ L H :=
  fw.sub F fun i hi => ⟨Or.inl hi, (iup_n _ _ (fun z => ht (by rw [← z]; exact hi))).symm, (iup_n _ _ (fun z => ht (by rw [← z]; exact hi))).symm⟩
theorem okP_no {v : Int32} {n : Nat} (hn : n < 2 ^ 31) (h : okP v n = false) (h0 : ¬ v < 0) : ¬ v < nI n := by
  intro z
  obtain ⟨j, hj, rfl⟩ := nI_of h0
  have := (nI_ltI hj hn).mp z
  rw [(okP_ix hn).mpr ⟨j, this, rfl⟩] at h
  cases h
theorem sh_u : ∀ n, n < 32 → (((nI n).toUInt32 &&& Int32.toUInt32 31).toBitVec % 32).toNat = n := by decide +kernel
theorem sh_s : ∀ n, n < 32 → ((nI n &&& 31).toBitVec.smod 32).toNat = n := by decide +kernel
theorem sh_1 : ∀ n, n < 9 → (1 : Int32) <<< (nI n &&& 31) = nI (2 ^ n) := by decide +kernel
theorem nI_tn (x : Int32) : x = nI x.toBitVec.toNat := by
  apply Int32.toBitVec_inj.mp
  apply BitVec.eq_of_toNat_eq
  rw [pk_tn x.toBitVec.isLt]
theorem bitU_n {q i : Nat} (hq : q < 2 ^ 31) (hi : i < 32) : bitU (nI q) i = decide ((nI q >>> (nI i &&& 31)) &&& 1 = 1) := by
  unfold bitU
  rw [pk_ushrN (by omega) (nI i) i (sh_u i hi), pk_shrN hq (nI i &&& 31) i (sh_s i hi)]
theorem areU_in {x : Int32} {n : Nat} (hn : n ≤ 8) : areU x n = inB x 0 ((1 <<< (nI n &&& 31)) - 1) := by
  have h2 : 2 ^ n ≤ 2 ^ 8 := Nat.pow_le_pow_right (by decide) hn
  have h3 : (2 : Nat) ^ 8 = 256 := by decide
  rw [sh_1 n (by omega), Bool.eq_iff_iff, inB_ix (by omega)]
  unfold areU
  rw [decide_eq_true_eq]
  constructor
  · intro h
    refine ⟨x.toBitVec.toNat, ?_, nI_tn x⟩
    have h1 := pk_ushr x (nI n) n (sh_u n (by omega))
    rw [h] at h1
    have h4 : (0 : Int32).toBitVec.toNat = 0 := by decide
    rw [h4] at h1
    rcases Nat.lt_or_ge x.toBitVec.toNat (2 ^ n) with q | q
    · exact q
    · have := (Nat.div_pos_iff).mpr ⟨Nat.two_pow_pos n, q⟩
      omega
  · rintro ⟨j, hj, rfl⟩
    rw [pk_ushrN (by omega) (nI n) n (sh_u n (by omega)), Nat.div_eq_of_lt hj]
    rfl
theorem bit01 {m : Nat} (hm : m < 2 ^ 31) : (nI m &&& 1 = 1 ∧ ¬ nI m &&& 1 = 0) ∨ (nI m &&& 1 = 0 ∧ ¬ nI m &&& 1 = 1) := by
  rw [pk_andN (by omega) 1 (by decide)]
  rcases Nat.mod_two_eq_zero_or_one m with h | h
  · right
    rw [show m % 2 ^ 1 = 0 from h]
    exact ⟨rfl, by decide⟩
  · left
    rw [show m % 2 ^ 1 = 1 from h]
    exact ⟨rfl, by decide⟩
theorem open_n {σ : Sg} (hI0 : MI0 σ) (hJ : MJ σ) {l : Nat} (hl : l < nLe σ) (st : Nat) : ∀ n, n ≤ 32 → hasS σ st (σ.2 8 l) 50 (dayV σ) (nEx σ) (nAn σ) n = openS σ st l (min n l)
  | 0, _ => by rw [Nat.zero_min]; rfl
  | n + 1, hn => by
    have hl8 : l < 8 := Nat.lt_of_lt_of_le hl hI0.1.2.2.1
    have h2 : 2 ^ l ≤ 2 ^ 8 := Nat.pow_le_pow_right (by decide) (by omega)
    have h3 : (2 : Nat) ^ 8 = 256 := by decide
    obtain ⟨q, hq, e⟩ := hJ.2.2.2.1 l hl
    have ih := open_n hI0 hJ hl st n (by omega)
    simp only [hasS, ih]
    rw [e, bitU_n (by omega) (by omega), pk_shrN (by omega) (nI n &&& 31) n (sh_s n (by omega))]
    by_cases h : n < l
    · rw [show min (n + 1) l = n + 1 by omega, show min n l = n by omega]
      have eN : needB σ l n = nI (q / 2 ^ n) &&& 1 := by
        unfold needB
        rw [e, pk_shrN (by omega) (nI n &&& 31) n (sh_s n (by omega))]
      simp only [openS]
      rw [eN]
      have hd : q / 2 ^ n ≤ q := Nat.div_le_self _ _
      rcases bit01 (m := q / 2 ^ n) (by omega) with ⟨h4, h5⟩ | ⟨h4, h5⟩
      · simp only [h4, h5]
        simp [masNow]
      · simp only [h4, h5]
        simp
    · rw [show min (n + 1) l = l by omega, show min n l = l by omega]
      have h6 : 2 ^ l ≤ 2 ^ n := Nat.pow_le_pow_right (by decide) (by omega)
      rw [Nat.div_eq_of_lt (by omega), show decide (nI 0 &&& 1 = 1) = false by decide]
      simp
theorem open_has {σ : Sg} (hI0 : MI0 σ) (hJ : MJ σ) {l : Nat} (hl : l < nLe σ) (st : Nat) : hasS σ st (σ.2 8 l) 50 (dayV σ) (nEx σ) (nAn σ) (nLe σ) = openS σ st l l := by
  have := open_n hI0 hJ hl st (nLe σ) (Nat.le_trans hI0.1.2.2.1 (by decide))
  rw [show min (nLe σ) l = l by omega] at this
  exact this
theorem enough_n {σ : Sg} {st cr : Nat} {on : Int32} {mE mA c : Nat} {q : Nat} (hq : q < 2 ^ 31) (e : σ.2 33 cr = nI q) (h1 : hol σ c = st) (h2 : cou σ c = cr) (h3 : σ.2 38 c = on) (h4 : eTh σ c = mE) (h5 : aTh σ c = mA) : ∀ n, n ≤ 32 → hasS σ st (σ.2 33 cr) (σ.2 34 cr) on mE mA n = enoS σ c n
  | 0, _ => rfl
  | n + 1, hn => by
    have ih := enough_n hq e h1 h2 h3 h4 h5 n (by omega)
    have eB : hasB σ c n = nI q >>> (nI n &&& 31) &&& 1 := by
      unfold hasB
      rw [h2, e]
    simp only [hasS, enoS, ih]
    rw [eB, h1, h2, h3, h4, h5, e, bitU_n hq (by omega)]
def fBd (G : GT) (A : Nat → Prop) (b : Nat) (r : UInt64 × Sg) : Option Value → Heap → Prop := fun v H => v = some (.double r.1) ∧ r.2.1 0 0 = 0 ∧ CB G A b r.2 H
def fXd (T : List String) (G : GT) (A : Nat → Prop) (b : Nat) (r : UInt64 × Sg) : String → Heap → Prop := fun E H => ∃ k, T[k]? = some E ∧ r.2.1 0 0 = k + 1 ∧ CB G A b r.2 H
def fBf (G : GT) (A : Nat → Prop) (b : Nat) (r : UInt32 × Sg) : Option Value → Heap → Prop := fun v H => v = some (.float r.1) ∧ r.2.1 0 0 = 0 ∧ CB G A b r.2 H
def fXf (T : List String) (G : GT) (A : Nat → Prop) (b : Nat) (r : UInt32 × Sg) : String → Heap → Prop := fun E H => ∃ k, T[k]? = some E ∧ r.2.1 0 0 = k + 1 ∧ CB G A b r.2 H
