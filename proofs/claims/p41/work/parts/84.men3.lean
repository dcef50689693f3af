/-! ===== a mend's beginning and end ===== -/
theorem lstN_1 {σ τ : Sg} (h : τ.1 = σ.1) : lstN τ = lstN σ := by
  obtain ⟨a, b⟩ := σ
  obtain ⟨c, d⟩ := τ
  have h' : c = a := h
  subst h'
  rfl
/-- a certificate's number changes, and whether it stands doesn't -/
theorem cwL_S {G : GT} {g : CG} {A : Nat → Prop} {ad : I2 → Nat} {σ : Sg} {L : Nat → List I2} {H : Heap} {c : Nat} {v : Int32} (h : decide (v = 0) = decide (σ.2 41 c = 0)) (F : cwL G g A ad σ L H) : cwL G g A ad (sV σ 41 c v) L H := by
  refine fw.sub F (cwAll (g := g) (σ := sV σ 41 c v) ⟨rfl, rfl, rfl⟩ (fun k hk => ⟨hk, rfl, rfl⟩) (fun k hk h0 => ⟨⟨hk, h0⟩, rfl, rfl⟩) (fun i h => ⟨h, rfl, rfl⟩) (fun i h => ⟨h, rfl, rfl⟩) (fun i h => ⟨h, rfl, rfl⟩) (fun i h => ⟨h, rfl, eEx_w (ad := ad) (ad' := ad) (σ := σ) (τ := sV σ 41 c v) (i := i) rfl rfl rfl rfl rfl rfl rfl rfl⟩) (fun i h => ⟨h, rfl, rfl⟩) (fun i h => ⟨h, rfl, rfl⟩) (fun i hi => ⟨hi, rfl, ?_⟩) (fun i h => ⟨h, rfl, rfl⟩) (fun i h => ⟨h, rfl, rfl⟩) (fun i h => ⟨h, rfl, rfl⟩) (fun i h => ⟨h, rfl, rfl⟩) (fun i h => ⟨h, rfl, rfl⟩) ⟨rfl, rfl, rfl⟩ ⟨rfl, rfl, rfl⟩)
  show (eCe ad (sV σ 41 c v) i : va_E) = eCe ad σ i
  have e1 : decide ((sV σ 41 c v).2 41 i = 0) = decide (σ.2 41 i = 0) := by
    by_cases hi : i = c
    · subst hi
      rw [show (sV σ 41 i v).2 41 i = v from if_pos ⟨rfl, rfl⟩]
      exact h
    · rw [show (sV σ 41 c v).2 41 i = σ.2 41 i from if_neg (fun z => hi z.2)]
  show (.inr (6, [.int (nI i), .ref (ad (4, hol σ i)), .ref (ad (8, cou σ i)), .ref (ad (10, i)), .int (bI (decide ((sV σ 41 c v).2 41 i = 0)))]) : va_E) = _
  rw [e1]
theorem gr_revL (σ : Sg) : ∀ n a, grade (revL σ n) a = grade σ a
  | 0, _ => rfl
  | n + 1, a => by
    refine Eq.trans ?_ (gr_revL σ n a)
    exact grade_e ((eqN.rf (revL σ n)).v 41 n _) ⟨rfl, rfl, rfl, rfl, rfl, rfl⟩ rfl
theorem revL_V (σ : Sg) {k : Nat} (h : k ≠ 41) : ∀ n, (revL σ n).2 k = σ.2 k
  | 0 => rfl
  | n + 1 => (funext fun y => if_neg (fun z => h z.1) : (revL σ (n + 1)).2 k = (revL σ n).2 k).trans (revL_V σ h n)
/-- a new rule's place -/
theorem push_mend {G : GT} {g : CG} {A : Nat → Prop} {ad : I2 → Nat} {σ : Sg} {L : Nat → List I2} {H : Heap} {q e : Nat} {f a : Int32} (hL : okL g σ L) (he : e < nEx σ)
    (F : fw G.1 (fun j => cLv g σ j ∨ j = (17, 0)) (iup ad (17, 0) q) (iup (iup (iup (cEnL G g ad σ L) (17, 0) (.inr (12, [.int f, .int a]))) (6, e) (.inr (9, [.int (nI e), .ref (ad (5, les σ e)), .int (σ.2 15 e), .ref (ad (13, e)), .ref (ad (14, e)), .ref (ad (1, 17 + e)), .ref q, .int (nI (cas σ e)), .int (nI (allS σ e (cas σ e)))]))) (5, les σ e) (.inr (10, [.int (σ.2 8 (les σ e)), .int (σ.2 9 (les σ e)), .ref (ad (1, 9 + les σ e)), .int (σ.2 10 (les σ e) + 1)]))) A H) :
    cwL G g A (iup ad (11, e) q) (sV (sV (sV σ 13 e f) 14 e a) 10 (les σ e) (σ.2 10 (les σ e) + 1)) L H := by
  have F1 := fw.ren (k := (11, e)) (t := (17, 0)) (x := .inr (12, [.int f, .int a])) (kne (by decide)) (fun z => z) ((iup_n _ _ (kne (by decide))).trans ((iup_n _ _ (kne (by decide))).trans (iup_s _ _ _))) F
  refine fw.sub F1 (cwAll (g := g) (σ := sV (sV (sV σ 13 e f) 14 e a) 10 (les σ e) (σ.2 10 (les σ e) + 1)) ⟨Or.inl rfl, rfl, rfl⟩ (fun k h => ⟨Or.inl h, rfl, rfl⟩) (fun k h h0 => ⟨Or.inl ⟨h, h0⟩, rfl, congrArg (fun f => (LA G (g.1 k) f : va_E)) (cont_ad fun j hj => iup_n _ _ (notin1 hL h (a := 11) (b := e) (Or.inr (by decide)) j hj))⟩) (fun i h => ⟨Or.inl h, rfl, rfl⟩) (fun i h => ⟨Or.inl h, rfl, rfl⟩) (fun i h => ⟨Or.inl h, rfl, ?_⟩) (fun i h => ⟨Or.inl h, rfl, ?_⟩) (fun i h => ⟨Or.inl h, rfl, rfl⟩) (fun i h => ⟨Or.inl h, rfl, rfl⟩) (fun i h => ⟨Or.inl h, rfl, rfl⟩) (fun i h => ⟨Or.inl h, rfl, rfl⟩) (fun i h => ⟨Or.inl h, rfl, ?_⟩) (fun i h => ⟨Or.inl h, rfl, rfl⟩) (fun i h => ⟨Or.inl h, rfl, rfl⟩) (fun i h => ⟨Or.inl h, rfl, rfl⟩) ⟨Or.inl rfl, rfl, rfl⟩ ⟨Or.inl rfl, rfl, rfl⟩)
  · rw [iup_n _ _ (kne (by decide))]
    by_cases hi : i = les σ e
    · subst hi
      rw [iup_s]
      simp [cEnL, sV, iup]
    · rw [iup_n _ _ (ine hi), iup_n _ _ (kne (by decide)), iup_n _ _ (kne (by decide))]
      exact eLe_w (ad := ad) (ad' := iup ad (11, e) q) (σ := σ) (τ := sV (sV (sV σ 13 e f) 14 e a) 10 (les σ e) (σ.2 10 (les σ e) + 1)) rfl rfl rfl (if_neg (fun z => hi z.2))
  · rw [iup_n _ _ (kne (by decide)), iup_n _ _ (kne (by decide))]
    by_cases hi : i = e
    · subst hi
      rw [iup_s]
      show (eEx (iup ad (11, i) q) (sV (sV (sV σ 13 i f) 14 i a) 10 (les σ i) (σ.2 10 (les σ i) + 1)) i : va_E) = _
      unfold eEx
      rw [show iup ad (11, i) q (11, i) = q from iup_s _ _ _, allS_w (τ := sV (sV (sV σ 13 i f) 14 i a) 10 (les σ i) (σ.2 10 (les σ i) + 1)) (σ := σ) rfl]
      rfl
    · rw [iup_n _ _ (ine hi), iup_n _ _ (kne (by decide))]
      exact eEx_w (ad := ad) (ad' := iup ad (11, e) q) (σ := σ) (τ := sV (sV (sV σ 13 e f) 14 e a) 10 (les σ e) (σ.2 10 (les σ e) + 1)) rfl rfl rfl rfl rfl rfl rfl (iup_n _ _ (ine hi))
  · by_cases hi : i = e
    · subst hi
      rw [iup_s]
      simp [cEnL, sV]
    · rw [iup_n _ _ (ine hi), iup_n _ _ (kne (by decide)), iup_n _ _ (kne (by decide)), iup_n _ _ (kne (by decide))]
      simp [cEnL, sV, hi]
theorem gr_bef (σ : Sg) (e : Nat) : ∀ k a, grade (befL σ e k) a = grade σ a := fun k a => grade_e (befL_N σ e k) ⟨befL_V σ e (by decide) k, befL_V σ e (by decide) k, befL_V σ e (by decide) k, befL_V σ e (by decide) k, befL_V σ e (by decide) k, befL_V σ e (by decide) k⟩ (congrFun (befL_V σ e (by decide) k) a)
theorem bef_31 (σ : Sg) (e : Nat) : ∀ n x, (befL σ e n).2 31 x = if x < n then (if exe σ x = e then grade σ x else 0) else σ.2 31 x
  | 0, x => by rw [if_neg (by omega)]; rfl
  | n + 1, x => by
    show (if 31 = 31 ∧ x = n then (if exe σ n = e then grade (befL σ e n) n else 0) else (befL σ e n).2 31 x) = _
    by_cases h : x = n
    · subst h
      rw [if_pos ⟨rfl, rfl⟩, if_pos (show x < x + 1 by omega), gr_bef]
    · rw [if_neg (fun z => h z.2), bef_31 σ e n x]
      by_cases h2 : x < n
      · rw [if_pos h2, if_pos (show x < n + 1 by omega)]
      · rw [if_neg h2, if_neg (by omega)]
section M1
variable {σ : Sg} {e : Nat} {f a : Int32}
theorem m1_31 (x : Nat) : (men1 σ e f a).2 31 x = if x < nAn σ then (if exe σ x = e then grade σ x else 0) else σ.2 31 x := bef_31 σ e (nAn σ) x
theorem m1_V {k : Nat} (h1 : k ≠ 13) (h2 : k ≠ 14) (h3 : k ≠ 10) (h4 : k ≠ 31) : (men1 σ e f a).2 k = σ.2 k := by
  funext y
  show (if k = 10 ∧ y = les σ e then _ else if k = 14 ∧ y = e then _ else if k = 13 ∧ y = e then _ else (befL σ e (nAn σ)).2 k y) = _
  rw [if_neg (fun z => h3 z.1), if_neg (fun z => h2 z.1), if_neg (fun z => h1 z.1), befL_V σ e h4]
theorem m1_1 {k : Nat} (h : k ≠ 29) : (men1 σ e f a).1 k = σ.1 k := by
  funext y
  show (if k = 29 ∧ y = 0 then 0 else (befL σ e (nAn σ)).1 k y) = _
  rw [if_neg (fun z => h z.1), befL_1]
theorem sameC_m1 : sameC (sV (sV (sV σ 13 e f) 14 e a) 10 (les σ e) (σ.2 10 (les σ e) + 1)) (men1 σ e f a) :=
  ⟨fun k _ _ _ h _ => m1_1 h, fun k h _ => by
    funext y
    show (if k = 10 ∧ y = les σ e then σ.2 10 (les σ e) + 1 else if k = 14 ∧ y = e then a else if k = 13 ∧ y = e then f else (befL σ e (nAn σ)).2 k y) = (if k = 10 ∧ y = les σ e then σ.2 10 (les σ e) + 1 else if k = 14 ∧ y = e then a else if k = 13 ∧ y = e then f else σ.2 k y)
    rw [befL_V σ e h]⟩
theorem anL_m1 : anL (men1 σ e f a) e = anL σ e := by
  unfold anL
  rw [show nAn (men1 σ e f a) = nAn σ from congrFun (m1_1 (by decide)) 0, show exe (men1 σ e f a) = exe σ from m1_1 (by decide)]
theorem menF_m1 : menF (men1 σ e f a) (anL σ e) = men2 σ e f a := by
  have h := menF_n (men1 σ e f a) e (nAn σ)
  rw [show exe (men1 σ e f a) = exe σ from m1_1 (by decide)] at h
  exact h
theorem appL_m1 : appL (men1 σ e f a) = appL σ := by
  unfold appL
  rw [show nAp (men1 σ e f a) = nAp σ from congrFun (m1_1 (by decide)) 0, show app (men1 σ e f a) = app σ from m1_1 (by decide)]
theorem m1_b (hI : MI σ) : ∀ x, x < nAn (men1 σ e f a) → ∃ b, b ≤ 100 ∧ (men1 σ e f a).2 31 x = nI b := fun x hx => by
  have hx' : x < nAn σ := by rw [← show nAn (men1 σ e f a) = nAn σ from congrFun (m1_1 (by decide)) 0]; exact hx
  rw [m1_31, if_pos hx']
  split
  · exact ⟨_, (grade_g hI hx').2, (grade_g hI hx').1⟩
  · exact ⟨0, by omega, rfl⟩
theorem m1_g {g : CG} (hgr : ∀ a, a < nAn σ → g.2.2.1 0 a = grade σ a) : ∀ x ∈ anL (men1 σ e f a) e, g.2.2.1 0 x = (men1 σ e f a).2 31 x := fun x hx => by
  rw [anL_m1] at hx
  obtain ⟨h1, h2⟩ := anL_mem hx
  rw [m1_31, if_pos h1, if_pos h2, hgr x h1]
end M1
theorem lst_same2 {σ τ : Sg} (h : ∀ k, k ≠ 27 → k ≠ 28 → k ≠ 29 → k ≠ 30 → τ.1 k = σ.1 k) : ∀ k, lsB τ k → k ≠ 7 → k ≠ 8 → lstN τ k = lstN σ k := by
  intro k hk h7 h8
  have hs := lst_same (σ := σ) (τ := (fun k => if k = 29 ∨ k = 30 then σ.1 k else τ.1 k, τ.2)) (fun k h1 h2 => by
    show (if k = 29 ∨ k = 30 then σ.1 k else τ.1 k) = σ.1 k
    split
    · rfl
    · rename_i hc
      exact h k h1 h2 (fun z => hc (Or.inl z)) (fun z => hc (Or.inr z))) (M := _) rfl k hk
  rw [upL_n _ _ h7] at hs
  rw [← hs]
  by_cases h9 : k < 9
  · have hc : k = 0 ∨ k = 1 ∨ k = 2 ∨ k = 3 ∨ k = 4 ∨ k = 5 ∨ k = 6 := by omega
    rcases hc with rfl | rfl | rfl | rfl | rfl | rfl | rfl <;> rfl
  · unfold lstN
    rw [if_neg h9, if_neg h9]
    rfl
