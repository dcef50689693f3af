/-! ===== what is made, what changes ===== -/
theorem eSt_w {ad ad' : I2 → Nat} {σ τ : Sg} {i : Nat} (h : ad' (3, coh τ i) = ad (3, coh σ i)) : (eSt ad' τ i : va_E) = eSt ad σ i := by
  unfold eSt
  rw [h]
theorem eAn_w {g g' : CG} {ad ad' : I2 → Nat} {σ τ : Sg} {i : Nat} (h1 : ad' (4, stu τ i) = ad (4, stu σ i)) (h2 : ad' (6, exe τ i) = ad (6, exe σ i)) (h3 : ad' (12, i) = ad (12, i)) (h4 : τ.2 24 i = σ.2 24 i) (h5 : g'.2.2.1 0 i = g.2.2.1 0 i) (h6 : τ.2 25 i = σ.2 25 i) (h7 : g'.2.2.1 1 i = g.2.2.1 1 i) (h8 : τ.2 26 i = σ.2 26 i) (h9 : g'.2.2.1 2 i = g.2.2.1 2 i) : (eAn g' ad' τ i : va_E) = eAn g ad σ i := by
  unfold eAn
  rw [h1, h2, h3, h4, h5, h6, h7, h8, h9]
theorem eCe_w {ad ad' : I2 → Nat} {σ τ : Sg} {i : Nat} (h1 : ad' (4, hol τ i) = ad (4, hol σ i)) (h2 : ad' (8, cou τ i) = ad (8, cou σ i)) (h3 : ad' (10, i) = ad (10, i)) (h4 : τ.2 41 i = σ.2 41 i) : (eCe ad' τ i : va_E) = eCe ad σ i := by
  unfold eCe
  rw [h1, h2, h3, h4]
theorem eLe_w {ad ad' : I2 → Nat} {σ τ : Sg} {i : Nat} (h1 : τ.2 8 i = σ.2 8 i) (h2 : τ.2 9 i = σ.2 9 i) (h3 : ad' (1, 9 + i) = ad (1, 9 + i)) (h4 : τ.2 10 i = σ.2 10 i) : (eLe ad' τ i : va_E) = eLe ad σ i := by
  unfold eLe
  rw [h1, h2, h3, h4]
theorem eBe_w {ad ad' : I2 → Nat} {d d' : Int32} (h : ∀ k, k < 9 → ad' (1, k) = ad (1, k)) (h1 : ad' (15, 0) = ad (15, 0)) (h2 : d' = d) : (eBe ad' d' : va_E) = eBe ad d := by
  unfold eBe
  rw [h 0 (by omega), h 1 (by omega), h 2 (by omega), h 3 (by omega), h 4 (by omega), h 5 (by omega), h 6 (by omega), h 7 (by omega), h 8 (by omega), h1, h2]
theorem sV_at (σ : Sg) (k j : Nat) (v : Int32) : (sV σ k j v).2 k j = v := by simp [sV]
theorem sV_no (σ : Sg) {k j : Nat} (v : Int32) {a : Nat} (h : ¬ a = j) : (sV σ k j v).2 k a = σ.2 k a := if_neg (fun z => h z.2)
theorem sV_ot (σ : Sg) {k j : Nat} (v : Int32) {c a : Nat} (h : ¬ c = k) : (sV σ k j v).2 c a = σ.2 c a := if_neg (fun z => h z.1)
theorem sN_no (σ : Sg) {k j : Nat} (v : Nat) {a : Nat} (h : ¬ a = j) : (sN σ k j v).1 k a = σ.1 k a := if_neg (fun z => h z.2)
theorem notin {g : CG} {σ : Sg} {L : Nat → List I2} (hL : okL g σ L) {k : Nat} (hk : lsB σ k) {n : I2} (hn : ¬ cLv g σ n) : ∀ j ∈ L k, j ≠ n := fun j hj z => hn (by rw [← z]; exact (hL k hk j hj).1)
theorem notin1 {g : CG} {σ : Sg} {L : Nat → List I2} (hL : okL g σ L) {k : Nat} (hk : lsB σ k) {a b : Nat} (ha : a < 3 ∨ 9 < a) : ∀ j ∈ L k, j ≠ ((a, b) : I2) := fun j hj z => by
  have := (hL k hk j hj).2
  rw [z] at this
  have h1 : 3 ≤ a ∧ a ≤ 9 := this
  omega
set_option maxHeartbeats 2000000 in
theorem push4 {G : GT} {g : CG} {A : Nat → Prop} {ad : I2 → Nat} {σ : Sg} {L : Nat → List I2} {H : Heap} {q cx : Nat} (hI0 : MI0 σ) (hL : okL g σ L) (F : fw G.1 (fun j => cLv g σ j ∨ j = (4, nSt σ)) (iup ad (4, nSt σ) q) (iup (cEnL G g ad σ L) (4, nSt σ) (.inr (13, [.int (nI (nSt σ)), .ref (ad (3, cx))]))) A H) : cwL G g A (iup ad (4, nSt σ) q) (sN (sN σ 6 (nSt σ) cx) 5 0 (nSt σ + 1)) L H := by
  exact fw.sub F (cwAll (g := g) (σ := (sN (sN σ 6 (nSt σ) cx) 5 0 (nSt σ + 1))) ⟨Or.inl rfl, rfl, rfl⟩ (fun i h => ⟨Or.inl h, rfl, rfl⟩) (fun k h h0 => ⟨Or.inl ⟨h, h0⟩, rfl, congrArg (fun f => (LA G (g.1 k) f : va_E)) (cont_ad fun j hj => iup_n _ _ (notin hL h (n := (4, nSt σ)) (show ¬ nSt σ < nSt σ by omega) j hj))⟩) (fun i h => ⟨Or.inl h, rfl, rfl⟩) (fun i h => by
      rcases Nat.lt_succ_iff_lt_or_eq.mp (show i < nSt σ + 1 from h) with h1 | h1
      · have hne : ¬ i = nSt σ := by omega
        exact ⟨Or.inl h1, rfl, by rw [iup_n _ _ (ine hne)]; exact eSt_w (ad := ad) (ad' := (iup ad (4, nSt σ) q)) (σ := σ) (τ := (sN (sN σ 6 (nSt σ) cx) 5 0 (nSt σ + 1))) (congrArg (fun z => ad (3, z)) (sN_no σ _ hne))⟩
      · subst h1
        exact ⟨Or.inr rfl, rfl, by rw [iup_s]; simp [cEnL, iup, coh, sN]⟩) (fun i h => ⟨Or.inl h, rfl, rfl⟩) (fun i h => ⟨Or.inl h, rfl, eEx_w (ad := ad) (ad' := (iup ad (4, nSt σ) q)) (σ := σ) (τ := (sN (sN σ 6 (nSt σ) cx) 5 0 (nSt σ + 1))) (i := i) rfl rfl rfl rfl rfl rfl rfl rfl⟩) (fun i h => ⟨Or.inl h, rfl, eAn_w (g := g) (g' := g) (ad := ad) (ad' := (iup ad (4, nSt σ) q)) (σ := σ) (τ := (sN (sN σ 6 (nSt σ) cx) 5 0 (nSt σ + 1))) (i := i) (iup_n _ _ (ine (show stu σ i ≠ nSt σ by have := hI0.an (i := i) h; omega))) rfl rfl rfl rfl rfl rfl rfl rfl⟩) (fun i h => ⟨Or.inl h, rfl, rfl⟩) (fun i h => ⟨Or.inl h, rfl, eCe_w (ad := ad) (ad' := (iup ad (4, nSt σ) q)) (σ := σ) (τ := (sN (sN σ 6 (nSt σ) cx) 5 0 (nSt σ + 1))) (i := i) (iup_n _ _ (ine (show hol σ i ≠ nSt σ by have := hI0.ce (i := i) h; omega))) rfl rfl rfl⟩) (fun i h => ⟨Or.inl h, rfl, rfl⟩) (fun i h => ⟨Or.inl h, rfl, rfl⟩) (fun i h => ⟨Or.inl h, rfl, rfl⟩) (fun i h => ⟨Or.inl h, rfl, rfl⟩) (fun i h => ⟨Or.inl h, rfl, rfl⟩) ⟨Or.inl rfl, rfl, rfl⟩ ⟨Or.inl rfl, rfl, rfl⟩)
set_option maxHeartbeats 2000000 in
theorem push8 {G : GT} {g : CG} {A : Nat → Prop} {ad : I2 → Nat} {σ : Sg} {L : Nat → List I2} {H : Heap} {q : Nat} {x y : Int32} (hI0 : MI0 σ) (hL : okL g σ L) (F : fw G.1 (fun j => cLv g σ j ∨ j = (8, nCr σ)) (iup ad (8, nCr σ) q) (iup (cEnL G g ad σ L) (8, nCr σ) (.inr (8, [.int x, .int y]))) A H) : cwL G g A (iup ad (8, nCr σ) q) (sN (sV (sV σ 33 (nCr σ) x) 34 (nCr σ) y) 32 0 (nCr σ + 1)) L H := by
  exact fw.sub F (cwAll (g := g) (σ := (sN (sV (sV σ 33 (nCr σ) x) 34 (nCr σ) y) 32 0 (nCr σ + 1))) ⟨Or.inl rfl, rfl, rfl⟩ (fun i h => ⟨Or.inl h, rfl, rfl⟩) (fun k h h0 => ⟨Or.inl ⟨h, h0⟩, rfl, congrArg (fun f => (LA G (g.1 k) f : va_E)) (cont_ad fun j hj => iup_n _ _ (notin hL h (n := (8, nCr σ)) (show ¬ nCr σ < nCr σ by omega) j hj))⟩) (fun i h => ⟨Or.inl h, rfl, rfl⟩) (fun i h => ⟨Or.inl h, rfl, rfl⟩) (fun i h => ⟨Or.inl h, rfl, rfl⟩) (fun i h => ⟨Or.inl h, rfl, eEx_w (ad := ad) (ad' := (iup ad (8, nCr σ) q)) (σ := σ) (τ := (sN (sV (sV σ 33 (nCr σ) x) 34 (nCr σ) y) 32 0 (nCr σ + 1))) (i := i) rfl rfl rfl rfl rfl rfl rfl rfl⟩) (fun i h => ⟨Or.inl h, rfl, rfl⟩) (fun i h => by
      rcases Nat.lt_succ_iff_lt_or_eq.mp (show i < nCr σ + 1 from h) with h1 | h1
      · have hne : ¬ i = nCr σ := by omega
        exact ⟨Or.inl h1, rfl, by rw [iup_n _ _ (ine hne)]; simp [cEnL, sN, sV, hne]⟩
      · subst h1
        exact ⟨Or.inr rfl, rfl, by rw [iup_s]; simp [cEnL, sN, sV]⟩) (fun i h => ⟨Or.inl h, rfl, eCe_w (ad := ad) (ad' := (iup ad (8, nCr σ) q)) (σ := σ) (τ := (sN (sV (sV σ 33 (nCr σ) x) 34 (nCr σ) y) 32 0 (nCr σ + 1))) (i := i) rfl (iup_n _ _ (ine (show cou σ i ≠ nCr σ by have := hI0.ce (i := i) h; omega))) rfl rfl⟩) (fun i h => ⟨Or.inl h, rfl, rfl⟩) (fun i h => ⟨Or.inl h, rfl, rfl⟩) (fun i h => ⟨Or.inl h, rfl, rfl⟩) (fun i h => ⟨Or.inl h, rfl, rfl⟩) (fun i h => ⟨Or.inl h, rfl, rfl⟩) ⟨Or.inl rfl, rfl, rfl⟩ ⟨Or.inl rfl, rfl, rfl⟩)
set_option maxHeartbeats 2000000 in
theorem push5 {G : GT} {g : CG} {A : Nat → Prop} {ad : I2 → Nat} {σ : Sg} {L : Nat → List I2} {H : Heap} {q q2 : Nat} {x y : Int32} (hI0 : MI0 σ) (hL : okL g σ L) (hLn : L (9 + nLe σ) = []) (h10 : σ.2 10 (nLe σ) = 0) (hle : nLe σ < 8) (F : fw G.1 (fun j => (fun j => cLv g σ j ∨ j = (5, nLe σ)) j ∨ j = (1, 9 + nLe σ)) (iup (iup ad (5, nLe σ) q) (1, 9 + nLe σ) q2) (iup (iup (iup (cEnL G g ad σ L) (5, nLe σ) (.inr (10, [.int 0, .int 0, .null, .int 0]))) (1, 9 + nLe σ) (LO 0 (G.2.2 0) 0)) (5, nLe σ) (.inr (10, [.int x, .int y, .ref q2, .int 0]))) A H) : cwL G (gls g (9 + nLe σ) 0 0) A (iup (iup ad (5, nLe σ) q) (1, 9 + nLe σ) q2) (sN (sV (sV σ 8 (nLe σ) x) 9 (nLe σ) y) 7 0 (nLe σ + 1)) L H := by
  exact fw.sub F (cwAll (g := (gls g (9 + nLe σ) 0 0)) (σ := (sN (sV (sV σ 8 (nLe σ) x) 9 (nLe σ) y) 7 0 (nLe σ + 1))) (⟨Or.inl (Or.inl rfl), rfl, eBe_w (ad := ad) (ad' := (iup (iup ad (5, nLe σ) q) (1, 9 + nLe σ) q2)) (fun k hk => iup_n _ _ (ine (by omega))) rfl rfl⟩) (fun k hk => by
      by_cases hk9 : k = 9 + nLe σ
      · subst hk9
        refine ⟨Or.inr rfl, rfl, ?_⟩
        rw [iup_n _ _ (kne (by decide)), iup_s]
        show (LO (if 9 + nLe σ = 9 + nLe σ then 0 else g.2.1 (9 + nLe σ)) (if (if 9 + nLe σ = 9 + nLe σ then 0 else g.1 (9 + nLe σ)) = 0 then G.2.2 0 else _) (L (9 + nLe σ)).length : va_E) = _
        rw [if_pos rfl, if_pos rfl, if_pos rfl, hLn]
        rfl
      · have h1 : lsB σ k := by
          rcases hk with h2 | h2
          · exact Or.inl (by have h3 : k < 9 + (nLe σ + 1) := h2; omega)
          · exact Or.inr h2
        refine ⟨Or.inl (Or.inl h1), rfl, ?_⟩
        rw [iup_n _ _ (kne (by decide)), iup_n _ _ (ine hk9), iup_n _ _ (kne (by decide))]
        show (LO (if k = 9 + nLe σ then 0 else g.2.1 k) (if (if k = 9 + nLe σ then 0 else g.1 k) = 0 then G.2.2 0 else _) (L k).length : va_E) = _
        rw [if_neg hk9, if_neg hk9]
        rfl) (fun k hk h0 => by
      by_cases hk9 : k = 9 + nLe σ
      · subst hk9
        have h2 : 0 < (if 9 + nLe σ = 9 + nLe σ then 0 else g.1 (9 + nLe σ)) := h0
        rw [if_pos rfl] at h2
        exact absurd h2 (by omega)
      · have h1 : lsB σ k := by
          rcases hk with h2 | h2
          · exact Or.inl (by have h3 : k < 9 + (nLe σ + 1) := h2; omega)
          · exact Or.inr h2
        have h2 : 0 < (if k = 9 + nLe σ then 0 else g.1 k) := h0
        rw [if_neg hk9] at h2
        refine ⟨Or.inl (Or.inl ⟨h1, h2⟩), rfl, ?_⟩
        rw [iup_n _ _ (kne (by decide)), iup_n _ _ (kne (by decide)), iup_n _ _ (kne (by decide))]
        show (LA G (if k = 9 + nLe σ then 0 else g.1 k) (cont (L k) _) : va_E) = LA G (g.1 k) (cont (L k) ad)
        rw [if_neg hk9, cont_ad fun j hj => (iup_n _ _ (notin1 hL h1 (Or.inl (by decide)) j hj)).trans (iup_n _ _ (notin hL h1 (n := (5, nLe σ)) (show ¬ nLe σ < nLe σ by omega) j hj))]) (fun i h => ⟨Or.inl (Or.inl h), rfl, rfl⟩) (fun i h => ⟨Or.inl (Or.inl h), rfl, rfl⟩) (fun i h => by
      rcases Nat.lt_succ_iff_lt_or_eq.mp (show i < nLe σ + 1 from h) with h1 | h1
      · have hne : ¬ i = nLe σ := by omega
        exact ⟨Or.inl (Or.inl h1), rfl, by rw [iup_n _ _ (ine hne), iup_n _ _ (kne (by decide)), iup_n _ _ (ine hne)]; exact eLe_w (ad := ad) (ad' := (iup (iup ad (5, nLe σ) q) (1, 9 + nLe σ) q2)) (σ := σ) (τ := (sN (sV (sV σ 8 (nLe σ) x) 9 (nLe σ) y) 7 0 (nLe σ + 1))) (sV_no σ x hne) (sV_no (sV σ 8 (nLe σ) x) y hne) (iup_n _ _ (ine (by omega))) rfl⟩
      · subst h1
        exact ⟨Or.inl (Or.inr rfl), rfl, by rw [iup_s]; simp [cEnL, iup, sN, sV, h10]⟩) (fun i h => ⟨Or.inl (Or.inl h), rfl, eEx_w (ad := ad) (ad' := (iup (iup ad (5, nLe σ) q) (1, 9 + nLe σ) q2)) (σ := σ) (τ := (sN (sV (sV σ 8 (nLe σ) x) 9 (nLe σ) y) 7 0 (nLe σ + 1))) (i := i) rfl rfl ((iup_n _ _ (kne (by decide))).trans (iup_n _ _ (ine (show les σ i ≠ nLe σ by have := hI0.ex (i := i) h; omega)))) rfl rfl rfl (iup_n _ _ (ine (by omega))) rfl⟩) (fun i h => ⟨Or.inl (Or.inl h), rfl, eAn_w (g := g) (g' := (gls g (9 + nLe σ) 0 0)) (ad := ad) (ad' := (iup (iup ad (5, nLe σ) q) (1, 9 + nLe σ) q2)) (σ := σ) (τ := (sN (sV (sV σ 8 (nLe σ) x) 9 (nLe σ) y) 7 0 (nLe σ + 1))) (i := i) rfl rfl rfl rfl rfl rfl rfl rfl rfl⟩) (fun i h => ⟨Or.inl (Or.inl h), rfl, rfl⟩) (fun i h => ⟨Or.inl (Or.inl h), rfl, eCe_w (ad := ad) (ad' := (iup (iup ad (5, nLe σ) q) (1, 9 + nLe σ) q2)) (σ := σ) (τ := (sN (sV (sV σ 8 (nLe σ) x) 9 (nLe σ) y) 7 0 (nLe σ + 1))) (i := i) rfl rfl rfl rfl⟩) (fun i h => ⟨Or.inl (Or.inl h), rfl, rfl⟩) (fun i h => ⟨Or.inl (Or.inl h), rfl, rfl⟩) (fun i h => ⟨Or.inl (Or.inl h), rfl, rfl⟩) (fun i h => ⟨Or.inl (Or.inl h), rfl, rfl⟩) (fun i h => ⟨Or.inl (Or.inl h), rfl, rfl⟩) ⟨Or.inl (Or.inl rfl), rfl, rfl⟩ ⟨Or.inl (Or.inl rfl), rfl, rfl⟩)
def gAn (g : CG) (a : Nat) (gr w fl : Int32) : CG := (g.1, g.2.1, fun k x => if x = a then (if k = 0 then gr else if k = 1 then w else if k = 2 then fl else g.2.2.1 k x) else g.2.2.1 k x, g.2.2.2)
theorem gAn_no {g : CG} {a : Nat} {gr w fl : Int32} {k x : Nat} (h : ¬ x = a) : (gAn g a gr w fl).2.2.1 k x = g.2.2.1 k x := if_neg h
theorem gAn_3 {g : CG} {a : Nat} {gr w fl : Int32} {k x : Nat} (h0 : ¬ k = 0) (h1 : ¬ k = 1) (h2 : ¬ k = 2) : (gAn g a gr w fl).2.2.1 k x = g.2.2.1 k x := by
  unfold gAn
  show (if x = a then _ else _) = _
  rw [if_neg h0, if_neg h1, if_neg h2, ite_self]
set_option maxHeartbeats 2000000 in
theorem push7 {G : GT} {g : CG} {A : Nat → Prop} {ad : I2 → Nat} {σ : Sg} {L : Nat → List I2} {H : Heap} {q q2 sx ex : Nat} {f a gr : Int32} (hI0 : MI0 σ) (hL : okL g σ L) (h25 : σ.2 25 (nAn σ) = 0) (h26 : σ.2 26 (nAn σ) = 0) (F : fw G.1 (fun j => (fun j => cLv g σ j ∨ j = (7, nAn σ)) j ∨ j = (12, nAn σ)) (iup (iup ad (7, nAn σ) q) (12, nAn σ) q2) (iup (iup (iup (cEnL G g ad σ L) (7, nAn σ) (.inr (5, [.int 0, .null, .null, .null, .int 0, .int 0, .int 0, .int 0, .int 0, .int 0]))) (12, nAn σ) (.inr (12, [.int f, .int a]))) (7, nAn σ) (.inr (5, [.int (nI (nAn σ)), .ref (ad (4, sx)), .ref (ad (6, ex)), .ref q2, .int (dayV σ), .int gr, .int 0, .int 0, .int 0, .int 0]))) A H) : cwL G (gAn g (nAn σ) gr 0 0) A (iup (iup ad (7, nAn σ) q) (12, nAn σ) q2) (sN (sV (sV (sV (sN (sN σ 20 (nAn σ) sx) 21 (nAn σ) ex) 22 (nAn σ) f) 23 (nAn σ) a) 24 (nAn σ) (dayV σ)) 19 0 (nAn σ + 1)) L H := by
  exact fw.sub F (cwAll (g := (gAn g (nAn σ) gr 0 0)) (σ := (sN (sV (sV (sV (sN (sN σ 20 (nAn σ) sx) 21 (nAn σ) ex) 22 (nAn σ) f) 23 (nAn σ) a) 24 (nAn σ) (dayV σ)) 19 0 (nAn σ + 1))) ⟨Or.inl (Or.inl rfl), rfl, rfl⟩ (fun i h => ⟨Or.inl (Or.inl h), rfl, rfl⟩) (fun k h h0 => ⟨Or.inl (Or.inl ⟨h, h0⟩), rfl, congrArg (fun f => (LA G (g.1 k) f : va_E)) (cont_ad fun j hj => (iup_n _ _ (notin1 hL h (a := 12) (b := nAn σ) (Or.inr (by decide)) j hj)).trans (iup_n _ _ (notin hL h (n := (7, nAn σ)) (show ¬ nAn σ < nAn σ by omega) j hj)))⟩) (fun i h => ⟨Or.inl (Or.inl h), rfl, rfl⟩) (fun i h => ⟨Or.inl (Or.inl h), rfl, rfl⟩) (fun i h => ⟨Or.inl (Or.inl h), rfl, rfl⟩) (fun i h => ⟨Or.inl (Or.inl h), rfl, eEx_w (ad := ad) (ad' := (iup (iup ad (7, nAn σ) q) (12, nAn σ) q2)) (σ := σ) (τ := (sN (sV (sV (sV (sN (sN σ 20 (nAn σ) sx) 21 (nAn σ) ex) 22 (nAn σ) f) 23 (nAn σ) a) 24 (nAn σ) (dayV σ)) 19 0 (nAn σ + 1))) (i := i) rfl rfl rfl rfl rfl rfl rfl rfl⟩) (fun i h => by
      rcases Nat.lt_succ_iff_lt_or_eq.mp (show i < nAn σ + 1 from h) with h1 | h1
      · have hne : ¬ i = nAn σ := by omega
        exact ⟨Or.inl (Or.inl h1), rfl, by rw [iup_n _ _ (ine hne), iup_n _ _ (kne (by decide)), iup_n _ _ (ine hne)]; exact eAn_w (g := g) (g' := (gAn g (nAn σ) gr 0 0)) (ad := ad) (ad' := (iup (iup ad (7, nAn σ) q) (12, nAn σ) q2)) (σ := σ) (τ := (sN (sV (sV (sV (sN (sN σ 20 (nAn σ) sx) 21 (nAn σ) ex) 22 (nAn σ) f) 23 (nAn σ) a) 24 (nAn σ) (dayV σ)) 19 0 (nAn σ + 1))) (congrArg (fun z => ad (4, z)) (sN_no σ _ hne)) (congrArg (fun z => ad (6, z)) (sN_no (sN σ 20 (nAn σ) sx) _ hne)) (iup_n _ _ (ine hne)) (sV_no (sV (sV (sN (sN σ 20 (nAn σ) sx) 21 (nAn σ) ex) 22 (nAn σ) f) 23 (nAn σ) a) (dayV σ) hne) (gAn_no hne) rfl (gAn_no hne) rfl (gAn_no hne)⟩
      · subst h1
        exact ⟨Or.inl (Or.inr rfl), rfl, by rw [iup_s]; simp [cEnL, iup, stu, exe, dayV, sN, sV, gAn, h25, h26]⟩) (fun i h => ⟨Or.inl (Or.inl h), rfl, rfl⟩) (fun i h => ⟨Or.inl (Or.inl h), rfl, eCe_w (ad := ad) (ad' := (iup (iup ad (7, nAn σ) q) (12, nAn σ) q2)) (σ := σ) (τ := (sN (sV (sV (sV (sN (sN σ 20 (nAn σ) sx) 21 (nAn σ) ex) 22 (nAn σ) f) 23 (nAn σ) a) 24 (nAn σ) (dayV σ)) 19 0 (nAn σ + 1))) (i := i) rfl rfl rfl rfl⟩) (fun i h => ⟨Or.inl (Or.inl h), rfl, rfl⟩) (fun i h => ⟨Or.inl (Or.inl h), rfl, rfl⟩) (fun i h => by
      rcases Nat.lt_succ_iff_lt_or_eq.mp (show i < nAn σ + 1 from h) with h1 | h1
      · have hne : ¬ i = nAn σ := by omega
        exact ⟨Or.inl (Or.inl h1), rfl, by rw [iup_n _ _ (kne (by decide)), iup_n _ _ (ine hne), iup_n _ _ (kne (by decide))]; simp [cEnL, sN, sV, hne]⟩
      · subst h1
        exact ⟨Or.inr rfl, rfl, by rw [iup_n _ _ (kne (by decide)), iup_s]; simp [cEnL, sN, sV]⟩) (fun i h => ⟨Or.inl (Or.inl h), rfl, rfl⟩) (fun i h => ⟨Or.inl (Or.inl h), rfl, rfl⟩) (⟨Or.inl (Or.inl rfl), rfl, by show (SBO _ _ _ : va_E) = SBO _ _ _; rw [show (gAn g (nAn σ) gr 0 0).2.2.1 3 0 = g.2.2.1 3 0 from gAn_3 (by decide) (by decide) (by decide)]; rfl⟩) ⟨Or.inl (Or.inl rfl), rfl, rfl⟩)
set_option maxHeartbeats 2000000 in
theorem push9 {G : GT} {g : CG} {A : Nat → Prop} {ad : I2 → Nat} {σ : Sg} {L : Nat → List I2} {H : Heap} {q q2 sx cx : Nat} (hI0 : MI0 σ) (hL : okL g σ L) (F : fw G.1 (fun j => (fun j => cLv g σ j ∨ j = (10, nCe σ)) j ∨ j = (9, nCe σ)) (iup (iup ad (10, nCe σ) q) (9, nCe σ) q2) (iup (iup (cEnL G g ad σ L) (10, nCe σ) (eMo (dayV σ) (nEx σ) (nAn σ))) (9, nCe σ) (.inr (6, [.int (nI (nCe σ)), .ref (ad (4, sx)), .ref (ad (8, cx)), .ref q, .int 1]))) A H) : cwL G g A (iup (iup ad (10, nCe σ) q) (9, nCe σ) q2) (sN (issS σ sx cx) 35 0 (nCe σ + 1)) L H := by
  exact fw.sub F (cwAll (g := g) (σ := (sN (issS σ sx cx) 35 0 (nCe σ + 1))) ⟨Or.inl (Or.inl rfl), rfl, rfl⟩ (fun i h => ⟨Or.inl (Or.inl h), rfl, rfl⟩) (fun k h h0 => ⟨Or.inl (Or.inl ⟨h, h0⟩), rfl, congrArg (fun f => (LA G (g.1 k) f : va_E)) (cont_ad fun j hj => (iup_n _ _ (notin hL h (n := (9, nCe σ)) (show ¬ nCe σ < nCe σ by omega) j hj)).trans (iup_n _ _ (notin1 hL h (a := 10) (b := nCe σ) (Or.inr (by decide)) j hj)))⟩) (fun i h => ⟨Or.inl (Or.inl h), rfl, rfl⟩) (fun i h => ⟨Or.inl (Or.inl h), rfl, rfl⟩) (fun i h => ⟨Or.inl (Or.inl h), rfl, rfl⟩) (fun i h => ⟨Or.inl (Or.inl h), rfl, eEx_w (ad := ad) (ad' := (iup (iup ad (10, nCe σ) q) (9, nCe σ) q2)) (σ := σ) (τ := (sN (issS σ sx cx) 35 0 (nCe σ + 1))) (i := i) rfl rfl rfl rfl rfl rfl rfl rfl⟩) (fun i h => ⟨Or.inl (Or.inl h), rfl, eAn_w (g := g) (g' := g) (ad := ad) (ad' := (iup (iup ad (10, nCe σ) q) (9, nCe σ) q2)) (σ := σ) (τ := (sN (issS σ sx cx) 35 0 (nCe σ + 1))) (i := i) rfl rfl rfl rfl rfl rfl rfl rfl rfl⟩) (fun i h => ⟨Or.inl (Or.inl h), rfl, rfl⟩) (fun i h => by
      rcases Nat.lt_succ_iff_lt_or_eq.mp (show i < nCe σ + 1 from h) with h1 | h1
      · have hne : ¬ i = nCe σ := by omega
        exact ⟨Or.inl (Or.inl h1), rfl, by rw [iup_n _ _ (ine hne), iup_n _ _ (kne (by decide))]; exact eCe_w (ad := ad) (ad' := (iup (iup ad (10, nCe σ) q) (9, nCe σ) q2)) (σ := σ) (τ := (sN (issS σ sx cx) 35 0 (nCe σ + 1))) (congrArg (fun z => ad (4, z)) (show hol (issS σ sx cx) i = hol σ i by simp [hol, issS, sN, sV, hne])) (congrArg (fun z => ad (8, z)) (show cou (issS σ sx cx) i = cou σ i by simp [cou, issS, sN, sV, hne])) ((iup_n _ _ (kne (by decide))).trans (iup_n _ _ (ine hne))) (show (issS σ sx cx).2 41 i = σ.2 41 i by simp [issS, sN, sV, hne])⟩
      · subst h1
        exact ⟨Or.inr rfl, rfl, by rw [iup_s]; simp [cEnL, iup, hol, cou, issS, sN, sV, bI]⟩) (fun i h => by
      rcases Nat.lt_succ_iff_lt_or_eq.mp (show i < nCe σ + 1 from h) with h1 | h1
      · have hne : ¬ i = nCe σ := by omega
        exact ⟨Or.inl (Or.inl h1), rfl, by rw [iup_n _ _ (kne (by decide)), iup_n _ _ (ine hne)]; simp [cEnL, eTh, aTh, issS, sN, sV, hne]⟩
      · subst h1
        exact ⟨Or.inl (Or.inr rfl), rfl, by rw [iup_n _ _ (kne (by decide)), iup_s]; simp [cEnL, eTh, aTh, issS, sN, sV]⟩) (fun i h => ⟨Or.inl (Or.inl h), rfl, rfl⟩) (fun i h => ⟨Or.inl (Or.inl h), rfl, rfl⟩) (fun i h => ⟨Or.inl (Or.inl h), rfl, rfl⟩) (fun i h => ⟨Or.inl (Or.inl h), rfl, rfl⟩) ⟨Or.inl (Or.inl rfl), rfl, rfl⟩ ⟨Or.inl (Or.inl rfl), rfl, rfl⟩)
