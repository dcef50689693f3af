theorem plc_stop {fl : Nat → Int32} {c : Int32} {n : Nat} (h0 : 0 < n) (h : ¬ fl (n - 1) < c) : plc fl c n = n := by
  obtain ⟨t, rfl⟩ : ∃ t, n = t + 1 := ⟨n - 1, by omega⟩
  simp only [plc]
  exact if_neg h
theorem plc_go {fl : Nat → Int32} {c : Int32} {n : Nat} (h0 : 0 < n) (h : fl (n - 1) < c) : plc fl c n = plc fl c (n - 1) := by
  obtain ⟨t, rfl⟩ : ∃ t, n = t + 1 := ⟨n - 1, by omega⟩
  simp only [plc]
  exact if_pos h
theorem plc_z {fl : Nat → Int32} {c : Int32} {n : Nat} (h0 : n = 0) : plc fl c n = n := by
  subst h0
  rfl
theorem lsB_N {τ σ : Sg} (h : eqN τ σ) {k : Nat} : lsB τ k ↔ lsB σ k := by
  have c3 : nLe τ = nLe σ := congrFun (h.s (k := 7) (by decide)) 0
  have c4 : nEx τ = nEx σ := congrFun (h.s (k := 11) (by decide)) 0
  unfold lsB
  rw [c3, c4]
theorem CLL_N {g : CG} {τ σ : Sg} {L : Nat → List I2} (h : eqN τ σ) (hC : CLL g σ L) : CLL g τ L := fun k hk => hC k ((lsB_N h).mp hk)
theorem okL_N {g g' : CG} {τ σ : Sg} {L : Nat → List I2} (h : eqN τ σ) (hL : okL g σ L) : okL g' τ L := by
  refine okL_mono hL ?_ (fun k hk => Or.inl ((lsB_N h).mp hk))
  have c1 : nCo τ = nCo σ := congrFun (h.s (k := 2) (by decide)) 0
  have c2 : nSt τ = nSt σ := congrFun (h.s (k := 5) (by decide)) 0
  have c3 : nLe τ = nLe σ := congrFun (h.s (k := 7) (by decide)) 0
  have c4 : nEx τ = nEx σ := congrFun (h.s (k := 11) (by decide)) 0
  have c5 : nAn τ = nAn σ := congrFun (h.s (k := 19) (by decide)) 0
  have c6 : nCr τ = nCr σ := congrFun (h.s (k := 32) (by decide)) 0
  have c7 : nCe τ = nCe σ := congrFun (h.s (k := 35) (by decide)) 0
  omega
theorem gr_harP (τ : Sg) (k x : Nat) : grade (harP τ k) x = grade τ x := grade_e (harP_N (eqN.rf τ) k) ⟨by rw [harP_V], by rw [harP_V], by rw [harP_V], by rw [harP_V], by rw [harP_V], by rw [harP_V]⟩ (by rw [harP_V])
theorem menA_25 (τ : Sg) (k x : Nat) : (menA τ k).2 25 x = if x = k then 0 else τ.2 25 x := by
  show (if (25 : Nat) = 26 ∧ x = k then (0 : Int32) else if (25 : Nat) = 25 ∧ x = k then 0 else (dropS τ k).2 25 x) = _
  rw [if_neg (fun z => absurd z.1 (by decide)), dropS_V]
  by_cases h : x = k
  · rw [if_pos ⟨rfl, h⟩, if_pos h]
  · rw [if_neg (fun z => h z.2), if_neg h]
theorem gr_menA (τ : Sg) {k x : Nat} (h : ¬ x = k) : grade (menA τ k) x = grade τ x := grade_e (menA_N (eqN.rf τ) k) ⟨menA_V τ k (by decide) (by decide), menA_V τ k (by decide) (by decide), menA_V τ k (by decide) (by decide), menA_V τ k (by decide) (by decide), menA_V τ k (by decide) (by decide), menA_V τ k (by decide) (by decide)⟩ (by rw [menA_25, if_neg h])
theorem upL_82 (L : Nat → List I2) (M N : List I2) : upL (upL L 8 M) 8 N = upL L 8 N := upL_upL L 8 M N
/-- the bench's world behind the answers in M, on a mend's way -/
def gaW (G : GT) (A : Nat → Prop) (σ : Sg) (g0 : CG) (ad0 : I2 → Nat) (L0 : Nat → List I2) (M : List Nat) (τ : Sg) (g : CG) (ad : I2 → Nat) (H : Heap) : Prop :=
  τ = (menF σ M).2 ∧ cwL G g A ad τ (upL L0 8 (lstN τ 8)) H ∧ CLL g τ (upL L0 8 (lstN τ 8)) ∧ okL g τ (upL L0 8 (lstN τ 8)) ∧
  (∀ x, x ∈ M → g.2.2.1 0 x = grade τ x ∧ g.2.2.1 1 x = 0 ∧ g.2.2.1 2 x = σ.2 31 x - grade τ x) ∧
  (∀ k x, x ∉ M → g.2.2.1 k x = g0.2.2.1 k x) ∧ g.2.2.2 = g0.2.2.2 ∧ ∀ i : I2, i.1 ≠ 2 → ad i = ad0 i
theorem harL_m {τ : Sg} {z : Nat} (h : z < nHa τ) : har τ z ∈ harL τ := List.mem_map.mpr ⟨z, List.mem_range.mpr h, rfl⟩
theorem harL_in {σ : Sg} : ∀ (M : List Nat) (p : Nat × Sg) (Q : Nat → Prop), (∀ x ∈ harL p.2, Q x) → (∀ x ∈ M, Q x) → ∀ x ∈ harL (M.foldl mst p).2, Q x
  | [], _, _, h, _ => h
  | y :: M, p, Q, h, hM => harL_in (σ := σ) M (mst p y) Q (fun x hx => by
      have hx' : x ∈ harL (harP (menA p.2 y) y) := hx
      rw [harL_P] at hx'
      have e1 : harL (menA p.2 y) = harL p.2 := by
        unfold harL
        rw [(menA_H p.2 y).1, (menA_H p.2 y).2]
      have e2 := harD_le y (nHa (menA p.2 y)) (menA p.2 y)
      rw [e1, List.mem_insertIdx (by unfold harL; rw [List.length_map, List.length_range, ← (menA_H p.2 y).1]; exact e2)] at hx'
      rcases hx' with z | z
      · rw [z]
        exact hM y List.mem_cons_self
      · exact h x z) (fun x hx => hM x (List.mem_cons_of_mem _ hx))
section GA
variable {G : GT} {A : Nat → Prop} {σ τ : Sg} {g0 g : CG} {ad0 ad : I2 → Nat} {L0 : Nat → List I2} {M : List Nat} {H : Heap} {a : Nat}
theorem gaW.N (W : gaW G A σ g0 ad0 L0 M τ g ad H) : eqN τ σ := by rw [W.1]; exact mf_N M (0, σ) (eqN.rf σ)
theorem gaW.n (W : gaW G A σ g0 ad0 L0 M τ g ad H) (h : nHa σ = 0) : nHa τ = M.length := by
  rw [W.1]
  have h1 : nHa (M.foldl mst (0, σ)).2 = nHa σ + M.length := mf_H M (0, σ)
  unfold menF
  omega
theorem gaW.h (W : gaW G A σ g0 ad0 L0 M τ g ad H) (h : nHa σ = 0) {z : Nat} (hz : z < nHa τ) : har τ z ∈ M := by
  have h1 := harL_m hz
  rw [W.1] at h1 ⊢
  exact harL_in (σ := σ) M (0, σ) (fun x => x ∈ M) (fun x hx => by
    have hx' : x ∈ harL σ := hx
    unfold harL at hx'
    rw [h] at hx'
    cases hx') (fun x hx => hx) _ h1
theorem gaW.b (W : gaW G A σ g0 ad0 L0 M τ g ad H) (hI0 : MI0 σ) (h31 : ∀ x ∈ M, ∃ b, b ≤ 100 ∧ σ.2 31 x = nI b) (hMn : ∀ x ∈ M, x < nAn σ) {x : Nat} (hx : x ∈ M) : ∃ q, q ≤ 100 ∧ grade τ x = nI q := by
  have hn : nAn τ = nAn σ := congrFun (W.N.s (k := 19) (by decide)) 0
  refine grade_n (W.N.mi hI0) (by rw [hn]; exact hMn x hx) ⟨0, by omega, ?_⟩
  rw [W.1]
  unfold menF
  rw [mf_25, if_pos hx]
  rfl
/-- the new grade of the answer met next -/
theorem ga_new (W : gaW G A σ g0 ad0 L0 M τ g ad H) (hI0 : MI0 σ) (ha : a < nAn σ) : ∃ q, q ≤ 100 ∧ grade (menA τ a) a = nI q := by
  have hN : eqN (menA τ a) σ := (menA_N (eqN.rf τ) a).tr W.N
  have hn : nAn (menA τ a) = nAn σ := congrFun (hN.s (k := 19) (by decide)) 0
  refine grade_n (hN.mi hI0) (by rw [hn]; exact ha) ⟨0, by omega, ?_⟩
  rw [menA_25, if_pos rfl]
  rfl
theorem ga_31 (W : gaW G A σ g0 ad0 L0 M τ g ad H) (x : Nat) : τ.2 31 x = σ.2 31 x := by
  rw [W.1]
  exact congrFun (mf_V (by decide) (by decide) M (0, σ)) x
/-- the place among the harmed -/
theorem ga_p (W : gaW G A σ g0 ad0 L0 M τ g ad H) (hI0 : MI0 σ) (h0 : nHa σ = 0) (h31 : ∀ x, x < nAn σ → ∃ b, b ≤ 100 ∧ σ.2 31 x = nI b) (hMn : ∀ x ∈ M, x < nAn σ) (ha : a < nAn σ) (haM : a ∉ M) (hg0 : g0.2.2.1 0 a = σ.2 31 a) :
    plc (fun j => (gAn g a (grade (menA τ a) a) 0 (g.2.2.1 0 a - grade (menA τ a) a)).2.2.1 2 (har (menA τ a) j)) (g.2.2.1 0 a - grade (menA τ a) a) (nHa (menA τ a)) = (harD (menA τ a) a (nHa (menA τ a))).1 := by
  have hga : g.2.2.1 0 a = σ.2 31 a := by rw [W.2.2.2.2.2.1 0 a haM]; exact hg0
  have hf : ∀ x, x ∈ M ∨ x = a → (gAn g a (grade (menA τ a) a) 0 (g.2.2.1 0 a - grade (menA τ a) a)).2.2.1 2 x = σ.2 31 x - grade (menA τ a) x ∧ (∃ q, q ≤ 100 ∧ grade (menA τ a) x = nI q) ∧ x < nAn σ := by
    intro x hx
    by_cases hxa : x = a
    · subst hxa
      refine ⟨?_, ga_new W hI0 ha, ha⟩
      rw [← hga]
      simp [gAn]
    · have hxM := hx.resolve_right hxa
      refine ⟨?_, ?_, hMn x hxM⟩
      · rw [gAn_no hxa, (W.2.2.2.2.1 x hxM).2.2, gr_menA τ hxa]
      · rw [gr_menA τ hxa]
        exact W.b hI0 (fun y hy => h31 y (hMn y hy)) hMn hxM
  have h := harD_p (k := a) (Q := fun x => x ∈ M ∨ x = a) (fa := fun x => (gAn g a (grade (menA τ a) a) 0 (g.2.2.1 0 a - grade (menA τ a) a)).2.2.1 2 x) (nHa (menA τ a)) (menA τ a) (fun x y hx hy => by
    obtain ⟨f1, ⟨q1, l1, e1⟩, n1⟩ := hf x hx
    obtain ⟨f2, ⟨q2, l2, e2⟩, n2⟩ := hf y hy
    obtain ⟨b1, m1, d1⟩ := h31 x n1
    obtain ⟨b2, m2, d2⟩ := h31 y n2
    show _ ↔ ¬ (gAn g a (grade (menA τ a) a) 0 (g.2.2.1 0 a - grade (menA τ a) a)).2.2.1 2 x < (gAn g a (grade (menA τ a) a) 0 (g.2.2.1 0 a - grade (menA τ a) a)).2.2.1 2 y
    rw [f1, f2, menA_V τ a (by decide) (by decide), ga_31 W, ga_31 W, e1, e2, d1, d2]
    exact fall_c l1 m1 l2 m2) (Or.inr rfl) (fun j hj => by
    rw [(menA_H τ a).1] at hj
    rw [(menA_H τ a).2]
    exact Or.inl (W.h h0 hj))
  rw [h]
  have e3 : (gAn g a (grade (menA τ a) a) 0 (g.2.2.1 0 a - grade (menA τ a) a)).2.2.1 2 a = g.2.2.1 0 a - grade (menA τ a) a := by simp [gAn]
  show plc _ _ _ = plc _ ((gAn g a (grade (menA τ a) a) 0 (g.2.2.1 0 a - grade (menA τ a) a)).2.2.1 2 a) _
  rw [e3]
theorem lst8_A (τ : Sg) (k : Nat) : lstN (menA τ k) 8 = lstN τ 8 := by
  rw [lst8, lst8]
  unfold harL
  rw [(menA_H τ k).1, (menA_H τ k).2]
/-- one answer more -/
theorem ga_step (W : gaW G A σ g0 ad0 L0 M τ g ad H) (hI0 : MI0 σ) (ha : a < nAn σ) (haM : a ∉ M) (hg0 : g0.2.2.1 0 a = σ.2 31 a) (h6 : (lstN τ 8).length ≤ 100) {H' : Heap} {x : Int32} {q2 : Nat}
    (F : cwL G (gls (gAn g a (grade (menA τ a) a) 0 (g.2.2.1 0 a - grade (menA τ a) a)) 8 (ncap (lstN τ 8).length (g.1 8)) x) A (iup ad (2, 8) q2) (menA τ a) (upL (upL L0 8 (lstN τ 8)) 8 ((lstN τ 8).insertIdx (harD (menA τ a) a (nHa (menA τ a))).1 (7, a))) H') :
    gaW G A σ g0 ad0 L0 (M ++ [a]) (harP (menA τ a) a) (gls (gAn g a (grade (menA τ a) a) 0 (g.2.2.1 0 a - grade (menA τ a) a)) 8 (ncap (lstN τ 8).length (g.1 8)) x) (iup ad (2, 8) q2) H' := by
  obtain ⟨w1, w2, w3, w4, w5, w6, w7, w8⟩ := W
  have hN : eqN (harP (menA τ a) a) τ := harP_N (menA_N (eqN.rf τ) a) a
  have hNt : eqN τ σ := gaW.N ⟨w1, w2, w3, w4, w5, w6, w7, w8⟩
  have hl : lstN (harP (menA τ a) a) 8 = (lstN τ 8).insertIdx (harD (menA τ a) a (nHa (menA τ a))).1 (7, a) := by rw [lst8_P, lst8_A]
  have hle : (harD (menA τ a) a (nHa (menA τ a))).1 ≤ (lstN τ 8).length := by
    have := harD_le a (nHa (menA τ a)) (menA τ a)
    rw [(menA_H τ a).1] at this
    rw [lst8, List.length_map]
    unfold harL
    rw [List.length_map, List.length_range, (menA_H τ a).1]
    exact this
  have h8 : lsB τ 8 := Or.inl (by omega)
  have hga : g.2.2.1 0 a = σ.2 31 a := (w6 0 a haM).trans hg0
  have hlen : ((upL L0 8 (lstN τ 8)) 8).length ≤ g.1 8 ∧ g.1 8 ≤ 200 := w3 8 h8
  rw [upL_s] at hlen
  have hcap := ncap_b hlen.1 h6 hlen.2
  refine ⟨?_, ?_, ?_, ?_, ?_, ?_, w7, ?_⟩
  · unfold menF at w1 ⊢
    rw [List.foldl_append, w1]
    rfl
  · rw [hl, ← upL_82 L0 (lstN τ 8)]
    exact cwL_sg (sameC_har (menA τ a) a) F
  · rw [hl, ← upL_82 L0 (lstN τ 8)]
    refine CLL_N hN (CLL_up (g := gAn g a (grade (menA τ a) a) 0 (g.2.2.1 0 a - grade (menA τ a) a)) w3 ⟨?_, hcap.2⟩)
    rw [List.length_insertIdx_of_le_length hle]
    exact hcap.1
  · rw [hl, ← upL_82 L0 (lstN τ 8)]
    refine okL_N (g := g) hN (okL_up w4 fun i hi => ?_)
    rcases (List.mem_insertIdx hle).mp hi with z | z
    · rw [z]
      have hn : nAn τ = nAn σ := congrFun (hNt.s (k := 19) (by decide)) 0
      exact ⟨by show a < nAn τ; omega, Nat.le_of_ble_eq_true rfl, Nat.le_of_ble_eq_true rfl⟩
    · exact w4 8 h8 i (by rw [upL_s]; exact z)
  · intro y hy
    show (gAn g a (grade (menA τ a) a) 0 (g.2.2.1 0 a - grade (menA τ a) a)).2.2.1 0 y = _ ∧ (gAn g a (grade (menA τ a) a) 0 (g.2.2.1 0 a - grade (menA τ a) a)).2.2.1 1 y = 0 ∧ (gAn g a (grade (menA τ a) a) 0 (g.2.2.1 0 a - grade (menA τ a) a)).2.2.1 2 y = _
    rw [gr_harP]
    by_cases h : y = a
    · subst h
      rw [← hga]
      simp [gAn]
    · have hyM : y ∈ M := by
        rcases List.mem_append.mp hy with z | z
        · exact z
        · exact absurd (List.mem_singleton.mp z) h
      rw [gAn_no h, gAn_no h, gAn_no h, gr_menA τ h]
      exact w5 y hyM
  · intro k y hy
    have h1 : ¬ y = a := fun z => hy (by rw [z]; exact List.mem_append_right _ List.mem_cons_self)
    exact (gAn_no h1).trans (w6 k y (fun z => hy (List.mem_append_left _ z)))
  · intro i hi
    exact (iup_n _ _ (fun z => hi (by rw [z]))).trans (w8 i hi)
end GA
theorem gAn_f {g : CG} {a : Nat} {gr w fl : Int32} : (gAn g a gr w fl).2.2.1 2 a = fl := by simp [gAn]
theorem nd_take {L : List Nat} (h : L.Nodup) {i y : Nat} (hi : L[i]? = some y) : y ∉ L.take i := by
  intro hm
  obtain ⟨j, hj⟩ := List.mem_iff_getElem?.mp hm
  have hji : j < i := by
    rcases Nat.lt_or_ge j i with q | q
    · exact q
    · rw [List.getElem?_eq_none (by rw [List.length_take]; omega)] at hj
      cases hj
  rw [List.getElem?_take_of_lt hji] at hj
  have hl : j < L.length := by
    rcases Nat.lt_or_ge j L.length with q | q
    · exact q
    · rw [List.getElem?_eq_none q] at hj
      cases hj
  have := (List.getElem?_inj hl h).mp (hj.trans hi.symm)
  omega
theorem anL_nd (σ : Sg) (e : Nat) : (anL σ e).Nodup := List.nodup_range.filter _
section GB
variable {G : GT} {A : Nat → Prop} {σ τ : Sg} {g0 g : CG} {ad0 ad : I2 → Nat} {L0 : Nat → List I2} {M : List Nat} {H : Heap} {a : Nat}
theorem ga_ch (W : gaW G A σ g0 ad0 L0 M τ g ad H) (hI0 : MI0 σ) (h31 : ∀ x, x < nAn σ → ∃ b, b ≤ 100 ∧ σ.2 31 x = nI b) (ha : a < nAn σ) (haM : a ∉ M) (hg0 : g0.2.2.1 0 a = σ.2 31 a) : g.2.2.1 0 a - grade (menA τ a) a = 0 ↔ grade (menA τ a) a = (menA τ a).2 31 a := by
  obtain ⟨q1, l1, e1⟩ := ga_new W hI0 ha
  obtain ⟨b1, m1, d1⟩ := h31 a ha
  rw [W.2.2.2.2.2.1 0 a haM, hg0, menA_V τ a (by decide) (by decide), ga_31 W, e1, d1]
  exact fall_0 l1 m1
theorem ga_0 (h0 : nHa σ = 0) (hC : CLL g σ (upL L0 8 [])) (hLo : okL g σ (upL L0 8 [])) (h2 : g.2.2 = g0.2.2) (F : cwL G g A ad σ (upL L0 8 []) H) : gaW G A σ g0 ad L0 [] σ g ad H := by
  have h8 : lstN σ 8 = [] := by
    show (List.range (nHa σ)).map (fun x => ((7, har σ x) : I2)) = []
    rw [h0]
    rfl
  exact ⟨rfl, (by rw [h8]; exact F), (by rw [h8]; exact hC), (by rw [h8]; exact hLo), (fun x hx => by cases hx), (fun k x _ => by rw [h2]), (by rw [h2]), fun _ _ => rfl⟩
end GB
theorem addS_nc {n q : Nat} : 4 * q + addS n q ≤ 4 * ncap n q := by
  unfold addS ncap gcap
  split
  · split
    · omega
    · split <;> omega
  · omega
