section ME
variable {σ τ : Sg} {e : Nat} {f a : Int32}
theorem me_N (hτ : τ = (menF (men1 σ e f a) (anL (men1 σ e f a) e)).2) : eqN τ σ := by
  rw [hτ]
  exact mf_N (σ := σ) _ (0, men1 σ e f a) (men1_N σ e f a)
theorem me_V (hτ : τ = (menF (men1 σ e f a) (anL (men1 σ e f a) e)).2) {k : Nat} (h1 : k ≠ 25) (h2 : k ≠ 26) : τ.2 k = (men1 σ e f a).2 k := by
  rw [hτ]
  exact mf_V h1 h2 _ (0, men1 σ e f a)
theorem me_1 (hτ : τ = (menF (men1 σ e f a) (anL (men1 σ e f a) e)).2) : ∀ k, k ≠ 27 → k ≠ 28 → k ≠ 29 → k ≠ 30 → τ.1 k = σ.1 k := by
  intro k h1 h2 h3 h4
  rw [hτ]
  have : ∀ (M : List Nat) (p : Nat × Sg), (M.foldl mst p).2.1 k = p.2.1 k := by
    intro M
    induction M with
    | nil => intro p; rfl
    | cons x M ih =>
      intro p
      rw [List.foldl_cons, ih]
      show (harP (menA p.2 x) x).1 k = _
      rw [harP_k _ _ h4 h3]
      exact dropS_N p.2 x h1 h2
  exact (this _ (0, men1 σ e f a)).trans (m1_1 h3)
theorem me_gr (hτ : τ = (menF (men1 σ e f a) (anL (men1 σ e f a) e)).2) {x : Nat} (hx : x < nAn σ) (hn : x ∉ anL (men1 σ e f a) e) : grade τ x = grade σ x := by
  have hN := me_N hτ
  have hne : ¬ exe σ x = e := fun z => hn (by rw [anL_m1]; exact List.mem_filter.mpr ⟨List.mem_range.mpr hx, by simpa using z⟩)
  have v : ∀ k y, k ≠ 25 → k ≠ 26 → (k = 13 ∨ k = 14 → ¬ y = e) → k ≠ 10 → k ≠ 31 → τ.2 k y = σ.2 k y := fun k y h1 h2 h3 h4 h5 => by
    rw [me_V hτ h1 h2]
    show (if k = 10 ∧ y = les σ e then _ else if k = 14 ∧ y = e then _ else if k = 13 ∧ y = e then _ else (befL σ e (nAn σ)).2 k y) = _
    rw [if_neg (fun z => h4 z.1), if_neg (fun z => h3 (Or.inr z.1) z.2), if_neg (fun z => h3 (Or.inl z.1) z.2), befL_V σ e h5]
  have e25 : τ.2 25 x = σ.2 25 x := by
    rw [hτ]
    unfold menF
    rw [mf_25, if_neg hn]
    exact congrFun (m1_V (by decide) (by decide) (by decide) (by decide)) x
  have d : ∀ k y, (k = 15 ∨ k = 22 ∨ k = 23 ∨ k = 17) → τ.2 k y = σ.2 k y := fun k y hk => v k y (by omega) (by omega) (by omega) (by omega) (by omega)
  exact grade_c (by rw [show exe τ = exe σ from hN.s (by decide)]) (by rw [show cas τ = cas σ from hN.s (k := 16) (by decide)]) (v 13 _ (by decide) (by decide) (fun _ => hne) (by decide) (by decide)) (v 14 _ (by decide) (by decide) (fun _ => hne) (by decide) (by decide)) (d 15 _ (by omega)) (d 22 _ (by omega)) (d 23 _ (by omega)) e25 (fun k hk => ⟨by rw [show wei τ = wei σ from hN.s (k := 18) (by decide)], d 17 _ (by omega)⟩)
theorem me_app (hτ : τ = (menF (men1 σ e f a) (anL (men1 σ e f a) e)).2) : appL τ = (appL σ).filter (fun x => decide (x ∉ anL (men1 σ e f a) e)) := by
  rw [hτ]
  unfold menF
  rw [mf_app]
  show (appL (men1 σ e f a)).filter _ = _
  rw [appL_m1]
theorem me_wait (hτ : τ = (menF (men1 σ e f a) (anL (men1 σ e f a) e)).2) {x : Nat} : waitS τ x (nAp τ) = (waitS σ x (nAp σ) && decide (x ∉ anL (men1 σ e f a) e)) := by
  rw [wait_L, wait_L, me_app hτ]
  by_cases h : x ∈ appL σ <;> by_cases h2 : x ∈ anL (men1 σ e f a) e <;> simp [h, h2, List.mem_filter]
theorem me_M (hτ : τ = (menF (men1 σ e f a) (anL (men1 σ e f a) e)).2) (hI : MI σ) {g g' : CG} (hwt : ∀ a, a < nAn σ → g.2.2.1 1 a = bI (waitS σ a (nAp σ))) (w5 : ∀ x, x ∈ anL (men1 σ e f a) e → g'.2.2.1 1 x = 0) (w6 : ∀ k x, x ∉ anL (men1 σ e f a) e → g'.2.2.1 k x = g.2.2.1 k x) : ∀ i ∈ lstN σ 7, i.1 = 7 ∧ i.2 < nAn τ ∧ g'.2.2.1 1 i.2 = bI (decide (i.2 ∉ anL (men1 σ e f a) e)) := by
  have hn : nAn τ = nAn σ := congrFun ((me_N hτ).s (k := 19) (by decide)) 0
  rw [hn]
  refine wd_M hI (p := fun x => decide (x ∉ anL (men1 σ e f a) e)) fun y hy => ?_
  by_cases h : y ∈ anL (men1 σ e f a) e
  · rw [w5 y h]
    simp [h, bI]
  · obtain ⟨z, hz, ez⟩ := List.mem_map.mp hy
    rw [w6 1 y h, hwt y (by rw [← ez]; exact hI.ap (List.mem_range.mp hz)), wait_L, show decide (y ∈ appL σ) = true from decide_eq_true hy, show decide (y ∉ anL (men1 σ e f a) e) = true from decide_eq_true h]
theorem me_LL (hτ : τ = (menF (men1 σ e f a) (anL (men1 σ e f a) e)).2) : ∀ k, lsB τ k → lstN τ k = upL (upL (lstN σ) 8 (lstN τ 8)) 7 (((upL (lstN σ) 8 (lstN τ 8)) 7).filter (fun i => decide (i.2 ∉ anL (men1 σ e f a) e))) k := by
  intro k hk
  by_cases h7 : k = 7
  · subst h7
    rw [upL_s, upL_n _ _ (by decide)]
    exact (lst7_f (p := fun x => decide (x ∉ anL (men1 σ e f a) e)) (me_app hτ)).symm
  · rw [upL_n _ _ h7]
    by_cases h8 : k = 8
    · subst h8
      rw [upL_s]
    · rw [upL_n _ _ h8]
      exact lst_same2 (me_1 hτ) k hk h7 h8
theorem CB_men {G : GT} {g g' g3 : CG} {A : Nat → Prop} {ad : I2 → Nat} {H : Heap} {b n : Nat} (hτ : τ = (menF (men1 σ e f a) (anL (men1 σ e f a) e)).2) (hwt : ∀ a, a < nAn σ → g.2.2.1 1 a = bI (waitS σ a (nAp σ))) (hsb : LI g σ) (w5 : ∀ x, x ∈ anL (men1 σ e f a) e → g'.2.2.1 1 x = 0) (w6 : ∀ k x, x ∉ anL (men1 σ e f a) e → g'.2.2.1 k x = g.2.2.1 k x) (w7 : g'.2.2.2 = g.2.2.2) (hg : g3.2.2 = g'.2.2) (hb : ad (0, 0) = b) (hC : CL g3 τ) (hgr : ∀ a, a < nAn τ → g3.2.2.1 0 a = grade τ a) (F : cw G g3 A ad (revL τ n) H) : CB G A b (revL τ n) H := by
  have hl := lstN_1 (revL_1 τ n)
  have h1 := revL_1 τ n
  have e1 : nAn (revL τ n) = nAn τ := congrFun (congrFun h1 19) 0
  have e2 : nAp (revL τ n) = nAp τ := congrFun (congrFun h1 27) 0
  have e3 : app (revL τ n) = app τ := congrFun h1 28
  have e4 : nSz (revL τ n) = nSz σ := (congrFun (congrFun h1 43) 0).trans (congrFun (me_1 hτ 43 (by decide) (by decide) (by decide) (by decide)) 0)
  have hn : nAn τ = nAn σ := congrFun ((me_N hτ).s (k := 19) (by decide)) 0
  have c3 : nLe (revL τ n) = nLe τ := congrFun (congrFun h1 7) 0
  have c4 : nEx (revL τ n) = nEx τ := congrFun (congrFun h1 11) 0
  refine mkCB hb (fun k hk => rfl) (fun k hk => by rw [hl]; exact hC k (by unfold lsB at *; omega)) (fun x hx => ?_) (fun x hx => ?_) ?_ F
  · rw [gr_revL]
    exact hgr x (by omega)
  · rw [hg, e2, waitS_c e3, me_wait hτ]
    by_cases h : x ∈ anL (men1 σ e f a) e
    · rw [w5 x h]
      simp [h, bI]
    · rw [w6 1 x h, hwt x (by omega), show decide (x ∉ anL (men1 σ e f a) e) = true from decide_eq_true h, Bool.and_true]
  · unfold LI at hsb ⊢
    rw [hg, w7, e4, revL_V τ (by decide), me_V hτ (by decide) (by decide), m1_V (by decide) (by decide) (by decide) (by decide)]
    exact hsb
end ME
