/-! ===== the line, written ===== -/
theorem f_ldcw {p : Program} {l : Launch} {e : Env} {R : Room} {s : State} {m : MethodId} {args : Array Value} {below : List Frame} {meth : Method} {c : Code} {H : Heap} {locs : List Loc} {cells slots : Nat} {Q : State → Prop} {cc : ByteArray} {pc nL : Nat} {ls : Array Slot} {rest : List Value} {own : String} {ret : Option FieldType} (X : CF p s m args meth c cc nL own ret) {tx : String} {index q : Nat} (hZ : vk_R own index tx q s) (hdg : decode cc pc = .ok (.ldc_w index, 3))
    (k : W p l e R s m args below meth c H locs cells slots Q (F0 m (pc + 3) ls (.ref q :: rest))) : W p l e R s m args below meth c H locs cells slots Q (F0 m pc ls rest) := by
  intro T hT Y
  obtain ⟨t, a1, b1⟩ := k T hT Y
  exact ⟨t, Y.ldcStringW X.ex X.ow (text := tx) (a := q) hZ.1 hZ.2 (g := F0 m pc ls rest) rfl (by rw [X.co]; exact hdg) t a1, b1⟩
def gSB (g : CG) (ml : Int32) (m : Nat) (f : Nat → Int32) : CG := (g.1, g.2.1, fun k x => if k = 3 ∧ x = 0 then ml else g.2.2.1 k x, (m, f))
theorem putL_lo {T : List Nat} : ∀ {σ : Sg} {x : Nat}, x < nSz σ → (putL σ T).2 42 x = σ.2 42 x := by
  induction T with
  | nil => intro σ x _; rfl
  | cons y T ih =>
    intro σ x hx
    refine (ih (σ := putS σ (nI y)) (by rw [putS_sz]; omega)).trans ?_
    exact if_neg (fun z => by have := z.2; omega)
theorem putL_in {T : List Nat} : ∀ {σ : Sg} {x : Nat}, x < T.length → (putL σ T).2 42 (nSz σ + x) = nI (T.getD x 0) := by
  induction T with
  | nil => intro σ x hx; exact absurd hx (by simp)
  | cons y T ih =>
    intro σ x hx
    cases x with
    | zero =>
      refine (putL_lo (T := T) (σ := putS σ (nI y)) (by rw [putS_sz]; omega)).trans ?_
      exact if_pos ⟨rfl, rfl⟩
    | succ x =>
      have h := ih (σ := putS σ (nI y)) (x := x) (by simpa using hx)
      rw [putS_sz, show nSz σ + 1 + x = nSz σ + (x + 1) by omega] at h
      exact h
theorem putL_1s {T : List Nat} : ∀ σ : Sg, (putL σ T).1 = (sN σ 43 0 (nSz σ + T.length)).1 := by
  induction T with
  | nil =>
    intro σ
    funext k j
    show σ.1 k j = if k = 43 ∧ j = 0 then σ.1 43 0 + 0 else σ.1 k j
    split
    · rename_i h
      rw [h.1, h.2]
      rfl
    · rfl
  | cons y T ih =>
    intro σ
    refine (ih (putS σ (nI y))).trans ?_
    rw [putS_sz]
    funext k j
    show (if k = 43 ∧ j = 0 then nSz σ + 1 + T.length else if k = 43 ∧ j = 0 then nSz σ + 1 else σ.1 k j) = if k = 43 ∧ j = 0 then nSz σ + (y :: T).length else σ.1 k j
    split
    · rw [List.length_cons]
      omega
    · rfl
theorem sameC_put (σ : Sg) (T : List Nat) : sameC (sN σ 43 0 (nSz σ + T.length)) (putL σ T) := ⟨fun k _ _ _ _ _ => by rw [putL_1s], fun k _ h => putL_V T σ k h⟩
theorem sb_app {G : GT} {g : CG} {ml : Int32} {m : Nat} {f t : Nat → Int32} {A : Nat → Prop} {ad : I2 → Nat} {τ : Sg} {L : Nat → List I2} {H : Heap} {T : List Nat} {n len : Nat} (hlen : len = T.length) (hnz : n = nSz τ) (hT : ∀ x, x < T.length → T.getD x 0 < 128) (ht : ∀ x, x < T.length → t x = nI (T.getD x 0)) (hsb : LI (gSB g ml m f) τ) (hL : okL (gSB g ml m f) τ L) (F : apnd G (cLv (gSB g ml m f) τ) ad (cEnL G (gSB g ml m f) ad τ L) A (15, 0) (16, 0) ml n len f t H) :
    ∃ (q2 m2 : Nat) (f2 : Nat → Int32), cwL G (gSB g ml m2 f2) A (iup ad (16, 0) q2) (putL τ T) L H ∧ LI (gSB g ml m2 f2) (putL τ T) := by
  subst hlen
  subst hnz
  obtain ⟨q2, m2, f2, ⟨h1, h2⟩, ⟨h3, h4, h5⟩, F⟩ := F
  refine ⟨q2, m2, f2, cwL_sg (sameC_put τ T) ?_, ?_⟩
  · refine fw.sub F (cwAll (g := gSB g ml m2 f2) (σ := sN τ 43 0 (nSz τ + T.length)) ⟨Or.inl rfl, rfl, rfl⟩ (fun k h => ⟨Or.inl h, rfl, rfl⟩) (fun k h h0 => ⟨Or.inl ⟨h, h0⟩, rfl, congrArg (fun f => (LA G (g.1 k) f : va_E)) (cont_ad fun j hj => iup_n _ _ (notin1 hL h (a := 16) (b := 0) (Or.inr (by decide)) j hj))⟩) (fun i h => ⟨Or.inl h, rfl, rfl⟩) (fun i h => ⟨Or.inl h, rfl, rfl⟩) (fun i h => ⟨Or.inl h, rfl, rfl⟩) (fun i h => ⟨Or.inl h, rfl, eEx_w (ad := ad) (ad' := iup ad (16, 0) q2) (σ := τ) (τ := sN τ 43 0 (nSz τ + T.length)) (i := i) rfl rfl rfl rfl rfl rfl rfl rfl⟩) (fun i h => ⟨Or.inl h, rfl, rfl⟩) (fun i h => ⟨Or.inl h, rfl, rfl⟩) (fun i h => ⟨Or.inl h, rfl, rfl⟩) (fun i h => ⟨Or.inl h, rfl, rfl⟩) (fun i h => ⟨Or.inl h, rfl, rfl⟩) (fun i h => ⟨Or.inl h, rfl, rfl⟩) (fun i h => ⟨Or.inl h, rfl, rfl⟩) (fun i h => ⟨Or.inl h, rfl, rfl⟩) ⟨Or.inl rfl, rfl, ?_⟩ ⟨Or.inr rfl, rfl, ?_⟩)
    · rw [iup_n _ _ (kne (by decide)), iup_s]
      show (SBO (iup ad (16, 0) q2 (16, 0)) ml (nSz τ + T.length) : va_E) = _
      rw [iup_s]
    · rw [iup_s]
      rfl
  · obtain ⟨s1, s2, s3, s4⟩ := hsb
    refine ⟨by rw [putL_sz]; exact h1, h2, fun x hx => ?_, h5⟩
    rw [putL_sz] at hx
    rcases Nat.lt_or_ge x (nSz τ) with hq | hq
    · obtain ⟨q, e1, e2, e3⟩ := s3 x hq
      exact ⟨q, e1, (h3 x hq).trans e2, (putL_lo hq).trans e3⟩
    · obtain ⟨y, rfl⟩ : ∃ y, x = nSz τ + y := ⟨x - nSz τ, by omega⟩
      have hy : y < T.length := by omega
      exact ⟨T.getD y 0, hT y hy, (h4 y hy).trans (ht y hy), putL_in hy⟩
/-- the line emptied -/
theorem sb_0 {G : GT} {g : CG} {ml : Int32} {A : Nat → Prop} {ad : I2 → Nat} {σ : Sg} {L : Nat → List I2} {H : Heap} (hsb : LI g σ) (F : fw G.1 (cLv g σ) ad (iup (cEnL G g ad σ L) (15, 0) (SBO (ad (16, 0)) ml 0)) A H) : cwL G (gSB g ml g.2.2.2.1 g.2.2.2.2) A ad (sN σ 43 0 0) L H ∧ LI (gSB g ml g.2.2.2.1 g.2.2.2.2) (sN σ 43 0 0) := by
  refine ⟨?_, ?_⟩
  · refine fw.sub F (cwAll (g := gSB g ml g.2.2.2.1 g.2.2.2.2) (σ := sN σ 43 0 0) ⟨rfl, rfl, rfl⟩ (fun k h => ⟨h, rfl, rfl⟩) (fun k h h0 => ⟨⟨h, h0⟩, rfl, rfl⟩) (fun i h => ⟨h, rfl, rfl⟩) (fun i h => ⟨h, rfl, rfl⟩) (fun i h => ⟨h, rfl, rfl⟩) (fun i h => ⟨h, rfl, eEx_w (ad := ad) (ad' := ad) (σ := σ) (τ := sN σ 43 0 0) (i := i) rfl rfl rfl rfl rfl rfl rfl rfl⟩) (fun i h => ⟨h, rfl, rfl⟩) (fun i h => ⟨h, rfl, rfl⟩) (fun i h => ⟨h, rfl, rfl⟩) (fun i h => ⟨h, rfl, rfl⟩) (fun i h => ⟨h, rfl, rfl⟩) (fun i h => ⟨h, rfl, rfl⟩) (fun i h => ⟨h, rfl, rfl⟩) (fun i h => ⟨h, rfl, rfl⟩) ⟨rfl, rfl, ?_⟩ ⟨rfl, rfl, rfl⟩)
    rw [iup_s]
    rfl
  · obtain ⟨s1, s2, s3, s4⟩ := hsb
    exact ⟨Nat.zero_le _, s2, fun x hx => absurd hx (Nat.not_lt_zero x), s4⟩
def tTx (i : Nat) : List Nat := [tAns, tCol, tPas, tFai, tBy].getD i []
theorem tTx_l : ∀ i, i < 5 → tLL.getD i 0 = (tTx i).length := by decide
theorem tTx_b : ∀ i, i < 5 → ∀ x, x < (tTx i).length → (tTx i).getD x 0 < 128 := by decide
theorem tTx_e : ∀ i, i < 5 → ∀ x, x < (tTx i).length → (tBL.getD i []).getD x 0 = nI ((tTx i).getD x 0) := by decide +kernel
theorem decS_l {v : Nat} : dgN v = (decS v).length := by
  unfold dgN decS
  split
  · rfl
  · split <;> rfl
theorem decS_b : ∀ v, v < 101 → ∀ x, x < (decS v).length → (decS v).getD x 0 < 128 := by decide +kernel
theorem gSB_k (g : CG) (ml : Int32) (m : Nat) (f : Nat → Int32) {k x : Nat} (h : k ≠ 3) : (gSB g ml m f).2.2.1 k x = g.2.2.1 k x := if_neg (fun z => h z.1)
/-- the line is written -/
theorem CB_line {G : GT} {g : CG} {A : Nat → Prop} {ad : I2 → Nat} {σ τ : Sg} {H : Heap} {b m : Nat} {ml : Int32} {f : Nat → Int32} (hw : eqW τ σ) (hp : app τ = app σ ∧ nAp τ = nAp σ) (hC : CL g σ) (hgr : ∀ a, a < nAn σ → g.2.2.1 0 a = grade σ a) (hwt : ∀ a, a < nAn σ → g.2.2.1 1 a = bI (waitS σ a (nAp σ))) (hsb : LI (gSB g ml m f) τ) (hl : ∀ k, lsB τ k → lstN τ k = lstN σ k) (hb : ad (0, 0) = b) (F : cwL G (gSB g ml m f) A ad τ (lstN σ) H) : CB G A b τ H := by
  have c3 : nLe τ = nLe σ := congrFun (hw.1.s (k := 7) (by decide)) 0
  have c4 : nEx τ = nEx σ := congrFun (hw.1.s (k := 11) (by decide)) 0
  refine mkCB (g := gSB g ml m f) hb hl (fun k hk => hC k (by unfold lsB at *; omega)) (fun a ha => ?_) (fun a ha => ?_) hsb F
  · rw [gSB_k (k := 0) _ _ _ _ (by decide), hw.g]
    exact hgr a (by rw [← hw.an]; exact ha)
  · rw [gSB_k (k := 1) _ _ _ _ (by decide), hp.2, waitS_c hp.1]
    exact hwt a (by rw [← hw.an]; exact ha)
theorem lstN_1s {σ τ : Sg} (h : ∀ k, k ≠ 43 → τ.1 k = σ.1 k) : lstN τ = lstN σ := by
  have e : lstN τ = lstN (sN τ 43 0 (nSz σ)) := rfl
  obtain ⟨a, b⟩ := σ
  obtain ⟨c, d⟩ := τ
  have e2 : lstN ((c, d) : Sg) = lstN ((fun k => if k = 43 then a 43 else c k, d) : Sg) := rfl
  rw [e2]
  refine lstN_1 (σ := (a, b)) (τ := (fun k => if k = 43 then a 43 else c k, d)) ?_
  funext k
  show (if k = 43 then a 43 else c k) = a k
  split
  · rename_i h2
    rw [h2]
  · rename_i h2
    exact h k h2
