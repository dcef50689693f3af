/-! ===== isMend ===== -/
/-- the same numbers of what there is; what is revoked stays so -/
def cEq (τ σ : Sg) : Prop := nSt τ = nSt σ ∧ nLe τ = nLe σ ∧ nEx τ = nEx σ ∧ nCr τ = nCr σ ∧ nCe τ = nCe σ ∧ les τ = les σ ∧ ∀ z, z < nCe σ → ¬ σ.2 41 z = 0 → ¬ τ.2 41 z = 0
theorem cEq.rf (σ : Sg) : cEq σ σ := ⟨rfl, rfl, rfl, rfl, rfl, rfl, fun _ _ h => h⟩
theorem cEq.mr {τ σ : Sg} (h : cEq τ σ) : mR τ = mR σ := by
  obtain ⟨h1, h2, h3, h4, h5, h6, -⟩ := h
  funext j
  unfold mR
  rw [h1, h2, h3, h4, h5, h6]
theorem cEq.wf {τ σ : Sg} {wf : Nat → Int32} (h : cEq τ σ) (hw : WF σ wf) : WF τ wf := fun c hc => by
  obtain ⟨h1, h2⟩ := hw c hc
  exact ⟨by rw [h.2.2.2.2.1]; exact h1, h.2.2.2.2.2.2 c h1 h2⟩
theorem nI_ne3 {n : Nat} (h : n < 2 ^ 31) : ¬ nI n = -2003 := fun z => nI_pos h (by rw [z]; decide)
theorem nle9 {a b : Int32} (h : a < b) : ¬ b ≤ a := by
  rw [Int32.lt_iff_toInt_lt] at h
  rw [Int32.le_iff_toInt_le]
  omega
theorem nlt9 (a : Int32) : ¬ a < a := by
  rw [Int32.lt_iff_toInt_lt]
  omega
theorem BF_up {h : Nat → Int32} {bf : Nat → Int32} {j : Nat} {v : Int32} (hv : v = h j) (hb : ∀ i, i < j → bf i = h i) : ∀ i, i < j + 1 → upd bf j v i = h i := fun i hi => by
  by_cases q : i = j
  · subst q
    rw [pk_us, hv]
  · rw [pk_un q]
    exact hb i (by omega)
def PM (τ σ : Sg) : Nat → Bool := fun x => decide (¬ grade τ x - grade σ x = 0)
/-- the last one looked at -/
def KL (τ σ : Sg) (k : Nat) (La Lb : Int32) : Prop := (k = 0 → La = -1000000 ∧ Lb = -1) ∧ ∀ j, k = j + 1 → La = grade τ (har τ j) - grade σ (har τ j) ∧ Lb = nI (har τ j)
theorem KL_case {d d' : Nat} {τ σ : Sg} {k : Nat} {La Lb mo : Int32} (hK : KL τ σ k La Lb) (hτ : Lw d τ) (hσ : Lw d' σ) (hn : nAn τ = nAn σ) (hk : k < nHa τ) (han : ∀ j, j < nHa τ → har τ j < nAn σ) (hord : ∀ i j, i < j → j < nHa τ → DR (fun x => grade τ x - grade σ x) (har τ i) (har τ j)) (hmo : mo = grade τ (har τ k) - grade σ (har τ k)) : La < mo ∨ (mo = La ∧ Lb < nI (har τ k)) := by
  have hb := hσ.1.1.1.1.1
  have g1 := grade_g hτ.1.1.1 (a := har τ k) (by rw [hn]; exact han k hk)
  have g2 := grade_g hσ.1.1.1 (han k hk)
  rcases Nat.eq_zero_or_pos k with h0 | h0
  · left
    rw [(hK.1 h0).1, hmo, g1.1, g2.1, Int32.lt_iff_toInt_lt, sub_i _ (by omega) _ (by omega)]
    have : (-1000000 : Int32).toInt = -1000000 := by decide
    omega
  · obtain ⟨j, rfl⟩ : ∃ j, k = j + 1 := ⟨k - 1, by omega⟩
    obtain ⟨e1, e2⟩ := hK.2 j rfl
    rcases hord j (j + 1) (by omega) hk with h | ⟨h, h2⟩
    · left
      rw [e1, hmo]
      exact h
    · right
      have h3 := han (j + 1) hk
      exact ⟨by rw [e1, hmo]; exact h.symm, by rw [e2]; exact nI_lt h2 (by omega)⟩
theorem KL_next {τ σ : Sg} {k : Nat} {mo : Int32} (hmo : mo = grade τ (har τ k) - grade σ (har τ k)) : KL τ σ (k + 1) mo (nI (har τ k)) := ⟨fun z => absurd z (by omega), fun j hj => by
  have : j = k := by omega
  subst this
  exact ⟨hmo, rfl⟩⟩
section MENDS
variable {p : Program} {l : Launch} {e : Env} {hR rc rs : Nat} {s : State} {m : MethodId} {args : Array Value} {below : List Frame} {meth : Method} {c : Code} {H : Heap} {locs : List Loc} {cells slots : Nat} {Q : State → Prop}
variable {G : GT} {A AO : Nat → Prop} {b d : Nat} {σ : Sg} {oad : I2 → Nat} {wf : Nat → Int32} {ls : Array Slot}
variable {q0 : Nat} {τ : Sg}
set_option maxHeartbeats 4000000 in
set_option maxRecDepth 100000 in
theorem im_fill (hst : l.stackTraces = false) (hAg : ∀ q, A q → gA G q) (hdis : ∀ q, A q → ¬ AO q) (X : CF p s m args meth c cL_isMend 17 "CourseForgeLaw" (some .boolean)) (g0 : GG G s s.heap) (hR9 : 13 ≤ hR) (hd9 : d ≤ 1000) (hA2 : ∀ q, (fun q => A q ∨ q = q0) q → gA G q) (hq0 : ¬ A q0) (hqO : ¬ AO q0) (x9 fa aa : Nat) (c0 s0 : Nat) (hrc : c0 + 100 ≤ rc) (hrs : s0 + 600 ≤ rs) (kend : ∀ (bf : Nat → Int32), (∀ i, i < nAn σ → bf i = nI (graN σ i)) → ∀ (H : Heap) (locs : List Loc) (ls : Array Slot) (cells slots : Nat), LW G A AO b d σ oad (mR σ) wf H → BW G q0 100 bf H → va_S (fun q => A q ∨ q = q0) s.heap H locs → lv_has ls 17 [(0, .ref b), (1, .ref (oad (0, 0))), (2, .int (nI x9)), (3, .int (nI fa - 2)), (4, .int (nI aa)), (5, .int (nI (nAn σ))), (6, .ref q0), (7, .int (nI (nAn σ)))] → cells ≤ c0 + 100 → slots ≤ s0 + 600 → W p l e (RM hR rc rs) s m args below meth c H locs cells slots Q (F0 m 41 ls [])) :
    ∀ (n j : Nat), j + n = nAn σ → ∀ (bf : Nat → Int32), (∀ i, i < j → bf i = nI (graN σ i)) → ∀ (H : Heap) (locs : List Loc) (ls : Array Slot) (cells slots : Nat), LW G A AO b d σ oad (mR σ) wf H → BW G q0 100 bf H → va_S (fun q => A q ∨ q = q0) s.heap H locs → lv_has ls 17 [(0, .ref b), (1, .ref (oad (0, 0))), (2, .int (nI x9)), (3, .int (nI fa - 2)), (4, .int (nI aa)), (5, .int (nI (nAn σ))), (6, .ref q0), (7, .int (nI j))] → cells ≤ c0 + 1 * j → slots ≤ s0 + 6 * j → W p l e (RM hR rc rs) s m args below meth c H locs cells slots Q (F0 m 15 ls []) := by
  intro n
  induction n with
  | zero =>
    intro j ha bf hbf H locs ls cells slots W0 hB hS hl hc hs
    have hb := W0.1.1.1.1.1.1
    refine lv_iload X.ex X.co dL_isMend_15 (lv_at hl 7 rfl) ?_
    refine lv_iload X.ex X.co dL_isMend_17 (lv_at hl 5 rfl) ?_
    refine n_cmp_ge X (x := j) (y := nAn σ) (tgt := 41) (by omega) (by omega) dL_isMend_19 (by decide) (fun c_1 => ?_) (fun c_1 => ?_)
    · have ha9 : j = nAn σ := by omega
      rw [ha9] at hl
      rw [ha9] at hbf
      exact kend bf hbf H locs ls _ _ W0 hB hS (lv_sub hl [0, 1, 2, 3, 4, 5, 6, 7] rfl) (by omega) (by omega)
    · exact absurd c_1 (by omega)
  | succ n ih =>
    intro j ha bf hbf H locs ls cells slots W0 hB hS hl hc hs
    have hb := W0.1.1.1.1.1.1
    refine lv_iload X.ex X.co dL_isMend_15 (lv_at hl 7 rfl) ?_
    refine lv_iload X.ex X.co dL_isMend_17 (lv_at hl 5 rfl) ?_
    refine n_cmp_ge X (x := j) (y := nAn σ) (tgt := 41) (by omega) (by omega) dL_isMend_19 (by decide) (fun c_1 => ?_) (fun c_1 => ?_)
    · exact absurd c_1 (by omega)
    · refine lv_aload X.ex X.co dL_isMend_22 (lv_at hl 6 rfl) ?_
      refine lv_iload X.ex X.co dL_isMend_24 (lv_at hl 7 rfl) ?_
      refine lv_aload_n X.ex X.co dL_isMend_26 rfl (lv_at hl 0 rfl) ?_
      refine lv_iconst (v := 3) X.ex X.co dL_isMend_27 (by decide) ?_
      refine lv_iload X.ex X.co dL_isMend_28 (lv_at hl 7 rfl) ?_
      refine lv_iconst (v := 0) X.ex X.co dL_isMend_30 (by decide) ?_
      refine k_call (n := 4) X mn_40 m_0 mn_39 ⟨by decide, by decide, by decide +kernel⟩ (by decide) mn_38 (c_L_ask_3 l hst G A hAg b σ W0.1.1.1.1 W0.1.1.1.2 W0.1.1.2 (nI j) 0) (g0.step hS hA2) W0 hdis (lsq_gr W0.1.1.2 _) W0.1 (q_gr W0.1 (show j < nAn σ by omega)) (by omega) rfl hl.1 rfl (Nat.le_of_ble_eq_true rfl) dL_isMend_31 (by omega) (by omega) hS (fun q h => Or.inl h) (fun H locs W0 hz hk9 hS => ?_)
      have hB := BW.kept hB hq0 hk9
      refine k_bs X g0.1 W0 hB hq0 hqO hS (Or.inr rfl) j (by omega) (by omega) dL_isMend_34 (fun H locs W0 hB hS => ?_)
      refine lv_iinc (v := nI (j + 1)) (lv' := [(7, .int (nI (j + 1))), (0, .ref b), (1, .ref (oad (0, 0))), (2, .int (nI x9)), (3, .int (nI fa - 2)), (4, .int (nI aa)), (5, .int (nI (nAn σ))), (6, .ref q0)]) X.ex X.co dL_isMend_35 hl (k := 7) rfl (n_inc _) (by decide) rfl (fun ls hl => ?_)
      refine lv_goto (tgt := 15) X.ex X.co dL_isMend_38 (by decide) ?_
      exact ih (j + 1) (by omega) (upd bf j (nI (graN σ j))) (BF_up (h := fun i => nI (graN σ i)) rfl hbf) H locs ls _ _ W0 hB hS (lv_sub hl [1, 2, 3, 4, 5, 6, 7, 0] rfl) (by omega) (by omega)
set_option maxHeartbeats 4000000 in
set_option maxRecDepth 100000 in
theorem im_p (hst : l.stackTraces = false) (hAg : ∀ q, A q → gA G q) (hdis : ∀ q, A q → ¬ AO q) (X : CF p s m args meth c cL_isMend 17 "CourseForgeLaw" (some .boolean)) (g0 : GG G s s.heap) (hR9 : 13 ≤ hR) (hd9 : d ≤ 1000) (hA2 : ∀ q, (fun q => A q ∨ q = q0) q → gA G q) (hq0 : ¬ A q0) (hqO : ¬ AO q0) (cn k y ot : Nat) (mo : Int32) (bf : Nat → Int32) (hy : y ≤ 100) (hdj : ∀ q, q < nAp τ → ¬ app τ q = y) (c0 s0 : Nat) (hrc : c0 + 0 ≤ rc) (hrs : s0 + 0 ≤ rs) (kend : ∀ (H : Heap) (locs : List Loc) (ls : Array Slot) (cells slots : Nat), LW G A AO b d τ oad (mR σ) wf H → BW G q0 100 bf H → va_S (fun q => A q ∨ q = q0) s.heap H locs → lv_has ls 17 [(0, .ref b), (6, .ref q0), (8, .int (nI cn)), (9, .int mo), (10, .int (nI y)), (11, .int (nI ot)), (12, .int 1), (13, .int (nI k)), (14, .int (nI y)), (16, .int (nI (nAp τ)))] → cells ≤ c0 + 0 → slots ≤ s0 + 0 → W p l e (RM hR rc rs) s m args below meth c H locs cells slots Q (F0 m 301 ls [])) :
    ∀ (n q : Nat), q + n = nAp τ → ∀ (H : Heap) (locs : List Loc) (ls : Array Slot) (cells slots : Nat), LW G A AO b d τ oad (mR σ) wf H → BW G q0 100 bf H → va_S (fun q => A q ∨ q = q0) s.heap H locs → lv_has ls 17 [(0, .ref b), (6, .ref q0), (8, .int (nI cn)), (9, .int mo), (10, .int (nI y)), (11, .int (nI ot)), (12, .int 1), (13, .int (nI k)), (14, .int (nI y)), (16, .int (nI q))] → cells ≤ c0 + 0 * q → slots ≤ s0 + 0 * q → W p l e (RM hR rc rs) s m args below meth c H locs cells slots Q (F0 m 260 ls []) := by
  intro n
  induction n with
  | zero =>
    intro q ha H locs ls cells slots W0 hB hS hl hc hs
    have hb := W0.1.1.1.1.1.1
    have hap := W0.1.1.1.1.2.1.1
    refine lv_iload X.ex X.co dL_isMend_260 (lv_at hl 9 rfl) ?_
    refine lv_aload_n X.ex X.co dL_isMend_262 rfl (lv_at hl 0 rfl) ?_
    refine k_cnt X ce_X9_appealCount mn_3 (c_X9_appealCount l G A hAg b τ W0.1.1.1.1 W0.1.1.1.2 W0.1.1.2) (g0.step hS hA2) W0 hdis (r := fAppealCount τ) rfl (v := nI (nAp τ)) rfl rfl (by omega) rfl hl.1 rfl (Nat.le_of_ble_eq_true rfl) dL_isMend_263 (by omega) (by omega) hS (fun q h => Or.inl h) (fun H locs W0 hz hk9 hS => ?_)
    have hB := BW.kept hB hq0 hk9
    refine n_cmp_ge X (x := q) (y := (nAp τ)) (tgt := 301) (by omega) (by omega) dL_isMend_266 (by decide) (fun c_1 => ?_) (fun c_1 => ?_)
    · have ha9 : q = nAp τ := by omega
      rw [ha9] at hl
      exact kend H locs ls _ _ W0 hB hS (lv_sub hl [0, 1, 2, 3, 4, 5, 6, 7, 8, 9] rfl) (by omega) (by omega)
    · exact absurd c_1 (by omega)
  | succ n ih =>
    intro q ha H locs ls cells slots W0 hB hS hl hc hs
    have hb := W0.1.1.1.1.1.1
    have hap := W0.1.1.1.1.2.1.1
    have haq := W0.1.1.1.1.ap (i := q) (by omega)
    refine lv_iload X.ex X.co dL_isMend_260 (lv_at hl 9 rfl) ?_
    refine lv_aload_n X.ex X.co dL_isMend_262 rfl (lv_at hl 0 rfl) ?_
    refine k_cnt X ce_X9_appealCount mn_3 (c_X9_appealCount l G A hAg b τ W0.1.1.1.1 W0.1.1.1.2 W0.1.1.2) (g0.step hS hA2) W0 hdis (r := fAppealCount τ) rfl (v := nI (nAp τ)) rfl rfl (by omega) rfl hl.1 rfl (Nat.le_of_ble_eq_true rfl) dL_isMend_263 (by omega) (by omega) hS (fun q h => Or.inl h) (fun H locs W0 hz hk9 hS => ?_)
    have hB := BW.kept hB hq0 hk9
    refine n_cmp_ge X (x := q) (y := (nAp τ)) (tgt := 301) (by omega) (by omega) dL_isMend_266 (by decide) (fun c_1 => ?_) (fun c_1 => ?_)
    · exact absurd c_1 (by omega)
    · refine lv_iload X.ex X.co dL_isMend_269 (lv_at hl 6 rfl) ?_
      refine lv_if_eq (tgt := 292) X.ex X.co dL_isMend_271 (by decide) (fun c_2 => ?_) (fun c_2 => ?_)
      · exact absurd c_2 (by decide)
      · refine lv_aload_n X.ex X.co dL_isMend_274 rfl (lv_at hl 0 rfl) ?_
        refine lv_bipush (v := 11) X.ex X.co dL_isMend_275 (by decide) ?_
        refine lv_iload X.ex X.co dL_isMend_277 (lv_at hl 9 rfl) ?_
        refine lv_iconst (v := 0) X.ex X.co dL_isMend_279 (by decide) ?_
        refine k_call (n := 4) X mn_40 m_0 mn_39 ⟨by decide, by decide, by decide +kernel⟩ (by decide) mn_38 (c_L_askV l hst G A hAg b τ W0.1.1.1.1 W0.1.1.1.2 W0.1.1.2 q (show q < nAp τ by omega) 0) (g0.step hS hA2) W0 hdis (lsq_ap W0.1.1.2 _) W0.1 (q_ap W0.1 (show q < nAp τ by omega)) (by omega) rfl hl.1 rfl (Nat.le_of_ble_eq_true rfl) dL_isMend_280 (by omega) (by omega) hS (fun q h => Or.inl h) (fun H locs W0 hz hk9 hS => ?_)
        have hB := BW.kept hB hq0 hk9
        refine lv_iload X.ex X.co dL_isMend_283 (lv_at hl 8 rfl) ?_
        refine n_cmp_eq X (x := app τ q) (y := y) (tgt := 292) (by omega) (by omega) dL_isMend_285 (by decide) (fun c_3 => ?_) (fun c_3 => ?_)
        · exact absurd c_3 (hdj q (by omega))
        · refine lv_iconst (v := 1) X.ex X.co dL_isMend_288 (by decide) ?_
          refine lv_goto (tgt := 293) X.ex X.co dL_isMend_289 (by decide) ?_
          refine lv_istore (lv' := [(12, .int 1), (0, .ref b), (6, .ref q0), (8, .int (nI cn)), (9, .int mo), (10, .int (nI y)), (11, .int (nI ot)), (13, .int (nI k)), (14, .int (nI y)), (16, .int (nI q))]) X.ex X.co dL_isMend_293 hl (by decide) rfl (fun ls hl => ?_)
          refine lv_iinc (v := nI (q + 1)) (lv' := [(16, .int (nI (q + 1))), (12, .int 1), (0, .ref b), (6, .ref q0), (8, .int (nI cn)), (9, .int mo), (10, .int (nI y)), (11, .int (nI ot)), (13, .int (nI k)), (14, .int (nI y))]) X.ex X.co dL_isMend_295 hl (k := 9) rfl (n_inc _) (by decide) rfl (fun ls hl => ?_)
          refine lv_goto (tgt := 260) X.ex X.co dL_isMend_298 (by decide) ?_
          exact ih (q + 1) (by omega) H locs ls _ _ W0 hB hS (lv_sub hl [2, 3, 4, 5, 6, 7, 1, 8, 9, 0] rfl) (by omega) (by omega)
set_option maxHeartbeats 4000000 in
set_option maxRecDepth 100000 in
theorem im_k (hst : l.stackTraces = false) (hAg : ∀ q, A q → gA G q) (hdis : ∀ q, A q → ¬ AO q) (X : CF p s m args meth c cL_isMend 17 "CourseForgeLaw" (some .boolean)) (g0 : GG G s s.heap) (hR9 : 13 ≤ hR) (hd9 : d ≤ 1000) (hA2 : ∀ q, (fun q => A q ∨ q = q0) q → gA G q) (hq0 : ¬ A q0) (hqO : ¬ AO q0) {d1 : Nat} (cn : Nat) (bf : Nat → Int32) (hbf : ∀ i, i < nAn σ → bf i = nI (graN σ i)) (hσ : Lw d1 σ) (hn9 : nAn τ = nAn σ) (hcn : cn ≤ 100) (han : ∀ j, j < nHa τ → har τ j < nAn σ) (hord : ∀ i j, i < j → j < nHa τ → DR (fun x => grade τ x - grade σ x) (har τ i) (har τ j)) (hdj : ∀ j p, j < nHa τ → p < nAp τ → ¬ app τ p = har τ j) (c0 s0 : Nat) (hrc : c0 + 200 ≤ rc) (hrs : s0 + 1200 ≤ rs) (kend : ∀ (H : Heap) (locs : List Loc) (ls : Array Slot) (cells slots : Nat), LW G A AO b d τ oad (mR σ) wf H → BW G q0 100 bf H → va_S (fun q => A q ∨ q = q0) s.heap H locs → lv_has ls 17 [(0, .ref b), (8, .int (nI cn)), (11, .int (nI (cH (PM τ σ) (har τ) (nHa τ)))), (12, .int 1)] → cells ≤ c0 + 200 → slots ≤ s0 + 1200 → W p l e (RM hR rc rs) s m args below meth c H locs cells slots Q (F0 m 307 ls [])) :
    ∀ (n k : Nat), k + n = nHa τ → ∀ (La Lb : Int32), KL τ σ k La Lb → ∀ (H : Heap) (locs : List Loc) (ls : Array Slot) (cells slots : Nat), LW G A AO b d τ oad (mR σ) wf H → BW G q0 100 bf H → va_S (fun q => A q ∨ q = q0) s.heap H locs → lv_has ls 17 [(0, .ref b), (6, .ref q0), (8, .int (nI cn)), (9, .int La), (10, .int Lb), (11, .int (nI (cH (PM τ σ) (har τ) k))), (12, .int 1), (13, .int (nI k))] → cells ≤ c0 + 2 * k → slots ≤ s0 + 12 * k → W p l e (RM hR rc rs) s m args below meth c H locs cells slots Q (F0 m 165 ls []) := by
  intro n
  induction n with
  | zero =>
    intro k ha La Lb hKL H locs ls cells slots W0 hB hS hl hc hs
    have hb := W0.1.1.1.1.1.1
    have hha := W0.1.1.1.1.2.1.2.1
    refine lv_iload X.ex X.co dL_isMend_165 (lv_at hl 7 rfl) ?_
    refine lv_aload_n X.ex X.co dL_isMend_167 rfl (lv_at hl 0 rfl) ?_
    refine k_cnt X ce_X9_harmedCount mn_80 (c_X9_harmedCount l G A hAg b τ W0.1.1.1.1 W0.1.1.1.2 W0.1.1.2) (g0.step hS hA2) W0 hdis (r := fHarmedCount τ) rfl (v := nI (nHa τ)) rfl rfl (by omega) rfl hl.1 rfl (Nat.le_of_ble_eq_true rfl) dL_isMend_168 (by omega) (by omega) hS (fun q h => Or.inl h) (fun H locs W0 hz hk9 hS => ?_)
    have hB := BW.kept hB hq0 hk9
    refine n_cmp_ge X (x := k) (y := (nHa τ)) (tgt := 307) (by omega) (by omega) dL_isMend_171 (by decide) (fun c_1 => ?_) (fun c_1 => ?_)
    · have ha9 : k = nHa τ := by omega
      rw [ha9] at hl
      exact kend H locs ls _ _ W0 hB hS (lv_sub hl [0, 2, 5, 6] rfl) (by omega) (by omega)
    · exact absurd c_1 (by omega)
  | succ n ih =>
    intro k ha La Lb hKL H locs ls cells slots W0 hB hS hl hc hs
    have hb := W0.1.1.1.1.1.1
    have hha := W0.1.1.1.1.2.1.2.1
    have han9 := han k (by omega)
    have hcl := cH_le (PM τ σ) (har τ) k
    obtain ⟨mo, hmo⟩ : ∃ mo, mo = grade τ (har τ k) - grade σ (har τ k) := ⟨_, rfl⟩
    have hmo2 : nI (graN τ (har τ k)) - nI (graN σ (har τ k)) = mo := by rw [hmo, (grade_g W0.1.1.1.1 (a := har τ k) (by omega)).1, (grade_g hσ.1.1.1 han9).1]
    rcases KL_case hKL W0.1 hσ hn9 (show k < nHa τ by omega) han hord hmo with hA9 | ⟨hA9, hA8⟩
    · by_cases hz0 : mo = 0
      · refine lv_iload X.ex X.co dL_isMend_165 (lv_at hl 7 rfl) ?_
        refine lv_aload_n X.ex X.co dL_isMend_167 rfl (lv_at hl 0 rfl) ?_
        refine k_cnt X ce_X9_harmedCount mn_80 (c_X9_harmedCount l G A hAg b τ W0.1.1.1.1 W0.1.1.1.2 W0.1.1.2) (g0.step hS hA2) W0 hdis (r := fHarmedCount τ) rfl (v := nI (nHa τ)) rfl rfl (by omega) rfl hl.1 rfl (Nat.le_of_ble_eq_true rfl) dL_isMend_168 (by omega) (by omega) hS (fun q h => Or.inl h) (fun H locs W0 hz hk9 hS => ?_)
        have hB := BW.kept hB hq0 hk9
        refine n_cmp_ge X (x := k) (y := (nHa τ)) (tgt := 307) (by omega) (by omega) dL_isMend_171 (by decide) (fun c_1 => ?_) (fun c_1 => ?_)
        · exact absurd c_1 (by omega)
        · refine lv_iload X.ex X.co dL_isMend_174 (lv_at hl 6 rfl) ?_
          refine lv_if_eq (tgt := 307) X.ex X.co dL_isMend_176 (by decide) (fun c_2 => ?_) (fun c_2 => ?_)
          · exact absurd c_2 (by decide)
          · refine lv_aload_n X.ex X.co dL_isMend_179 rfl (lv_at hl 0 rfl) ?_
            refine lv_bipush (v := 12) X.ex X.co dL_isMend_180 (by decide) ?_
            refine lv_iload X.ex X.co dL_isMend_182 (lv_at hl 7 rfl) ?_
            refine lv_iconst (v := 0) X.ex X.co dL_isMend_184 (by decide) ?_
            refine k_call (n := 4) X mn_40 m_0 mn_39 ⟨by decide, by decide, by decide +kernel⟩ (by decide) mn_38 (c_L_ask_12 l hst G A hAg b τ W0.1.1.1.1 W0.1.1.1.2 W0.1.1.2 (nI k) 0) (g0.step hS hA2) W0 hdis (lsq_ha W0.1.1.2 _) W0.1 (q_ha W0.1 (show k < nHa τ by omega)) (by omega) rfl hl.1 rfl (Nat.le_of_ble_eq_true rfl) dL_isMend_185 (by omega) (by omega) hS (fun q h => Or.inl h) (fun H locs W0 hz hk9 hS => ?_)
            have hB := BW.kept hB hq0 hk9
            refine lv_istore (lv' := [(14, .int (nI (har τ k))), (0, .ref b), (6, .ref q0), (8, .int (nI cn)), (9, .int La), (10, .int Lb), (11, .int (nI (cH (PM τ σ) (har τ) k))), (12, .int 1), (13, .int (nI k))]) X.ex X.co dL_isMend_188 hl (by decide) rfl (fun ls hl => ?_)
            refine lv_aload_n X.ex X.co dL_isMend_190 rfl (lv_at hl 1 rfl) ?_
            refine lv_iconst (v := 3) X.ex X.co dL_isMend_191 (by decide) ?_
            refine lv_iload X.ex X.co dL_isMend_192 (lv_at hl 0 rfl) ?_
            refine lv_iconst (v := 0) X.ex X.co dL_isMend_194 (by decide) ?_
            refine k_call (n := 4) X mn_40 m_0 mn_39 ⟨by decide, by decide, by decide +kernel⟩ (by decide) mn_38 (c_L_ask_3 l hst G A hAg b τ W0.1.1.1.1 W0.1.1.1.2 W0.1.1.2 (nI (har τ k)) 0) (g0.step hS hA2) W0 hdis (lsq_gr W0.1.1.2 _) W0.1 (q_gr W0.1 (show har τ k < nAn τ by omega)) (by omega) rfl hl.1 rfl (Nat.le_of_ble_eq_true rfl) dL_isMend_195 (by omega) (by omega) hS (fun q h => Or.inl h) (fun H locs W0 hz hk9 hS => ?_)
            have hB := BW.kept hB hq0 hk9
            refine lv_aload X.ex X.co dL_isMend_198 (lv_at hl 2 rfl) ?_
            refine lv_iload X.ex X.co dL_isMend_200 (lv_at hl 0 rfl) ?_
            refine k_bl X g0.1 hB (har τ k) (by omega) (by omega) (hbf _ (by omega)) dL_isMend_202 ?_
            refine lv_isub X.ex X.co dL_isMend_203 ?_
            rw [hmo2]
            refine lv_istore (lv' := [(15, .int mo), (14, .int (nI (har τ k))), (0, .ref b), (6, .ref q0), (8, .int (nI cn)), (9, .int La), (10, .int Lb), (11, .int (nI (cH (PM τ σ) (har τ) k))), (12, .int 1), (13, .int (nI k))]) X.ex X.co dL_isMend_204 hl (by decide) rfl (fun ls hl => ?_)
            refine lv_iload X.ex X.co dL_isMend_206 (lv_at hl 0 rfl) ?_
            refine lv_iload X.ex X.co dL_isMend_208 (lv_at hl 5 rfl) ?_
            refine lv_icmp_gt (tgt := 227) X.ex X.co dL_isMend_210 (by decide) (fun c_3 => ?_) (fun c_3 => ?_)
            · refine lv_iconst (v := 1) X.ex X.co dL_isMend_227 (by decide) ?_
              refine lv_goto (tgt := 232) X.ex X.co dL_isMend_228 (by decide) ?_
              refine lv_istore (lv' := [(12, .int 1), (15, .int mo), (14, .int (nI (har τ k))), (0, .ref b), (6, .ref q0), (8, .int (nI cn)), (9, .int La), (10, .int Lb), (11, .int (nI (cH (PM τ σ) (har τ) k))), (13, .int (nI k))]) X.ex X.co dL_isMend_232 hl (by decide) rfl (fun ls hl => ?_)
              refine lv_iload X.ex X.co dL_isMend_234 (lv_at hl 8 rfl) ?_
              refine lv_iload X.ex X.co dL_isMend_236 (lv_at hl 1 rfl) ?_
              refine lv_if_ne (tgt := 245) X.ex X.co dL_isMend_238 (by decide) (fun c_4 => ?_) (fun c_4 => ?_)
              · exact absurd hz0 c_4
              · refine lv_iconst (v := 0) X.ex X.co dL_isMend_241 (by decide) ?_
                refine lv_goto (tgt := 246) X.ex X.co dL_isMend_242 (by decide) ?_
                refine n_add X (x := cH (PM τ σ) (har τ) k) (y := 0) dL_isMend_246 ?_
                refine lv_istore (lv' := [(11, .int (nI ((cH (PM τ σ) (har τ) k) + 0))), (12, .int 1), (15, .int mo), (14, .int (nI (har τ k))), (0, .ref b), (6, .ref q0), (8, .int (nI cn)), (9, .int La), (10, .int Lb), (13, .int (nI k))]) X.ex X.co dL_isMend_247 hl (by decide) rfl (fun ls hl => ?_)
                refine lv_iload X.ex X.co dL_isMend_249 (lv_at hl 2 rfl) ?_
                refine lv_istore (lv' := [(9, .int mo), (11, .int (nI ((cH (PM τ σ) (har τ) k) + 0))), (12, .int 1), (15, .int mo), (14, .int (nI (har τ k))), (0, .ref b), (6, .ref q0), (8, .int (nI cn)), (10, .int Lb), (13, .int (nI k))]) X.ex X.co dL_isMend_251 hl (by decide) rfl (fun ls hl => ?_)
                refine lv_iload X.ex X.co dL_isMend_253 (lv_at hl 4 rfl) ?_
                refine lv_istore (lv' := [(10, .int (nI (har τ k))), (9, .int mo), (11, .int (nI ((cH (PM τ σ) (har τ) k) + 0))), (12, .int 1), (15, .int mo), (14, .int (nI (har τ k))), (0, .ref b), (6, .ref q0), (8, .int (nI cn)), (13, .int (nI k))]) X.ex X.co dL_isMend_255 hl (by decide) rfl (fun ls hl => ?_)
                refine lv_iconst (v := 0) X.ex X.co dL_isMend_257 (by decide) ?_
                refine lv_istore (lv' := [(16, .int 0), (10, .int (nI (har τ k))), (9, .int mo), (11, .int (nI ((cH (PM τ σ) (har τ) k) + 0))), (12, .int 1), (15, .int mo), (14, .int (nI (har τ k))), (0, .ref b), (6, .ref q0), (8, .int (nI cn)), (13, .int (nI k))]) X.ex X.co dL_isMend_258 hl (by decide) rfl (fun ls hl => ?_)
                refine im_p hst hAg hdis X g0 hR9 hd9 hA2 hq0 hqO cn k (har τ k) ((cH (PM τ σ) (har τ) k) + 0) mo bf (by omega) (fun q hq => hdj k q (by omega) hq) (cells + 2) (slots + 12) (by omega) (by omega) (fun H locs ls cells1 slots1 W0 hB hS hl hc1 hs1 => ?_) (nAp τ) 0 (by omega) H locs ls _ _ W0 hB hS (lv_sub hl [7, 8, 9, 2, 1, 3, 4, 10, 6, 0] rfl) (by omega) (by omega)
                refine lv_iinc (v := nI (k + 1)) (lv' := [(13, .int (nI (k + 1))), (0, .ref b), (6, .ref q0), (8, .int (nI cn)), (9, .int mo), (10, .int (nI (har τ k))), (11, .int (nI ((cH (PM τ σ) (har τ) k) + 0))), (12, .int 1), (14, .int (nI (har τ k))), (16, .int (nI (nAp τ)))]) X.ex X.co dL_isMend_301 hl (k := 7) rfl (n_inc _) (by decide) rfl (fun ls hl => ?_)
                refine lv_goto (tgt := 165) X.ex X.co dL_isMend_304 (by decide) ?_
                have hcH : cH (PM τ σ) (har τ) (k + 1) = (cH (PM τ σ) (har τ) k) + 0 := by
                  show cH (PM τ σ) (har τ) k + (decide (¬ grade τ (har τ k) - grade σ (har τ k) = 0)).toNat = _
                  rw [← hmo, decide_eq_false (fun z9 => z9 hz0)]; rfl
                exact ih (k + 1) (by omega) mo (nI (har τ k)) (KL_next hmo) H locs ls _ _ W0 hB hS (by rw [hcH]; exact lv_sub hl [1, 2, 3, 4, 5, 6, 7, 0] rfl) (by omega) (by omega)
            · exact absurd hA9 c_3
      · refine lv_iload X.ex X.co dL_isMend_165 (lv_at hl 7 rfl) ?_
        refine lv_aload_n X.ex X.co dL_isMend_167 rfl (lv_at hl 0 rfl) ?_
        refine k_cnt X ce_X9_harmedCount mn_80 (c_X9_harmedCount l G A hAg b τ W0.1.1.1.1 W0.1.1.1.2 W0.1.1.2) (g0.step hS hA2) W0 hdis (r := fHarmedCount τ) rfl (v := nI (nHa τ)) rfl rfl (by omega) rfl hl.1 rfl (Nat.le_of_ble_eq_true rfl) dL_isMend_168 (by omega) (by omega) hS (fun q h => Or.inl h) (fun H locs W0 hz hk9 hS => ?_)
        have hB := BW.kept hB hq0 hk9
        refine n_cmp_ge X (x := k) (y := (nHa τ)) (tgt := 307) (by omega) (by omega) dL_isMend_171 (by decide) (fun c_5 => ?_) (fun c_5 => ?_)
        · exact absurd c_5 (by omega)
        · refine lv_iload X.ex X.co dL_isMend_174 (lv_at hl 6 rfl) ?_
          refine lv_if_eq (tgt := 307) X.ex X.co dL_isMend_176 (by decide) (fun c_6 => ?_) (fun c_6 => ?_)
          · exact absurd c_6 (by decide)
          · refine lv_aload_n X.ex X.co dL_isMend_179 rfl (lv_at hl 0 rfl) ?_
            refine lv_bipush (v := 12) X.ex X.co dL_isMend_180 (by decide) ?_
            refine lv_iload X.ex X.co dL_isMend_182 (lv_at hl 7 rfl) ?_
            refine lv_iconst (v := 0) X.ex X.co dL_isMend_184 (by decide) ?_
            refine k_call (n := 4) X mn_40 m_0 mn_39 ⟨by decide, by decide, by decide +kernel⟩ (by decide) mn_38 (c_L_ask_12 l hst G A hAg b τ W0.1.1.1.1 W0.1.1.1.2 W0.1.1.2 (nI k) 0) (g0.step hS hA2) W0 hdis (lsq_ha W0.1.1.2 _) W0.1 (q_ha W0.1 (show k < nHa τ by omega)) (by omega) rfl hl.1 rfl (Nat.le_of_ble_eq_true rfl) dL_isMend_185 (by omega) (by omega) hS (fun q h => Or.inl h) (fun H locs W0 hz hk9 hS => ?_)
            have hB := BW.kept hB hq0 hk9
            refine lv_istore (lv' := [(14, .int (nI (har τ k))), (0, .ref b), (6, .ref q0), (8, .int (nI cn)), (9, .int La), (10, .int Lb), (11, .int (nI (cH (PM τ σ) (har τ) k))), (12, .int 1), (13, .int (nI k))]) X.ex X.co dL_isMend_188 hl (by decide) rfl (fun ls hl => ?_)
            refine lv_aload_n X.ex X.co dL_isMend_190 rfl (lv_at hl 1 rfl) ?_
            refine lv_iconst (v := 3) X.ex X.co dL_isMend_191 (by decide) ?_
            refine lv_iload X.ex X.co dL_isMend_192 (lv_at hl 0 rfl) ?_
            refine lv_iconst (v := 0) X.ex X.co dL_isMend_194 (by decide) ?_
            refine k_call (n := 4) X mn_40 m_0 mn_39 ⟨by decide, by decide, by decide +kernel⟩ (by decide) mn_38 (c_L_ask_3 l hst G A hAg b τ W0.1.1.1.1 W0.1.1.1.2 W0.1.1.2 (nI (har τ k)) 0) (g0.step hS hA2) W0 hdis (lsq_gr W0.1.1.2 _) W0.1 (q_gr W0.1 (show har τ k < nAn τ by omega)) (by omega) rfl hl.1 rfl (Nat.le_of_ble_eq_true rfl) dL_isMend_195 (by omega) (by omega) hS (fun q h => Or.inl h) (fun H locs W0 hz hk9 hS => ?_)
            have hB := BW.kept hB hq0 hk9
            refine lv_aload X.ex X.co dL_isMend_198 (lv_at hl 2 rfl) ?_
            refine lv_iload X.ex X.co dL_isMend_200 (lv_at hl 0 rfl) ?_
            refine k_bl X g0.1 hB (har τ k) (by omega) (by omega) (hbf _ (by omega)) dL_isMend_202 ?_
            refine lv_isub X.ex X.co dL_isMend_203 ?_
            rw [hmo2]
            refine lv_istore (lv' := [(15, .int mo), (14, .int (nI (har τ k))), (0, .ref b), (6, .ref q0), (8, .int (nI cn)), (9, .int La), (10, .int Lb), (11, .int (nI (cH (PM τ σ) (har τ) k))), (12, .int 1), (13, .int (nI k))]) X.ex X.co dL_isMend_204 hl (by decide) rfl (fun ls hl => ?_)
            refine lv_iload X.ex X.co dL_isMend_206 (lv_at hl 0 rfl) ?_
            refine lv_iload X.ex X.co dL_isMend_208 (lv_at hl 5 rfl) ?_
            refine lv_icmp_gt (tgt := 227) X.ex X.co dL_isMend_210 (by decide) (fun c_7 => ?_) (fun c_7 => ?_)
            · refine lv_iconst (v := 1) X.ex X.co dL_isMend_227 (by decide) ?_
              refine lv_goto (tgt := 232) X.ex X.co dL_isMend_228 (by decide) ?_
              refine lv_istore (lv' := [(12, .int 1), (15, .int mo), (14, .int (nI (har τ k))), (0, .ref b), (6, .ref q0), (8, .int (nI cn)), (9, .int La), (10, .int Lb), (11, .int (nI (cH (PM τ σ) (har τ) k))), (13, .int (nI k))]) X.ex X.co dL_isMend_232 hl (by decide) rfl (fun ls hl => ?_)
              refine lv_iload X.ex X.co dL_isMend_234 (lv_at hl 8 rfl) ?_
              refine lv_iload X.ex X.co dL_isMend_236 (lv_at hl 1 rfl) ?_
              refine lv_if_ne (tgt := 245) X.ex X.co dL_isMend_238 (by decide) (fun c_8 => ?_) (fun c_8 => ?_)
              · refine lv_iconst (v := 1) X.ex X.co dL_isMend_245 (by decide) ?_
                refine n_add X (x := cH (PM τ σ) (har τ) k) (y := 1) dL_isMend_246 ?_
                refine lv_istore (lv' := [(11, .int (nI ((cH (PM τ σ) (har τ) k) + 1))), (12, .int 1), (15, .int mo), (14, .int (nI (har τ k))), (0, .ref b), (6, .ref q0), (8, .int (nI cn)), (9, .int La), (10, .int Lb), (13, .int (nI k))]) X.ex X.co dL_isMend_247 hl (by decide) rfl (fun ls hl => ?_)
                refine lv_iload X.ex X.co dL_isMend_249 (lv_at hl 2 rfl) ?_
                refine lv_istore (lv' := [(9, .int mo), (11, .int (nI ((cH (PM τ σ) (har τ) k) + 1))), (12, .int 1), (15, .int mo), (14, .int (nI (har τ k))), (0, .ref b), (6, .ref q0), (8, .int (nI cn)), (10, .int Lb), (13, .int (nI k))]) X.ex X.co dL_isMend_251 hl (by decide) rfl (fun ls hl => ?_)
                refine lv_iload X.ex X.co dL_isMend_253 (lv_at hl 4 rfl) ?_
                refine lv_istore (lv' := [(10, .int (nI (har τ k))), (9, .int mo), (11, .int (nI ((cH (PM τ σ) (har τ) k) + 1))), (12, .int 1), (15, .int mo), (14, .int (nI (har τ k))), (0, .ref b), (6, .ref q0), (8, .int (nI cn)), (13, .int (nI k))]) X.ex X.co dL_isMend_255 hl (by decide) rfl (fun ls hl => ?_)
                refine lv_iconst (v := 0) X.ex X.co dL_isMend_257 (by decide) ?_
                refine lv_istore (lv' := [(16, .int 0), (10, .int (nI (har τ k))), (9, .int mo), (11, .int (nI ((cH (PM τ σ) (har τ) k) + 1))), (12, .int 1), (15, .int mo), (14, .int (nI (har τ k))), (0, .ref b), (6, .ref q0), (8, .int (nI cn)), (13, .int (nI k))]) X.ex X.co dL_isMend_258 hl (by decide) rfl (fun ls hl => ?_)
                refine im_p hst hAg hdis X g0 hR9 hd9 hA2 hq0 hqO cn k (har τ k) ((cH (PM τ σ) (har τ) k) + 1) mo bf (by omega) (fun q hq => hdj k q (by omega) hq) (cells + 2) (slots + 12) (by omega) (by omega) (fun H locs ls cells1 slots1 W0 hB hS hl hc1 hs1 => ?_) (nAp τ) 0 (by omega) H locs ls _ _ W0 hB hS (lv_sub hl [7, 8, 9, 2, 1, 3, 4, 10, 6, 0] rfl) (by omega) (by omega)
                refine lv_iinc (v := nI (k + 1)) (lv' := [(13, .int (nI (k + 1))), (0, .ref b), (6, .ref q0), (8, .int (nI cn)), (9, .int mo), (10, .int (nI (har τ k))), (11, .int (nI ((cH (PM τ σ) (har τ) k) + 1))), (12, .int 1), (14, .int (nI (har τ k))), (16, .int (nI (nAp τ)))]) X.ex X.co dL_isMend_301 hl (k := 7) rfl (n_inc _) (by decide) rfl (fun ls hl => ?_)
                refine lv_goto (tgt := 165) X.ex X.co dL_isMend_304 (by decide) ?_
                have hcH : cH (PM τ σ) (har τ) (k + 1) = (cH (PM τ σ) (har τ) k) + 1 := by
                  show cH (PM τ σ) (har τ) k + (decide (¬ grade τ (har τ k) - grade σ (har τ k) = 0)).toNat = _
                  rw [← hmo, decide_eq_true hz0]; rfl
                exact ih (k + 1) (by omega) mo (nI (har τ k)) (KL_next hmo) H locs ls _ _ W0 hB hS (by rw [hcH]; exact lv_sub hl [1, 2, 3, 4, 5, 6, 7, 0] rfl) (by omega) (by omega)
              · exact absurd c_8 hz0
            · exact absurd hA9 c_7
    · by_cases hz0 : mo = 0
      · refine lv_iload X.ex X.co dL_isMend_165 (lv_at hl 7 rfl) ?_
        refine lv_aload_n X.ex X.co dL_isMend_167 rfl (lv_at hl 0 rfl) ?_
        refine k_cnt X ce_X9_harmedCount mn_80 (c_X9_harmedCount l G A hAg b τ W0.1.1.1.1 W0.1.1.1.2 W0.1.1.2) (g0.step hS hA2) W0 hdis (r := fHarmedCount τ) rfl (v := nI (nHa τ)) rfl rfl (by omega) rfl hl.1 rfl (Nat.le_of_ble_eq_true rfl) dL_isMend_168 (by omega) (by omega) hS (fun q h => Or.inl h) (fun H locs W0 hz hk9 hS => ?_)
        have hB := BW.kept hB hq0 hk9
        refine n_cmp_ge X (x := k) (y := (nHa τ)) (tgt := 307) (by omega) (by omega) dL_isMend_171 (by decide) (fun c_9 => ?_) (fun c_9 => ?_)
        · exact absurd c_9 (by omega)
        · refine lv_iload X.ex X.co dL_isMend_174 (lv_at hl 6 rfl) ?_
          refine lv_if_eq (tgt := 307) X.ex X.co dL_isMend_176 (by decide) (fun c_10 => ?_) (fun c_10 => ?_)
          · exact absurd c_10 (by decide)
          · refine lv_aload_n X.ex X.co dL_isMend_179 rfl (lv_at hl 0 rfl) ?_
            refine lv_bipush (v := 12) X.ex X.co dL_isMend_180 (by decide) ?_
            refine lv_iload X.ex X.co dL_isMend_182 (lv_at hl 7 rfl) ?_
            refine lv_iconst (v := 0) X.ex X.co dL_isMend_184 (by decide) ?_
            refine k_call (n := 4) X mn_40 m_0 mn_39 ⟨by decide, by decide, by decide +kernel⟩ (by decide) mn_38 (c_L_ask_12 l hst G A hAg b τ W0.1.1.1.1 W0.1.1.1.2 W0.1.1.2 (nI k) 0) (g0.step hS hA2) W0 hdis (lsq_ha W0.1.1.2 _) W0.1 (q_ha W0.1 (show k < nHa τ by omega)) (by omega) rfl hl.1 rfl (Nat.le_of_ble_eq_true rfl) dL_isMend_185 (by omega) (by omega) hS (fun q h => Or.inl h) (fun H locs W0 hz hk9 hS => ?_)
            have hB := BW.kept hB hq0 hk9
            refine lv_istore (lv' := [(14, .int (nI (har τ k))), (0, .ref b), (6, .ref q0), (8, .int (nI cn)), (9, .int La), (10, .int Lb), (11, .int (nI (cH (PM τ σ) (har τ) k))), (12, .int 1), (13, .int (nI k))]) X.ex X.co dL_isMend_188 hl (by decide) rfl (fun ls hl => ?_)
            refine lv_aload_n X.ex X.co dL_isMend_190 rfl (lv_at hl 1 rfl) ?_
            refine lv_iconst (v := 3) X.ex X.co dL_isMend_191 (by decide) ?_
            refine lv_iload X.ex X.co dL_isMend_192 (lv_at hl 0 rfl) ?_
            refine lv_iconst (v := 0) X.ex X.co dL_isMend_194 (by decide) ?_
            refine k_call (n := 4) X mn_40 m_0 mn_39 ⟨by decide, by decide, by decide +kernel⟩ (by decide) mn_38 (c_L_ask_3 l hst G A hAg b τ W0.1.1.1.1 W0.1.1.1.2 W0.1.1.2 (nI (har τ k)) 0) (g0.step hS hA2) W0 hdis (lsq_gr W0.1.1.2 _) W0.1 (q_gr W0.1 (show har τ k < nAn τ by omega)) (by omega) rfl hl.1 rfl (Nat.le_of_ble_eq_true rfl) dL_isMend_195 (by omega) (by omega) hS (fun q h => Or.inl h) (fun H locs W0 hz hk9 hS => ?_)
            have hB := BW.kept hB hq0 hk9
            refine lv_aload X.ex X.co dL_isMend_198 (lv_at hl 2 rfl) ?_
            refine lv_iload X.ex X.co dL_isMend_200 (lv_at hl 0 rfl) ?_
            refine k_bl X g0.1 hB (har τ k) (by omega) (by omega) (hbf _ (by omega)) dL_isMend_202 ?_
            refine lv_isub X.ex X.co dL_isMend_203 ?_
            rw [hmo2]
            refine lv_istore (lv' := [(15, .int mo), (14, .int (nI (har τ k))), (0, .ref b), (6, .ref q0), (8, .int (nI cn)), (9, .int La), (10, .int Lb), (11, .int (nI (cH (PM τ σ) (har τ) k))), (12, .int 1), (13, .int (nI k))]) X.ex X.co dL_isMend_204 hl (by decide) rfl (fun ls hl => ?_)
            refine lv_iload X.ex X.co dL_isMend_206 (lv_at hl 0 rfl) ?_
            refine lv_iload X.ex X.co dL_isMend_208 (lv_at hl 5 rfl) ?_
            refine lv_icmp_gt (tgt := 227) X.ex X.co dL_isMend_210 (by decide) (fun c_11 => ?_) (fun c_11 => ?_)
            · exact absurd c_11 (by rw [hA9]; exact nlt9 _)
            · refine lv_iload X.ex X.co dL_isMend_213 (lv_at hl 0 rfl) ?_
              refine lv_iload X.ex X.co dL_isMend_215 (lv_at hl 5 rfl) ?_
              refine lv_icmp_ne (tgt := 231) X.ex X.co dL_isMend_217 (by decide) (fun c_12 => ?_) (fun c_12 => ?_)
              · exact absurd hA9 c_12
              · refine lv_iload X.ex X.co dL_isMend_220 (lv_at hl 1 rfl) ?_
                refine lv_iload X.ex X.co dL_isMend_222 (lv_at hl 6 rfl) ?_
                refine lv_icmp_le (tgt := 231) X.ex X.co dL_isMend_224 (by decide) (fun c_13 => ?_) (fun c_13 => ?_)
                · exact absurd c_13 (nle9 hA8)
                · refine lv_iconst (v := 1) X.ex X.co dL_isMend_227 (by decide) ?_
                  refine lv_goto (tgt := 232) X.ex X.co dL_isMend_228 (by decide) ?_
                  refine lv_istore (lv' := [(12, .int 1), (15, .int mo), (14, .int (nI (har τ k))), (0, .ref b), (6, .ref q0), (8, .int (nI cn)), (9, .int La), (10, .int Lb), (11, .int (nI (cH (PM τ σ) (har τ) k))), (13, .int (nI k))]) X.ex X.co dL_isMend_232 hl (by decide) rfl (fun ls hl => ?_)
                  refine lv_iload X.ex X.co dL_isMend_234 (lv_at hl 8 rfl) ?_
                  refine lv_iload X.ex X.co dL_isMend_236 (lv_at hl 1 rfl) ?_
                  refine lv_if_ne (tgt := 245) X.ex X.co dL_isMend_238 (by decide) (fun c_14 => ?_) (fun c_14 => ?_)
                  · exact absurd hz0 c_14
                  · refine lv_iconst (v := 0) X.ex X.co dL_isMend_241 (by decide) ?_
                    refine lv_goto (tgt := 246) X.ex X.co dL_isMend_242 (by decide) ?_
                    refine n_add X (x := cH (PM τ σ) (har τ) k) (y := 0) dL_isMend_246 ?_
                    refine lv_istore (lv' := [(11, .int (nI ((cH (PM τ σ) (har τ) k) + 0))), (12, .int 1), (15, .int mo), (14, .int (nI (har τ k))), (0, .ref b), (6, .ref q0), (8, .int (nI cn)), (9, .int La), (10, .int Lb), (13, .int (nI k))]) X.ex X.co dL_isMend_247 hl (by decide) rfl (fun ls hl => ?_)
                    refine lv_iload X.ex X.co dL_isMend_249 (lv_at hl 2 rfl) ?_
                    refine lv_istore (lv' := [(9, .int mo), (11, .int (nI ((cH (PM τ σ) (har τ) k) + 0))), (12, .int 1), (15, .int mo), (14, .int (nI (har τ k))), (0, .ref b), (6, .ref q0), (8, .int (nI cn)), (10, .int Lb), (13, .int (nI k))]) X.ex X.co dL_isMend_251 hl (by decide) rfl (fun ls hl => ?_)
                    refine lv_iload X.ex X.co dL_isMend_253 (lv_at hl 4 rfl) ?_
                    refine lv_istore (lv' := [(10, .int (nI (har τ k))), (9, .int mo), (11, .int (nI ((cH (PM τ σ) (har τ) k) + 0))), (12, .int 1), (15, .int mo), (14, .int (nI (har τ k))), (0, .ref b), (6, .ref q0), (8, .int (nI cn)), (13, .int (nI k))]) X.ex X.co dL_isMend_255 hl (by decide) rfl (fun ls hl => ?_)
                    refine lv_iconst (v := 0) X.ex X.co dL_isMend_257 (by decide) ?_
                    refine lv_istore (lv' := [(16, .int 0), (10, .int (nI (har τ k))), (9, .int mo), (11, .int (nI ((cH (PM τ σ) (har τ) k) + 0))), (12, .int 1), (15, .int mo), (14, .int (nI (har τ k))), (0, .ref b), (6, .ref q0), (8, .int (nI cn)), (13, .int (nI k))]) X.ex X.co dL_isMend_258 hl (by decide) rfl (fun ls hl => ?_)
                    refine im_p hst hAg hdis X g0 hR9 hd9 hA2 hq0 hqO cn k (har τ k) ((cH (PM τ σ) (har τ) k) + 0) mo bf (by omega) (fun q hq => hdj k q (by omega) hq) (cells + 2) (slots + 12) (by omega) (by omega) (fun H locs ls cells1 slots1 W0 hB hS hl hc1 hs1 => ?_) (nAp τ) 0 (by omega) H locs ls _ _ W0 hB hS (lv_sub hl [7, 8, 9, 2, 1, 3, 4, 10, 6, 0] rfl) (by omega) (by omega)
                    refine lv_iinc (v := nI (k + 1)) (lv' := [(13, .int (nI (k + 1))), (0, .ref b), (6, .ref q0), (8, .int (nI cn)), (9, .int mo), (10, .int (nI (har τ k))), (11, .int (nI ((cH (PM τ σ) (har τ) k) + 0))), (12, .int 1), (14, .int (nI (har τ k))), (16, .int (nI (nAp τ)))]) X.ex X.co dL_isMend_301 hl (k := 7) rfl (n_inc _) (by decide) rfl (fun ls hl => ?_)
                    refine lv_goto (tgt := 165) X.ex X.co dL_isMend_304 (by decide) ?_
                    have hcH : cH (PM τ σ) (har τ) (k + 1) = (cH (PM τ σ) (har τ) k) + 0 := by
                      show cH (PM τ σ) (har τ) k + (decide (¬ grade τ (har τ k) - grade σ (har τ k) = 0)).toNat = _
                      rw [← hmo, decide_eq_false (fun z9 => z9 hz0)]; rfl
                    exact ih (k + 1) (by omega) mo (nI (har τ k)) (KL_next hmo) H locs ls _ _ W0 hB hS (by rw [hcH]; exact lv_sub hl [1, 2, 3, 4, 5, 6, 7, 0] rfl) (by omega) (by omega)
      · refine lv_iload X.ex X.co dL_isMend_165 (lv_at hl 7 rfl) ?_
        refine lv_aload_n X.ex X.co dL_isMend_167 rfl (lv_at hl 0 rfl) ?_
        refine k_cnt X ce_X9_harmedCount mn_80 (c_X9_harmedCount l G A hAg b τ W0.1.1.1.1 W0.1.1.1.2 W0.1.1.2) (g0.step hS hA2) W0 hdis (r := fHarmedCount τ) rfl (v := nI (nHa τ)) rfl rfl (by omega) rfl hl.1 rfl (Nat.le_of_ble_eq_true rfl) dL_isMend_168 (by omega) (by omega) hS (fun q h => Or.inl h) (fun H locs W0 hz hk9 hS => ?_)
        have hB := BW.kept hB hq0 hk9
        refine n_cmp_ge X (x := k) (y := (nHa τ)) (tgt := 307) (by omega) (by omega) dL_isMend_171 (by decide) (fun c_15 => ?_) (fun c_15 => ?_)
        · exact absurd c_15 (by omega)
        · refine lv_iload X.ex X.co dL_isMend_174 (lv_at hl 6 rfl) ?_
          refine lv_if_eq (tgt := 307) X.ex X.co dL_isMend_176 (by decide) (fun c_16 => ?_) (fun c_16 => ?_)
          · exact absurd c_16 (by decide)
          · refine lv_aload_n X.ex X.co dL_isMend_179 rfl (lv_at hl 0 rfl) ?_
            refine lv_bipush (v := 12) X.ex X.co dL_isMend_180 (by decide) ?_
            refine lv_iload X.ex X.co dL_isMend_182 (lv_at hl 7 rfl) ?_
            refine lv_iconst (v := 0) X.ex X.co dL_isMend_184 (by decide) ?_
            refine k_call (n := 4) X mn_40 m_0 mn_39 ⟨by decide, by decide, by decide +kernel⟩ (by decide) mn_38 (c_L_ask_12 l hst G A hAg b τ W0.1.1.1.1 W0.1.1.1.2 W0.1.1.2 (nI k) 0) (g0.step hS hA2) W0 hdis (lsq_ha W0.1.1.2 _) W0.1 (q_ha W0.1 (show k < nHa τ by omega)) (by omega) rfl hl.1 rfl (Nat.le_of_ble_eq_true rfl) dL_isMend_185 (by omega) (by omega) hS (fun q h => Or.inl h) (fun H locs W0 hz hk9 hS => ?_)
            have hB := BW.kept hB hq0 hk9
            refine lv_istore (lv' := [(14, .int (nI (har τ k))), (0, .ref b), (6, .ref q0), (8, .int (nI cn)), (9, .int La), (10, .int Lb), (11, .int (nI (cH (PM τ σ) (har τ) k))), (12, .int 1), (13, .int (nI k))]) X.ex X.co dL_isMend_188 hl (by decide) rfl (fun ls hl => ?_)
            refine lv_aload_n X.ex X.co dL_isMend_190 rfl (lv_at hl 1 rfl) ?_
            refine lv_iconst (v := 3) X.ex X.co dL_isMend_191 (by decide) ?_
            refine lv_iload X.ex X.co dL_isMend_192 (lv_at hl 0 rfl) ?_
            refine lv_iconst (v := 0) X.ex X.co dL_isMend_194 (by decide) ?_
            refine k_call (n := 4) X mn_40 m_0 mn_39 ⟨by decide, by decide, by decide +kernel⟩ (by decide) mn_38 (c_L_ask_3 l hst G A hAg b τ W0.1.1.1.1 W0.1.1.1.2 W0.1.1.2 (nI (har τ k)) 0) (g0.step hS hA2) W0 hdis (lsq_gr W0.1.1.2 _) W0.1 (q_gr W0.1 (show har τ k < nAn τ by omega)) (by omega) rfl hl.1 rfl (Nat.le_of_ble_eq_true rfl) dL_isMend_195 (by omega) (by omega) hS (fun q h => Or.inl h) (fun H locs W0 hz hk9 hS => ?_)
            have hB := BW.kept hB hq0 hk9
            refine lv_aload X.ex X.co dL_isMend_198 (lv_at hl 2 rfl) ?_
            refine lv_iload X.ex X.co dL_isMend_200 (lv_at hl 0 rfl) ?_
            refine k_bl X g0.1 hB (har τ k) (by omega) (by omega) (hbf _ (by omega)) dL_isMend_202 ?_
            refine lv_isub X.ex X.co dL_isMend_203 ?_
            rw [hmo2]
            refine lv_istore (lv' := [(15, .int mo), (14, .int (nI (har τ k))), (0, .ref b), (6, .ref q0), (8, .int (nI cn)), (9, .int La), (10, .int Lb), (11, .int (nI (cH (PM τ σ) (har τ) k))), (12, .int 1), (13, .int (nI k))]) X.ex X.co dL_isMend_204 hl (by decide) rfl (fun ls hl => ?_)
            refine lv_iload X.ex X.co dL_isMend_206 (lv_at hl 0 rfl) ?_
            refine lv_iload X.ex X.co dL_isMend_208 (lv_at hl 5 rfl) ?_
            refine lv_icmp_gt (tgt := 227) X.ex X.co dL_isMend_210 (by decide) (fun c_17 => ?_) (fun c_17 => ?_)
            · exact absurd c_17 (by rw [hA9]; exact nlt9 _)
            · refine lv_iload X.ex X.co dL_isMend_213 (lv_at hl 0 rfl) ?_
              refine lv_iload X.ex X.co dL_isMend_215 (lv_at hl 5 rfl) ?_
              refine lv_icmp_ne (tgt := 231) X.ex X.co dL_isMend_217 (by decide) (fun c_18 => ?_) (fun c_18 => ?_)
              · exact absurd hA9 c_18
              · refine lv_iload X.ex X.co dL_isMend_220 (lv_at hl 1 rfl) ?_
                refine lv_iload X.ex X.co dL_isMend_222 (lv_at hl 6 rfl) ?_
                refine lv_icmp_le (tgt := 231) X.ex X.co dL_isMend_224 (by decide) (fun c_19 => ?_) (fun c_19 => ?_)
                · exact absurd c_19 (nle9 hA8)
                · refine lv_iconst (v := 1) X.ex X.co dL_isMend_227 (by decide) ?_
                  refine lv_goto (tgt := 232) X.ex X.co dL_isMend_228 (by decide) ?_
                  refine lv_istore (lv' := [(12, .int 1), (15, .int mo), (14, .int (nI (har τ k))), (0, .ref b), (6, .ref q0), (8, .int (nI cn)), (9, .int La), (10, .int Lb), (11, .int (nI (cH (PM τ σ) (har τ) k))), (13, .int (nI k))]) X.ex X.co dL_isMend_232 hl (by decide) rfl (fun ls hl => ?_)
                  refine lv_iload X.ex X.co dL_isMend_234 (lv_at hl 8 rfl) ?_
                  refine lv_iload X.ex X.co dL_isMend_236 (lv_at hl 1 rfl) ?_
                  refine lv_if_ne (tgt := 245) X.ex X.co dL_isMend_238 (by decide) (fun c_20 => ?_) (fun c_20 => ?_)
                  · refine lv_iconst (v := 1) X.ex X.co dL_isMend_245 (by decide) ?_
                    refine n_add X (x := cH (PM τ σ) (har τ) k) (y := 1) dL_isMend_246 ?_
                    refine lv_istore (lv' := [(11, .int (nI ((cH (PM τ σ) (har τ) k) + 1))), (12, .int 1), (15, .int mo), (14, .int (nI (har τ k))), (0, .ref b), (6, .ref q0), (8, .int (nI cn)), (9, .int La), (10, .int Lb), (13, .int (nI k))]) X.ex X.co dL_isMend_247 hl (by decide) rfl (fun ls hl => ?_)
                    refine lv_iload X.ex X.co dL_isMend_249 (lv_at hl 2 rfl) ?_
                    refine lv_istore (lv' := [(9, .int mo), (11, .int (nI ((cH (PM τ σ) (har τ) k) + 1))), (12, .int 1), (15, .int mo), (14, .int (nI (har τ k))), (0, .ref b), (6, .ref q0), (8, .int (nI cn)), (10, .int Lb), (13, .int (nI k))]) X.ex X.co dL_isMend_251 hl (by decide) rfl (fun ls hl => ?_)
                    refine lv_iload X.ex X.co dL_isMend_253 (lv_at hl 4 rfl) ?_
                    refine lv_istore (lv' := [(10, .int (nI (har τ k))), (9, .int mo), (11, .int (nI ((cH (PM τ σ) (har τ) k) + 1))), (12, .int 1), (15, .int mo), (14, .int (nI (har τ k))), (0, .ref b), (6, .ref q0), (8, .int (nI cn)), (13, .int (nI k))]) X.ex X.co dL_isMend_255 hl (by decide) rfl (fun ls hl => ?_)
                    refine lv_iconst (v := 0) X.ex X.co dL_isMend_257 (by decide) ?_
                    refine lv_istore (lv' := [(16, .int 0), (10, .int (nI (har τ k))), (9, .int mo), (11, .int (nI ((cH (PM τ σ) (har τ) k) + 1))), (12, .int 1), (15, .int mo), (14, .int (nI (har τ k))), (0, .ref b), (6, .ref q0), (8, .int (nI cn)), (13, .int (nI k))]) X.ex X.co dL_isMend_258 hl (by decide) rfl (fun ls hl => ?_)
                    refine im_p hst hAg hdis X g0 hR9 hd9 hA2 hq0 hqO cn k (har τ k) ((cH (PM τ σ) (har τ) k) + 1) mo bf (by omega) (fun q hq => hdj k q (by omega) hq) (cells + 2) (slots + 12) (by omega) (by omega) (fun H locs ls cells1 slots1 W0 hB hS hl hc1 hs1 => ?_) (nAp τ) 0 (by omega) H locs ls _ _ W0 hB hS (lv_sub hl [7, 8, 9, 2, 1, 3, 4, 10, 6, 0] rfl) (by omega) (by omega)
                    refine lv_iinc (v := nI (k + 1)) (lv' := [(13, .int (nI (k + 1))), (0, .ref b), (6, .ref q0), (8, .int (nI cn)), (9, .int mo), (10, .int (nI (har τ k))), (11, .int (nI ((cH (PM τ σ) (har τ) k) + 1))), (12, .int 1), (14, .int (nI (har τ k))), (16, .int (nI (nAp τ)))]) X.ex X.co dL_isMend_301 hl (k := 7) rfl (n_inc _) (by decide) rfl (fun ls hl => ?_)
                    refine lv_goto (tgt := 165) X.ex X.co dL_isMend_304 (by decide) ?_
                    have hcH : cH (PM τ σ) (har τ) (k + 1) = (cH (PM τ σ) (har τ) k) + 1 := by
                      show cH (PM τ σ) (har τ) k + (decide (¬ grade τ (har τ k) - grade σ (har τ k) = 0)).toNat = _
                      rw [← hmo, decide_eq_true hz0]; rfl
                    exact ih (k + 1) (by omega) mo (nI (har τ k)) (KL_next hmo) H locs ls _ _ W0 hB hS (by rw [hcH]; exact lv_sub hl [1, 2, 3, 4, 5, 6, 7, 0] rfl) (by omega) (by omega)
                  · exact absurd c_20 hz0
set_option maxHeartbeats 4000000 in
set_option maxRecDepth 100000 in
theorem im_main (hst : l.stackTraces = false) (hAg : ∀ q, A q → gA G q) (hdis : ∀ q, A q → ¬ AO q) (X : CF p s m args meth c cL_isMend 17 "CourseForgeLaw" (some .boolean)) (g0 : GG G s s.heap) (hR9 : 13 ≤ hR) (hd9 : d ≤ 1000) (hA2 : ∀ q, (fun q => A q ∨ q = q0) q → gA G q) (hq0 : ¬ A q0) (hqO : ¬ AO q0) (x9 fa aa : Nat) (hx : x9 < nEx σ) (hf : fa < 5) (ha : aa < 9) (bf : Nat → Int32) (W0 : LW G A AO b d σ oad (mR σ) wf H) (hB : BW G q0 100 bf H) (hS : va_S (fun q => A q ∨ q = q0) s.heap H locs) (hl : lv_has ls 17 [(0, .ref b), (1, .ref (oad (0, 0))), (2, .int (nI x9)), (3, .int (nI fa - 2)), (4, .int (nI aa)), (5, .int (nI (nAn σ))), (6, .ref q0)]) (hrc : cells + 510 ≤ rc) (hrs : slots + 4300 ≤ rs) (kend77 : ∀ (τ : Sg) (H : Heap) (locs : List Loc) (ls : Array Slot) (cells1 slots1 : Nat), LW G A AO b d τ oad (mR σ) wf H → cEq τ σ → va_S (fun q => A q ∨ q = q0) s.heap H locs → cells1 ≤ cells + 510 → slots1 ≤ slots + 4300 → W p l e (RM hR rc rs) s m args below meth c H locs cells1 slots1 Q (F0 m 77 ls [.int 1])) (kend324 : ∀ (τ : Sg) (H : Heap) (locs : List Loc) (ls : Array Slot) (cells1 slots1 : Nat), LW G A AO b d τ oad (mR σ) wf H → cEq τ σ → va_S (fun q => A q ∨ q = q0) s.heap H locs → cells1 ≤ cells + 510 → slots1 ≤ slots + 4300 → W p l e (RM hR rc rs) s m args below meth c H locs cells1 slots1 Q (F0 m 324 ls [.int 1])) : W p l e (RM hR rc rs) s m args below meth c H locs cells slots Q (F0 m 12 ls []) := by
  have hb := W0.1.1.1.1.1.1
  have hle9 := (W0.1.1.1.1.1.ex hx).1
  refine lv_iconst (v := 0) X.ex X.co dL_isMend_12 (by decide) ?_
  refine lv_istore (lv' := [(7, .int 0), (0, .ref b), (1, .ref (oad (0, 0))), (2, .int (nI x9)), (3, .int (nI fa - 2)), (4, .int (nI aa)), (5, .int (nI (nAn σ))), (6, .ref q0)]) X.ex X.co dL_isMend_13 hl (by decide) rfl (fun ls hl => ?_)
  refine im_fill hst hAg hdis X g0 hR9 hd9 hA2 hq0 hqO x9 fa aa cells slots (by omega) (by omega) (fun bf hbf H locs ls cells1 slots1 W0 hB hS hl hc1 hs1 => ?_) (nAn σ) 0 (by omega) bf (fun i hi => absurd hi (by omega)) H locs ls _ _ W0 hB hS (lv_sub hl [1, 2, 3, 4, 5, 6, 7, 0] rfl) (by omega) (by omega)
  refine lv_aload_n X.ex X.co dL_isMend_41 rfl (lv_at hl 0 rfl) ?_
  refine lv_iconst (v := 0) X.ex X.co dL_isMend_42 (by decide) ?_
  refine lv_aload_n X.ex X.co dL_isMend_43 rfl (lv_at hl 1 rfl) ?_
  refine lv_bipush (v := 10) X.ex X.co dL_isMend_44 (by decide) ?_
  refine lv_iload_n X.ex X.co dL_isMend_46 rfl (lv_at hl 2 rfl) ?_
  refine n_add X (x := 10) (y := x9) dL_isMend_47 ?_
  refine k_ml X g0.1 W0.2.2.2 (10 + x9) (by omega) (mR_e (σ := σ) (show x9 < nEx σ by omega)) dL_isMend_48 ?_
  refine lv_iconst (v := 0) X.ex X.co dL_isMend_49 (by decide) ?_
  refine k_call (n := 4) X mn_40 m_0 mn_39 ⟨by decide, by decide, by decide +kernel⟩ (by decide) mn_38 (c_L_ask_0 l hst G A hAg b σ W0.1.1.1.1 W0.1.1.1.2 W0.1.1.2 (nI (les σ x9)) 0) (g0.step hS hA2) W0 hdis (lsq_ve W0.1.1.2 _) W0.1 (q_ve W0.1 hle9) (by omega) rfl hl.1 rfl (Nat.le_of_ble_eq_true rfl) dL_isMend_50 (by omega) (by omega) hS (fun q h => Or.inl h) (fun H locs W0 hz hk9 hS => ?_)
  have hB := BW.kept hB hq0 hk9
  refine lv_istore (lv' := [(7, .int (σ.2 10 (les σ x9))), (0, .ref b), (1, .ref (oad (0, 0))), (2, .int (nI x9)), (3, .int (nI fa - 2)), (4, .int (nI aa)), (5, .int (nI (nAn σ))), (6, .ref q0)]) X.ex X.co dL_isMend_53 hl (by decide) rfl (fun ls hl => ?_)
  refine lv_aload_n X.ex X.co dL_isMend_55 rfl (lv_at hl 1 rfl) ?_
  refine lv_bipush (v := 9) X.ex X.co dL_isMend_56 (by decide) ?_
  refine lv_iload_n X.ex X.co dL_isMend_58 rfl (lv_at hl 3 rfl) ?_
  refine lv_iload_n X.ex X.co dL_isMend_59 rfl (lv_at hl 4 rfl) ?_
  refine lv_iload X.ex X.co dL_isMend_60 (lv_at hl 5 rfl) ?_
  refine lv_iconst (v := 0) X.ex X.co dL_isMend_62 (by decide) ?_
  rcases s_mend W0.1 hx hf ha with ⟨hv, hs9⟩ | ⟨cn, hv, τ, hs9, hL9, g1, g2, g3, g4, g5, g6, g7, g8, hc9, hh9, h10, hag, hags, han, hord, hcnt, hdj⟩
  · refine k_call (n := 6) X mn_16 m_0 mn_15 ⟨by decide, by decide, by decide +kernel⟩ (by decide) mn_14 (c_L_deed_9 l hst G A hAg b σ W0.1.1.1.1 W0.1.1.1.2 W0.1.1.2 (nI x9) (nI fa - 2) (nI aa) 0) (g0.step hS hA2) W0 hdis hs9 W0.1 hv (by omega) rfl hl.1 rfl (Nat.le_of_ble_eq_true rfl) dL_isMend_63 (by omega) (by omega) hS (fun q h => Or.inl h) (fun H locs W0 hz hk9 hS => ?_)
    have hB := BW.kept hB hq0 hk9
    refine lv_istore (lv' := [(8, .int (-2003)), (7, .int (σ.2 10 (les σ x9))), (0, .ref b), (1, .ref (oad (0, 0))), (2, .int (nI x9)), (3, .int (nI fa - 2)), (4, .int (nI aa)), (5, .int (nI (nAn σ))), (6, .ref q0)]) X.ex X.co dL_isMend_66 hl (by decide) rfl (fun ls hl => ?_)
    refine lv_iload X.ex X.co dL_isMend_68 (lv_at hl 0 rfl) ?_
    refine lv_sipush (v := (-2003)) X.ex X.co dL_isMend_70 (by decide) ?_
    refine lv_icmp_ne (tgt := 78) X.ex X.co dL_isMend_73 (by decide) (fun c_1 => ?_) (fun c_1 => ?_)
    · exact absurd (by decide) c_1
    · refine lv_iconst (v := 1) X.ex X.co dL_isMend_76 (by decide) ?_
      exact kend77 σ H locs ls _ _ W0 (cEq.rf σ) hS (by omega) (by omega)
  · have hσ := W0.1
    have hq : cEq τ σ := ⟨g1, g2, g3, g4, g5, g6, g7⟩
    refine k_call (n := 6) X mn_16 m_0 mn_15 ⟨by decide, by decide, by decide +kernel⟩ (by decide) mn_14 (c_L_deed_9 l hst G A hAg b σ W0.1.1.1.1 W0.1.1.1.2 W0.1.1.2 (nI x9) (nI fa - 2) (nI aa) 0) (g0.step hS hA2) W0 hdis hs9 hL9 hv (by omega) rfl hl.1 rfl (Nat.le_of_ble_eq_true rfl) dL_isMend_63 (by omega) (by omega) hS (fun q h => Or.inl h) (fun H locs W0 hz hk9 hS => ?_)
    have hB := BW.kept hB hq0 hk9
    refine lv_istore (lv' := [(8, .int (nI cn)), (7, .int (σ.2 10 (les σ x9))), (0, .ref b), (1, .ref (oad (0, 0))), (2, .int (nI x9)), (3, .int (nI fa - 2)), (4, .int (nI aa)), (5, .int (nI (nAn σ))), (6, .ref q0)]) X.ex X.co dL_isMend_66 hl (by decide) rfl (fun ls hl => ?_)
    refine lv_iload X.ex X.co dL_isMend_68 (lv_at hl 0 rfl) ?_
    refine lv_sipush (v := (-2003)) X.ex X.co dL_isMend_70 (by decide) ?_
    refine lv_icmp_ne (tgt := 78) X.ex X.co dL_isMend_73 (by decide) (fun c_2 => ?_) (fun c_2 => ?_)
    · refine lv_ldc X.ex X.co X.ow (X.ts _ mn_79) dL_isMend_78 ?_
      refine lv_istore (lv' := [(9, .int (-1000000)), (8, .int (nI cn)), (7, .int (σ.2 10 (les σ x9))), (0, .ref b), (1, .ref (oad (0, 0))), (2, .int (nI x9)), (3, .int (nI fa - 2)), (4, .int (nI aa)), (5, .int (nI (nAn σ))), (6, .ref q0)]) X.ex X.co dL_isMend_80 hl (by decide) rfl (fun ls hl => ?_)
      refine lv_iconst (v := (-1)) X.ex X.co dL_isMend_82 (by decide) ?_
      refine lv_istore (lv' := [(10, .int (-1)), (9, .int (-1000000)), (8, .int (nI cn)), (7, .int (σ.2 10 (les σ x9))), (0, .ref b), (1, .ref (oad (0, 0))), (2, .int (nI x9)), (3, .int (nI fa - 2)), (4, .int (nI aa)), (5, .int (nI (nAn σ))), (6, .ref q0)]) X.ex X.co dL_isMend_83 hl (by decide) rfl (fun ls hl => ?_)
      refine lv_iconst (v := 0) X.ex X.co dL_isMend_85 (by decide) ?_
      refine lv_istore (lv' := [(11, .int 0), (10, .int (-1)), (9, .int (-1000000)), (8, .int (nI cn)), (7, .int (σ.2 10 (les σ x9))), (0, .ref b), (1, .ref (oad (0, 0))), (2, .int (nI x9)), (3, .int (nI fa - 2)), (4, .int (nI aa)), (5, .int (nI (nAn σ))), (6, .ref q0)]) X.ex X.co dL_isMend_86 hl (by decide) rfl (fun ls hl => ?_)
      refine lv_iload X.ex X.co dL_isMend_88 (lv_at hl 3 rfl) ?_
      refine n_if_lt X (x := cn) (tgt := 159) (by omega) dL_isMend_90 (by decide) (fun c_3 => ?_) (fun c_3 => ?_)
      · exact c_3.elim
      · refine lv_iload X.ex X.co dL_isMend_93 (lv_at hl 3 rfl) ?_
        refine lv_aload_n X.ex X.co dL_isMend_95 rfl (lv_at hl 5 rfl) ?_
        refine k_cnt X ce_X9_harmedCount mn_80 (c_X9_harmedCount l G A hAg b τ W0.1.1.1.1 W0.1.1.1.2 W0.1.1.2) (g0.step hS hA2) W0 hdis (r := fHarmedCount τ) rfl (v := nI (nHa τ)) rfl rfl (by omega) rfl hl.1 rfl (Nat.le_of_ble_eq_true rfl) dL_isMend_96 (by omega) (by omega) hS (fun q h => Or.inl h) (fun H locs W0 hz hk9 hS => ?_)
        have hB := BW.kept hB hq0 hk9
        refine n_cmp_gt X (x := cn) (y := (nHa τ)) (tgt := 159) (by omega) (by omega) dL_isMend_99 (by decide) (fun c_4 => ?_) (fun c_4 => ?_)
        · exact absurd c_4 (by omega)
        · refine lv_aload_n X.ex X.co dL_isMend_102 rfl (lv_at hl 5 rfl) ?_
          refine lv_iconst (v := 0) X.ex X.co dL_isMend_103 (by decide) ?_
          refine lv_aload_n X.ex X.co dL_isMend_104 rfl (lv_at hl 6 rfl) ?_
          refine lv_bipush (v := 10) X.ex X.co dL_isMend_105 (by decide) ?_
          refine lv_iload_n X.ex X.co dL_isMend_107 rfl (lv_at hl 7 rfl) ?_
          refine n_add X (x := 10) (y := x9) dL_isMend_108 ?_
          refine k_ml X g0.1 W0.2.2.2 (10 + x9) (by omega) (mR_e (σ := σ) (show x9 < nEx σ by omega)) dL_isMend_109 ?_
          refine lv_iconst (v := 0) X.ex X.co dL_isMend_110 (by decide) ?_
          refine k_call (n := 4) X mn_40 m_0 mn_39 ⟨by decide, by decide, by decide +kernel⟩ (by decide) mn_38 (c_L_ask_0 l hst G A hAg b τ W0.1.1.1.1 W0.1.1.1.2 W0.1.1.2 (nI (les σ x9)) 0) (g0.step hS hA2) W0 hdis (lsq_ve W0.1.1.2 _) W0.1 ((q_ve W0.1 (show les σ x9 < nLe τ by omega)).trans h10) (by omega) rfl hl.1 rfl (Nat.le_of_ble_eq_true rfl) dL_isMend_111 (by omega) (by omega) hS (fun q h => Or.inl h) (fun H locs W0 hz hk9 hS => ?_)
          have hB := BW.kept hB hq0 hk9
          refine lv_iload X.ex X.co dL_isMend_114 (lv_at hl 4 rfl) ?_
          refine lv_iconst (v := 1) X.ex X.co dL_isMend_116 (by decide) ?_
          refine lv_iadd X.ex X.co dL_isMend_117 ?_
          refine lv_icmp_ne (tgt := 159) X.ex X.co dL_isMend_118 (by decide) (fun c_5 => ?_) (fun c_5 => ?_)
          · exact absurd rfl c_5
          · refine lv_aload_n X.ex X.co dL_isMend_121 rfl (lv_at hl 5 rfl) ?_
            refine lv_bipush (v := 9) X.ex X.co dL_isMend_122 (by decide) ?_
            refine lv_iload_n X.ex X.co dL_isMend_124 rfl (lv_at hl 7 rfl) ?_
            refine lv_iload_n X.ex X.co dL_isMend_125 rfl (lv_at hl 8 rfl) ?_
            refine lv_iload X.ex X.co dL_isMend_126 (lv_at hl 9 rfl) ?_
            refine lv_iconst (v := 0) X.ex X.co dL_isMend_128 (by decide) ?_
            refine k_call (n := 6) X mn_16 m_0 mn_15 ⟨by decide, by decide, by decide +kernel⟩ (by decide) mn_14 (c_L_deed_9 l hst G A hAg b τ W0.1.1.1.1 W0.1.1.1.2 W0.1.1.2 (nI x9) (nI fa - 2) (nI aa) 0) (g0.step hS hA2) W0 hdis hags W0.1 hag (by omega) rfl hl.1 rfl (Nat.le_of_ble_eq_true rfl) dL_isMend_129 (by omega) (by omega) hS (fun q h => Or.inl h) (fun H locs W0 hz hk9 hS => ?_)
            have hB := BW.kept hB hq0 hk9
            refine lv_sipush (v := (-2003)) X.ex X.co dL_isMend_132 (by decide) ?_
            refine lv_icmp_ne (tgt := 159) X.ex X.co dL_isMend_135 (by decide) (fun c_6 => ?_) (fun c_6 => ?_)
            · exact absurd (by decide) c_6
            · refine lv_aload_n X.ex X.co dL_isMend_138 rfl (lv_at hl 5 rfl) ?_
              refine lv_bipush (v := 12) X.ex X.co dL_isMend_139 (by decide) ?_
              refine lv_aload_n X.ex X.co dL_isMend_141 rfl (lv_at hl 5 rfl) ?_
              refine k_cnt X ce_X9_harmedCount mn_80 (c_X9_harmedCount l G A hAg b τ W0.1.1.1.1 W0.1.1.1.2 W0.1.1.2) (g0.step hS hA2) W0 hdis (r := fHarmedCount τ) rfl (v := nI (nHa τ)) rfl rfl (by omega) rfl hl.1 rfl (Nat.le_of_ble_eq_true rfl) dL_isMend_142 (by omega) (by omega) hS (fun q h => Or.inl h) (fun H locs W0 hz hk9 hS => ?_)
              have hB := BW.kept hB hq0 hk9
              refine lv_iconst (v := 0) X.ex X.co dL_isMend_145 (by decide) ?_
              refine k_call (n := 4) X mn_40 m_0 mn_39 ⟨by decide, by decide, by decide +kernel⟩ (by decide) mn_38 (c_L_ask_12 l hst G A hAg b τ W0.1.1.1.1 W0.1.1.1.2 W0.1.1.2 (nI (nHa τ)) 0) (g0.step hS hA2) W0 hdis (lsq_ha W0.1.1.2 _) W0.1 (q_ha9 W0.1) (by omega) rfl hl.1 rfl (Nat.le_of_ble_eq_true rfl) dL_isMend_146 (by omega) (by omega) hS (fun q h => Or.inl h) (fun H locs W0 hz hk9 hS => ?_)
              have hB := BW.kept hB hq0 hk9
              refine lv_sipush (v := (-2001)) X.ex X.co dL_isMend_149 (by decide) ?_
              refine lv_icmp_ne (tgt := 159) X.ex X.co dL_isMend_152 (by decide) (fun c_7 => ?_) (fun c_7 => ?_)
              · exact absurd (by decide) c_7
              · refine lv_iconst (v := 1) X.ex X.co dL_isMend_155 (by decide) ?_
                refine lv_goto (tgt := 160) X.ex X.co dL_isMend_156 (by decide) ?_
                refine lv_istore (lv' := [(12, .int 1), (11, .int 0), (10, .int (-1)), (9, .int (-1000000)), (8, .int (nI cn)), (7, .int (σ.2 10 (les σ x9))), (0, .ref b), (1, .ref (oad (0, 0))), (2, .int (nI x9)), (3, .int (nI fa - 2)), (4, .int (nI aa)), (5, .int (nI (nAn σ))), (6, .ref q0)]) X.ex X.co dL_isMend_160 hl (by decide) rfl (fun ls hl => ?_)
                refine lv_iconst (v := 0) X.ex X.co dL_isMend_162 (by decide) ?_
                refine lv_istore (lv' := [(13, .int 0), (12, .int 1), (11, .int 0), (10, .int (-1)), (9, .int (-1000000)), (8, .int (nI cn)), (7, .int (σ.2 10 (les σ x9))), (0, .ref b), (1, .ref (oad (0, 0))), (2, .int (nI x9)), (3, .int (nI fa - 2)), (4, .int (nI aa)), (5, .int (nI (nAn σ))), (6, .ref q0)]) X.ex X.co dL_isMend_163 hl (by decide) rfl (fun ls hl => ?_)
                refine im_k hst hAg hdis X g0 hR9 hd9 hA2 hq0 hqO cn bf hbf hσ g8 (by omega) han hord hdj (cells + 100 + 1 + 102 + 1 + 102 + 1) (slots + 600 + 6 + 1220 + 6 + 1220 + 6) (by omega) (by omega) (fun H locs ls cells2 slots2 W0 hB hS hl hc2 hs2 => ?_) (nHa τ) 0 (by omega) (-1000000) (-1) ⟨fun _ => ⟨rfl, rfl⟩, fun j hj => absurd hj (by omega)⟩ H locs ls _ _ W0 hB hS (lv_sub hl [7, 13, 5, 4, 3, 2, 1, 0] rfl) (by omega) (by omega)
                have hcl := cH_le (PM τ σ) (har τ) (nHa τ)
                refine lv_iload X.ex X.co dL_isMend_307 (lv_at hl 3 rfl) ?_
                refine lv_if_eq (tgt := 323) X.ex X.co dL_isMend_309 (by decide) (fun c_8 => ?_) (fun c_8 => ?_)
                · exact absurd c_8 (by decide)
                · refine lv_iload X.ex X.co dL_isMend_312 (lv_at hl 2 rfl) ?_
                  refine lv_iload X.ex X.co dL_isMend_314 (lv_at hl 1 rfl) ?_
                  refine n_cmp_ne X (x := cH (PM τ σ) (har τ) (nHa τ)) (y := cn) (tgt := 323) (by omega) (by omega) dL_isMend_316 (by decide) (fun c_9 => ?_) (fun c_9 => ?_)
                  · exact absurd hcnt.symm c_9
                  · refine lv_iconst (v := 1) X.ex X.co dL_isMend_319 (by decide) ?_
                    refine lv_goto (tgt := 324) X.ex X.co dL_isMend_320 (by decide) ?_
                    exact kend324 τ H locs ls _ _ W0 hq hS (by omega) (by omega)
    · exact absurd c_2 (nI_ne3 (by omega))
end MENDS
set_option maxHeartbeats 4000000 in
set_option maxRecDepth 100000 in
theorem c_L_isMend (l : Launch) (hst : l.stackTraces = false) (G : GT) (A AO : Nat → Prop) (hAg : ∀ q, A q → gA G q) (hdis : ∀ q, A q → ¬ AO q) (b d : Nat) (σ : Sg) (oad : I2 → Nat) (wf : Nat → Int32) (hd9 : d ≤ 1000) (x9 fa aa : Nat) (hx : x9 < nEx σ) (hf : fa < 5) (ha : aa < 9) : cM l yL_isMend cL_isMend 17 (some .boolean) 13 520 4500 G [.ref b, .ref (oad (0, 0)), .int (nI x9), .int (nI fa - 2), .int (nI aa)] (fun H => LW G A AO b d σ oad (mR σ) wf H) (fun v H => v = some (.int 1) ∧ ∃ τ, LW G A AO b d τ oad (mR σ) wf H ∧ cEq τ σ) A := by
  refine mk_m (by decide) (Nat.le_of_ble_eq_true rfl) ?_
  intro p e s m args below meth c X ls hl g0 W0 hnm
  have hS : va_S A s.heap s.heap [] := va_S.rf
  have hb := W0.1.1.1.1.1.1
  have hl : lv_has ls 17 [(0, .ref b), (1, .ref (oad (0, 0))), (2, .int (nI x9)), (3, .int (nI fa - 2)), (4, .int (nI aa))] := hl
  show W p l e (RM 13 520 4500) s m args below meth c s.heap [] 0 0 (MQ below (cQ (fun v H => v = some (.int 1) ∧ ∃ τ, LW G A AO b d τ oad (mR σ) wf H ∧ cEq τ σ) A) args s 520 4500 A) (F0 m 0 ls [])
  refine lv_aload_n X.ex X.co dL_isMend_0 rfl (lv_at hl 0 rfl) ?_
  refine k_cnt X ce_X9_answerCount mn_2 (c_X9_answerCount l G A hAg b σ W0.1.1.1.1 W0.1.1.1.2 W0.1.1.2) (g0.step hS hAg) W0 hdis (r := fAnswerCount σ) rfl (v := nI (nAn σ)) rfl rfl (by omega) rfl hl.1 rfl (Nat.le_of_ble_eq_true rfl) dL_isMend_1 (by omega) (by omega) hS (fun q h => h) (fun H locs W0 hz hk9 hS => ?_)
  refine lv_istore (lv' := [(5, .int (nI (nAn σ))), (0, .ref b), (1, .ref (oad (0, 0))), (2, .int (nI x9)), (3, .int (nI fa - 2)), (4, .int (nI aa))]) X.ex X.co dL_isMend_4 hl (by decide) rfl (fun ls hl => ?_)
  refine lv_bipush (v := 100) X.ex X.co dL_isMend_6 (by decide) ?_
  refine k_newi X g0.1 hS (N' := 100) (by decide) (by decide) (by decide) (by show _ ≤ 520; omega) (by show _ ≤ 4500; omega) dL_isMend_8 (fun q0 H1 hq9 hat hz1 ho1 hS => ?_)
  refine lv_astore (lv' := [(6, .ref q0), (5, .int (nI (nAn σ))), (0, .ref b), (1, .ref (oad (0, 0))), (2, .int (nI x9)), (3, .int (nI fa - 2)), (4, .int (nI aa))]) X.ex X.co dL_isMend_10 hl (by decide) rfl (fun ls hl => ?_)
  obtain ⟨Ai, hAi⟩ : ∃ Ai : Nat → Prop, Ai = fun q => A q ∧ q ≠ q0 := ⟨_, rfl⟩
  have hq0A : A q0 := W0.2.2.1 q0 (by omega)
  have hAe : (fun q => Ai q ∨ q = q0) = A := by
    funext q
    rw [hAi]
    apply propext
    constructor
    · rintro (h | h)
      · exact h.1
      · rw [h]; exact hq0A
    · intro h
      by_cases hq : q = q0
      · exact Or.inr hq
      · exact Or.inl ⟨h, hq⟩
  have hAi1 : ∀ q, Ai q → A q := fun q h => by rw [hAi] at h; exact h.1
  have hqi : ¬ Ai q0 := fun h => by rw [hAi] at h; exact h.2 rfl
  have hqO : ¬ AO q0 := hdis q0 hq0A
  have W1 : LW G Ai AO b d σ oad (mR σ) wf H1 := ⟨W0.1, CB_old (W0.2.1.wd fun q h1 h2 => by rw [hAi]; exact ⟨h1, by omega⟩) ho1, fun q hq => by rw [hAi]; exact ⟨W0.2.2.1 q (by omega), by omega⟩, fw.old W0.2.2.2 ho1⟩
  have hB := fw.one hat
  rw [← hAe] at hS
  exact im_main hst (fun q h => hAg q (hAi1 q h)) (fun q h => hdis q (hAi1 q h)) X g0 (by omega) hd9 (by rw [hAe]; exact hAg) hqi hqO x9 fa aa hx hf ha _ W1 hB hS (lv_sub hl [2, 3, 4, 5, 6, 1, 0] rfl) (by omega) (by omega) (fun τ H locs ls cells1 slots1 W0 hq hS hc1 hs1 => c_i X (by rw [hAe] at hS; exact hS) rfl rfl ⟨rfl, τ, ⟨W0.1, W0.2.1.wd fun q h _ => hAi1 q h, fun q h => hAi1 q (W0.2.2.1 q h), W0.2.2.2⟩, hq⟩ (by omega) (by omega) dL_isMend_77) (fun τ H locs ls cells1 slots1 W0 hq hS hc1 hs1 => c_i X (by rw [hAe] at hS; exact hS) rfl rfl ⟨rfl, τ, ⟨W0.1, W0.2.1.wd fun q h _ => hAi1 q h, fun q h => hAi1 q (W0.2.2.1 q h), W0.2.2.2⟩, hq⟩ (by omega) (by omega) dL_isMend_324)
