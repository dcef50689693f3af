theorem CB.keptS {G : GT} {A Am : Nat → Prop} {b : Nat} {σ : Sg} {H H1 : Heap} (h : CB G A b σ H) (hk : ∀ q : Nat, q < H.size → ¬ Am q → H1[q]? = H[q]?) (hd : ∀ q, A q → ¬ Am q) : CB G A b σ H1 := h.kept fun q hA hlt => hk q hlt (hd q hA)
theorem ce_X9_answerCount : ceV yX9_answerCount cX9_answerCount 1 ((Option.some FieldType.int)) 0 := ⟨m_141, m_142, m_1, m_143, ⟨by decide, by decide, by decide +kernel⟩, by decide⟩
theorem ce_X9_appealCount : ceV yX9_appealCount cX9_appealCount 1 ((Option.some FieldType.int)) 0 := ⟨m_149, m_150, m_1, m_151, ⟨by decide, by decide, by decide +kernel⟩, by decide⟩
theorem ce_X9_harmedCount : ceV yX9_harmedCount cX9_harmedCount 1 ((Option.some FieldType.int)) 0 := ⟨m_153, m_154, m_1, m_155, ⟨by decide, by decide, by decide +kernel⟩, by decide⟩
theorem ce_X9_today : ceV yX9_today cX9_today 1 ((Option.some FieldType.int)) 0 := ⟨m_180, m_181, m_1, m_182, ⟨by decide, by decide, by decide +kernel⟩, by decide⟩
theorem ce_X9_revoked : ceV yX9_revoked cX9_revoked 1 ((Option.some FieldType.int)) 0 := ⟨m_157, m_158, m_1, m_159, ⟨by decide, by decide, by decide +kernel⟩, by decide⟩
theorem ce_X9_isConsistent : ceV yX9_isConsistent cX9_isConsistent 6 ((Option.some FieldType.boolean)) 0 := ⟨m_184, m_185, m_1, m_186, ⟨by decide, by decide, by decide +kernel⟩, by decide⟩
section CASES
variable {p : Program} {l : Launch} {e : Env} {hR rc rs : Nat} {s : State} {m : MethodId} {args : Array Value} {below : List Frame} {meth : Method} {c : Code} {H : Heap} {locs : List Loc} {cells slots : Nat} {Q : State → Prop}
variable {G : GT} {Ac Am AO : Nat → Prop} {b L x i : Nat} {xs : Nat → Int32} {mad oad : I2 → Nat} {ρ : Sg} {f : Nat → Int64} {f2 : Nat → UInt64} {ls : Array Slot}
set_option maxHeartbeats 4000000 in
set_option maxRecDepth 100000 in
theorem law_0 (hst : l.stackTraces = false) (hAc : ∀ q, Ac q → gA G q) (hAm : ∀ q, Am q → gA G q) (hA3 : ∀ q, (fun q => Ac q ∨ AO q ∨ Am q) q → gA G q) (d1 : ∀ q, Ac q → ¬ AO q) (d2 : ∀ q, Ac q → ¬ Am q) (d3 : ∀ q, Am q → ¬ AO q) (X : CF p s m args meth c cL_law 9 "CourseForgeLaw" (some .boolean)) (g0 : GG G s s.heap) (hX : va_X b L xs s s.heap) (hbl : b < s.heap.size) (hbA : ¬ (fun q => Ac q ∨ AO q ∨ Am q) b) (hR9 : 20 ≤ hR) (hi : i + 5 ≤ L) (hL : L ≤ 2560) (W0 : lawW G Ac Am AO x mad oad ρ f f2 H) (hS : va_S (fun q => Ac q ∨ AO q ∨ Am q) s.heap H locs) (hl : lv_has ls 9 [(0, .ref b), (1, .ref x), (2, .ref (mad (0, 0))), (3, .ref (oad (0, 0))), (4, .ref (oad (0, 1))), (5, .int (nI i))]) (h1 : cells + 110 ≤ rc) (h2 : slots + 2210 ≤ rs)
    (kk : ∀ (ρ : Sg) (f : Nat → Int64) (f2 : Nat → UInt64) (H : Heap) (locs : List Loc) (ls : Array Slot) (cells1 slots1 : Nat), lawW G Ac Am AO x mad oad ρ f f2 H → va_S (fun q => Ac q ∨ AO q ∨ Am q) s.heap H locs → lv_has ls 9 [(0, .ref b), (1, .ref x), (2, .ref (mad (0, 0))), (3, .ref (oad (0, 0))), (4, .ref (oad (0, 1))), (5, .int (nI i))] → cells1 ≤ cells + 110 → slots1 ≤ slots + 2210 → W p l e (RM hR rc rs) s m args below meth c H locs cells1 slots1 Q (F0 m 2348 ls [])) :
    W p l e (RM hR rc rs) s m args below meth c H locs cells slots Q (F0 m 212 ls []) := by
  obtain ⟨hQ0, hM, hCB0, hfr, hO⟩ := W0
  obtain ⟨σ, hσ⟩ : ∃ σ, σ = sN ρ 0 0 0 := ⟨_, rfl⟩
  have hQ : Qs σ := by rw [hσ]; exact hQ0.z 0
  have h0 : σ.1 0 0 = 0 := by rw [hσ]; rfl
  have hCB : CB G Ac x σ H := by rw [hσ]; exact CB_0 0 hCB0
  obtain ⟨fsB, hfB⟩ := CB_at hCB
  refine lv_aload_n X.ex X.co dL_law_212 rfl (lv_at hl 1 rfl) ?_
  refine lv_aload_n X.ex X.co dL_law_213 rfl (lv_at hl 0 rfl) ?_
  refine lv_iload X.ex X.co dL_law_214 (lv_at hl 5 rfl) ?_
  refine lv_iconst (v := 1) X.ex X.co dL_law_216 (by decide) ?_
  refine n_add X (x := i) (y := 1) dL_law_217 ?_
  refine va_sld X.ex X.co hX hbl hbA hS (i := nI (i + 1)) (vp_in_nI (show i + 1 < L by omega) (by omega)) dL_law_218 ?_
  rw [nI_clamp (show i + 1 < 2 ^ 31 by omega)]
  refine lv_aload_n X.ex X.co dL_law_219 rfl (lv_at hl 0 rfl) ?_
  refine lv_iload X.ex X.co dL_law_220 (lv_at hl 5 rfl) ?_
  refine lv_iconst (v := 2) X.ex X.co dL_law_222 (by decide) ?_
  refine n_add X (x := i) (y := 2) dL_law_223 ?_
  refine va_sld X.ex X.co hX hbl hbA hS (i := nI (i + 2)) (vp_in_nI (show i + 2 < L by omega) (by omega)) dL_law_224 ?_
  rw [nI_clamp (show i + 2 < 2 ^ 31 by omega)]
  refine lv_aload_n X.ex X.co dL_law_225 rfl (lv_at hl 3 rfl) ?_
  refine w_cS (n := 4) X m_267 m_0 m_266 ⟨by decide, by decide, by decide +kernel⟩ (by decide) m_265 (c_L_addCohort l hst G Ac AO hAc d1 x σ hQ.1 hQ.2 h0 (xs (i + 1)) (xs (i + 2)) lvO oad (enO G f f2) (0, 0) (Or.inl rfl) (oad (0, 0)) rfl f rfl) (g0.step hS hA3) ⟨⟨hCB, hfr⟩, hO⟩ (by omega) rfl hl.1 rfl (Nat.le_of_ble_eq_true rfl) dL_law_226 (by omega) (by omega) hS (fun q h => h.elim Or.inl (fun z => Or.inr (Or.inl z))) (fun v0 H locs hB hz hk9 hS => ?_)
  obtain ⟨rfl, hCB, hle9, f1, hO, hf1⟩ := hB
  have hM := fw.kept hM (fun j hj => hk9 _ (fw.lt hM hj) (fun z => z.elim (fun z => d2 _ z (fw.in hM hj)) (fun z => d3 _ (fw.in hM hj) z)))
  have hO := enO_0 hO
  have hfr : ∀ q, H.size ≤ q → Ac q := fun q hq => hfr q (Nat.le_trans hz hq)
  refine lv_istore (lv' := [(6, .int (nI ((fAddCohort σ (xs (i + 1)) (xs (i + 2))).2.1 0 0))), (0, .ref b), (1, .ref x), (2, .ref (mad (0, 0))), (3, .ref (oad (0, 0))), (4, .ref (oad (0, 1))), (5, .int (nI i))]) X.ex X.co dL_law_229 hl (by decide) rfl (fun ls hl => ?_)
  refine lv_aload_n X.ex X.co dL_law_231 rfl (lv_at hl 3 rfl) ?_
  refine lv_aload_n X.ex X.co dL_law_232 rfl (lv_at hl 1 rfl) ?_
  refine lv_iload X.ex X.co dL_law_233 (lv_at hl 6 rfl) ?_
  refine lv_iconst (v := 1) X.ex X.co dL_law_235 (by decide) ?_
  refine n_add X (x := i) (y := 1) dL_law_236 ?_
  refine va_sld X.ex X.co hX hbl hbA hS (i := nI (i + 1)) (vp_in_nI (show i + 1 < L by omega) (by omega)) dL_law_237 ?_
  rw [nI_clamp (show i + 1 < 2 ^ 31 by omega)]
  refine lv_aload_n X.ex X.co dL_law_238 rfl (lv_at hl 1 rfl) ?_
  refine lv_iload X.ex X.co dL_law_239 (lv_at hl 6 rfl) ?_
  refine lv_iconst (v := 2) X.ex X.co dL_law_241 (by decide) ?_
  refine n_add X (x := i) (y := 2) dL_law_242 ?_
  refine va_sld X.ex X.co hX hbl hbA hS (i := nI (i + 2)) (vp_in_nI (show i + 2 < L by omega) (by omega)) dL_law_243 ?_
  rw [nI_clamp (show i + 2 < 2 ^ 31 by omega)]
  refine q_eV X ce_X10_addCohort m_1490 (c_X10_addCohort l G mad Am hAm ρ σ hσ hQ.1 (xs (i + 1)) (xs (i + 2))) (g0.step hS hA3) hM (mo hM) rfl (by omega) rfl hl.1 rfl (Nat.le_of_ble_eq_true rfl) dL_law_244 (by omega) (by omega) hS (fun q h => Or.inr (Or.inr h)) (fun H locs hM hz hk9 hS => ?_)
  have hCB := CB.keptS hCB hk9 d2
  have hO := fw.kept hO (fun j hj => hk9 _ (fw.lt hO hj) (fun z => d3 _ z (fw.in hO hj)))
  have hfr : ∀ q, H.size ≤ q → Ac q := fun q hq => hfr q (Nat.le_trans hz hq)
  refine lv_istore (lv' := [(7, .int ((fAddCohort σ (xs (i + 1)) (xs (i + 2))).1)), (6, .int (nI ((fAddCohort σ (xs (i + 1)) (xs (i + 2))).2.1 0 0))), (0, .ref b), (1, .ref x), (2, .ref (mad (0, 0))), (3, .ref (oad (0, 0))), (4, .ref (oad (0, 1))), (5, .int (nI i))]) X.ex X.co dL_law_247 hl (by decide) rfl (fun ls hl => ?_)
  refine lv_aload_n X.ex X.co dL_law_249 rfl (lv_at hl 4 rfl) ?_
  refine q_rV X ce_X10_thrown m_1486 (c_X10_thrown l G mad Am (fAddCohort σ (xs (i + 1)) (xs (i + 2))).2) (g0.step hS hA3) hM (mo hM) rfl (by omega) rfl hl.1 rfl (Nat.le_of_ble_eq_true rfl) dL_law_250 (by omega) (by omega) ?_
  refine lv_iload X.ex X.co dL_law_253 (lv_at hl 1 rfl) ?_
  refine n_cmp_eq X (x := ((fAddCohort σ (xs (i + 1)) (xs (i + 2))).2.1 0 0)) (y := ((fAddCohort σ (xs (i + 1)) (xs (i + 2))).2.1 0 0)) (tgt := 260) (by omega) (by omega) dL_law_255 (by decide) (fun c_1 => ?_) (fun c_1 => ?_)
  · refine lv_iload X.ex X.co dL_law_260 (lv_at hl 1 rfl) ?_
    refine n_if_ne X (x := ((fAddCohort σ (xs (i + 1)) (xs (i + 2))).2.1 0 0)) (tgt := 277) (by omega) dL_law_262 (by decide) (fun c_2 => ?_) (fun c_2 => ?_)
    · refine lv_goto (tgt := 2348) X.ex X.co dL_law_277 (by decide) ?_
      have hQ2 : Qs (fAddCohort σ (xs (i + 1)) (xs (i + 2))).2 := pr_addCohort hQ  (xs (i + 1)) (xs (i + 2))
      exact kk (fAddCohort σ (xs (i + 1)) (xs (i + 2))).2 f1 f2 H locs ls _ _ ⟨hQ2, hM, hCB, hfr, hO⟩ hS (lv_sub hl [2, 3, 4, 5, 6, 7] rfl) (by omega) (by omega)
    · refine lv_aload_n X.ex X.co dL_law_265 rfl (lv_at hl 5 rfl) ?_
      refine lv_iconst (v := 0) X.ex X.co dL_law_266 (by decide) ?_
      refine f_lald X g0.1 (fw.get hO (i := (0, 0)) (Or.inl rfl) rfl rfl) (x := 0) (show vp_in (nI 0) 1 from vp_in_nI (by omega) (by omega)) dL_law_267 ?_
      rw [show f1 (0 : Int32).toNatClampNeg = (fAddCohort σ (xs (i + 1)) (xs (i + 2))).1.toInt64 from hf1 c_2]
      refine lv_iload X.ex X.co dL_law_268 (lv_at hl 0 rfl) ?_
      refine lv_i2l X.ex X.co dL_law_270 rfl ?_
      refine w_lcmp X dL_law_271 ?_
      refine lv_if_eq (tgt := 277) X.ex X.co dL_law_272 (by decide) (fun c_3 => ?_) (fun c_3 => ?_)
      · refine lv_goto (tgt := 2348) X.ex X.co dL_law_277 (by decide) ?_
        have hQ2 : Qs (fAddCohort σ (xs (i + 1)) (xs (i + 2))).2 := pr_addCohort hQ  (xs (i + 1)) (xs (i + 2))
        exact kk (fAddCohort σ (xs (i + 1)) (xs (i + 2))).2 f1 f2 H locs ls _ _ ⟨hQ2, hM, hCB, hfr, hO⟩ hS (lv_sub hl [2, 3, 4, 5, 6, 7] rfl) (by omega) (by omega)
      · exact absurd (by decide) c_3
  · exact absurd rfl c_1
set_option maxHeartbeats 4000000 in
set_option maxRecDepth 100000 in
theorem law_1 (hst : l.stackTraces = false) (hAc : ∀ q, Ac q → gA G q) (hAm : ∀ q, Am q → gA G q) (hA3 : ∀ q, (fun q => Ac q ∨ AO q ∨ Am q) q → gA G q) (d1 : ∀ q, Ac q → ¬ AO q) (d2 : ∀ q, Ac q → ¬ Am q) (d3 : ∀ q, Am q → ¬ AO q) (X : CF p s m args meth c cL_law 9 "CourseForgeLaw" (some .boolean)) (g0 : GG G s s.heap) (hX : va_X b L xs s s.heap) (hbl : b < s.heap.size) (hbA : ¬ (fun q => Ac q ∨ AO q ∨ Am q) b) (hR9 : 20 ≤ hR) (hi : i + 5 ≤ L) (hL : L ≤ 2560) (W0 : lawW G Ac Am AO x mad oad ρ f f2 H) (hS : va_S (fun q => Ac q ∨ AO q ∨ Am q) s.heap H locs) (hl : lv_has ls 9 [(0, .ref b), (1, .ref x), (2, .ref (mad (0, 0))), (3, .ref (oad (0, 0))), (4, .ref (oad (0, 1))), (5, .int (nI i))]) (h1 : cells + 110 ≤ rc) (h2 : slots + 2210 ≤ rs)
    (kk : ∀ (ρ : Sg) (f : Nat → Int64) (f2 : Nat → UInt64) (H : Heap) (locs : List Loc) (ls : Array Slot) (cells1 slots1 : Nat), lawW G Ac Am AO x mad oad ρ f f2 H → va_S (fun q => Ac q ∨ AO q ∨ Am q) s.heap H locs → lv_has ls 9 [(0, .ref b), (1, .ref x), (2, .ref (mad (0, 0))), (3, .ref (oad (0, 0))), (4, .ref (oad (0, 1))), (5, .int (nI i))] → cells1 ≤ cells + 110 → slots1 ≤ slots + 2210 → W p l e (RM hR rc rs) s m args below meth c H locs cells1 slots1 Q (F0 m 2348 ls [])) :
    W p l e (RM hR rc rs) s m args below meth c H locs cells slots Q (F0 m 280 ls []) := by
  obtain ⟨hQ0, hM, hCB0, hfr, hO⟩ := W0
  obtain ⟨σ, hσ⟩ : ∃ σ, σ = sN ρ 0 0 0 := ⟨_, rfl⟩
  have hQ : Qs σ := by rw [hσ]; exact hQ0.z 0
  have h0 : σ.1 0 0 = 0 := by rw [hσ]; rfl
  have hCB : CB G Ac x σ H := by rw [hσ]; exact CB_0 0 hCB0
  obtain ⟨fsB, hfB⟩ := CB_at hCB
  refine lv_aload_n X.ex X.co dL_law_280 rfl (lv_at hl 1 rfl) ?_
  refine lv_aload_n X.ex X.co dL_law_281 rfl (lv_at hl 0 rfl) ?_
  refine lv_iload X.ex X.co dL_law_282 (lv_at hl 5 rfl) ?_
  refine lv_iconst (v := 1) X.ex X.co dL_law_284 (by decide) ?_
  refine n_add X (x := i) (y := 1) dL_law_285 ?_
  refine va_sld X.ex X.co hX hbl hbA hS (i := nI (i + 1)) (vp_in_nI (show i + 1 < L by omega) (by omega)) dL_law_286 ?_
  rw [nI_clamp (show i + 1 < 2 ^ 31 by omega)]
  refine lv_aload_n X.ex X.co dL_law_287 rfl (lv_at hl 3 rfl) ?_
  refine w_cS (n := 3) X m_444 m_0 m_443 ⟨by decide, by decide, by decide +kernel⟩ (by decide) m_442 (c_L_addStudent l hst G Ac AO hAc d1 x σ hQ.1 hQ.2 h0 (xs (i + 1)) lvO oad (enO G f f2) (0, 0) (Or.inl rfl) (oad (0, 0)) rfl f rfl) (g0.step hS hA3) ⟨⟨hCB, hfr⟩, hO⟩ (by omega) rfl hl.1 rfl (Nat.le_of_ble_eq_true rfl) dL_law_288 (by omega) (by omega) hS (fun q h => h.elim Or.inl (fun z => Or.inr (Or.inl z))) (fun v0 H locs hB hz hk9 hS => ?_)
  obtain ⟨rfl, hCB, hle9, f1, hO, hf1⟩ := hB
  have hM := fw.kept hM (fun j hj => hk9 _ (fw.lt hM hj) (fun z => z.elim (fun z => d2 _ z (fw.in hM hj)) (fun z => d3 _ (fw.in hM hj) z)))
  have hO := enO_0 hO
  have hfr : ∀ q, H.size ≤ q → Ac q := fun q hq => hfr q (Nat.le_trans hz hq)
  refine lv_istore (lv' := [(6, .int (nI ((fAddStudent σ (xs (i + 1))).2.1 0 0))), (0, .ref b), (1, .ref x), (2, .ref (mad (0, 0))), (3, .ref (oad (0, 0))), (4, .ref (oad (0, 1))), (5, .int (nI i))]) X.ex X.co dL_law_291 hl (by decide) rfl (fun ls hl => ?_)
  refine lv_aload_n X.ex X.co dL_law_293 rfl (lv_at hl 3 rfl) ?_
  refine lv_aload_n X.ex X.co dL_law_294 rfl (lv_at hl 1 rfl) ?_
  refine lv_iload X.ex X.co dL_law_295 (lv_at hl 6 rfl) ?_
  refine lv_iconst (v := 1) X.ex X.co dL_law_297 (by decide) ?_
  refine n_add X (x := i) (y := 1) dL_law_298 ?_
  refine va_sld X.ex X.co hX hbl hbA hS (i := nI (i + 1)) (vp_in_nI (show i + 1 < L by omega) (by omega)) dL_law_299 ?_
  rw [nI_clamp (show i + 1 < 2 ^ 31 by omega)]
  refine q_eV X ce_X10_addStudent m_1501 (c_X10_addStudent l G mad Am hAm ρ σ hσ hQ.1 (xs (i + 1))) (g0.step hS hA3) hM (mo hM) rfl (by omega) rfl hl.1 rfl (Nat.le_of_ble_eq_true rfl) dL_law_300 (by omega) (by omega) hS (fun q h => Or.inr (Or.inr h)) (fun H locs hM hz hk9 hS => ?_)
  have hCB := CB.keptS hCB hk9 d2
  have hO := fw.kept hO (fun j hj => hk9 _ (fw.lt hO hj) (fun z => d3 _ z (fw.in hO hj)))
  have hfr : ∀ q, H.size ≤ q → Ac q := fun q hq => hfr q (Nat.le_trans hz hq)
  refine lv_istore (lv' := [(7, .int ((fAddStudent σ (xs (i + 1))).1)), (6, .int (nI ((fAddStudent σ (xs (i + 1))).2.1 0 0))), (0, .ref b), (1, .ref x), (2, .ref (mad (0, 0))), (3, .ref (oad (0, 0))), (4, .ref (oad (0, 1))), (5, .int (nI i))]) X.ex X.co dL_law_303 hl (by decide) rfl (fun ls hl => ?_)
  refine lv_aload_n X.ex X.co dL_law_305 rfl (lv_at hl 4 rfl) ?_
  refine q_rV X ce_X10_thrown m_1486 (c_X10_thrown l G mad Am (fAddStudent σ (xs (i + 1))).2) (g0.step hS hA3) hM (mo hM) rfl (by omega) rfl hl.1 rfl (Nat.le_of_ble_eq_true rfl) dL_law_306 (by omega) (by omega) ?_
  refine lv_iload X.ex X.co dL_law_309 (lv_at hl 1 rfl) ?_
  refine n_cmp_eq X (x := ((fAddStudent σ (xs (i + 1))).2.1 0 0)) (y := ((fAddStudent σ (xs (i + 1))).2.1 0 0)) (tgt := 316) (by omega) (by omega) dL_law_311 (by decide) (fun c_1 => ?_) (fun c_1 => ?_)
  · refine lv_iload X.ex X.co dL_law_316 (lv_at hl 1 rfl) ?_
    refine n_if_ne X (x := ((fAddStudent σ (xs (i + 1))).2.1 0 0)) (tgt := 333) (by omega) dL_law_318 (by decide) (fun c_2 => ?_) (fun c_2 => ?_)
    · refine lv_goto (tgt := 2348) X.ex X.co dL_law_333 (by decide) ?_
      have hQ2 : Qs (fAddStudent σ (xs (i + 1))).2 := pr_addStudent hQ  (xs (i + 1))
      exact kk (fAddStudent σ (xs (i + 1))).2 f1 f2 H locs ls _ _ ⟨hQ2, hM, hCB, hfr, hO⟩ hS (lv_sub hl [2, 3, 4, 5, 6, 7] rfl) (by omega) (by omega)
    · refine lv_aload_n X.ex X.co dL_law_321 rfl (lv_at hl 5 rfl) ?_
      refine lv_iconst (v := 0) X.ex X.co dL_law_322 (by decide) ?_
      refine f_lald X g0.1 (fw.get hO (i := (0, 0)) (Or.inl rfl) rfl rfl) (x := 0) (show vp_in (nI 0) 1 from vp_in_nI (by omega) (by omega)) dL_law_323 ?_
      rw [show f1 (0 : Int32).toNatClampNeg = (fAddStudent σ (xs (i + 1))).1.toInt64 from hf1 c_2]
      refine lv_iload X.ex X.co dL_law_324 (lv_at hl 0 rfl) ?_
      refine lv_i2l X.ex X.co dL_law_326 rfl ?_
      refine w_lcmp X dL_law_327 ?_
      refine lv_if_eq (tgt := 333) X.ex X.co dL_law_328 (by decide) (fun c_3 => ?_) (fun c_3 => ?_)
      · refine lv_goto (tgt := 2348) X.ex X.co dL_law_333 (by decide) ?_
        have hQ2 : Qs (fAddStudent σ (xs (i + 1))).2 := pr_addStudent hQ  (xs (i + 1))
        exact kk (fAddStudent σ (xs (i + 1))).2 f1 f2 H locs ls _ _ ⟨hQ2, hM, hCB, hfr, hO⟩ hS (lv_sub hl [2, 3, 4, 5, 6, 7] rfl) (by omega) (by omega)
      · exact absurd (by decide) c_3
  · exact absurd rfl c_1
set_option maxHeartbeats 4000000 in
set_option maxRecDepth 100000 in
theorem law_2 (hst : l.stackTraces = false) (hAc : ∀ q, Ac q → gA G q) (hAm : ∀ q, Am q → gA G q) (hA3 : ∀ q, (fun q => Ac q ∨ AO q ∨ Am q) q → gA G q) (d1 : ∀ q, Ac q → ¬ AO q) (d2 : ∀ q, Ac q → ¬ Am q) (d3 : ∀ q, Am q → ¬ AO q) (X : CF p s m args meth c cL_law 9 "CourseForgeLaw" (some .boolean)) (g0 : GG G s s.heap) (hX : va_X b L xs s s.heap) (hbl : b < s.heap.size) (hbA : ¬ (fun q => Ac q ∨ AO q ∨ Am q) b) (hR9 : 20 ≤ hR) (hi : i + 5 ≤ L) (hL : L ≤ 2560) (W0 : lawW G Ac Am AO x mad oad ρ f f2 H) (hS : va_S (fun q => Ac q ∨ AO q ∨ Am q) s.heap H locs) (hl : lv_has ls 9 [(0, .ref b), (1, .ref x), (2, .ref (mad (0, 0))), (3, .ref (oad (0, 0))), (4, .ref (oad (0, 1))), (5, .int (nI i))]) (h1 : cells + 110 ≤ rc) (h2 : slots + 2210 ≤ rs)
    (kk : ∀ (ρ : Sg) (f : Nat → Int64) (f2 : Nat → UInt64) (H : Heap) (locs : List Loc) (ls : Array Slot) (cells1 slots1 : Nat), lawW G Ac Am AO x mad oad ρ f f2 H → va_S (fun q => Ac q ∨ AO q ∨ Am q) s.heap H locs → lv_has ls 9 [(0, .ref b), (1, .ref x), (2, .ref (mad (0, 0))), (3, .ref (oad (0, 0))), (4, .ref (oad (0, 1))), (5, .int (nI i))] → cells1 ≤ cells + 110 → slots1 ≤ slots + 2210 → W p l e (RM hR rc rs) s m args below meth c H locs cells1 slots1 Q (F0 m 2348 ls [])) :
    W p l e (RM hR rc rs) s m args below meth c H locs cells slots Q (F0 m 336 ls []) := by
  obtain ⟨hQ0, hM, hCB0, hfr, hO⟩ := W0
  obtain ⟨σ, hσ⟩ : ∃ σ, σ = sN ρ 0 0 0 := ⟨_, rfl⟩
  have hQ : Qs σ := by rw [hσ]; exact hQ0.z 0
  have h0 : σ.1 0 0 = 0 := by rw [hσ]; rfl
  have hCB : CB G Ac x σ H := by rw [hσ]; exact CB_0 0 hCB0
  obtain ⟨fsB, hfB⟩ := CB_at hCB
  refine lv_aload_n X.ex X.co dL_law_336 rfl (lv_at hl 1 rfl) ?_
  refine lv_aload_n X.ex X.co dL_law_337 rfl (lv_at hl 0 rfl) ?_
  refine lv_iload X.ex X.co dL_law_338 (lv_at hl 5 rfl) ?_
  refine lv_iconst (v := 1) X.ex X.co dL_law_340 (by decide) ?_
  refine n_add X (x := i) (y := 1) dL_law_341 ?_
  refine va_sld X.ex X.co hX hbl hbA hS (i := nI (i + 1)) (vp_in_nI (show i + 1 < L by omega) (by omega)) dL_law_342 ?_
  rw [nI_clamp (show i + 1 < 2 ^ 31 by omega)]
  refine lv_aload_n X.ex X.co dL_law_343 rfl (lv_at hl 0 rfl) ?_
  refine lv_iload X.ex X.co dL_law_344 (lv_at hl 5 rfl) ?_
  refine lv_iconst (v := 2) X.ex X.co dL_law_346 (by decide) ?_
  refine n_add X (x := i) (y := 2) dL_law_347 ?_
  refine va_sld X.ex X.co hX hbl hbA hS (i := nI (i + 2)) (vp_in_nI (show i + 2 < L by omega) (by omega)) dL_law_348 ?_
  rw [nI_clamp (show i + 2 < 2 ^ 31 by omega)]
  refine lv_aload_n X.ex X.co dL_law_349 rfl (lv_at hl 3 rfl) ?_
  refine w_cS (n := 4) X m_503 m_0 m_502 ⟨by decide, by decide, by decide +kernel⟩ (by decide) m_501 (c_L_addLesson l hst G Ac AO hAc d1 x σ hQ.1 hQ.2 h0 (xs (i + 1)) (xs (i + 2)) lvO oad (enO G f f2) (0, 0) (Or.inl rfl) (oad (0, 0)) rfl f rfl) (g0.step hS hA3) ⟨⟨hCB, hfr⟩, hO⟩ (by omega) rfl hl.1 rfl (Nat.le_of_ble_eq_true rfl) dL_law_350 (by omega) (by omega) hS (fun q h => h.elim Or.inl (fun z => Or.inr (Or.inl z))) (fun v0 H locs hB hz hk9 hS => ?_)
  obtain ⟨rfl, hCB, hle9, f1, hO, hf1⟩ := hB
  have hM := fw.kept hM (fun j hj => hk9 _ (fw.lt hM hj) (fun z => z.elim (fun z => d2 _ z (fw.in hM hj)) (fun z => d3 _ (fw.in hM hj) z)))
  have hO := enO_0 hO
  have hfr : ∀ q, H.size ≤ q → Ac q := fun q hq => hfr q (Nat.le_trans hz hq)
  refine lv_istore (lv' := [(6, .int (nI ((fAddLesson σ (xs (i + 1)) (xs (i + 2))).2.1 0 0))), (0, .ref b), (1, .ref x), (2, .ref (mad (0, 0))), (3, .ref (oad (0, 0))), (4, .ref (oad (0, 1))), (5, .int (nI i))]) X.ex X.co dL_law_353 hl (by decide) rfl (fun ls hl => ?_)
  refine lv_aload_n X.ex X.co dL_law_355 rfl (lv_at hl 3 rfl) ?_
  refine lv_aload_n X.ex X.co dL_law_356 rfl (lv_at hl 1 rfl) ?_
  refine lv_iload X.ex X.co dL_law_357 (lv_at hl 6 rfl) ?_
  refine lv_iconst (v := 1) X.ex X.co dL_law_359 (by decide) ?_
  refine n_add X (x := i) (y := 1) dL_law_360 ?_
  refine va_sld X.ex X.co hX hbl hbA hS (i := nI (i + 1)) (vp_in_nI (show i + 1 < L by omega) (by omega)) dL_law_361 ?_
  rw [nI_clamp (show i + 1 < 2 ^ 31 by omega)]
  refine lv_aload_n X.ex X.co dL_law_362 rfl (lv_at hl 1 rfl) ?_
  refine lv_iload X.ex X.co dL_law_363 (lv_at hl 6 rfl) ?_
  refine lv_iconst (v := 2) X.ex X.co dL_law_365 (by decide) ?_
  refine n_add X (x := i) (y := 2) dL_law_366 ?_
  refine va_sld X.ex X.co hX hbl hbA hS (i := nI (i + 2)) (vp_in_nI (show i + 2 < L by omega) (by omega)) dL_law_367 ?_
  rw [nI_clamp (show i + 2 < 2 ^ 31 by omega)]
  refine q_eV X ce_X10_addLesson m_1505 (c_X10_addLesson l G mad Am hAm ρ σ hσ hQ.1 (xs (i + 1)) (xs (i + 2))) (g0.step hS hA3) hM (mo hM) rfl (by omega) rfl hl.1 rfl (Nat.le_of_ble_eq_true rfl) dL_law_368 (by omega) (by omega) hS (fun q h => Or.inr (Or.inr h)) (fun H locs hM hz hk9 hS => ?_)
  have hCB := CB.keptS hCB hk9 d2
  have hO := fw.kept hO (fun j hj => hk9 _ (fw.lt hO hj) (fun z => d3 _ z (fw.in hO hj)))
  have hfr : ∀ q, H.size ≤ q → Ac q := fun q hq => hfr q (Nat.le_trans hz hq)
  refine lv_istore (lv' := [(7, .int ((fAddLesson σ (xs (i + 1)) (xs (i + 2))).1)), (6, .int (nI ((fAddLesson σ (xs (i + 1)) (xs (i + 2))).2.1 0 0))), (0, .ref b), (1, .ref x), (2, .ref (mad (0, 0))), (3, .ref (oad (0, 0))), (4, .ref (oad (0, 1))), (5, .int (nI i))]) X.ex X.co dL_law_371 hl (by decide) rfl (fun ls hl => ?_)
  refine lv_aload_n X.ex X.co dL_law_373 rfl (lv_at hl 4 rfl) ?_
  refine q_rV X ce_X10_thrown m_1486 (c_X10_thrown l G mad Am (fAddLesson σ (xs (i + 1)) (xs (i + 2))).2) (g0.step hS hA3) hM (mo hM) rfl (by omega) rfl hl.1 rfl (Nat.le_of_ble_eq_true rfl) dL_law_374 (by omega) (by omega) ?_
  refine lv_iload X.ex X.co dL_law_377 (lv_at hl 1 rfl) ?_
  refine n_cmp_eq X (x := ((fAddLesson σ (xs (i + 1)) (xs (i + 2))).2.1 0 0)) (y := ((fAddLesson σ (xs (i + 1)) (xs (i + 2))).2.1 0 0)) (tgt := 384) (by omega) (by omega) dL_law_379 (by decide) (fun c_1 => ?_) (fun c_1 => ?_)
  · refine lv_iload X.ex X.co dL_law_384 (lv_at hl 1 rfl) ?_
    refine n_if_ne X (x := ((fAddLesson σ (xs (i + 1)) (xs (i + 2))).2.1 0 0)) (tgt := 401) (by omega) dL_law_386 (by decide) (fun c_2 => ?_) (fun c_2 => ?_)
    · refine lv_goto (tgt := 2348) X.ex X.co dL_law_401 (by decide) ?_
      have hQ2 : Qs (fAddLesson σ (xs (i + 1)) (xs (i + 2))).2 := pr_addLesson hQ  (xs (i + 1)) (xs (i + 2))
      exact kk (fAddLesson σ (xs (i + 1)) (xs (i + 2))).2 f1 f2 H locs ls _ _ ⟨hQ2, hM, hCB, hfr, hO⟩ hS (lv_sub hl [2, 3, 4, 5, 6, 7] rfl) (by omega) (by omega)
    · refine lv_aload_n X.ex X.co dL_law_389 rfl (lv_at hl 5 rfl) ?_
      refine lv_iconst (v := 0) X.ex X.co dL_law_390 (by decide) ?_
      refine f_lald X g0.1 (fw.get hO (i := (0, 0)) (Or.inl rfl) rfl rfl) (x := 0) (show vp_in (nI 0) 1 from vp_in_nI (by omega) (by omega)) dL_law_391 ?_
      rw [show f1 (0 : Int32).toNatClampNeg = (fAddLesson σ (xs (i + 1)) (xs (i + 2))).1.toInt64 from hf1 c_2]
      refine lv_iload X.ex X.co dL_law_392 (lv_at hl 0 rfl) ?_
      refine lv_i2l X.ex X.co dL_law_394 rfl ?_
      refine w_lcmp X dL_law_395 ?_
      refine lv_if_eq (tgt := 401) X.ex X.co dL_law_396 (by decide) (fun c_3 => ?_) (fun c_3 => ?_)
      · refine lv_goto (tgt := 2348) X.ex X.co dL_law_401 (by decide) ?_
        have hQ2 : Qs (fAddLesson σ (xs (i + 1)) (xs (i + 2))).2 := pr_addLesson hQ  (xs (i + 1)) (xs (i + 2))
        exact kk (fAddLesson σ (xs (i + 1)) (xs (i + 2))).2 f1 f2 H locs ls _ _ ⟨hQ2, hM, hCB, hfr, hO⟩ hS (lv_sub hl [2, 3, 4, 5, 6, 7] rfl) (by omega) (by omega)
      · exact absurd (by decide) c_3
  · exact absurd rfl c_1
set_option maxHeartbeats 4000000 in
set_option maxRecDepth 100000 in
theorem law_3 (hst : l.stackTraces = false) (hAc : ∀ q, Ac q → gA G q) (hAm : ∀ q, Am q → gA G q) (hA3 : ∀ q, (fun q => Ac q ∨ AO q ∨ Am q) q → gA G q) (d1 : ∀ q, Ac q → ¬ AO q) (d2 : ∀ q, Ac q → ¬ Am q) (d3 : ∀ q, Am q → ¬ AO q) (X : CF p s m args meth c cL_law 9 "CourseForgeLaw" (some .boolean)) (g0 : GG G s s.heap) (hX : va_X b L xs s s.heap) (hbl : b < s.heap.size) (hbA : ¬ (fun q => Ac q ∨ AO q ∨ Am q) b) (hR9 : 20 ≤ hR) (hi : i + 5 ≤ L) (hL : L ≤ 2560) (W0 : lawW G Ac Am AO x mad oad ρ f f2 H) (hS : va_S (fun q => Ac q ∨ AO q ∨ Am q) s.heap H locs) (hl : lv_has ls 9 [(0, .ref b), (1, .ref x), (2, .ref (mad (0, 0))), (3, .ref (oad (0, 0))), (4, .ref (oad (0, 1))), (5, .int (nI i))]) (h1 : cells + 110 ≤ rc) (h2 : slots + 2210 ≤ rs)
    (kk : ∀ (ρ : Sg) (f : Nat → Int64) (f2 : Nat → UInt64) (H : Heap) (locs : List Loc) (ls : Array Slot) (cells1 slots1 : Nat), lawW G Ac Am AO x mad oad ρ f f2 H → va_S (fun q => Ac q ∨ AO q ∨ Am q) s.heap H locs → lv_has ls 9 [(0, .ref b), (1, .ref x), (2, .ref (mad (0, 0))), (3, .ref (oad (0, 0))), (4, .ref (oad (0, 1))), (5, .int (nI i))] → cells1 ≤ cells + 110 → slots1 ≤ slots + 2210 → W p l e (RM hR rc rs) s m args below meth c H locs cells1 slots1 Q (F0 m 2348 ls [])) :
    W p l e (RM hR rc rs) s m args below meth c H locs cells slots Q (F0 m 404 ls []) := by
  obtain ⟨hQ0, hM, hCB0, hfr, hO⟩ := W0
  obtain ⟨σ, hσ⟩ : ∃ σ, σ = sN ρ 0 0 0 := ⟨_, rfl⟩
  have hQ : Qs σ := by rw [hσ]; exact hQ0.z 0
  have h0 : σ.1 0 0 = 0 := by rw [hσ]; rfl
  have hCB : CB G Ac x σ H := by rw [hσ]; exact CB_0 0 hCB0
  obtain ⟨fsB, hfB⟩ := CB_at hCB
  refine lv_aload_n X.ex X.co dL_law_404 rfl (lv_at hl 1 rfl) ?_
  refine lv_aload_n X.ex X.co dL_law_405 rfl (lv_at hl 0 rfl) ?_
  refine lv_iload X.ex X.co dL_law_406 (lv_at hl 5 rfl) ?_
  refine lv_iconst (v := 1) X.ex X.co dL_law_408 (by decide) ?_
  refine n_add X (x := i) (y := 1) dL_law_409 ?_
  refine va_sld X.ex X.co hX hbl hbA hS (i := nI (i + 1)) (vp_in_nI (show i + 1 < L by omega) (by omega)) dL_law_410 ?_
  rw [nI_clamp (show i + 1 < 2 ^ 31 by omega)]
  refine lv_aload_n X.ex X.co dL_law_411 rfl (lv_at hl 0 rfl) ?_
  refine lv_iload X.ex X.co dL_law_412 (lv_at hl 5 rfl) ?_
  refine lv_iconst (v := 2) X.ex X.co dL_law_414 (by decide) ?_
  refine n_add X (x := i) (y := 2) dL_law_415 ?_
  refine va_sld X.ex X.co hX hbl hbA hS (i := nI (i + 2)) (vp_in_nI (show i + 2 < L by omega) (by omega)) dL_law_416 ?_
  rw [nI_clamp (show i + 2 < 2 ^ 31 by omega)]
  refine lv_aload_n X.ex X.co dL_law_417 rfl (lv_at hl 0 rfl) ?_
  refine lv_iload X.ex X.co dL_law_418 (lv_at hl 5 rfl) ?_
  refine lv_iconst (v := 3) X.ex X.co dL_law_420 (by decide) ?_
  refine n_add X (x := i) (y := 3) dL_law_421 ?_
  refine va_sld X.ex X.co hX hbl hbA hS (i := nI (i + 3)) (vp_in_nI (show i + 3 < L by omega) (by omega)) dL_law_422 ?_
  rw [nI_clamp (show i + 3 < 2 ^ 31 by omega)]
  refine lv_aload_n X.ex X.co dL_law_423 rfl (lv_at hl 0 rfl) ?_
  refine lv_iload X.ex X.co dL_law_424 (lv_at hl 5 rfl) ?_
  refine lv_iconst (v := 4) X.ex X.co dL_law_426 (by decide) ?_
  refine n_add X (x := i) (y := 4) dL_law_427 ?_
  refine va_sld X.ex X.co hX hbl hbA hS (i := nI (i + 4)) (vp_in_nI (show i + 4 < L by omega) (by omega)) dL_law_428 ?_
  rw [nI_clamp (show i + 4 < 2 ^ 31 by omega)]
  refine lv_aload_n X.ex X.co dL_law_429 rfl (lv_at hl 3 rfl) ?_
  refine w_cS (n := 6) X m_543 m_0 m_542 ⟨by decide, by decide, by decide +kernel⟩ (by decide) m_541 (c_L_addExercise l hst G Ac AO hAc d1 x σ hQ.1 hQ.2 h0 (xs (i + 1)) (xs (i + 2)) (xs (i + 3)) (xs (i + 4)) lvO oad (enO G f f2) (0, 0) (Or.inl rfl) (oad (0, 0)) rfl f rfl) (g0.step hS hA3) ⟨⟨hCB, hfr⟩, hO⟩ (by omega) rfl hl.1 rfl (Nat.le_of_ble_eq_true rfl) dL_law_430 (by omega) (by omega) hS (fun q h => h.elim Or.inl (fun z => Or.inr (Or.inl z))) (fun v0 H locs hB hz hk9 hS => ?_)
  obtain ⟨rfl, hCB, hle9, f1, hO, hf1⟩ := hB
  have hM := fw.kept hM (fun j hj => hk9 _ (fw.lt hM hj) (fun z => z.elim (fun z => d2 _ z (fw.in hM hj)) (fun z => d3 _ (fw.in hM hj) z)))
  have hO := enO_0 hO
  have hfr : ∀ q, H.size ≤ q → Ac q := fun q hq => hfr q (Nat.le_trans hz hq)
  refine lv_istore (lv' := [(6, .int (nI ((fAddExercise σ (xs (i + 1)) (xs (i + 2)) (xs (i + 3)) (xs (i + 4))).2.1 0 0))), (0, .ref b), (1, .ref x), (2, .ref (mad (0, 0))), (3, .ref (oad (0, 0))), (4, .ref (oad (0, 1))), (5, .int (nI i))]) X.ex X.co dL_law_433 hl (by decide) rfl (fun ls hl => ?_)
  refine lv_aload_n X.ex X.co dL_law_435 rfl (lv_at hl 3 rfl) ?_
  refine lv_aload_n X.ex X.co dL_law_436 rfl (lv_at hl 1 rfl) ?_
  refine lv_iload X.ex X.co dL_law_437 (lv_at hl 6 rfl) ?_
  refine lv_iconst (v := 1) X.ex X.co dL_law_439 (by decide) ?_
  refine n_add X (x := i) (y := 1) dL_law_440 ?_
  refine va_sld X.ex X.co hX hbl hbA hS (i := nI (i + 1)) (vp_in_nI (show i + 1 < L by omega) (by omega)) dL_law_441 ?_
  rw [nI_clamp (show i + 1 < 2 ^ 31 by omega)]
  refine lv_aload_n X.ex X.co dL_law_442 rfl (lv_at hl 1 rfl) ?_
  refine lv_iload X.ex X.co dL_law_443 (lv_at hl 6 rfl) ?_
  refine lv_iconst (v := 2) X.ex X.co dL_law_445 (by decide) ?_
  refine n_add X (x := i) (y := 2) dL_law_446 ?_
  refine va_sld X.ex X.co hX hbl hbA hS (i := nI (i + 2)) (vp_in_nI (show i + 2 < L by omega) (by omega)) dL_law_447 ?_
  rw [nI_clamp (show i + 2 < 2 ^ 31 by omega)]
  refine lv_aload_n X.ex X.co dL_law_448 rfl (lv_at hl 1 rfl) ?_
  refine lv_iload X.ex X.co dL_law_449 (lv_at hl 6 rfl) ?_
  refine lv_iconst (v := 3) X.ex X.co dL_law_451 (by decide) ?_
  refine n_add X (x := i) (y := 3) dL_law_452 ?_
  refine va_sld X.ex X.co hX hbl hbA hS (i := nI (i + 3)) (vp_in_nI (show i + 3 < L by omega) (by omega)) dL_law_453 ?_
  rw [nI_clamp (show i + 3 < 2 ^ 31 by omega)]
  refine lv_aload_n X.ex X.co dL_law_454 rfl (lv_at hl 1 rfl) ?_
  refine lv_iload X.ex X.co dL_law_455 (lv_at hl 6 rfl) ?_
  refine lv_iconst (v := 4) X.ex X.co dL_law_457 (by decide) ?_
  refine n_add X (x := i) (y := 4) dL_law_458 ?_
  refine va_sld X.ex X.co hX hbl hbA hS (i := nI (i + 4)) (vp_in_nI (show i + 4 < L by omega) (by omega)) dL_law_459 ?_
  rw [nI_clamp (show i + 4 < 2 ^ 31 by omega)]
  refine q_eV X ce_X10_addExercise m_1509 (c_X10_addExercise l G mad Am hAm ρ σ hσ hQ.1 (xs (i + 1)) (xs (i + 2)) (xs (i + 3)) (xs (i + 4))) (g0.step hS hA3) hM (mo hM) rfl (by omega) rfl hl.1 rfl (Nat.le_of_ble_eq_true rfl) dL_law_460 (by omega) (by omega) hS (fun q h => Or.inr (Or.inr h)) (fun H locs hM hz hk9 hS => ?_)
  have hCB := CB.keptS hCB hk9 d2
  have hO := fw.kept hO (fun j hj => hk9 _ (fw.lt hO hj) (fun z => d3 _ z (fw.in hO hj)))
  have hfr : ∀ q, H.size ≤ q → Ac q := fun q hq => hfr q (Nat.le_trans hz hq)
  refine lv_istore (lv' := [(7, .int ((fAddExercise σ (xs (i + 1)) (xs (i + 2)) (xs (i + 3)) (xs (i + 4))).1)), (6, .int (nI ((fAddExercise σ (xs (i + 1)) (xs (i + 2)) (xs (i + 3)) (xs (i + 4))).2.1 0 0))), (0, .ref b), (1, .ref x), (2, .ref (mad (0, 0))), (3, .ref (oad (0, 0))), (4, .ref (oad (0, 1))), (5, .int (nI i))]) X.ex X.co dL_law_463 hl (by decide) rfl (fun ls hl => ?_)
  refine lv_aload_n X.ex X.co dL_law_465 rfl (lv_at hl 4 rfl) ?_
  refine q_rV X ce_X10_thrown m_1486 (c_X10_thrown l G mad Am (fAddExercise σ (xs (i + 1)) (xs (i + 2)) (xs (i + 3)) (xs (i + 4))).2) (g0.step hS hA3) hM (mo hM) rfl (by omega) rfl hl.1 rfl (Nat.le_of_ble_eq_true rfl) dL_law_466 (by omega) (by omega) ?_
  refine lv_iload X.ex X.co dL_law_469 (lv_at hl 1 rfl) ?_
  refine n_cmp_eq X (x := ((fAddExercise σ (xs (i + 1)) (xs (i + 2)) (xs (i + 3)) (xs (i + 4))).2.1 0 0)) (y := ((fAddExercise σ (xs (i + 1)) (xs (i + 2)) (xs (i + 3)) (xs (i + 4))).2.1 0 0)) (tgt := 476) (by omega) (by omega) dL_law_471 (by decide) (fun c_1 => ?_) (fun c_1 => ?_)
  · refine lv_iload X.ex X.co dL_law_476 (lv_at hl 1 rfl) ?_
    refine n_if_ne X (x := ((fAddExercise σ (xs (i + 1)) (xs (i + 2)) (xs (i + 3)) (xs (i + 4))).2.1 0 0)) (tgt := 493) (by omega) dL_law_478 (by decide) (fun c_2 => ?_) (fun c_2 => ?_)
    · refine lv_goto (tgt := 2348) X.ex X.co dL_law_493 (by decide) ?_
      have hQ2 : Qs (fAddExercise σ (xs (i + 1)) (xs (i + 2)) (xs (i + 3)) (xs (i + 4))).2 := pr_addExercise hQ  (xs (i + 1)) (xs (i + 2)) (xs (i + 3)) (xs (i + 4))
      exact kk (fAddExercise σ (xs (i + 1)) (xs (i + 2)) (xs (i + 3)) (xs (i + 4))).2 f1 f2 H locs ls _ _ ⟨hQ2, hM, hCB, hfr, hO⟩ hS (lv_sub hl [2, 3, 4, 5, 6, 7] rfl) (by omega) (by omega)
    · refine lv_aload_n X.ex X.co dL_law_481 rfl (lv_at hl 5 rfl) ?_
      refine lv_iconst (v := 0) X.ex X.co dL_law_482 (by decide) ?_
      refine f_lald X g0.1 (fw.get hO (i := (0, 0)) (Or.inl rfl) rfl rfl) (x := 0) (show vp_in (nI 0) 1 from vp_in_nI (by omega) (by omega)) dL_law_483 ?_
      rw [show f1 (0 : Int32).toNatClampNeg = (fAddExercise σ (xs (i + 1)) (xs (i + 2)) (xs (i + 3)) (xs (i + 4))).1.toInt64 from hf1 c_2]
      refine lv_iload X.ex X.co dL_law_484 (lv_at hl 0 rfl) ?_
      refine lv_i2l X.ex X.co dL_law_486 rfl ?_
      refine w_lcmp X dL_law_487 ?_
      refine lv_if_eq (tgt := 493) X.ex X.co dL_law_488 (by decide) (fun c_3 => ?_) (fun c_3 => ?_)
      · refine lv_goto (tgt := 2348) X.ex X.co dL_law_493 (by decide) ?_
        have hQ2 : Qs (fAddExercise σ (xs (i + 1)) (xs (i + 2)) (xs (i + 3)) (xs (i + 4))).2 := pr_addExercise hQ  (xs (i + 1)) (xs (i + 2)) (xs (i + 3)) (xs (i + 4))
        exact kk (fAddExercise σ (xs (i + 1)) (xs (i + 2)) (xs (i + 3)) (xs (i + 4))).2 f1 f2 H locs ls _ _ ⟨hQ2, hM, hCB, hfr, hO⟩ hS (lv_sub hl [2, 3, 4, 5, 6, 7] rfl) (by omega) (by omega)
      · exact absurd (by decide) c_3
  · exact absurd rfl c_1
set_option maxHeartbeats 4000000 in
set_option maxRecDepth 100000 in
theorem law_4 (hst : l.stackTraces = false) (hAc : ∀ q, Ac q → gA G q) (hAm : ∀ q, Am q → gA G q) (hA3 : ∀ q, (fun q => Ac q ∨ AO q ∨ Am q) q → gA G q) (d1 : ∀ q, Ac q → ¬ AO q) (d2 : ∀ q, Ac q → ¬ Am q) (d3 : ∀ q, Am q → ¬ AO q) (X : CF p s m args meth c cL_law 9 "CourseForgeLaw" (some .boolean)) (g0 : GG G s s.heap) (hX : va_X b L xs s s.heap) (hbl : b < s.heap.size) (hbA : ¬ (fun q => Ac q ∨ AO q ∨ Am q) b) (hR9 : 20 ≤ hR) (hi : i + 5 ≤ L) (hL : L ≤ 2560) (W0 : lawW G Ac Am AO x mad oad ρ f f2 H) (hS : va_S (fun q => Ac q ∨ AO q ∨ Am q) s.heap H locs) (hl : lv_has ls 9 [(0, .ref b), (1, .ref x), (2, .ref (mad (0, 0))), (3, .ref (oad (0, 0))), (4, .ref (oad (0, 1))), (5, .int (nI i))]) (h1 : cells + 110 ≤ rc) (h2 : slots + 2210 ≤ rs)
    (kk : ∀ (ρ : Sg) (f : Nat → Int64) (f2 : Nat → UInt64) (H : Heap) (locs : List Loc) (ls : Array Slot) (cells1 slots1 : Nat), lawW G Ac Am AO x mad oad ρ f f2 H → va_S (fun q => Ac q ∨ AO q ∨ Am q) s.heap H locs → lv_has ls 9 [(0, .ref b), (1, .ref x), (2, .ref (mad (0, 0))), (3, .ref (oad (0, 0))), (4, .ref (oad (0, 1))), (5, .int (nI i))] → cells1 ≤ cells + 110 → slots1 ≤ slots + 2210 → W p l e (RM hR rc rs) s m args below meth c H locs cells1 slots1 Q (F0 m 2348 ls [])) :
    W p l e (RM hR rc rs) s m args below meth c H locs cells slots Q (F0 m 496 ls []) := by
  obtain ⟨hQ0, hM, hCB0, hfr, hO⟩ := W0
  obtain ⟨σ, hσ⟩ : ∃ σ, σ = sN ρ 0 0 0 := ⟨_, rfl⟩
  have hQ : Qs σ := by rw [hσ]; exact hQ0.z 0
  have h0 : σ.1 0 0 = 0 := by rw [hσ]; rfl
  have hCB : CB G Ac x σ H := by rw [hσ]; exact CB_0 0 hCB0
  obtain ⟨fsB, hfB⟩ := CB_at hCB
  refine lv_aload_n X.ex X.co dL_law_496 rfl (lv_at hl 1 rfl) ?_
  refine lv_aload_n X.ex X.co dL_law_497 rfl (lv_at hl 0 rfl) ?_
  refine lv_iload X.ex X.co dL_law_498 (lv_at hl 5 rfl) ?_
  refine lv_iconst (v := 1) X.ex X.co dL_law_500 (by decide) ?_
  refine n_add X (x := i) (y := 1) dL_law_501 ?_
  refine va_sld X.ex X.co hX hbl hbA hS (i := nI (i + 1)) (vp_in_nI (show i + 1 < L by omega) (by omega)) dL_law_502 ?_
  rw [nI_clamp (show i + 1 < 2 ^ 31 by omega)]
  refine lv_aload_n X.ex X.co dL_law_503 rfl (lv_at hl 0 rfl) ?_
  refine lv_iload X.ex X.co dL_law_504 (lv_at hl 5 rfl) ?_
  refine lv_iconst (v := 2) X.ex X.co dL_law_506 (by decide) ?_
  refine n_add X (x := i) (y := 2) dL_law_507 ?_
  refine va_sld X.ex X.co hX hbl hbA hS (i := nI (i + 2)) (vp_in_nI (show i + 2 < L by omega) (by omega)) dL_law_508 ?_
  rw [nI_clamp (show i + 2 < 2 ^ 31 by omega)]
  refine lv_aload_n X.ex X.co dL_law_509 rfl (lv_at hl 0 rfl) ?_
  refine lv_iload X.ex X.co dL_law_510 (lv_at hl 5 rfl) ?_
  refine lv_iconst (v := 3) X.ex X.co dL_law_512 (by decide) ?_
  refine n_add X (x := i) (y := 3) dL_law_513 ?_
  refine va_sld X.ex X.co hX hbl hbA hS (i := nI (i + 3)) (vp_in_nI (show i + 3 < L by omega) (by omega)) dL_law_514 ?_
  rw [nI_clamp (show i + 3 < 2 ^ 31 by omega)]
  refine lv_aload_n X.ex X.co dL_law_515 rfl (lv_at hl 3 rfl) ?_
  refine w_cS (n := 5) X m_621 m_0 m_620 ⟨by decide, by decide, by decide +kernel⟩ (by decide) m_619 (c_L_addCase l hst G Ac AO hAc d1 x σ hQ.1 hQ.2 h0 (xs (i + 1)) (xs (i + 2)) (xs (i + 3)) lvO oad (enO G f f2) (0, 0) (Or.inl rfl) (oad (0, 0)) rfl f rfl) (g0.step hS hA3) ⟨⟨hCB, hfr⟩, hO⟩ (by omega) rfl hl.1 rfl (Nat.le_of_ble_eq_true rfl) dL_law_516 (by omega) (by omega) hS (fun q h => h.elim Or.inl (fun z => Or.inr (Or.inl z))) (fun v0 H locs hB hz hk9 hS => ?_)
  obtain ⟨rfl, hCB, hle9, f1, hO, hf1⟩ := hB
  have hM := fw.kept hM (fun j hj => hk9 _ (fw.lt hM hj) (fun z => z.elim (fun z => d2 _ z (fw.in hM hj)) (fun z => d3 _ (fw.in hM hj) z)))
  have hO := enO_0 hO
  have hfr : ∀ q, H.size ≤ q → Ac q := fun q hq => hfr q (Nat.le_trans hz hq)
  refine lv_istore (lv' := [(6, .int (nI ((fAddCase σ (xs (i + 1)) (xs (i + 2)) (xs (i + 3))).2.1 0 0))), (0, .ref b), (1, .ref x), (2, .ref (mad (0, 0))), (3, .ref (oad (0, 0))), (4, .ref (oad (0, 1))), (5, .int (nI i))]) X.ex X.co dL_law_519 hl (by decide) rfl (fun ls hl => ?_)
  refine lv_aload_n X.ex X.co dL_law_521 rfl (lv_at hl 3 rfl) ?_
  refine lv_aload_n X.ex X.co dL_law_522 rfl (lv_at hl 1 rfl) ?_
  refine lv_iload X.ex X.co dL_law_523 (lv_at hl 6 rfl) ?_
  refine lv_iconst (v := 1) X.ex X.co dL_law_525 (by decide) ?_
  refine n_add X (x := i) (y := 1) dL_law_526 ?_
  refine va_sld X.ex X.co hX hbl hbA hS (i := nI (i + 1)) (vp_in_nI (show i + 1 < L by omega) (by omega)) dL_law_527 ?_
  rw [nI_clamp (show i + 1 < 2 ^ 31 by omega)]
  refine lv_aload_n X.ex X.co dL_law_528 rfl (lv_at hl 1 rfl) ?_
  refine lv_iload X.ex X.co dL_law_529 (lv_at hl 6 rfl) ?_
  refine lv_iconst (v := 2) X.ex X.co dL_law_531 (by decide) ?_
  refine n_add X (x := i) (y := 2) dL_law_532 ?_
  refine va_sld X.ex X.co hX hbl hbA hS (i := nI (i + 2)) (vp_in_nI (show i + 2 < L by omega) (by omega)) dL_law_533 ?_
  rw [nI_clamp (show i + 2 < 2 ^ 31 by omega)]
  refine lv_aload_n X.ex X.co dL_law_534 rfl (lv_at hl 1 rfl) ?_
  refine lv_iload X.ex X.co dL_law_535 (lv_at hl 6 rfl) ?_
  refine lv_iconst (v := 3) X.ex X.co dL_law_537 (by decide) ?_
  refine n_add X (x := i) (y := 3) dL_law_538 ?_
  refine va_sld X.ex X.co hX hbl hbA hS (i := nI (i + 3)) (vp_in_nI (show i + 3 < L by omega) (by omega)) dL_law_539 ?_
  rw [nI_clamp (show i + 3 < 2 ^ 31 by omega)]
  refine q_eV X ce_X10_addCase m_1520 (c_X10_addCase l G mad Am hAm ρ σ hσ hQ.1 (xs (i + 1)) (xs (i + 2)) (xs (i + 3))) (g0.step hS hA3) hM (mo hM) rfl (by omega) rfl hl.1 rfl (Nat.le_of_ble_eq_true rfl) dL_law_540 (by omega) (by omega) hS (fun q h => Or.inr (Or.inr h)) (fun H locs hM hz hk9 hS => ?_)
  have hCB := CB.keptS hCB hk9 d2
  have hO := fw.kept hO (fun j hj => hk9 _ (fw.lt hO hj) (fun z => d3 _ z (fw.in hO hj)))
  have hfr : ∀ q, H.size ≤ q → Ac q := fun q hq => hfr q (Nat.le_trans hz hq)
  refine lv_istore (lv' := [(7, .int ((fAddCase σ (xs (i + 1)) (xs (i + 2)) (xs (i + 3))).1)), (6, .int (nI ((fAddCase σ (xs (i + 1)) (xs (i + 2)) (xs (i + 3))).2.1 0 0))), (0, .ref b), (1, .ref x), (2, .ref (mad (0, 0))), (3, .ref (oad (0, 0))), (4, .ref (oad (0, 1))), (5, .int (nI i))]) X.ex X.co dL_law_543 hl (by decide) rfl (fun ls hl => ?_)
  refine lv_aload_n X.ex X.co dL_law_545 rfl (lv_at hl 4 rfl) ?_
  refine q_rV X ce_X10_thrown m_1486 (c_X10_thrown l G mad Am (fAddCase σ (xs (i + 1)) (xs (i + 2)) (xs (i + 3))).2) (g0.step hS hA3) hM (mo hM) rfl (by omega) rfl hl.1 rfl (Nat.le_of_ble_eq_true rfl) dL_law_546 (by omega) (by omega) ?_
  refine lv_iload X.ex X.co dL_law_549 (lv_at hl 1 rfl) ?_
  refine n_cmp_eq X (x := ((fAddCase σ (xs (i + 1)) (xs (i + 2)) (xs (i + 3))).2.1 0 0)) (y := ((fAddCase σ (xs (i + 1)) (xs (i + 2)) (xs (i + 3))).2.1 0 0)) (tgt := 556) (by omega) (by omega) dL_law_551 (by decide) (fun c_1 => ?_) (fun c_1 => ?_)
  · refine lv_iload X.ex X.co dL_law_556 (lv_at hl 1 rfl) ?_
    refine n_if_ne X (x := ((fAddCase σ (xs (i + 1)) (xs (i + 2)) (xs (i + 3))).2.1 0 0)) (tgt := 573) (by omega) dL_law_558 (by decide) (fun c_2 => ?_) (fun c_2 => ?_)
    · refine lv_goto (tgt := 2348) X.ex X.co dL_law_573 (by decide) ?_
      have hQ2 : Qs (fAddCase σ (xs (i + 1)) (xs (i + 2)) (xs (i + 3))).2 := pr_addCase hQ  (xs (i + 1)) (xs (i + 2)) (xs (i + 3))
      exact kk (fAddCase σ (xs (i + 1)) (xs (i + 2)) (xs (i + 3))).2 f1 f2 H locs ls _ _ ⟨hQ2, hM, hCB, hfr, hO⟩ hS (lv_sub hl [2, 3, 4, 5, 6, 7] rfl) (by omega) (by omega)
    · refine lv_aload_n X.ex X.co dL_law_561 rfl (lv_at hl 5 rfl) ?_
      refine lv_iconst (v := 0) X.ex X.co dL_law_562 (by decide) ?_
      refine f_lald X g0.1 (fw.get hO (i := (0, 0)) (Or.inl rfl) rfl rfl) (x := 0) (show vp_in (nI 0) 1 from vp_in_nI (by omega) (by omega)) dL_law_563 ?_
      rw [show f1 (0 : Int32).toNatClampNeg = (fAddCase σ (xs (i + 1)) (xs (i + 2)) (xs (i + 3))).1.toInt64 from hf1 c_2]
      refine lv_iload X.ex X.co dL_law_564 (lv_at hl 0 rfl) ?_
      refine lv_i2l X.ex X.co dL_law_566 rfl ?_
      refine w_lcmp X dL_law_567 ?_
      refine lv_if_eq (tgt := 573) X.ex X.co dL_law_568 (by decide) (fun c_3 => ?_) (fun c_3 => ?_)
      · refine lv_goto (tgt := 2348) X.ex X.co dL_law_573 (by decide) ?_
        have hQ2 : Qs (fAddCase σ (xs (i + 1)) (xs (i + 2)) (xs (i + 3))).2 := pr_addCase hQ  (xs (i + 1)) (xs (i + 2)) (xs (i + 3))
        exact kk (fAddCase σ (xs (i + 1)) (xs (i + 2)) (xs (i + 3))).2 f1 f2 H locs ls _ _ ⟨hQ2, hM, hCB, hfr, hO⟩ hS (lv_sub hl [2, 3, 4, 5, 6, 7] rfl) (by omega) (by omega)
      · exact absurd (by decide) c_3
  · exact absurd rfl c_1
set_option maxHeartbeats 4000000 in
set_option maxRecDepth 100000 in
theorem law_5 (hst : l.stackTraces = false) (hAc : ∀ q, Ac q → gA G q) (hAm : ∀ q, Am q → gA G q) (hA3 : ∀ q, (fun q => Ac q ∨ AO q ∨ Am q) q → gA G q) (d1 : ∀ q, Ac q → ¬ AO q) (d2 : ∀ q, Ac q → ¬ Am q) (d3 : ∀ q, Am q → ¬ AO q) (X : CF p s m args meth c cL_law 9 "CourseForgeLaw" (some .boolean)) (g0 : GG G s s.heap) (hX : va_X b L xs s s.heap) (hbl : b < s.heap.size) (hbA : ¬ (fun q => Ac q ∨ AO q ∨ Am q) b) (hR9 : 20 ≤ hR) (hi : i + 5 ≤ L) (hL : L ≤ 2560) (W0 : lawW G Ac Am AO x mad oad ρ f f2 H) (hS : va_S (fun q => Ac q ∨ AO q ∨ Am q) s.heap H locs) (hl : lv_has ls 9 [(0, .ref b), (1, .ref x), (2, .ref (mad (0, 0))), (3, .ref (oad (0, 0))), (4, .ref (oad (0, 1))), (5, .int (nI i))]) (h1 : cells + 110 ≤ rc) (h2 : slots + 2210 ≤ rs)
    (kk : ∀ (ρ : Sg) (f : Nat → Int64) (f2 : Nat → UInt64) (H : Heap) (locs : List Loc) (ls : Array Slot) (cells1 slots1 : Nat), lawW G Ac Am AO x mad oad ρ f f2 H → va_S (fun q => Ac q ∨ AO q ∨ Am q) s.heap H locs → lv_has ls 9 [(0, .ref b), (1, .ref x), (2, .ref (mad (0, 0))), (3, .ref (oad (0, 0))), (4, .ref (oad (0, 1))), (5, .int (nI i))] → cells1 ≤ cells + 110 → slots1 ≤ slots + 2210 → W p l e (RM hR rc rs) s m args below meth c H locs cells1 slots1 Q (F0 m 2348 ls [])) :
    W p l e (RM hR rc rs) s m args below meth c H locs cells slots Q (F0 m 576 ls []) := by
  obtain ⟨hQ0, hM, hCB0, hfr, hO⟩ := W0
  obtain ⟨σ, hσ⟩ : ∃ σ, σ = sN ρ 0 0 0 := ⟨_, rfl⟩
  have hQ : Qs σ := by rw [hσ]; exact hQ0.z 0
  have h0 : σ.1 0 0 = 0 := by rw [hσ]; rfl
  have hCB : CB G Ac x σ H := by rw [hσ]; exact CB_0 0 hCB0
  obtain ⟨fsB, hfB⟩ := CB_at hCB
  refine lv_aload_n X.ex X.co dL_law_576 rfl (lv_at hl 1 rfl) ?_
  refine lv_aload_n X.ex X.co dL_law_577 rfl (lv_at hl 0 rfl) ?_
  refine lv_iload X.ex X.co dL_law_578 (lv_at hl 5 rfl) ?_
  refine lv_iconst (v := 1) X.ex X.co dL_law_580 (by decide) ?_
  refine n_add X (x := i) (y := 1) dL_law_581 ?_
  refine va_sld X.ex X.co hX hbl hbA hS (i := nI (i + 1)) (vp_in_nI (show i + 1 < L by omega) (by omega)) dL_law_582 ?_
  rw [nI_clamp (show i + 1 < 2 ^ 31 by omega)]
  refine lv_aload_n X.ex X.co dL_law_583 rfl (lv_at hl 3 rfl) ?_
  refine w_cS (n := 3) X m_643 m_0 m_642 ⟨by decide, by decide, by decide +kernel⟩ (by decide) m_641 (c_L_versionOf l hst G Ac AO hAc d1 x σ hQ.1 hQ.2 h0 (xs (i + 1)) lvO oad (enO G f f2) (0, 0) (Or.inl rfl) (oad (0, 0)) rfl f rfl) (g0.step hS hA3) ⟨⟨hCB, hfr⟩, hO⟩ (by omega) rfl hl.1 rfl (Nat.le_of_ble_eq_true rfl) dL_law_584 (by omega) (by omega) hS (fun q h => h.elim Or.inl (fun z => Or.inr (Or.inl z))) (fun v0 H locs hB hz hk9 hS => ?_)
  obtain ⟨rfl, hCB, hle9, f1, hO, hf1⟩ := hB
  have hM := fw.kept hM (fun j hj => hk9 _ (fw.lt hM hj) (fun z => z.elim (fun z => d2 _ z (fw.in hM hj)) (fun z => d3 _ (fw.in hM hj) z)))
  have hO := enO_0 hO
  have hfr : ∀ q, H.size ≤ q → Ac q := fun q hq => hfr q (Nat.le_trans hz hq)
  refine lv_istore (lv' := [(6, .int (nI ((fVersionOf σ (xs (i + 1))).2.1 0 0))), (0, .ref b), (1, .ref x), (2, .ref (mad (0, 0))), (3, .ref (oad (0, 0))), (4, .ref (oad (0, 1))), (5, .int (nI i))]) X.ex X.co dL_law_587 hl (by decide) rfl (fun ls hl => ?_)
  refine lv_aload_n X.ex X.co dL_law_589 rfl (lv_at hl 3 rfl) ?_
  refine lv_aload_n X.ex X.co dL_law_590 rfl (lv_at hl 1 rfl) ?_
  refine lv_iload X.ex X.co dL_law_591 (lv_at hl 6 rfl) ?_
  refine lv_iconst (v := 1) X.ex X.co dL_law_593 (by decide) ?_
  refine n_add X (x := i) (y := 1) dL_law_594 ?_
  refine va_sld X.ex X.co hX hbl hbA hS (i := nI (i + 1)) (vp_in_nI (show i + 1 < L by omega) (by omega)) dL_law_595 ?_
  rw [nI_clamp (show i + 1 < 2 ^ 31 by omega)]
  refine q_eV X ce_X10_versionOf m_1532 (c_X10_versionOf l G mad Am hAm ρ σ hσ hQ.1 (xs (i + 1))) (g0.step hS hA3) hM (mo hM) rfl (by omega) rfl hl.1 rfl (Nat.le_of_ble_eq_true rfl) dL_law_596 (by omega) (by omega) hS (fun q h => Or.inr (Or.inr h)) (fun H locs hM hz hk9 hS => ?_)
  have hCB := CB.keptS hCB hk9 d2
  have hO := fw.kept hO (fun j hj => hk9 _ (fw.lt hO hj) (fun z => d3 _ z (fw.in hO hj)))
  have hfr : ∀ q, H.size ≤ q → Ac q := fun q hq => hfr q (Nat.le_trans hz hq)
  refine lv_istore (lv' := [(7, .int ((fVersionOf σ (xs (i + 1))).1)), (6, .int (nI ((fVersionOf σ (xs (i + 1))).2.1 0 0))), (0, .ref b), (1, .ref x), (2, .ref (mad (0, 0))), (3, .ref (oad (0, 0))), (4, .ref (oad (0, 1))), (5, .int (nI i))]) X.ex X.co dL_law_599 hl (by decide) rfl (fun ls hl => ?_)
  refine lv_aload_n X.ex X.co dL_law_601 rfl (lv_at hl 4 rfl) ?_
  refine q_rV X ce_X10_thrown m_1486 (c_X10_thrown l G mad Am (fVersionOf σ (xs (i + 1))).2) (g0.step hS hA3) hM (mo hM) rfl (by omega) rfl hl.1 rfl (Nat.le_of_ble_eq_true rfl) dL_law_602 (by omega) (by omega) ?_
  refine lv_iload X.ex X.co dL_law_605 (lv_at hl 1 rfl) ?_
  refine n_cmp_eq X (x := ((fVersionOf σ (xs (i + 1))).2.1 0 0)) (y := ((fVersionOf σ (xs (i + 1))).2.1 0 0)) (tgt := 612) (by omega) (by omega) dL_law_607 (by decide) (fun c_1 => ?_) (fun c_1 => ?_)
  · refine lv_iload X.ex X.co dL_law_612 (lv_at hl 1 rfl) ?_
    refine n_if_ne X (x := ((fVersionOf σ (xs (i + 1))).2.1 0 0)) (tgt := 629) (by omega) dL_law_614 (by decide) (fun c_2 => ?_) (fun c_2 => ?_)
    · refine lv_goto (tgt := 2348) X.ex X.co dL_law_629 (by decide) ?_
      have hQ2 : Qs (fVersionOf σ (xs (i + 1))).2 := by
        unfold fVersionOf
        repeat' split
        all_goals first | exact hQ | exact hQ.e _ | exact hQ.z _
      exact kk (fVersionOf σ (xs (i + 1))).2 f1 f2 H locs ls _ _ ⟨hQ2, hM, hCB, hfr, hO⟩ hS (lv_sub hl [2, 3, 4, 5, 6, 7] rfl) (by omega) (by omega)
    · refine lv_aload_n X.ex X.co dL_law_617 rfl (lv_at hl 5 rfl) ?_
      refine lv_iconst (v := 0) X.ex X.co dL_law_618 (by decide) ?_
      refine f_lald X g0.1 (fw.get hO (i := (0, 0)) (Or.inl rfl) rfl rfl) (x := 0) (show vp_in (nI 0) 1 from vp_in_nI (by omega) (by omega)) dL_law_619 ?_
      rw [show f1 (0 : Int32).toNatClampNeg = (fVersionOf σ (xs (i + 1))).1.toInt64 from hf1 c_2]
      refine lv_iload X.ex X.co dL_law_620 (lv_at hl 0 rfl) ?_
      refine lv_i2l X.ex X.co dL_law_622 rfl ?_
      refine w_lcmp X dL_law_623 ?_
      refine lv_if_eq (tgt := 629) X.ex X.co dL_law_624 (by decide) (fun c_3 => ?_) (fun c_3 => ?_)
      · refine lv_goto (tgt := 2348) X.ex X.co dL_law_629 (by decide) ?_
        have hQ2 : Qs (fVersionOf σ (xs (i + 1))).2 := by
          unfold fVersionOf
          repeat' split
          all_goals first | exact hQ | exact hQ.e _ | exact hQ.z _
        exact kk (fVersionOf σ (xs (i + 1))).2 f1 f2 H locs ls _ _ ⟨hQ2, hM, hCB, hfr, hO⟩ hS (lv_sub hl [2, 3, 4, 5, 6, 7] rfl) (by omega) (by omega)
      · exact absurd (by decide) c_3
  · exact absurd rfl c_1
set_option maxHeartbeats 4000000 in
set_option maxRecDepth 100000 in
theorem law_6 (hst : l.stackTraces = false) (hAc : ∀ q, Ac q → gA G q) (hAm : ∀ q, Am q → gA G q) (hA3 : ∀ q, (fun q => Ac q ∨ AO q ∨ Am q) q → gA G q) (d1 : ∀ q, Ac q → ¬ AO q) (d2 : ∀ q, Ac q → ¬ Am q) (d3 : ∀ q, Am q → ¬ AO q) (X : CF p s m args meth c cL_law 9 "CourseForgeLaw" (some .boolean)) (g0 : GG G s s.heap) (hX : va_X b L xs s s.heap) (hbl : b < s.heap.size) (hbA : ¬ (fun q => Ac q ∨ AO q ∨ Am q) b) (hR9 : 20 ≤ hR) (hi : i + 5 ≤ L) (hL : L ≤ 2560) (W0 : lawW G Ac Am AO x mad oad ρ f f2 H) (hS : va_S (fun q => Ac q ∨ AO q ∨ Am q) s.heap H locs) (hl : lv_has ls 9 [(0, .ref b), (1, .ref x), (2, .ref (mad (0, 0))), (3, .ref (oad (0, 0))), (4, .ref (oad (0, 1))), (5, .int (nI i))]) (h1 : cells + 110 ≤ rc) (h2 : slots + 2210 ≤ rs)
    (kk : ∀ (ρ : Sg) (f : Nat → Int64) (f2 : Nat → UInt64) (H : Heap) (locs : List Loc) (ls : Array Slot) (cells1 slots1 : Nat), lawW G Ac Am AO x mad oad ρ f f2 H → va_S (fun q => Ac q ∨ AO q ∨ Am q) s.heap H locs → lv_has ls 9 [(0, .ref b), (1, .ref x), (2, .ref (mad (0, 0))), (3, .ref (oad (0, 0))), (4, .ref (oad (0, 1))), (5, .int (nI i))] → cells1 ≤ cells + 110 → slots1 ≤ slots + 2210 → W p l e (RM hR rc rs) s m args below meth c H locs cells1 slots1 Q (F0 m 2348 ls [])) :
    W p l e (RM hR rc rs) s m args below meth c H locs cells slots Q (F0 m 632 ls []) := by
  obtain ⟨hQ0, hM, hCB0, hfr, hO⟩ := W0
  obtain ⟨σ, hσ⟩ : ∃ σ, σ = sN ρ 0 0 0 := ⟨_, rfl⟩
  have hQ : Qs σ := by rw [hσ]; exact hQ0.z 0
  have h0 : σ.1 0 0 = 0 := by rw [hσ]; rfl
  have hCB : CB G Ac x σ H := by rw [hσ]; exact CB_0 0 hCB0
  obtain ⟨fsB, hfB⟩ := CB_at hCB
  refine lv_aload_n X.ex X.co dL_law_632 rfl (lv_at hl 1 rfl) ?_
  refine lv_aload_n X.ex X.co dL_law_633 rfl (lv_at hl 0 rfl) ?_
  refine lv_iload X.ex X.co dL_law_634 (lv_at hl 5 rfl) ?_
  refine lv_iconst (v := 1) X.ex X.co dL_law_636 (by decide) ?_
  refine n_add X (x := i) (y := 1) dL_law_637 ?_
  refine va_sld X.ex X.co hX hbl hbA hS (i := nI (i + 1)) (vp_in_nI (show i + 1 < L by omega) (by omega)) dL_law_638 ?_
  rw [nI_clamp (show i + 1 < 2 ^ 31 by omega)]
  refine lv_aload_n X.ex X.co dL_law_639 rfl (lv_at hl 3 rfl) ?_
  refine w_cS (n := 3) X m_650 m_0 m_649 ⟨by decide, by decide, by decide +kernel⟩ (by decide) m_648 (c_L_openLessons l hst G Ac AO hAc d1 x σ hQ.1 hQ.2 h0 (xs (i + 1)) lvO oad (enO G f f2) (0, 0) (Or.inl rfl) (oad (0, 0)) rfl f rfl) (g0.step hS hA3) ⟨⟨hCB, hfr⟩, hO⟩ (by omega) rfl hl.1 rfl (Nat.le_of_ble_eq_true rfl) dL_law_640 (by omega) (by omega) hS (fun q h => h.elim Or.inl (fun z => Or.inr (Or.inl z))) (fun v0 H locs hB hz hk9 hS => ?_)
  obtain ⟨rfl, hCB, hle9, f1, hO, hf1⟩ := hB
  have hM := fw.kept hM (fun j hj => hk9 _ (fw.lt hM hj) (fun z => z.elim (fun z => d2 _ z (fw.in hM hj)) (fun z => d3 _ (fw.in hM hj) z)))
  have hO := enO_0 hO
  have hfr : ∀ q, H.size ≤ q → Ac q := fun q hq => hfr q (Nat.le_trans hz hq)
  refine lv_istore (lv' := [(6, .int (nI ((fOpenLessons σ (xs (i + 1))).2.1 0 0))), (0, .ref b), (1, .ref x), (2, .ref (mad (0, 0))), (3, .ref (oad (0, 0))), (4, .ref (oad (0, 1))), (5, .int (nI i))]) X.ex X.co dL_law_643 hl (by decide) rfl (fun ls hl => ?_)
  refine lv_aload_n X.ex X.co dL_law_645 rfl (lv_at hl 3 rfl) ?_
  refine lv_aload_n X.ex X.co dL_law_646 rfl (lv_at hl 1 rfl) ?_
  refine lv_iload X.ex X.co dL_law_647 (lv_at hl 6 rfl) ?_
  refine lv_iconst (v := 1) X.ex X.co dL_law_649 (by decide) ?_
  refine n_add X (x := i) (y := 1) dL_law_650 ?_
  refine va_sld X.ex X.co hX hbl hbA hS (i := nI (i + 1)) (vp_in_nI (show i + 1 < L by omega) (by omega)) dL_law_651 ?_
  rw [nI_clamp (show i + 1 < 2 ^ 31 by omega)]
  refine q_eV X ce_X10_openLessons m_1536 (c_X10_openLessons l G mad Am hAm ρ σ hσ hQ.1 (xs (i + 1))) (g0.step hS hA3) hM (mo hM) rfl (by omega) rfl hl.1 rfl (Nat.le_of_ble_eq_true rfl) dL_law_652 (by omega) (by omega) hS (fun q h => Or.inr (Or.inr h)) (fun H locs hM hz hk9 hS => ?_)
  have hCB := CB.keptS hCB hk9 d2
  have hO := fw.kept hO (fun j hj => hk9 _ (fw.lt hO hj) (fun z => d3 _ z (fw.in hO hj)))
  have hfr : ∀ q, H.size ≤ q → Ac q := fun q hq => hfr q (Nat.le_trans hz hq)
  refine lv_istore (lv' := [(7, .int ((fOpenLessons σ (xs (i + 1))).1)), (6, .int (nI ((fOpenLessons σ (xs (i + 1))).2.1 0 0))), (0, .ref b), (1, .ref x), (2, .ref (mad (0, 0))), (3, .ref (oad (0, 0))), (4, .ref (oad (0, 1))), (5, .int (nI i))]) X.ex X.co dL_law_655 hl (by decide) rfl (fun ls hl => ?_)
  refine lv_aload_n X.ex X.co dL_law_657 rfl (lv_at hl 4 rfl) ?_
  refine q_rV X ce_X10_thrown m_1486 (c_X10_thrown l G mad Am (fOpenLessons σ (xs (i + 1))).2) (g0.step hS hA3) hM (mo hM) rfl (by omega) rfl hl.1 rfl (Nat.le_of_ble_eq_true rfl) dL_law_658 (by omega) (by omega) ?_
  refine lv_iload X.ex X.co dL_law_661 (lv_at hl 1 rfl) ?_
  refine n_cmp_eq X (x := ((fOpenLessons σ (xs (i + 1))).2.1 0 0)) (y := ((fOpenLessons σ (xs (i + 1))).2.1 0 0)) (tgt := 668) (by omega) (by omega) dL_law_663 (by decide) (fun c_1 => ?_) (fun c_1 => ?_)
  · refine lv_iload X.ex X.co dL_law_668 (lv_at hl 1 rfl) ?_
    refine n_if_ne X (x := ((fOpenLessons σ (xs (i + 1))).2.1 0 0)) (tgt := 685) (by omega) dL_law_670 (by decide) (fun c_2 => ?_) (fun c_2 => ?_)
    · refine lv_goto (tgt := 2348) X.ex X.co dL_law_685 (by decide) ?_
      have hQ2 : Qs (fOpenLessons σ (xs (i + 1))).2 := by
        unfold fOpenLessons
        repeat' split
        all_goals first | exact hQ | exact hQ.e _ | exact hQ.z _
      exact kk (fOpenLessons σ (xs (i + 1))).2 f1 f2 H locs ls _ _ ⟨hQ2, hM, hCB, hfr, hO⟩ hS (lv_sub hl [2, 3, 4, 5, 6, 7] rfl) (by omega) (by omega)
    · refine lv_aload_n X.ex X.co dL_law_673 rfl (lv_at hl 5 rfl) ?_
      refine lv_iconst (v := 0) X.ex X.co dL_law_674 (by decide) ?_
      refine f_lald X g0.1 (fw.get hO (i := (0, 0)) (Or.inl rfl) rfl rfl) (x := 0) (show vp_in (nI 0) 1 from vp_in_nI (by omega) (by omega)) dL_law_675 ?_
      rw [show f1 (0 : Int32).toNatClampNeg = (fOpenLessons σ (xs (i + 1))).1.toInt64 from hf1 c_2]
      refine lv_iload X.ex X.co dL_law_676 (lv_at hl 0 rfl) ?_
      refine lv_i2l X.ex X.co dL_law_678 rfl ?_
      refine w_lcmp X dL_law_679 ?_
      refine lv_if_eq (tgt := 685) X.ex X.co dL_law_680 (by decide) (fun c_3 => ?_) (fun c_3 => ?_)
      · refine lv_goto (tgt := 2348) X.ex X.co dL_law_685 (by decide) ?_
        have hQ2 : Qs (fOpenLessons σ (xs (i + 1))).2 := by
          unfold fOpenLessons
          repeat' split
          all_goals first | exact hQ | exact hQ.e _ | exact hQ.z _
        exact kk (fOpenLessons σ (xs (i + 1))).2 f1 f2 H locs ls _ _ ⟨hQ2, hM, hCB, hfr, hO⟩ hS (lv_sub hl [2, 3, 4, 5, 6, 7] rfl) (by omega) (by omega)
      · exact absurd (by decide) c_3
  · exact absurd rfl c_1
set_option maxHeartbeats 4000000 in
set_option maxRecDepth 100000 in
theorem law_7 (hst : l.stackTraces = false) (hAc : ∀ q, Ac q → gA G q) (hAm : ∀ q, Am q → gA G q) (hA3 : ∀ q, (fun q => Ac q ∨ AO q ∨ Am q) q → gA G q) (d1 : ∀ q, Ac q → ¬ AO q) (d2 : ∀ q, Ac q → ¬ Am q) (d3 : ∀ q, Am q → ¬ AO q) (X : CF p s m args meth c cL_law 9 "CourseForgeLaw" (some .boolean)) (g0 : GG G s s.heap) (hX : va_X b L xs s s.heap) (hbl : b < s.heap.size) (hbA : ¬ (fun q => Ac q ∨ AO q ∨ Am q) b) (hR9 : 20 ≤ hR) (hi : i + 5 ≤ L) (hL : L ≤ 2560) (W0 : lawW G Ac Am AO x mad oad ρ f f2 H) (hS : va_S (fun q => Ac q ∨ AO q ∨ Am q) s.heap H locs) (hl : lv_has ls 9 [(0, .ref b), (1, .ref x), (2, .ref (mad (0, 0))), (3, .ref (oad (0, 0))), (4, .ref (oad (0, 1))), (5, .int (nI i))]) (h1 : cells + 110 ≤ rc) (h2 : slots + 2210 ≤ rs)
    (kk : ∀ (ρ : Sg) (f : Nat → Int64) (f2 : Nat → UInt64) (H : Heap) (locs : List Loc) (ls : Array Slot) (cells1 slots1 : Nat), lawW G Ac Am AO x mad oad ρ f f2 H → va_S (fun q => Ac q ∨ AO q ∨ Am q) s.heap H locs → lv_has ls 9 [(0, .ref b), (1, .ref x), (2, .ref (mad (0, 0))), (3, .ref (oad (0, 0))), (4, .ref (oad (0, 1))), (5, .int (nI i))] → cells1 ≤ cells + 110 → slots1 ≤ slots + 2210 → W p l e (RM hR rc rs) s m args below meth c H locs cells1 slots1 Q (F0 m 2348 ls [])) :
    W p l e (RM hR rc rs) s m args below meth c H locs cells slots Q (F0 m 688 ls []) := by
  obtain ⟨hQ0, hM, hCB0, hfr, hO⟩ := W0
  obtain ⟨σ, hσ⟩ : ∃ σ, σ = sN ρ 0 0 0 := ⟨_, rfl⟩
  have hQ : Qs σ := by rw [hσ]; exact hQ0.z 0
  have h0 : σ.1 0 0 = 0 := by rw [hσ]; rfl
  have hCB : CB G Ac x σ H := by rw [hσ]; exact CB_0 0 hCB0
  obtain ⟨fsB, hfB⟩ := CB_at hCB
  refine lv_aload_n X.ex X.co dL_law_688 rfl (lv_at hl 1 rfl) ?_
  refine lv_aload_n X.ex X.co dL_law_689 rfl (lv_at hl 0 rfl) ?_
  refine lv_iload X.ex X.co dL_law_690 (lv_at hl 5 rfl) ?_
  refine lv_iconst (v := 1) X.ex X.co dL_law_692 (by decide) ?_
  refine n_add X (x := i) (y := 1) dL_law_693 ?_
  refine va_sld X.ex X.co hX hbl hbA hS (i := nI (i + 1)) (vp_in_nI (show i + 1 < L by omega) (by omega)) dL_law_694 ?_
  rw [nI_clamp (show i + 1 < 2 ^ 31 by omega)]
  refine lv_aload_n X.ex X.co dL_law_695 rfl (lv_at hl 0 rfl) ?_
  refine lv_iload X.ex X.co dL_law_696 (lv_at hl 5 rfl) ?_
  refine lv_iconst (v := 2) X.ex X.co dL_law_698 (by decide) ?_
  refine n_add X (x := i) (y := 2) dL_law_699 ?_
  refine va_sld X.ex X.co hX hbl hbA hS (i := nI (i + 2)) (vp_in_nI (show i + 2 < L by omega) (by omega)) dL_law_700 ?_
  rw [nI_clamp (show i + 2 < 2 ^ 31 by omega)]
  refine lv_aload_n X.ex X.co dL_law_701 rfl (lv_at hl 3 rfl) ?_
  refine w_cS (n := 4) X m_673 m_0 m_672 ⟨by decide, by decide, by decide +kernel⟩ (by decide) m_671 (c_L_reason l hst G Ac AO hAc d1 x σ hQ.1 hQ.2 h0 (xs (i + 1)) (xs (i + 2)) lvO oad (enO G f f2) (0, 0) (Or.inl rfl) (oad (0, 0)) rfl f rfl) (g0.step hS hA3) ⟨⟨hCB, hfr⟩, hO⟩ (by omega) rfl hl.1 rfl (Nat.le_of_ble_eq_true rfl) dL_law_702 (by omega) (by omega) hS (fun q h => h.elim Or.inl (fun z => Or.inr (Or.inl z))) (fun v0 H locs hB hz hk9 hS => ?_)
  obtain ⟨rfl, hCB, hle9, f1, hO, hf1⟩ := hB
  have hM := fw.kept hM (fun j hj => hk9 _ (fw.lt hM hj) (fun z => z.elim (fun z => d2 _ z (fw.in hM hj)) (fun z => d3 _ (fw.in hM hj) z)))
  have hO := enO_0 hO
  have hfr : ∀ q, H.size ≤ q → Ac q := fun q hq => hfr q (Nat.le_trans hz hq)
  refine lv_istore (lv' := [(6, .int (nI ((fReason σ (xs (i + 1)) (xs (i + 2))).2.1 0 0))), (0, .ref b), (1, .ref x), (2, .ref (mad (0, 0))), (3, .ref (oad (0, 0))), (4, .ref (oad (0, 1))), (5, .int (nI i))]) X.ex X.co dL_law_705 hl (by decide) rfl (fun ls hl => ?_)
  refine lv_aload_n X.ex X.co dL_law_707 rfl (lv_at hl 3 rfl) ?_
  refine lv_aload_n X.ex X.co dL_law_708 rfl (lv_at hl 1 rfl) ?_
  refine lv_iload X.ex X.co dL_law_709 (lv_at hl 6 rfl) ?_
  refine lv_iconst (v := 1) X.ex X.co dL_law_711 (by decide) ?_
  refine n_add X (x := i) (y := 1) dL_law_712 ?_
  refine va_sld X.ex X.co hX hbl hbA hS (i := nI (i + 1)) (vp_in_nI (show i + 1 < L by omega) (by omega)) dL_law_713 ?_
  rw [nI_clamp (show i + 1 < 2 ^ 31 by omega)]
  refine lv_aload_n X.ex X.co dL_law_714 rfl (lv_at hl 1 rfl) ?_
  refine lv_iload X.ex X.co dL_law_715 (lv_at hl 6 rfl) ?_
  refine lv_iconst (v := 2) X.ex X.co dL_law_717 (by decide) ?_
  refine n_add X (x := i) (y := 2) dL_law_718 ?_
  refine va_sld X.ex X.co hX hbl hbA hS (i := nI (i + 2)) (vp_in_nI (show i + 2 < L by omega) (by omega)) dL_law_719 ?_
  rw [nI_clamp (show i + 2 < 2 ^ 31 by omega)]
  refine q_eV X ce_X10_reason m_1572 (c_X10_reason l G mad Am hAm ρ σ hσ hQ.1 (xs (i + 1)) (xs (i + 2))) (g0.step hS hA3) hM (mo hM) rfl (by omega) rfl hl.1 rfl (Nat.le_of_ble_eq_true rfl) dL_law_720 (by omega) (by omega) hS (fun q h => Or.inr (Or.inr h)) (fun H locs hM hz hk9 hS => ?_)
  have hCB := CB.keptS hCB hk9 d2
  have hO := fw.kept hO (fun j hj => hk9 _ (fw.lt hO hj) (fun z => d3 _ z (fw.in hO hj)))
  have hfr : ∀ q, H.size ≤ q → Ac q := fun q hq => hfr q (Nat.le_trans hz hq)
  refine lv_istore (lv' := [(7, .int ((fReason σ (xs (i + 1)) (xs (i + 2))).1)), (6, .int (nI ((fReason σ (xs (i + 1)) (xs (i + 2))).2.1 0 0))), (0, .ref b), (1, .ref x), (2, .ref (mad (0, 0))), (3, .ref (oad (0, 0))), (4, .ref (oad (0, 1))), (5, .int (nI i))]) X.ex X.co dL_law_723 hl (by decide) rfl (fun ls hl => ?_)
  refine lv_aload_n X.ex X.co dL_law_725 rfl (lv_at hl 4 rfl) ?_
  refine q_rV X ce_X10_thrown m_1486 (c_X10_thrown l G mad Am (fReason σ (xs (i + 1)) (xs (i + 2))).2) (g0.step hS hA3) hM (mo hM) rfl (by omega) rfl hl.1 rfl (Nat.le_of_ble_eq_true rfl) dL_law_726 (by omega) (by omega) ?_
  refine lv_iload X.ex X.co dL_law_729 (lv_at hl 1 rfl) ?_
  refine n_cmp_eq X (x := ((fReason σ (xs (i + 1)) (xs (i + 2))).2.1 0 0)) (y := ((fReason σ (xs (i + 1)) (xs (i + 2))).2.1 0 0)) (tgt := 736) (by omega) (by omega) dL_law_731 (by decide) (fun c_1 => ?_) (fun c_1 => ?_)
  · refine lv_iload X.ex X.co dL_law_736 (lv_at hl 1 rfl) ?_
    refine n_if_ne X (x := ((fReason σ (xs (i + 1)) (xs (i + 2))).2.1 0 0)) (tgt := 753) (by omega) dL_law_738 (by decide) (fun c_2 => ?_) (fun c_2 => ?_)
    · refine lv_goto (tgt := 2348) X.ex X.co dL_law_753 (by decide) ?_
      have hQ2 : Qs (fReason σ (xs (i + 1)) (xs (i + 2))).2 := by
        unfold fReason
        repeat' split
        all_goals first | exact hQ | exact hQ.e _ | exact hQ.z _
      exact kk (fReason σ (xs (i + 1)) (xs (i + 2))).2 f1 f2 H locs ls _ _ ⟨hQ2, hM, hCB, hfr, hO⟩ hS (lv_sub hl [2, 3, 4, 5, 6, 7] rfl) (by omega) (by omega)
    · refine lv_aload_n X.ex X.co dL_law_741 rfl (lv_at hl 5 rfl) ?_
      refine lv_iconst (v := 0) X.ex X.co dL_law_742 (by decide) ?_
      refine f_lald X g0.1 (fw.get hO (i := (0, 0)) (Or.inl rfl) rfl rfl) (x := 0) (show vp_in (nI 0) 1 from vp_in_nI (by omega) (by omega)) dL_law_743 ?_
      rw [show f1 (0 : Int32).toNatClampNeg = (fReason σ (xs (i + 1)) (xs (i + 2))).1.toInt64 from hf1 c_2]
      refine lv_iload X.ex X.co dL_law_744 (lv_at hl 0 rfl) ?_
      refine lv_i2l X.ex X.co dL_law_746 rfl ?_
      refine w_lcmp X dL_law_747 ?_
      refine lv_if_eq (tgt := 753) X.ex X.co dL_law_748 (by decide) (fun c_3 => ?_) (fun c_3 => ?_)
      · refine lv_goto (tgt := 2348) X.ex X.co dL_law_753 (by decide) ?_
        have hQ2 : Qs (fReason σ (xs (i + 1)) (xs (i + 2))).2 := by
          unfold fReason
          repeat' split
          all_goals first | exact hQ | exact hQ.e _ | exact hQ.z _
        exact kk (fReason σ (xs (i + 1)) (xs (i + 2))).2 f1 f2 H locs ls _ _ ⟨hQ2, hM, hCB, hfr, hO⟩ hS (lv_sub hl [2, 3, 4, 5, 6, 7] rfl) (by omega) (by omega)
      · exact absurd (by decide) c_3
  · exact absurd rfl c_1
set_option maxHeartbeats 4000000 in
set_option maxRecDepth 100000 in
theorem law_8 (hst : l.stackTraces = false) (hAc : ∀ q, Ac q → gA G q) (hAm : ∀ q, Am q → gA G q) (hA3 : ∀ q, (fun q => Ac q ∨ AO q ∨ Am q) q → gA G q) (d1 : ∀ q, Ac q → ¬ AO q) (d2 : ∀ q, Ac q → ¬ Am q) (d3 : ∀ q, Am q → ¬ AO q) (X : CF p s m args meth c cL_law 9 "CourseForgeLaw" (some .boolean)) (g0 : GG G s s.heap) (hX : va_X b L xs s s.heap) (hbl : b < s.heap.size) (hbA : ¬ (fun q => Ac q ∨ AO q ∨ Am q) b) (hR9 : 20 ≤ hR) (hi : i + 5 ≤ L) (hL : L ≤ 2560) (W0 : lawW G Ac Am AO x mad oad ρ f f2 H) (hS : va_S (fun q => Ac q ∨ AO q ∨ Am q) s.heap H locs) (hl : lv_has ls 9 [(0, .ref b), (1, .ref x), (2, .ref (mad (0, 0))), (3, .ref (oad (0, 0))), (4, .ref (oad (0, 1))), (5, .int (nI i))]) (h1 : cells + 110 ≤ rc) (h2 : slots + 2210 ≤ rs)
    (kk : ∀ (ρ : Sg) (f : Nat → Int64) (f2 : Nat → UInt64) (H : Heap) (locs : List Loc) (ls : Array Slot) (cells1 slots1 : Nat), lawW G Ac Am AO x mad oad ρ f f2 H → va_S (fun q => Ac q ∨ AO q ∨ Am q) s.heap H locs → lv_has ls 9 [(0, .ref b), (1, .ref x), (2, .ref (mad (0, 0))), (3, .ref (oad (0, 0))), (4, .ref (oad (0, 1))), (5, .int (nI i))] → cells1 ≤ cells + 110 → slots1 ≤ slots + 2210 → W p l e (RM hR rc rs) s m args below meth c H locs cells1 slots1 Q (F0 m 2348 ls [])) :
    W p l e (RM hR rc rs) s m args below meth c H locs cells slots Q (F0 m 756 ls []) := by
  obtain ⟨hQ0, hM, hCB0, hfr, hO⟩ := W0
  obtain ⟨σ, hσ⟩ : ∃ σ, σ = sN ρ 0 0 0 := ⟨_, rfl⟩
  have hQ : Qs σ := by rw [hσ]; exact hQ0.z 0
  have h0 : σ.1 0 0 = 0 := by rw [hσ]; rfl
  have hCB : CB G Ac x σ H := by rw [hσ]; exact CB_0 0 hCB0
  obtain ⟨fsB, hfB⟩ := CB_at hCB
  refine lv_aload_n X.ex X.co dL_law_756 rfl (lv_at hl 1 rfl) ?_
  refine lv_aload_n X.ex X.co dL_law_757 rfl (lv_at hl 0 rfl) ?_
  refine lv_iload X.ex X.co dL_law_758 (lv_at hl 5 rfl) ?_
  refine lv_iconst (v := 1) X.ex X.co dL_law_760 (by decide) ?_
  refine n_add X (x := i) (y := 1) dL_law_761 ?_
  refine va_sld X.ex X.co hX hbl hbA hS (i := nI (i + 1)) (vp_in_nI (show i + 1 < L by omega) (by omega)) dL_law_762 ?_
  rw [nI_clamp (show i + 1 < 2 ^ 31 by omega)]
  refine lv_aload_n X.ex X.co dL_law_763 rfl (lv_at hl 0 rfl) ?_
  refine lv_iload X.ex X.co dL_law_764 (lv_at hl 5 rfl) ?_
  refine lv_iconst (v := 2) X.ex X.co dL_law_766 (by decide) ?_
  refine n_add X (x := i) (y := 2) dL_law_767 ?_
  refine va_sld X.ex X.co hX hbl hbA hS (i := nI (i + 2)) (vp_in_nI (show i + 2 < L by omega) (by omega)) dL_law_768 ?_
  rw [nI_clamp (show i + 2 < 2 ^ 31 by omega)]
  refine lv_aload_n X.ex X.co dL_law_769 rfl (lv_at hl 0 rfl) ?_
  refine lv_iload X.ex X.co dL_law_770 (lv_at hl 5 rfl) ?_
  refine lv_iconst (v := 3) X.ex X.co dL_law_772 (by decide) ?_
  refine n_add X (x := i) (y := 3) dL_law_773 ?_
  refine va_sld X.ex X.co hX hbl hbA hS (i := nI (i + 3)) (vp_in_nI (show i + 3 < L by omega) (by omega)) dL_law_774 ?_
  rw [nI_clamp (show i + 3 < 2 ^ 31 by omega)]
  refine lv_aload_n X.ex X.co dL_law_775 rfl (lv_at hl 0 rfl) ?_
  refine lv_iload X.ex X.co dL_law_776 (lv_at hl 5 rfl) ?_
  refine lv_iconst (v := 4) X.ex X.co dL_law_778 (by decide) ?_
  refine n_add X (x := i) (y := 4) dL_law_779 ?_
  refine va_sld X.ex X.co hX hbl hbA hS (i := nI (i + 4)) (vp_in_nI (show i + 4 < L by omega) (by omega)) dL_law_780 ?_
  rw [nI_clamp (show i + 4 < 2 ^ 31 by omega)]
  refine lv_aload_n X.ex X.co dL_law_781 rfl (lv_at hl 3 rfl) ?_
  refine w_cS (n := 6) X m_684 m_0 m_683 ⟨by decide, by decide, by decide +kernel⟩ (by decide) m_682 (c_L_answer l hst G Ac AO hAc d1 x σ hQ.1 hQ.2 h0 (xs (i + 1)) (xs (i + 2)) (xs (i + 3)) (xs (i + 4)) lvO oad (enO G f f2) (0, 0) (Or.inl rfl) (oad (0, 0)) rfl f rfl) (g0.step hS hA3) ⟨⟨hCB, hfr⟩, hO⟩ (by omega) rfl hl.1 rfl (Nat.le_of_ble_eq_true rfl) dL_law_782 (by omega) (by omega) hS (fun q h => h.elim Or.inl (fun z => Or.inr (Or.inl z))) (fun v0 H locs hB hz hk9 hS => ?_)
  obtain ⟨rfl, hCB, hle9, f1, hO, hf1⟩ := hB
  have hM := fw.kept hM (fun j hj => hk9 _ (fw.lt hM hj) (fun z => z.elim (fun z => d2 _ z (fw.in hM hj)) (fun z => d3 _ (fw.in hM hj) z)))
  have hO := enO_0 hO
  have hfr : ∀ q, H.size ≤ q → Ac q := fun q hq => hfr q (Nat.le_trans hz hq)
  refine lv_istore (lv' := [(6, .int (nI ((fAnswer σ (xs (i + 1)) (xs (i + 2)) (xs (i + 3)) (xs (i + 4))).2.1 0 0))), (0, .ref b), (1, .ref x), (2, .ref (mad (0, 0))), (3, .ref (oad (0, 0))), (4, .ref (oad (0, 1))), (5, .int (nI i))]) X.ex X.co dL_law_785 hl (by decide) rfl (fun ls hl => ?_)
  refine lv_aload_n X.ex X.co dL_law_787 rfl (lv_at hl 3 rfl) ?_
  refine lv_aload_n X.ex X.co dL_law_788 rfl (lv_at hl 1 rfl) ?_
  refine lv_iload X.ex X.co dL_law_789 (lv_at hl 6 rfl) ?_
  refine lv_iconst (v := 1) X.ex X.co dL_law_791 (by decide) ?_
  refine n_add X (x := i) (y := 1) dL_law_792 ?_
  refine va_sld X.ex X.co hX hbl hbA hS (i := nI (i + 1)) (vp_in_nI (show i + 1 < L by omega) (by omega)) dL_law_793 ?_
  rw [nI_clamp (show i + 1 < 2 ^ 31 by omega)]
  refine lv_aload_n X.ex X.co dL_law_794 rfl (lv_at hl 1 rfl) ?_
  refine lv_iload X.ex X.co dL_law_795 (lv_at hl 6 rfl) ?_
  refine lv_iconst (v := 2) X.ex X.co dL_law_797 (by decide) ?_
  refine n_add X (x := i) (y := 2) dL_law_798 ?_
  refine va_sld X.ex X.co hX hbl hbA hS (i := nI (i + 2)) (vp_in_nI (show i + 2 < L by omega) (by omega)) dL_law_799 ?_
  rw [nI_clamp (show i + 2 < 2 ^ 31 by omega)]
  refine lv_aload_n X.ex X.co dL_law_800 rfl (lv_at hl 1 rfl) ?_
  refine lv_iload X.ex X.co dL_law_801 (lv_at hl 6 rfl) ?_
  refine lv_iconst (v := 3) X.ex X.co dL_law_803 (by decide) ?_
  refine n_add X (x := i) (y := 3) dL_law_804 ?_
  refine va_sld X.ex X.co hX hbl hbA hS (i := nI (i + 3)) (vp_in_nI (show i + 3 < L by omega) (by omega)) dL_law_805 ?_
  rw [nI_clamp (show i + 3 < 2 ^ 31 by omega)]
  refine lv_aload_n X.ex X.co dL_law_806 rfl (lv_at hl 1 rfl) ?_
  refine lv_iload X.ex X.co dL_law_807 (lv_at hl 6 rfl) ?_
  refine lv_iconst (v := 4) X.ex X.co dL_law_809 (by decide) ?_
  refine n_add X (x := i) (y := 4) dL_law_810 ?_
  refine va_sld X.ex X.co hX hbl hbA hS (i := nI (i + 4)) (vp_in_nI (show i + 4 < L by omega) (by omega)) dL_law_811 ?_
  rw [nI_clamp (show i + 4 < 2 ^ 31 by omega)]
  refine q_eV X ce_X10_answer m_1580 (c_X10_answer l G mad Am hAm ρ σ hσ hQ.1 (xs (i + 1)) (xs (i + 2)) (xs (i + 3)) (xs (i + 4))) (g0.step hS hA3) hM (mo hM) rfl (by omega) rfl hl.1 rfl (Nat.le_of_ble_eq_true rfl) dL_law_812 (by omega) (by omega) hS (fun q h => Or.inr (Or.inr h)) (fun H locs hM hz hk9 hS => ?_)
  have hCB := CB.keptS hCB hk9 d2
  have hO := fw.kept hO (fun j hj => hk9 _ (fw.lt hO hj) (fun z => d3 _ z (fw.in hO hj)))
  have hfr : ∀ q, H.size ≤ q → Ac q := fun q hq => hfr q (Nat.le_trans hz hq)
  refine lv_istore (lv' := [(7, .int ((fAnswer σ (xs (i + 1)) (xs (i + 2)) (xs (i + 3)) (xs (i + 4))).1)), (6, .int (nI ((fAnswer σ (xs (i + 1)) (xs (i + 2)) (xs (i + 3)) (xs (i + 4))).2.1 0 0))), (0, .ref b), (1, .ref x), (2, .ref (mad (0, 0))), (3, .ref (oad (0, 0))), (4, .ref (oad (0, 1))), (5, .int (nI i))]) X.ex X.co dL_law_815 hl (by decide) rfl (fun ls hl => ?_)
  refine lv_aload_n X.ex X.co dL_law_817 rfl (lv_at hl 4 rfl) ?_
  refine q_rV X ce_X10_thrown m_1486 (c_X10_thrown l G mad Am (fAnswer σ (xs (i + 1)) (xs (i + 2)) (xs (i + 3)) (xs (i + 4))).2) (g0.step hS hA3) hM (mo hM) rfl (by omega) rfl hl.1 rfl (Nat.le_of_ble_eq_true rfl) dL_law_818 (by omega) (by omega) ?_
  refine lv_iload X.ex X.co dL_law_821 (lv_at hl 1 rfl) ?_
  refine n_cmp_eq X (x := ((fAnswer σ (xs (i + 1)) (xs (i + 2)) (xs (i + 3)) (xs (i + 4))).2.1 0 0)) (y := ((fAnswer σ (xs (i + 1)) (xs (i + 2)) (xs (i + 3)) (xs (i + 4))).2.1 0 0)) (tgt := 828) (by omega) (by omega) dL_law_823 (by decide) (fun c_1 => ?_) (fun c_1 => ?_)
  · refine lv_iload X.ex X.co dL_law_828 (lv_at hl 1 rfl) ?_
    refine n_if_ne X (x := ((fAnswer σ (xs (i + 1)) (xs (i + 2)) (xs (i + 3)) (xs (i + 4))).2.1 0 0)) (tgt := 845) (by omega) dL_law_830 (by decide) (fun c_2 => ?_) (fun c_2 => ?_)
    · refine lv_goto (tgt := 2348) X.ex X.co dL_law_845 (by decide) ?_
      have hQ2 : Qs (fAnswer σ (xs (i + 1)) (xs (i + 2)) (xs (i + 3)) (xs (i + 4))).2 := pr_answer hQ  (xs (i + 1)) (xs (i + 2)) (xs (i + 3)) (xs (i + 4))
      exact kk (fAnswer σ (xs (i + 1)) (xs (i + 2)) (xs (i + 3)) (xs (i + 4))).2 f1 f2 H locs ls _ _ ⟨hQ2, hM, hCB, hfr, hO⟩ hS (lv_sub hl [2, 3, 4, 5, 6, 7] rfl) (by omega) (by omega)
    · refine lv_aload_n X.ex X.co dL_law_833 rfl (lv_at hl 5 rfl) ?_
      refine lv_iconst (v := 0) X.ex X.co dL_law_834 (by decide) ?_
      refine f_lald X g0.1 (fw.get hO (i := (0, 0)) (Or.inl rfl) rfl rfl) (x := 0) (show vp_in (nI 0) 1 from vp_in_nI (by omega) (by omega)) dL_law_835 ?_
      rw [show f1 (0 : Int32).toNatClampNeg = (fAnswer σ (xs (i + 1)) (xs (i + 2)) (xs (i + 3)) (xs (i + 4))).1.toInt64 from hf1 c_2]
      refine lv_iload X.ex X.co dL_law_836 (lv_at hl 0 rfl) ?_
      refine lv_i2l X.ex X.co dL_law_838 rfl ?_
      refine w_lcmp X dL_law_839 ?_
      refine lv_if_eq (tgt := 845) X.ex X.co dL_law_840 (by decide) (fun c_3 => ?_) (fun c_3 => ?_)
      · refine lv_goto (tgt := 2348) X.ex X.co dL_law_845 (by decide) ?_
        have hQ2 : Qs (fAnswer σ (xs (i + 1)) (xs (i + 2)) (xs (i + 3)) (xs (i + 4))).2 := pr_answer hQ  (xs (i + 1)) (xs (i + 2)) (xs (i + 3)) (xs (i + 4))
        exact kk (fAnswer σ (xs (i + 1)) (xs (i + 2)) (xs (i + 3)) (xs (i + 4))).2 f1 f2 H locs ls _ _ ⟨hQ2, hM, hCB, hfr, hO⟩ hS (lv_sub hl [2, 3, 4, 5, 6, 7] rfl) (by omega) (by omega)
      · exact absurd (by decide) c_3
  · exact absurd rfl c_1
set_option maxHeartbeats 4000000 in
set_option maxRecDepth 100000 in
theorem law_9 (hst : l.stackTraces = false) (hAc : ∀ q, Ac q → gA G q) (hAm : ∀ q, Am q → gA G q) (hA3 : ∀ q, (fun q => Ac q ∨ AO q ∨ Am q) q → gA G q) (d1 : ∀ q, Ac q → ¬ AO q) (d2 : ∀ q, Ac q → ¬ Am q) (d3 : ∀ q, Am q → ¬ AO q) (X : CF p s m args meth c cL_law 9 "CourseForgeLaw" (some .boolean)) (g0 : GG G s s.heap) (hX : va_X b L xs s s.heap) (hbl : b < s.heap.size) (hbA : ¬ (fun q => Ac q ∨ AO q ∨ Am q) b) (hR9 : 20 ≤ hR) (hi : i + 5 ≤ L) (hL : L ≤ 2560) (W0 : lawW G Ac Am AO x mad oad ρ f f2 H) (hS : va_S (fun q => Ac q ∨ AO q ∨ Am q) s.heap H locs) (hl : lv_has ls 9 [(0, .ref b), (1, .ref x), (2, .ref (mad (0, 0))), (3, .ref (oad (0, 0))), (4, .ref (oad (0, 1))), (5, .int (nI i))]) (h1 : cells + 110 ≤ rc) (h2 : slots + 2210 ≤ rs)
    (kk : ∀ (ρ : Sg) (f : Nat → Int64) (f2 : Nat → UInt64) (H : Heap) (locs : List Loc) (ls : Array Slot) (cells1 slots1 : Nat), lawW G Ac Am AO x mad oad ρ f f2 H → va_S (fun q => Ac q ∨ AO q ∨ Am q) s.heap H locs → lv_has ls 9 [(0, .ref b), (1, .ref x), (2, .ref (mad (0, 0))), (3, .ref (oad (0, 0))), (4, .ref (oad (0, 1))), (5, .int (nI i))] → cells1 ≤ cells + 110 → slots1 ≤ slots + 2210 → W p l e (RM hR rc rs) s m args below meth c H locs cells1 slots1 Q (F0 m 2348 ls [])) :
    W p l e (RM hR rc rs) s m args below meth c H locs cells slots Q (F0 m 848 ls []) := by
  obtain ⟨hQ0, hM, hCB0, hfr, hO⟩ := W0
  obtain ⟨σ, hσ⟩ : ∃ σ, σ = sN ρ 0 0 0 := ⟨_, rfl⟩
  have hQ : Qs σ := by rw [hσ]; exact hQ0.z 0
  have h0 : σ.1 0 0 = 0 := by rw [hσ]; rfl
  have hCB : CB G Ac x σ H := by rw [hσ]; exact CB_0 0 hCB0
  obtain ⟨fsB, hfB⟩ := CB_at hCB
  refine lv_aload_n X.ex X.co dL_law_848 rfl (lv_at hl 1 rfl) ?_
  refine q_cV X ce_X9_answerCount m_140 (c_X9_answerCount l G Ac hAc x σ hQ.1 hQ.2 h0) (g0.step hS hA3) ⟨hCB, hfr⟩ hfB rfl (by omega) rfl hl.1 rfl (Nat.le_of_ble_eq_true rfl) dL_law_849 (by omega) (by omega) hS (fun q h => Or.inl h) (fun v0 H locs hB hz hk9 hS => ?_)
  obtain ⟨rfl, hk0, hCB⟩ := hB
  have hM := fw.kept hM (fun j hj => hk9 _ (fw.lt hM hj) (fun z => d2 _ z (fw.in hM hj)))
  have hO := fw.kept hO (fun j hj => hk9 _ (fw.lt hO hj) (fun z => d1 _ z (fw.in hO hj)))
  have hfr : ∀ q, H.size ≤ q → Ac q := fun q hq => hfr q (Nat.le_trans hz hq)
  refine lv_aload_n X.ex X.co dL_law_852 rfl (lv_at hl 2 rfl) ?_
  refine q_eV X ce_X10_answerCount m_1584 (c_X10_answerCount l G mad Am hAm ρ σ hσ hQ.1) (g0.step hS hA3) hM (mo hM) rfl (by omega) rfl hl.1 rfl (Nat.le_of_ble_eq_true rfl) dL_law_853 (by omega) (by omega) hS (fun q h => Or.inr (Or.inr h)) (fun H locs hM hz hk9 hS => ?_)
  have hCB := CB.keptS hCB hk9 d2
  have hO := fw.kept hO (fun j hj => hk9 _ (fw.lt hO hj) (fun z => d3 _ z (fw.in hO hj)))
  have hfr : ∀ q, H.size ≤ q → Ac q := fun q hq => hfr q (Nat.le_trans hz hq)
  refine lv_icmp_eq (tgt := 2348) X.ex X.co dL_law_856 (by decide) (fun c_1 => ?_) (fun c_1 => ?_)
  · have hQ2 : Qs (fAnswerCount σ).2 := by
      unfold fAnswerCount
      repeat' split
      all_goals first | exact hQ | exact hQ.e _ | exact hQ.z _
    exact kk (fAnswerCount σ).2 f f2 H locs ls _ _ ⟨hQ2, hM, hCB, hfr, hO⟩ hS (lv_sub hl [0, 1, 2, 3, 4, 5] rfl) (by omega) (by omega)
  · exact absurd rfl c_1
set_option maxHeartbeats 4000000 in
set_option maxRecDepth 100000 in
theorem law_10 (hst : l.stackTraces = false) (hAc : ∀ q, Ac q → gA G q) (hAm : ∀ q, Am q → gA G q) (hA3 : ∀ q, (fun q => Ac q ∨ AO q ∨ Am q) q → gA G q) (d1 : ∀ q, Ac q → ¬ AO q) (d2 : ∀ q, Ac q → ¬ Am q) (d3 : ∀ q, Am q → ¬ AO q) (X : CF p s m args meth c cL_law 9 "CourseForgeLaw" (some .boolean)) (g0 : GG G s s.heap) (hX : va_X b L xs s s.heap) (hbl : b < s.heap.size) (hbA : ¬ (fun q => Ac q ∨ AO q ∨ Am q) b) (hR9 : 20 ≤ hR) (hi : i + 5 ≤ L) (hL : L ≤ 2560) (W0 : lawW G Ac Am AO x mad oad ρ f f2 H) (hS : va_S (fun q => Ac q ∨ AO q ∨ Am q) s.heap H locs) (hl : lv_has ls 9 [(0, .ref b), (1, .ref x), (2, .ref (mad (0, 0))), (3, .ref (oad (0, 0))), (4, .ref (oad (0, 1))), (5, .int (nI i))]) (h1 : cells + 110 ≤ rc) (h2 : slots + 2210 ≤ rs)
    (kk : ∀ (ρ : Sg) (f : Nat → Int64) (f2 : Nat → UInt64) (H : Heap) (locs : List Loc) (ls : Array Slot) (cells1 slots1 : Nat), lawW G Ac Am AO x mad oad ρ f f2 H → va_S (fun q => Ac q ∨ AO q ∨ Am q) s.heap H locs → lv_has ls 9 [(0, .ref b), (1, .ref x), (2, .ref (mad (0, 0))), (3, .ref (oad (0, 0))), (4, .ref (oad (0, 1))), (5, .int (nI i))] → cells1 ≤ cells + 110 → slots1 ≤ slots + 2210 → W p l e (RM hR rc rs) s m args below meth c H locs cells1 slots1 Q (F0 m 2348 ls [])) :
    W p l e (RM hR rc rs) s m args below meth c H locs cells slots Q (F0 m 861 ls []) := by
  obtain ⟨hQ0, hM, hCB0, hfr, hO⟩ := W0
  obtain ⟨σ, hσ⟩ : ∃ σ, σ = sN ρ 0 0 0 := ⟨_, rfl⟩
  have hQ : Qs σ := by rw [hσ]; exact hQ0.z 0
  have h0 : σ.1 0 0 = 0 := by rw [hσ]; rfl
  have hCB : CB G Ac x σ H := by rw [hσ]; exact CB_0 0 hCB0
  obtain ⟨fsB, hfB⟩ := CB_at hCB
  refine lv_aload_n X.ex X.co dL_law_861 rfl (lv_at hl 1 rfl) ?_
  refine lv_aload_n X.ex X.co dL_law_862 rfl (lv_at hl 0 rfl) ?_
  refine lv_iload X.ex X.co dL_law_863 (lv_at hl 5 rfl) ?_
  refine lv_iconst (v := 1) X.ex X.co dL_law_865 (by decide) ?_
  refine n_add X (x := i) (y := 1) dL_law_866 ?_
  refine va_sld X.ex X.co hX hbl hbA hS (i := nI (i + 1)) (vp_in_nI (show i + 1 < L by omega) (by omega)) dL_law_867 ?_
  rw [nI_clamp (show i + 1 < 2 ^ 31 by omega)]
  refine lv_aload_n X.ex X.co dL_law_868 rfl (lv_at hl 3 rfl) ?_
  refine w_cS (n := 3) X m_759 m_0 m_758 ⟨by decide, by decide, by decide +kernel⟩ (by decide) m_757 (c_L_gradeOf l hst G Ac AO hAc d1 x σ hQ.1 hQ.2 h0 (xs (i + 1)) lvO oad (enO G f f2) (0, 0) (Or.inl rfl) (oad (0, 0)) rfl f rfl) (g0.step hS hA3) ⟨⟨hCB, hfr⟩, hO⟩ (by omega) rfl hl.1 rfl (Nat.le_of_ble_eq_true rfl) dL_law_869 (by omega) (by omega) hS (fun q h => h.elim Or.inl (fun z => Or.inr (Or.inl z))) (fun v0 H locs hB hz hk9 hS => ?_)
  obtain ⟨rfl, hCB, hle9, f1, hO, hf1⟩ := hB
  have hM := fw.kept hM (fun j hj => hk9 _ (fw.lt hM hj) (fun z => z.elim (fun z => d2 _ z (fw.in hM hj)) (fun z => d3 _ (fw.in hM hj) z)))
  have hO := enO_0 hO
  have hfr : ∀ q, H.size ≤ q → Ac q := fun q hq => hfr q (Nat.le_trans hz hq)
  refine lv_istore (lv' := [(6, .int (nI ((fGradeOf σ (xs (i + 1))).2.1 0 0))), (0, .ref b), (1, .ref x), (2, .ref (mad (0, 0))), (3, .ref (oad (0, 0))), (4, .ref (oad (0, 1))), (5, .int (nI i))]) X.ex X.co dL_law_872 hl (by decide) rfl (fun ls hl => ?_)
  refine lv_aload_n X.ex X.co dL_law_874 rfl (lv_at hl 3 rfl) ?_
  refine lv_aload_n X.ex X.co dL_law_875 rfl (lv_at hl 1 rfl) ?_
  refine lv_iload X.ex X.co dL_law_876 (lv_at hl 6 rfl) ?_
  refine lv_iconst (v := 1) X.ex X.co dL_law_878 (by decide) ?_
  refine n_add X (x := i) (y := 1) dL_law_879 ?_
  refine va_sld X.ex X.co hX hbl hbA hS (i := nI (i + 1)) (vp_in_nI (show i + 1 < L by omega) (by omega)) dL_law_880 ?_
  rw [nI_clamp (show i + 1 < 2 ^ 31 by omega)]
  refine q_eV X ce_X10_gradeOf m_1588 (c_X10_gradeOf l G mad Am hAm ρ σ hσ hQ.1 (xs (i + 1))) (g0.step hS hA3) hM (mo hM) rfl (by omega) rfl hl.1 rfl (Nat.le_of_ble_eq_true rfl) dL_law_881 (by omega) (by omega) hS (fun q h => Or.inr (Or.inr h)) (fun H locs hM hz hk9 hS => ?_)
  have hCB := CB.keptS hCB hk9 d2
  have hO := fw.kept hO (fun j hj => hk9 _ (fw.lt hO hj) (fun z => d3 _ z (fw.in hO hj)))
  have hfr : ∀ q, H.size ≤ q → Ac q := fun q hq => hfr q (Nat.le_trans hz hq)
  refine lv_istore (lv' := [(7, .int ((fGradeOf σ (xs (i + 1))).1)), (6, .int (nI ((fGradeOf σ (xs (i + 1))).2.1 0 0))), (0, .ref b), (1, .ref x), (2, .ref (mad (0, 0))), (3, .ref (oad (0, 0))), (4, .ref (oad (0, 1))), (5, .int (nI i))]) X.ex X.co dL_law_884 hl (by decide) rfl (fun ls hl => ?_)
  refine lv_aload_n X.ex X.co dL_law_886 rfl (lv_at hl 4 rfl) ?_
  refine q_rV X ce_X10_thrown m_1486 (c_X10_thrown l G mad Am (fGradeOf σ (xs (i + 1))).2) (g0.step hS hA3) hM (mo hM) rfl (by omega) rfl hl.1 rfl (Nat.le_of_ble_eq_true rfl) dL_law_887 (by omega) (by omega) ?_
  refine lv_iload X.ex X.co dL_law_890 (lv_at hl 1 rfl) ?_
  refine n_cmp_eq X (x := ((fGradeOf σ (xs (i + 1))).2.1 0 0)) (y := ((fGradeOf σ (xs (i + 1))).2.1 0 0)) (tgt := 897) (by omega) (by omega) dL_law_892 (by decide) (fun c_1 => ?_) (fun c_1 => ?_)
  · refine lv_iload X.ex X.co dL_law_897 (lv_at hl 1 rfl) ?_
    refine n_if_ne X (x := ((fGradeOf σ (xs (i + 1))).2.1 0 0)) (tgt := 914) (by omega) dL_law_899 (by decide) (fun c_2 => ?_) (fun c_2 => ?_)
    · refine lv_goto (tgt := 2348) X.ex X.co dL_law_914 (by decide) ?_
      have hQ2 : Qs (fGradeOf σ (xs (i + 1))).2 := by
        unfold fGradeOf
        repeat' split
        all_goals first | exact hQ | exact hQ.e _ | exact hQ.z _
      exact kk (fGradeOf σ (xs (i + 1))).2 f1 f2 H locs ls _ _ ⟨hQ2, hM, hCB, hfr, hO⟩ hS (lv_sub hl [2, 3, 4, 5, 6, 7] rfl) (by omega) (by omega)
    · refine lv_aload_n X.ex X.co dL_law_902 rfl (lv_at hl 5 rfl) ?_
      refine lv_iconst (v := 0) X.ex X.co dL_law_903 (by decide) ?_
      refine f_lald X g0.1 (fw.get hO (i := (0, 0)) (Or.inl rfl) rfl rfl) (x := 0) (show vp_in (nI 0) 1 from vp_in_nI (by omega) (by omega)) dL_law_904 ?_
      rw [show f1 (0 : Int32).toNatClampNeg = (fGradeOf σ (xs (i + 1))).1.toInt64 from hf1 c_2]
      refine lv_iload X.ex X.co dL_law_905 (lv_at hl 0 rfl) ?_
      refine lv_i2l X.ex X.co dL_law_907 rfl ?_
      refine w_lcmp X dL_law_908 ?_
      refine lv_if_eq (tgt := 914) X.ex X.co dL_law_909 (by decide) (fun c_3 => ?_) (fun c_3 => ?_)
      · refine lv_goto (tgt := 2348) X.ex X.co dL_law_914 (by decide) ?_
        have hQ2 : Qs (fGradeOf σ (xs (i + 1))).2 := by
          unfold fGradeOf
          repeat' split
          all_goals first | exact hQ | exact hQ.e _ | exact hQ.z _
        exact kk (fGradeOf σ (xs (i + 1))).2 f1 f2 H locs ls _ _ ⟨hQ2, hM, hCB, hfr, hO⟩ hS (lv_sub hl [2, 3, 4, 5, 6, 7] rfl) (by omega) (by omega)
      · exact absurd (by decide) c_3
  · exact absurd rfl c_1
set_option maxHeartbeats 4000000 in
set_option maxRecDepth 100000 in
theorem law_11 (hst : l.stackTraces = false) (hAc : ∀ q, Ac q → gA G q) (hAm : ∀ q, Am q → gA G q) (hA3 : ∀ q, (fun q => Ac q ∨ AO q ∨ Am q) q → gA G q) (d1 : ∀ q, Ac q → ¬ AO q) (d2 : ∀ q, Ac q → ¬ Am q) (d3 : ∀ q, Am q → ¬ AO q) (X : CF p s m args meth c cL_law 9 "CourseForgeLaw" (some .boolean)) (g0 : GG G s s.heap) (hX : va_X b L xs s s.heap) (hbl : b < s.heap.size) (hbA : ¬ (fun q => Ac q ∨ AO q ∨ Am q) b) (hR9 : 20 ≤ hR) (hi : i + 5 ≤ L) (hL : L ≤ 2560) (W0 : lawW G Ac Am AO x mad oad ρ f f2 H) (hS : va_S (fun q => Ac q ∨ AO q ∨ Am q) s.heap H locs) (hl : lv_has ls 9 [(0, .ref b), (1, .ref x), (2, .ref (mad (0, 0))), (3, .ref (oad (0, 0))), (4, .ref (oad (0, 1))), (5, .int (nI i))]) (h1 : cells + 110 ≤ rc) (h2 : slots + 2210 ≤ rs)
    (kk : ∀ (ρ : Sg) (f : Nat → Int64) (f2 : Nat → UInt64) (H : Heap) (locs : List Loc) (ls : Array Slot) (cells1 slots1 : Nat), lawW G Ac Am AO x mad oad ρ f f2 H → va_S (fun q => Ac q ∨ AO q ∨ Am q) s.heap H locs → lv_has ls 9 [(0, .ref b), (1, .ref x), (2, .ref (mad (0, 0))), (3, .ref (oad (0, 0))), (4, .ref (oad (0, 1))), (5, .int (nI i))] → cells1 ≤ cells + 110 → slots1 ≤ slots + 2210 → W p l e (RM hR rc rs) s m args below meth c H locs cells1 slots1 Q (F0 m 2348 ls [])) :
    W p l e (RM hR rc rs) s m args below meth c H locs cells slots Q (F0 m 917 ls []) := by
  obtain ⟨hQ0, hM, hCB0, hfr, hO⟩ := W0
  obtain ⟨σ, hσ⟩ : ∃ σ, σ = sN ρ 0 0 0 := ⟨_, rfl⟩
  have hQ : Qs σ := by rw [hσ]; exact hQ0.z 0
  have h0 : σ.1 0 0 = 0 := by rw [hσ]; rfl
  have hCB : CB G Ac x σ H := by rw [hσ]; exact CB_0 0 hCB0
  obtain ⟨fsB, hfB⟩ := CB_at hCB
  refine lv_aload_n X.ex X.co dL_law_917 rfl (lv_at hl 1 rfl) ?_
  refine lv_aload_n X.ex X.co dL_law_918 rfl (lv_at hl 0 rfl) ?_
  refine lv_iload X.ex X.co dL_law_919 (lv_at hl 5 rfl) ?_
  refine lv_iconst (v := 1) X.ex X.co dL_law_921 (by decide) ?_
  refine n_add X (x := i) (y := 1) dL_law_922 ?_
  refine va_sld X.ex X.co hX hbl hbA hS (i := nI (i + 1)) (vp_in_nI (show i + 1 < L by omega) (by omega)) dL_law_923 ?_
  rw [nI_clamp (show i + 1 < 2 ^ 31 by omega)]
  refine lv_aload_n X.ex X.co dL_law_924 rfl (lv_at hl 3 rfl) ?_
  refine w_cS (n := 3) X m_771 m_0 m_770 ⟨by decide, by decide, by decide +kernel⟩ (by decide) m_769 (c_L_gradeAnew l hst G Ac AO hAc d1 x σ hQ.1 hQ.2 h0 (xs (i + 1)) lvO oad (enO G f f2) (0, 0) (Or.inl rfl) (oad (0, 0)) rfl f rfl) (g0.step hS hA3) ⟨⟨hCB, hfr⟩, hO⟩ (by omega) rfl hl.1 rfl (Nat.le_of_ble_eq_true rfl) dL_law_925 (by omega) (by omega) hS (fun q h => h.elim Or.inl (fun z => Or.inr (Or.inl z))) (fun v0 H locs hB hz hk9 hS => ?_)
  obtain ⟨rfl, hCB, hle9, f1, hO, hf1⟩ := hB
  have hM := fw.kept hM (fun j hj => hk9 _ (fw.lt hM hj) (fun z => z.elim (fun z => d2 _ z (fw.in hM hj)) (fun z => d3 _ (fw.in hM hj) z)))
  have hO := enO_0 hO
  have hfr : ∀ q, H.size ≤ q → Ac q := fun q hq => hfr q (Nat.le_trans hz hq)
  refine lv_istore (lv' := [(6, .int (nI ((fGradeOf σ (xs (i + 1))).2.1 0 0))), (0, .ref b), (1, .ref x), (2, .ref (mad (0, 0))), (3, .ref (oad (0, 0))), (4, .ref (oad (0, 1))), (5, .int (nI i))]) X.ex X.co dL_law_928 hl (by decide) rfl (fun ls hl => ?_)
  refine lv_aload_n X.ex X.co dL_law_930 rfl (lv_at hl 3 rfl) ?_
  refine lv_aload_n X.ex X.co dL_law_931 rfl (lv_at hl 1 rfl) ?_
  refine lv_iload X.ex X.co dL_law_932 (lv_at hl 6 rfl) ?_
  refine lv_iconst (v := 1) X.ex X.co dL_law_934 (by decide) ?_
  refine n_add X (x := i) (y := 1) dL_law_935 ?_
  refine va_sld X.ex X.co hX hbl hbA hS (i := nI (i + 1)) (vp_in_nI (show i + 1 < L by omega) (by omega)) dL_law_936 ?_
  rw [nI_clamp (show i + 1 < 2 ^ 31 by omega)]
  refine q_eV X ce_X10_gradeAnew m_1596 (c_X10_gradeAnew l G mad Am hAm ρ σ hσ hQ.1 (xs (i + 1))) (g0.step hS hA3) hM (mo hM) rfl (by omega) rfl hl.1 rfl (Nat.le_of_ble_eq_true rfl) dL_law_937 (by omega) (by omega) hS (fun q h => Or.inr (Or.inr h)) (fun H locs hM hz hk9 hS => ?_)
  have hCB := CB.keptS hCB hk9 d2
  have hO := fw.kept hO (fun j hj => hk9 _ (fw.lt hO hj) (fun z => d3 _ z (fw.in hO hj)))
  have hfr : ∀ q, H.size ≤ q → Ac q := fun q hq => hfr q (Nat.le_trans hz hq)
  refine lv_istore (lv' := [(7, .int ((fGradeOf σ (xs (i + 1))).1)), (6, .int (nI ((fGradeOf σ (xs (i + 1))).2.1 0 0))), (0, .ref b), (1, .ref x), (2, .ref (mad (0, 0))), (3, .ref (oad (0, 0))), (4, .ref (oad (0, 1))), (5, .int (nI i))]) X.ex X.co dL_law_940 hl (by decide) rfl (fun ls hl => ?_)
  refine lv_aload_n X.ex X.co dL_law_942 rfl (lv_at hl 4 rfl) ?_
  refine q_rV X ce_X10_thrown m_1486 (c_X10_thrown l G mad Am (fGradeOf σ (xs (i + 1))).2) (g0.step hS hA3) hM (mo hM) rfl (by omega) rfl hl.1 rfl (Nat.le_of_ble_eq_true rfl) dL_law_943 (by omega) (by omega) ?_
  refine lv_iload X.ex X.co dL_law_946 (lv_at hl 1 rfl) ?_
  refine n_cmp_eq X (x := ((fGradeOf σ (xs (i + 1))).2.1 0 0)) (y := ((fGradeOf σ (xs (i + 1))).2.1 0 0)) (tgt := 953) (by omega) (by omega) dL_law_948 (by decide) (fun c_1 => ?_) (fun c_1 => ?_)
  · refine lv_iload X.ex X.co dL_law_953 (lv_at hl 1 rfl) ?_
    refine n_if_ne X (x := ((fGradeOf σ (xs (i + 1))).2.1 0 0)) (tgt := 970) (by omega) dL_law_955 (by decide) (fun c_2 => ?_) (fun c_2 => ?_)
    · refine lv_goto (tgt := 2348) X.ex X.co dL_law_970 (by decide) ?_
      have hQ2 : Qs (fGradeOf σ (xs (i + 1))).2 := by
        unfold fGradeOf
        repeat' split
        all_goals first | exact hQ | exact hQ.e _ | exact hQ.z _
      exact kk (fGradeOf σ (xs (i + 1))).2 f1 f2 H locs ls _ _ ⟨hQ2, hM, hCB, hfr, hO⟩ hS (lv_sub hl [2, 3, 4, 5, 6, 7] rfl) (by omega) (by omega)
    · refine lv_aload_n X.ex X.co dL_law_958 rfl (lv_at hl 5 rfl) ?_
      refine lv_iconst (v := 0) X.ex X.co dL_law_959 (by decide) ?_
      refine f_lald X g0.1 (fw.get hO (i := (0, 0)) (Or.inl rfl) rfl rfl) (x := 0) (show vp_in (nI 0) 1 from vp_in_nI (by omega) (by omega)) dL_law_960 ?_
      rw [show f1 (0 : Int32).toNatClampNeg = (fGradeOf σ (xs (i + 1))).1.toInt64 from hf1 c_2]
      refine lv_iload X.ex X.co dL_law_961 (lv_at hl 0 rfl) ?_
      refine lv_i2l X.ex X.co dL_law_963 rfl ?_
      refine w_lcmp X dL_law_964 ?_
      refine lv_if_eq (tgt := 970) X.ex X.co dL_law_965 (by decide) (fun c_3 => ?_) (fun c_3 => ?_)
      · refine lv_goto (tgt := 2348) X.ex X.co dL_law_970 (by decide) ?_
        have hQ2 : Qs (fGradeOf σ (xs (i + 1))).2 := by
          unfold fGradeOf
          repeat' split
          all_goals first | exact hQ | exact hQ.e _ | exact hQ.z _
        exact kk (fGradeOf σ (xs (i + 1))).2 f1 f2 H locs ls _ _ ⟨hQ2, hM, hCB, hfr, hO⟩ hS (lv_sub hl [2, 3, 4, 5, 6, 7] rfl) (by omega) (by omega)
      · exact absurd (by decide) c_3
  · exact absurd rfl c_1
set_option maxHeartbeats 4000000 in
set_option maxRecDepth 100000 in
theorem law_12 (hst : l.stackTraces = false) (hAc : ∀ q, Ac q → gA G q) (hAm : ∀ q, Am q → gA G q) (hA3 : ∀ q, (fun q => Ac q ∨ AO q ∨ Am q) q → gA G q) (d1 : ∀ q, Ac q → ¬ AO q) (d2 : ∀ q, Ac q → ¬ Am q) (d3 : ∀ q, Am q → ¬ AO q) (X : CF p s m args meth c cL_law 9 "CourseForgeLaw" (some .boolean)) (g0 : GG G s s.heap) (hX : va_X b L xs s s.heap) (hbl : b < s.heap.size) (hbA : ¬ (fun q => Ac q ∨ AO q ∨ Am q) b) (hR9 : 20 ≤ hR) (hi : i + 5 ≤ L) (hL : L ≤ 2560) (W0 : lawW G Ac Am AO x mad oad ρ f f2 H) (hS : va_S (fun q => Ac q ∨ AO q ∨ Am q) s.heap H locs) (hl : lv_has ls 9 [(0, .ref b), (1, .ref x), (2, .ref (mad (0, 0))), (3, .ref (oad (0, 0))), (4, .ref (oad (0, 1))), (5, .int (nI i))]) (h1 : cells + 110 ≤ rc) (h2 : slots + 2210 ≤ rs)
    (kk : ∀ (ρ : Sg) (f : Nat → Int64) (f2 : Nat → UInt64) (H : Heap) (locs : List Loc) (ls : Array Slot) (cells1 slots1 : Nat), lawW G Ac Am AO x mad oad ρ f f2 H → va_S (fun q => Ac q ∨ AO q ∨ Am q) s.heap H locs → lv_has ls 9 [(0, .ref b), (1, .ref x), (2, .ref (mad (0, 0))), (3, .ref (oad (0, 0))), (4, .ref (oad (0, 1))), (5, .int (nI i))] → cells1 ≤ cells + 110 → slots1 ≤ slots + 2210 → W p l e (RM hR rc rs) s m args below meth c H locs cells1 slots1 Q (F0 m 2348 ls [])) :
    W p l e (RM hR rc rs) s m args below meth c H locs cells slots Q (F0 m 973 ls []) := by
  obtain ⟨hQ0, hM, hCB0, hfr, hO⟩ := W0
  obtain ⟨σ, hσ⟩ : ∃ σ, σ = sN ρ 0 0 0 := ⟨_, rfl⟩
  have hQ : Qs σ := by rw [hσ]; exact hQ0.z 0
  have h0 : σ.1 0 0 = 0 := by rw [hσ]; rfl
  have hCB : CB G Ac x σ H := by rw [hσ]; exact CB_0 0 hCB0
  obtain ⟨fsB, hfB⟩ := CB_at hCB
  refine lv_aload_n X.ex X.co dL_law_973 rfl (lv_at hl 1 rfl) ?_
  refine lv_aload_n X.ex X.co dL_law_974 rfl (lv_at hl 0 rfl) ?_
  refine lv_iload X.ex X.co dL_law_975 (lv_at hl 5 rfl) ?_
  refine lv_iconst (v := 1) X.ex X.co dL_law_977 (by decide) ?_
  refine n_add X (x := i) (y := 1) dL_law_978 ?_
  refine va_sld X.ex X.co hX hbl hbA hS (i := nI (i + 1)) (vp_in_nI (show i + 1 < L by omega) (by omega)) dL_law_979 ?_
  rw [nI_clamp (show i + 1 < 2 ^ 31 by omega)]
  refine lv_aload_n X.ex X.co dL_law_980 rfl (lv_at hl 0 rfl) ?_
  refine lv_iload X.ex X.co dL_law_981 (lv_at hl 5 rfl) ?_
  refine lv_iconst (v := 2) X.ex X.co dL_law_983 (by decide) ?_
  refine n_add X (x := i) (y := 2) dL_law_984 ?_
  refine va_sld X.ex X.co hX hbl hbA hS (i := nI (i + 2)) (vp_in_nI (show i + 2 < L by omega) (by omega)) dL_law_985 ?_
  rw [nI_clamp (show i + 2 < 2 ^ 31 by omega)]
  refine lv_aload_n X.ex X.co dL_law_986 rfl (lv_at hl 3 rfl) ?_
  refine w_cS (n := 4) X m_778 m_0 m_777 ⟨by decide, by decide, by decide +kernel⟩ (by decide) m_776 (c_L_creditOf l hst G Ac AO hAc d1 x σ hQ.1 hQ.2 h0 (xs (i + 1)) (xs (i + 2)) lvO oad (enO G f f2) (0, 0) (Or.inl rfl) (oad (0, 0)) rfl f rfl) (g0.step hS hA3) ⟨⟨hCB, hfr⟩, hO⟩ (by omega) rfl hl.1 rfl (Nat.le_of_ble_eq_true rfl) dL_law_987 (by omega) (by omega) hS (fun q h => h.elim Or.inl (fun z => Or.inr (Or.inl z))) (fun v0 H locs hB hz hk9 hS => ?_)
  obtain ⟨rfl, hCB, hle9, f1, hO, hf1⟩ := hB
  have hM := fw.kept hM (fun j hj => hk9 _ (fw.lt hM hj) (fun z => z.elim (fun z => d2 _ z (fw.in hM hj)) (fun z => d3 _ (fw.in hM hj) z)))
  have hO := enO_0 hO
  have hfr : ∀ q, H.size ≤ q → Ac q := fun q hq => hfr q (Nat.le_trans hz hq)
  refine lv_istore (lv' := [(6, .int (nI ((fCreditOf σ (xs (i + 1)) (xs (i + 2))).2.1 0 0))), (0, .ref b), (1, .ref x), (2, .ref (mad (0, 0))), (3, .ref (oad (0, 0))), (4, .ref (oad (0, 1))), (5, .int (nI i))]) X.ex X.co dL_law_990 hl (by decide) rfl (fun ls hl => ?_)
  refine lv_aload_n X.ex X.co dL_law_992 rfl (lv_at hl 3 rfl) ?_
  refine lv_aload_n X.ex X.co dL_law_993 rfl (lv_at hl 1 rfl) ?_
  refine lv_iload X.ex X.co dL_law_994 (lv_at hl 6 rfl) ?_
  refine lv_iconst (v := 1) X.ex X.co dL_law_996 (by decide) ?_
  refine n_add X (x := i) (y := 1) dL_law_997 ?_
  refine va_sld X.ex X.co hX hbl hbA hS (i := nI (i + 1)) (vp_in_nI (show i + 1 < L by omega) (by omega)) dL_law_998 ?_
  rw [nI_clamp (show i + 1 < 2 ^ 31 by omega)]
  refine lv_aload_n X.ex X.co dL_law_999 rfl (lv_at hl 1 rfl) ?_
  refine lv_iload X.ex X.co dL_law_1000 (lv_at hl 6 rfl) ?_
  refine lv_iconst (v := 2) X.ex X.co dL_law_1002 (by decide) ?_
  refine n_add X (x := i) (y := 2) dL_law_1003 ?_
  refine va_sld X.ex X.co hX hbl hbA hS (i := nI (i + 2)) (vp_in_nI (show i + 2 < L by omega) (by omega)) dL_law_1004 ?_
  rw [nI_clamp (show i + 2 < 2 ^ 31 by omega)]
  refine q_eV X ce_X10_creditOf m_1601 (c_X10_creditOf l G mad Am hAm ρ σ hσ hQ.1 (xs (i + 1)) (xs (i + 2))) (g0.step hS hA3) hM (mo hM) rfl (by omega) rfl hl.1 rfl (Nat.le_of_ble_eq_true rfl) dL_law_1005 (by omega) (by omega) hS (fun q h => Or.inr (Or.inr h)) (fun H locs hM hz hk9 hS => ?_)
  have hCB := CB.keptS hCB hk9 d2
  have hO := fw.kept hO (fun j hj => hk9 _ (fw.lt hO hj) (fun z => d3 _ z (fw.in hO hj)))
  have hfr : ∀ q, H.size ≤ q → Ac q := fun q hq => hfr q (Nat.le_trans hz hq)
  refine lv_istore (lv' := [(7, .int ((fCreditOf σ (xs (i + 1)) (xs (i + 2))).1)), (6, .int (nI ((fCreditOf σ (xs (i + 1)) (xs (i + 2))).2.1 0 0))), (0, .ref b), (1, .ref x), (2, .ref (mad (0, 0))), (3, .ref (oad (0, 0))), (4, .ref (oad (0, 1))), (5, .int (nI i))]) X.ex X.co dL_law_1008 hl (by decide) rfl (fun ls hl => ?_)
  refine lv_aload_n X.ex X.co dL_law_1010 rfl (lv_at hl 4 rfl) ?_
  refine q_rV X ce_X10_thrown m_1486 (c_X10_thrown l G mad Am (fCreditOf σ (xs (i + 1)) (xs (i + 2))).2) (g0.step hS hA3) hM (mo hM) rfl (by omega) rfl hl.1 rfl (Nat.le_of_ble_eq_true rfl) dL_law_1011 (by omega) (by omega) ?_
  refine lv_iload X.ex X.co dL_law_1014 (lv_at hl 1 rfl) ?_
  refine n_cmp_eq X (x := ((fCreditOf σ (xs (i + 1)) (xs (i + 2))).2.1 0 0)) (y := ((fCreditOf σ (xs (i + 1)) (xs (i + 2))).2.1 0 0)) (tgt := 1021) (by omega) (by omega) dL_law_1016 (by decide) (fun c_1 => ?_) (fun c_1 => ?_)
  · refine lv_iload X.ex X.co dL_law_1021 (lv_at hl 1 rfl) ?_
    refine n_if_ne X (x := ((fCreditOf σ (xs (i + 1)) (xs (i + 2))).2.1 0 0)) (tgt := 1038) (by omega) dL_law_1023 (by decide) (fun c_2 => ?_) (fun c_2 => ?_)
    · refine lv_goto (tgt := 2348) X.ex X.co dL_law_1038 (by decide) ?_
      have hQ2 : Qs (fCreditOf σ (xs (i + 1)) (xs (i + 2))).2 := by
        unfold fCreditOf
        repeat' split
        all_goals first | exact hQ | exact hQ.e _ | exact hQ.z _
      exact kk (fCreditOf σ (xs (i + 1)) (xs (i + 2))).2 f1 f2 H locs ls _ _ ⟨hQ2, hM, hCB, hfr, hO⟩ hS (lv_sub hl [2, 3, 4, 5, 6, 7] rfl) (by omega) (by omega)
    · refine lv_aload_n X.ex X.co dL_law_1026 rfl (lv_at hl 5 rfl) ?_
      refine lv_iconst (v := 0) X.ex X.co dL_law_1027 (by decide) ?_
      refine f_lald X g0.1 (fw.get hO (i := (0, 0)) (Or.inl rfl) rfl rfl) (x := 0) (show vp_in (nI 0) 1 from vp_in_nI (by omega) (by omega)) dL_law_1028 ?_
      rw [show f1 (0 : Int32).toNatClampNeg = (fCreditOf σ (xs (i + 1)) (xs (i + 2))).1.toInt64 from hf1 c_2]
      refine lv_iload X.ex X.co dL_law_1029 (lv_at hl 0 rfl) ?_
      refine lv_i2l X.ex X.co dL_law_1031 rfl ?_
      refine w_lcmp X dL_law_1032 ?_
      refine lv_if_eq (tgt := 1038) X.ex X.co dL_law_1033 (by decide) (fun c_3 => ?_) (fun c_3 => ?_)
      · refine lv_goto (tgt := 2348) X.ex X.co dL_law_1038 (by decide) ?_
        have hQ2 : Qs (fCreditOf σ (xs (i + 1)) (xs (i + 2))).2 := by
          unfold fCreditOf
          repeat' split
          all_goals first | exact hQ | exact hQ.e _ | exact hQ.z _
        exact kk (fCreditOf σ (xs (i + 1)) (xs (i + 2))).2 f1 f2 H locs ls _ _ ⟨hQ2, hM, hCB, hfr, hO⟩ hS (lv_sub hl [2, 3, 4, 5, 6, 7] rfl) (by omega) (by omega)
      · exact absurd (by decide) c_3
  · exact absurd rfl c_1
set_option maxHeartbeats 4000000 in
set_option maxRecDepth 100000 in
theorem law_13 (hst : l.stackTraces = false) (hAc : ∀ q, Ac q → gA G q) (hAm : ∀ q, Am q → gA G q) (hA3 : ∀ q, (fun q => Ac q ∨ AO q ∨ Am q) q → gA G q) (d1 : ∀ q, Ac q → ¬ AO q) (d2 : ∀ q, Ac q → ¬ Am q) (d3 : ∀ q, Am q → ¬ AO q) (X : CF p s m args meth c cL_law 9 "CourseForgeLaw" (some .boolean)) (g0 : GG G s s.heap) (hX : va_X b L xs s s.heap) (hbl : b < s.heap.size) (hbA : ¬ (fun q => Ac q ∨ AO q ∨ Am q) b) (hR9 : 20 ≤ hR) (hi : i + 5 ≤ L) (hL : L ≤ 2560) (W0 : lawW G Ac Am AO x mad oad ρ f f2 H) (hS : va_S (fun q => Ac q ∨ AO q ∨ Am q) s.heap H locs) (hl : lv_has ls 9 [(0, .ref b), (1, .ref x), (2, .ref (mad (0, 0))), (3, .ref (oad (0, 0))), (4, .ref (oad (0, 1))), (5, .int (nI i))]) (h1 : cells + 110 ≤ rc) (h2 : slots + 2210 ≤ rs)
    (kk : ∀ (ρ : Sg) (f : Nat → Int64) (f2 : Nat → UInt64) (H : Heap) (locs : List Loc) (ls : Array Slot) (cells1 slots1 : Nat), lawW G Ac Am AO x mad oad ρ f f2 H → va_S (fun q => Ac q ∨ AO q ∨ Am q) s.heap H locs → lv_has ls 9 [(0, .ref b), (1, .ref x), (2, .ref (mad (0, 0))), (3, .ref (oad (0, 0))), (4, .ref (oad (0, 1))), (5, .int (nI i))] → cells1 ≤ cells + 110 → slots1 ≤ slots + 2210 → W p l e (RM hR rc rs) s m args below meth c H locs cells1 slots1 Q (F0 m 2348 ls [])) :
    W p l e (RM hR rc rs) s m args below meth c H locs cells slots Q (F0 m 1041 ls []) := by
  obtain ⟨hQ0, hM, hCB0, hfr, hO⟩ := W0
  obtain ⟨σ, hσ⟩ : ∃ σ, σ = sN ρ 0 0 0 := ⟨_, rfl⟩
  have hQ : Qs σ := by rw [hσ]; exact hQ0.z 0
  have h0 : σ.1 0 0 = 0 := by rw [hσ]; rfl
  have hCB : CB G Ac x σ H := by rw [hσ]; exact CB_0 0 hCB0
  obtain ⟨fsB, hfB⟩ := CB_at hCB
  refine lv_aload_n X.ex X.co dL_law_1041 rfl (lv_at hl 1 rfl) ?_
  refine lv_aload_n X.ex X.co dL_law_1042 rfl (lv_at hl 0 rfl) ?_
  refine lv_iload X.ex X.co dL_law_1043 (lv_at hl 5 rfl) ?_
  refine lv_iconst (v := 1) X.ex X.co dL_law_1045 (by decide) ?_
  refine n_add X (x := i) (y := 1) dL_law_1046 ?_
  refine va_sld X.ex X.co hX hbl hbA hS (i := nI (i + 1)) (vp_in_nI (show i + 1 < L by omega) (by omega)) dL_law_1047 ?_
  rw [nI_clamp (show i + 1 < 2 ^ 31 by omega)]
  refine lv_aload_n X.ex X.co dL_law_1048 rfl (lv_at hl 3 rfl) ?_
  refine w_cS (n := 3) X m_803 m_0 m_802 ⟨by decide, by decide, by decide +kernel⟩ (by decide) m_801 (c_L_studentOf l hst G Ac AO hAc d1 x σ hQ.1 hQ.2 h0 (xs (i + 1)) lvO oad (enO G f f2) (0, 0) (Or.inl rfl) (oad (0, 0)) rfl f rfl) (g0.step hS hA3) ⟨⟨hCB, hfr⟩, hO⟩ (by omega) rfl hl.1 rfl (Nat.le_of_ble_eq_true rfl) dL_law_1049 (by omega) (by omega) hS (fun q h => h.elim Or.inl (fun z => Or.inr (Or.inl z))) (fun v0 H locs hB hz hk9 hS => ?_)
  obtain ⟨rfl, hCB, hle9, f1, hO, hf1⟩ := hB
  have hM := fw.kept hM (fun j hj => hk9 _ (fw.lt hM hj) (fun z => z.elim (fun z => d2 _ z (fw.in hM hj)) (fun z => d3 _ (fw.in hM hj) z)))
  have hO := enO_0 hO
  have hfr : ∀ q, H.size ≤ q → Ac q := fun q hq => hfr q (Nat.le_trans hz hq)
  refine lv_istore (lv' := [(6, .int (nI ((fStudentOf σ (xs (i + 1))).2.1 0 0))), (0, .ref b), (1, .ref x), (2, .ref (mad (0, 0))), (3, .ref (oad (0, 0))), (4, .ref (oad (0, 1))), (5, .int (nI i))]) X.ex X.co dL_law_1052 hl (by decide) rfl (fun ls hl => ?_)
  refine lv_aload_n X.ex X.co dL_law_1054 rfl (lv_at hl 3 rfl) ?_
  refine lv_aload_n X.ex X.co dL_law_1055 rfl (lv_at hl 1 rfl) ?_
  refine lv_iload X.ex X.co dL_law_1056 (lv_at hl 6 rfl) ?_
  refine lv_iconst (v := 1) X.ex X.co dL_law_1058 (by decide) ?_
  refine n_add X (x := i) (y := 1) dL_law_1059 ?_
  refine va_sld X.ex X.co hX hbl hbA hS (i := nI (i + 1)) (vp_in_nI (show i + 1 < L by omega) (by omega)) dL_law_1060 ?_
  rw [nI_clamp (show i + 1 < 2 ^ 31 by omega)]
  refine q_eV X ce_X10_studentOf m_1605 (c_X10_studentOf l G mad Am hAm ρ σ hσ hQ.1 (xs (i + 1))) (g0.step hS hA3) hM (mo hM) rfl (by omega) rfl hl.1 rfl (Nat.le_of_ble_eq_true rfl) dL_law_1061 (by omega) (by omega) hS (fun q h => Or.inr (Or.inr h)) (fun H locs hM hz hk9 hS => ?_)
  have hCB := CB.keptS hCB hk9 d2
  have hO := fw.kept hO (fun j hj => hk9 _ (fw.lt hO hj) (fun z => d3 _ z (fw.in hO hj)))
  have hfr : ∀ q, H.size ≤ q → Ac q := fun q hq => hfr q (Nat.le_trans hz hq)
  refine lv_istore (lv' := [(7, .int ((fStudentOf σ (xs (i + 1))).1)), (6, .int (nI ((fStudentOf σ (xs (i + 1))).2.1 0 0))), (0, .ref b), (1, .ref x), (2, .ref (mad (0, 0))), (3, .ref (oad (0, 0))), (4, .ref (oad (0, 1))), (5, .int (nI i))]) X.ex X.co dL_law_1064 hl (by decide) rfl (fun ls hl => ?_)
  refine lv_aload_n X.ex X.co dL_law_1066 rfl (lv_at hl 4 rfl) ?_
  refine q_rV X ce_X10_thrown m_1486 (c_X10_thrown l G mad Am (fStudentOf σ (xs (i + 1))).2) (g0.step hS hA3) hM (mo hM) rfl (by omega) rfl hl.1 rfl (Nat.le_of_ble_eq_true rfl) dL_law_1067 (by omega) (by omega) ?_
  refine lv_iload X.ex X.co dL_law_1070 (lv_at hl 1 rfl) ?_
  refine n_cmp_eq X (x := ((fStudentOf σ (xs (i + 1))).2.1 0 0)) (y := ((fStudentOf σ (xs (i + 1))).2.1 0 0)) (tgt := 1077) (by omega) (by omega) dL_law_1072 (by decide) (fun c_1 => ?_) (fun c_1 => ?_)
  · refine lv_iload X.ex X.co dL_law_1077 (lv_at hl 1 rfl) ?_
    refine n_if_ne X (x := ((fStudentOf σ (xs (i + 1))).2.1 0 0)) (tgt := 1094) (by omega) dL_law_1079 (by decide) (fun c_2 => ?_) (fun c_2 => ?_)
    · refine lv_goto (tgt := 2348) X.ex X.co dL_law_1094 (by decide) ?_
      have hQ2 : Qs (fStudentOf σ (xs (i + 1))).2 := by
        unfold fStudentOf
        repeat' split
        all_goals first | exact hQ | exact hQ.e _ | exact hQ.z _
      exact kk (fStudentOf σ (xs (i + 1))).2 f1 f2 H locs ls _ _ ⟨hQ2, hM, hCB, hfr, hO⟩ hS (lv_sub hl [2, 3, 4, 5, 6, 7] rfl) (by omega) (by omega)
    · refine lv_aload_n X.ex X.co dL_law_1082 rfl (lv_at hl 5 rfl) ?_
      refine lv_iconst (v := 0) X.ex X.co dL_law_1083 (by decide) ?_
      refine f_lald X g0.1 (fw.get hO (i := (0, 0)) (Or.inl rfl) rfl rfl) (x := 0) (show vp_in (nI 0) 1 from vp_in_nI (by omega) (by omega)) dL_law_1084 ?_
      rw [show f1 (0 : Int32).toNatClampNeg = (fStudentOf σ (xs (i + 1))).1.toInt64 from hf1 c_2]
      refine lv_iload X.ex X.co dL_law_1085 (lv_at hl 0 rfl) ?_
      refine lv_i2l X.ex X.co dL_law_1087 rfl ?_
      refine w_lcmp X dL_law_1088 ?_
      refine lv_if_eq (tgt := 1094) X.ex X.co dL_law_1089 (by decide) (fun c_3 => ?_) (fun c_3 => ?_)
      · refine lv_goto (tgt := 2348) X.ex X.co dL_law_1094 (by decide) ?_
        have hQ2 : Qs (fStudentOf σ (xs (i + 1))).2 := by
          unfold fStudentOf
          repeat' split
          all_goals first | exact hQ | exact hQ.e _ | exact hQ.z _
        exact kk (fStudentOf σ (xs (i + 1))).2 f1 f2 H locs ls _ _ ⟨hQ2, hM, hCB, hfr, hO⟩ hS (lv_sub hl [2, 3, 4, 5, 6, 7] rfl) (by omega) (by omega)
      · exact absurd (by decide) c_3
  · exact absurd rfl c_1
set_option maxHeartbeats 4000000 in
set_option maxRecDepth 100000 in
theorem law_14 (hst : l.stackTraces = false) (hAc : ∀ q, Ac q → gA G q) (hAm : ∀ q, Am q → gA G q) (hA3 : ∀ q, (fun q => Ac q ∨ AO q ∨ Am q) q → gA G q) (d1 : ∀ q, Ac q → ¬ AO q) (d2 : ∀ q, Ac q → ¬ Am q) (d3 : ∀ q, Am q → ¬ AO q) (X : CF p s m args meth c cL_law 9 "CourseForgeLaw" (some .boolean)) (g0 : GG G s s.heap) (hX : va_X b L xs s s.heap) (hbl : b < s.heap.size) (hbA : ¬ (fun q => Ac q ∨ AO q ∨ Am q) b) (hR9 : 20 ≤ hR) (hi : i + 5 ≤ L) (hL : L ≤ 2560) (W0 : lawW G Ac Am AO x mad oad ρ f f2 H) (hS : va_S (fun q => Ac q ∨ AO q ∨ Am q) s.heap H locs) (hl : lv_has ls 9 [(0, .ref b), (1, .ref x), (2, .ref (mad (0, 0))), (3, .ref (oad (0, 0))), (4, .ref (oad (0, 1))), (5, .int (nI i))]) (h1 : cells + 110 ≤ rc) (h2 : slots + 2210 ≤ rs)
    (kk : ∀ (ρ : Sg) (f : Nat → Int64) (f2 : Nat → UInt64) (H : Heap) (locs : List Loc) (ls : Array Slot) (cells1 slots1 : Nat), lawW G Ac Am AO x mad oad ρ f f2 H → va_S (fun q => Ac q ∨ AO q ∨ Am q) s.heap H locs → lv_has ls 9 [(0, .ref b), (1, .ref x), (2, .ref (mad (0, 0))), (3, .ref (oad (0, 0))), (4, .ref (oad (0, 1))), (5, .int (nI i))] → cells1 ≤ cells + 110 → slots1 ≤ slots + 2210 → W p l e (RM hR rc rs) s m args below meth c H locs cells1 slots1 Q (F0 m 2348 ls [])) :
    W p l e (RM hR rc rs) s m args below meth c H locs cells slots Q (F0 m 1097 ls []) := by
  obtain ⟨hQ0, hM, hCB0, hfr, hO⟩ := W0
  obtain ⟨σ, hσ⟩ : ∃ σ, σ = sN ρ 0 0 0 := ⟨_, rfl⟩
  have hQ : Qs σ := by rw [hσ]; exact hQ0.z 0
  have h0 : σ.1 0 0 = 0 := by rw [hσ]; rfl
  have hCB : CB G Ac x σ H := by rw [hσ]; exact CB_0 0 hCB0
  obtain ⟨fsB, hfB⟩ := CB_at hCB
  refine lv_aload_n X.ex X.co dL_law_1097 rfl (lv_at hl 1 rfl) ?_
  refine lv_aload_n X.ex X.co dL_law_1098 rfl (lv_at hl 0 rfl) ?_
  refine lv_iload X.ex X.co dL_law_1099 (lv_at hl 5 rfl) ?_
  refine lv_iconst (v := 1) X.ex X.co dL_law_1101 (by decide) ?_
  refine n_add X (x := i) (y := 1) dL_law_1102 ?_
  refine va_sld X.ex X.co hX hbl hbA hS (i := nI (i + 1)) (vp_in_nI (show i + 1 < L by omega) (by omega)) dL_law_1103 ?_
  rw [nI_clamp (show i + 1 < 2 ^ 31 by omega)]
  refine lv_aload_n X.ex X.co dL_law_1104 rfl (lv_at hl 3 rfl) ?_
  refine w_cS (n := 3) X m_810 m_0 m_809 ⟨by decide, by decide, by decide +kernel⟩ (by decide) m_808 (c_L_dayOf l hst G Ac AO hAc d1 x σ hQ.1 hQ.2 h0 (xs (i + 1)) lvO oad (enO G f f2) (0, 0) (Or.inl rfl) (oad (0, 0)) rfl f rfl) (g0.step hS hA3) ⟨⟨hCB, hfr⟩, hO⟩ (by omega) rfl hl.1 rfl (Nat.le_of_ble_eq_true rfl) dL_law_1105 (by omega) (by omega) hS (fun q h => h.elim Or.inl (fun z => Or.inr (Or.inl z))) (fun v0 H locs hB hz hk9 hS => ?_)
  obtain ⟨rfl, hCB, hle9, f1, hO, hf1⟩ := hB
  have hM := fw.kept hM (fun j hj => hk9 _ (fw.lt hM hj) (fun z => z.elim (fun z => d2 _ z (fw.in hM hj)) (fun z => d3 _ (fw.in hM hj) z)))
  have hO := enO_0 hO
  have hfr : ∀ q, H.size ≤ q → Ac q := fun q hq => hfr q (Nat.le_trans hz hq)
  refine lv_istore (lv' := [(6, .int (nI ((fDayOf σ (xs (i + 1))).2.1 0 0))), (0, .ref b), (1, .ref x), (2, .ref (mad (0, 0))), (3, .ref (oad (0, 0))), (4, .ref (oad (0, 1))), (5, .int (nI i))]) X.ex X.co dL_law_1108 hl (by decide) rfl (fun ls hl => ?_)
  refine lv_aload_n X.ex X.co dL_law_1110 rfl (lv_at hl 3 rfl) ?_
  refine lv_aload_n X.ex X.co dL_law_1111 rfl (lv_at hl 1 rfl) ?_
  refine lv_iload X.ex X.co dL_law_1112 (lv_at hl 6 rfl) ?_
  refine lv_iconst (v := 1) X.ex X.co dL_law_1114 (by decide) ?_
  refine n_add X (x := i) (y := 1) dL_law_1115 ?_
  refine va_sld X.ex X.co hX hbl hbA hS (i := nI (i + 1)) (vp_in_nI (show i + 1 < L by omega) (by omega)) dL_law_1116 ?_
  rw [nI_clamp (show i + 1 < 2 ^ 31 by omega)]
  refine q_eV X ce_X10_dayOf m_1609 (c_X10_dayOf l G mad Am hAm ρ σ hσ hQ.1 (xs (i + 1))) (g0.step hS hA3) hM (mo hM) rfl (by omega) rfl hl.1 rfl (Nat.le_of_ble_eq_true rfl) dL_law_1117 (by omega) (by omega) hS (fun q h => Or.inr (Or.inr h)) (fun H locs hM hz hk9 hS => ?_)
  have hCB := CB.keptS hCB hk9 d2
  have hO := fw.kept hO (fun j hj => hk9 _ (fw.lt hO hj) (fun z => d3 _ z (fw.in hO hj)))
  have hfr : ∀ q, H.size ≤ q → Ac q := fun q hq => hfr q (Nat.le_trans hz hq)
  refine lv_istore (lv' := [(7, .int ((fDayOf σ (xs (i + 1))).1)), (6, .int (nI ((fDayOf σ (xs (i + 1))).2.1 0 0))), (0, .ref b), (1, .ref x), (2, .ref (mad (0, 0))), (3, .ref (oad (0, 0))), (4, .ref (oad (0, 1))), (5, .int (nI i))]) X.ex X.co dL_law_1120 hl (by decide) rfl (fun ls hl => ?_)
  refine lv_aload_n X.ex X.co dL_law_1122 rfl (lv_at hl 4 rfl) ?_
  refine q_rV X ce_X10_thrown m_1486 (c_X10_thrown l G mad Am (fDayOf σ (xs (i + 1))).2) (g0.step hS hA3) hM (mo hM) rfl (by omega) rfl hl.1 rfl (Nat.le_of_ble_eq_true rfl) dL_law_1123 (by omega) (by omega) ?_
  refine lv_iload X.ex X.co dL_law_1126 (lv_at hl 1 rfl) ?_
  refine n_cmp_eq X (x := ((fDayOf σ (xs (i + 1))).2.1 0 0)) (y := ((fDayOf σ (xs (i + 1))).2.1 0 0)) (tgt := 1133) (by omega) (by omega) dL_law_1128 (by decide) (fun c_1 => ?_) (fun c_1 => ?_)
  · refine lv_iload X.ex X.co dL_law_1133 (lv_at hl 1 rfl) ?_
    refine n_if_ne X (x := ((fDayOf σ (xs (i + 1))).2.1 0 0)) (tgt := 1150) (by omega) dL_law_1135 (by decide) (fun c_2 => ?_) (fun c_2 => ?_)
    · refine lv_goto (tgt := 2348) X.ex X.co dL_law_1150 (by decide) ?_
      have hQ2 : Qs (fDayOf σ (xs (i + 1))).2 := by
        unfold fDayOf
        repeat' split
        all_goals first | exact hQ | exact hQ.e _ | exact hQ.z _
      exact kk (fDayOf σ (xs (i + 1))).2 f1 f2 H locs ls _ _ ⟨hQ2, hM, hCB, hfr, hO⟩ hS (lv_sub hl [2, 3, 4, 5, 6, 7] rfl) (by omega) (by omega)
    · refine lv_aload_n X.ex X.co dL_law_1138 rfl (lv_at hl 5 rfl) ?_
      refine lv_iconst (v := 0) X.ex X.co dL_law_1139 (by decide) ?_
      refine f_lald X g0.1 (fw.get hO (i := (0, 0)) (Or.inl rfl) rfl rfl) (x := 0) (show vp_in (nI 0) 1 from vp_in_nI (by omega) (by omega)) dL_law_1140 ?_
      rw [show f1 (0 : Int32).toNatClampNeg = (fDayOf σ (xs (i + 1))).1.toInt64 from hf1 c_2]
      refine lv_iload X.ex X.co dL_law_1141 (lv_at hl 0 rfl) ?_
      refine lv_i2l X.ex X.co dL_law_1143 rfl ?_
      refine w_lcmp X dL_law_1144 ?_
      refine lv_if_eq (tgt := 1150) X.ex X.co dL_law_1145 (by decide) (fun c_3 => ?_) (fun c_3 => ?_)
      · refine lv_goto (tgt := 2348) X.ex X.co dL_law_1150 (by decide) ?_
        have hQ2 : Qs (fDayOf σ (xs (i + 1))).2 := by
          unfold fDayOf
          repeat' split
          all_goals first | exact hQ | exact hQ.e _ | exact hQ.z _
        exact kk (fDayOf σ (xs (i + 1))).2 f1 f2 H locs ls _ _ ⟨hQ2, hM, hCB, hfr, hO⟩ hS (lv_sub hl [2, 3, 4, 5, 6, 7] rfl) (by omega) (by omega)
      · exact absurd (by decide) c_3
  · exact absurd rfl c_1
set_option maxHeartbeats 4000000 in
set_option maxRecDepth 100000 in
theorem law_15 (hst : l.stackTraces = false) (hAc : ∀ q, Ac q → gA G q) (hAm : ∀ q, Am q → gA G q) (hA3 : ∀ q, (fun q => Ac q ∨ AO q ∨ Am q) q → gA G q) (d1 : ∀ q, Ac q → ¬ AO q) (d2 : ∀ q, Ac q → ¬ Am q) (d3 : ∀ q, Am q → ¬ AO q) (X : CF p s m args meth c cL_law 9 "CourseForgeLaw" (some .boolean)) (g0 : GG G s s.heap) (hX : va_X b L xs s s.heap) (hbl : b < s.heap.size) (hbA : ¬ (fun q => Ac q ∨ AO q ∨ Am q) b) (hR9 : 20 ≤ hR) (hi : i + 5 ≤ L) (hL : L ≤ 2560) (W0 : lawW G Ac Am AO x mad oad ρ f f2 H) (hS : va_S (fun q => Ac q ∨ AO q ∨ Am q) s.heap H locs) (hl : lv_has ls 9 [(0, .ref b), (1, .ref x), (2, .ref (mad (0, 0))), (3, .ref (oad (0, 0))), (4, .ref (oad (0, 1))), (5, .int (nI i))]) (h1 : cells + 110 ≤ rc) (h2 : slots + 2210 ≤ rs)
    (kk : ∀ (ρ : Sg) (f : Nat → Int64) (f2 : Nat → UInt64) (H : Heap) (locs : List Loc) (ls : Array Slot) (cells1 slots1 : Nat), lawW G Ac Am AO x mad oad ρ f f2 H → va_S (fun q => Ac q ∨ AO q ∨ Am q) s.heap H locs → lv_has ls 9 [(0, .ref b), (1, .ref x), (2, .ref (mad (0, 0))), (3, .ref (oad (0, 0))), (4, .ref (oad (0, 1))), (5, .int (nI i))] → cells1 ≤ cells + 110 → slots1 ≤ slots + 2210 → W p l e (RM hR rc rs) s m args below meth c H locs cells1 slots1 Q (F0 m 2348 ls [])) :
    W p l e (RM hR rc rs) s m args below meth c H locs cells slots Q (F0 m 1153 ls []) := by
  obtain ⟨hQ0, hM, hCB0, hfr, hO⟩ := W0
  obtain ⟨σ, hσ⟩ : ∃ σ, σ = sN ρ 0 0 0 := ⟨_, rfl⟩
  have hQ : Qs σ := by rw [hσ]; exact hQ0.z 0
  have h0 : σ.1 0 0 = 0 := by rw [hσ]; rfl
  have hCB : CB G Ac x σ H := by rw [hσ]; exact CB_0 0 hCB0
  obtain ⟨fsB, hfB⟩ := CB_at hCB
  refine lv_aload_n X.ex X.co dL_law_1153 rfl (lv_at hl 1 rfl) ?_
  refine lv_aload_n X.ex X.co dL_law_1154 rfl (lv_at hl 0 rfl) ?_
  refine lv_iload X.ex X.co dL_law_1155 (lv_at hl 5 rfl) ?_
  refine lv_iconst (v := 1) X.ex X.co dL_law_1157 (by decide) ?_
  refine n_add X (x := i) (y := 1) dL_law_1158 ?_
  refine va_sld X.ex X.co hX hbl hbA hS (i := nI (i + 1)) (vp_in_nI (show i + 1 < L by omega) (by omega)) dL_law_1159 ?_
  rw [nI_clamp (show i + 1 < 2 ^ 31 by omega)]
  refine lv_aload_n X.ex X.co dL_law_1160 rfl (lv_at hl 0 rfl) ?_
  refine lv_iload X.ex X.co dL_law_1161 (lv_at hl 5 rfl) ?_
  refine lv_iconst (v := 2) X.ex X.co dL_law_1163 (by decide) ?_
  refine n_add X (x := i) (y := 2) dL_law_1164 ?_
  refine va_sld X.ex X.co hX hbl hbA hS (i := nI (i + 2)) (vp_in_nI (show i + 2 < L by omega) (by omega)) dL_law_1165 ?_
  rw [nI_clamp (show i + 2 < 2 ^ 31 by omega)]
  refine lv_aload_n X.ex X.co dL_law_1166 rfl (lv_at hl 3 rfl) ?_
  refine w_cS (n := 4) X m_817 m_0 m_816 ⟨by decide, by decide, by decide +kernel⟩ (by decide) m_815 (c_L_bestAnswer l hst G Ac AO hAc d1 x σ hQ.1 hQ.2 h0 (xs (i + 1)) (xs (i + 2)) lvO oad (enO G f f2) (0, 0) (Or.inl rfl) (oad (0, 0)) rfl f rfl) (g0.step hS hA3) ⟨⟨hCB, hfr⟩, hO⟩ (by omega) rfl hl.1 rfl (Nat.le_of_ble_eq_true rfl) dL_law_1167 (by omega) (by omega) hS (fun q h => h.elim Or.inl (fun z => Or.inr (Or.inl z))) (fun v0 H locs hB hz hk9 hS => ?_)
  obtain ⟨rfl, hCB, hle9, f1, hO, hf1⟩ := hB
  have hM := fw.kept hM (fun j hj => hk9 _ (fw.lt hM hj) (fun z => z.elim (fun z => d2 _ z (fw.in hM hj)) (fun z => d3 _ (fw.in hM hj) z)))
  have hO := enO_0 hO
  have hfr : ∀ q, H.size ≤ q → Ac q := fun q hq => hfr q (Nat.le_trans hz hq)
  refine lv_istore (lv' := [(6, .int (nI ((fBestAnswer σ (xs (i + 1)) (xs (i + 2))).2.1 0 0))), (0, .ref b), (1, .ref x), (2, .ref (mad (0, 0))), (3, .ref (oad (0, 0))), (4, .ref (oad (0, 1))), (5, .int (nI i))]) X.ex X.co dL_law_1170 hl (by decide) rfl (fun ls hl => ?_)
  refine lv_aload_n X.ex X.co dL_law_1172 rfl (lv_at hl 3 rfl) ?_
  refine lv_aload_n X.ex X.co dL_law_1173 rfl (lv_at hl 1 rfl) ?_
  refine lv_iload X.ex X.co dL_law_1174 (lv_at hl 6 rfl) ?_
  refine lv_iconst (v := 1) X.ex X.co dL_law_1176 (by decide) ?_
  refine n_add X (x := i) (y := 1) dL_law_1177 ?_
  refine va_sld X.ex X.co hX hbl hbA hS (i := nI (i + 1)) (vp_in_nI (show i + 1 < L by omega) (by omega)) dL_law_1178 ?_
  rw [nI_clamp (show i + 1 < 2 ^ 31 by omega)]
  refine lv_aload_n X.ex X.co dL_law_1179 rfl (lv_at hl 1 rfl) ?_
  refine lv_iload X.ex X.co dL_law_1180 (lv_at hl 6 rfl) ?_
  refine lv_iconst (v := 2) X.ex X.co dL_law_1182 (by decide) ?_
  refine n_add X (x := i) (y := 2) dL_law_1183 ?_
  refine va_sld X.ex X.co hX hbl hbA hS (i := nI (i + 2)) (vp_in_nI (show i + 2 < L by omega) (by omega)) dL_law_1184 ?_
  rw [nI_clamp (show i + 2 < 2 ^ 31 by omega)]
  refine q_eV X ce_X10_bestAnswer m_1613 (c_X10_bestAnswer l G mad Am hAm ρ σ hσ hQ.1 (xs (i + 1)) (xs (i + 2))) (g0.step hS hA3) hM (mo hM) rfl (by omega) rfl hl.1 rfl (Nat.le_of_ble_eq_true rfl) dL_law_1185 (by omega) (by omega) hS (fun q h => Or.inr (Or.inr h)) (fun H locs hM hz hk9 hS => ?_)
  have hCB := CB.keptS hCB hk9 d2
  have hO := fw.kept hO (fun j hj => hk9 _ (fw.lt hO hj) (fun z => d3 _ z (fw.in hO hj)))
  have hfr : ∀ q, H.size ≤ q → Ac q := fun q hq => hfr q (Nat.le_trans hz hq)
  refine lv_istore (lv' := [(7, .int ((fBestAnswer σ (xs (i + 1)) (xs (i + 2))).1)), (6, .int (nI ((fBestAnswer σ (xs (i + 1)) (xs (i + 2))).2.1 0 0))), (0, .ref b), (1, .ref x), (2, .ref (mad (0, 0))), (3, .ref (oad (0, 0))), (4, .ref (oad (0, 1))), (5, .int (nI i))]) X.ex X.co dL_law_1188 hl (by decide) rfl (fun ls hl => ?_)
  refine lv_aload_n X.ex X.co dL_law_1190 rfl (lv_at hl 4 rfl) ?_
  refine q_rV X ce_X10_thrown m_1486 (c_X10_thrown l G mad Am (fBestAnswer σ (xs (i + 1)) (xs (i + 2))).2) (g0.step hS hA3) hM (mo hM) rfl (by omega) rfl hl.1 rfl (Nat.le_of_ble_eq_true rfl) dL_law_1191 (by omega) (by omega) ?_
  refine lv_iload X.ex X.co dL_law_1194 (lv_at hl 1 rfl) ?_
  refine n_cmp_eq X (x := ((fBestAnswer σ (xs (i + 1)) (xs (i + 2))).2.1 0 0)) (y := ((fBestAnswer σ (xs (i + 1)) (xs (i + 2))).2.1 0 0)) (tgt := 1201) (by omega) (by omega) dL_law_1196 (by decide) (fun c_1 => ?_) (fun c_1 => ?_)
  · refine lv_iload X.ex X.co dL_law_1201 (lv_at hl 1 rfl) ?_
    refine n_if_ne X (x := ((fBestAnswer σ (xs (i + 1)) (xs (i + 2))).2.1 0 0)) (tgt := 1218) (by omega) dL_law_1203 (by decide) (fun c_2 => ?_) (fun c_2 => ?_)
    · refine lv_goto (tgt := 2348) X.ex X.co dL_law_1218 (by decide) ?_
      have hQ2 : Qs (fBestAnswer σ (xs (i + 1)) (xs (i + 2))).2 := by
        unfold fBestAnswer
        repeat' split
        all_goals first | exact hQ | exact hQ.e _ | exact hQ.z _
      exact kk (fBestAnswer σ (xs (i + 1)) (xs (i + 2))).2 f1 f2 H locs ls _ _ ⟨hQ2, hM, hCB, hfr, hO⟩ hS (lv_sub hl [2, 3, 4, 5, 6, 7] rfl) (by omega) (by omega)
    · refine lv_aload_n X.ex X.co dL_law_1206 rfl (lv_at hl 5 rfl) ?_
      refine lv_iconst (v := 0) X.ex X.co dL_law_1207 (by decide) ?_
      refine f_lald X g0.1 (fw.get hO (i := (0, 0)) (Or.inl rfl) rfl rfl) (x := 0) (show vp_in (nI 0) 1 from vp_in_nI (by omega) (by omega)) dL_law_1208 ?_
      rw [show f1 (0 : Int32).toNatClampNeg = (fBestAnswer σ (xs (i + 1)) (xs (i + 2))).1.toInt64 from hf1 c_2]
      refine lv_iload X.ex X.co dL_law_1209 (lv_at hl 0 rfl) ?_
      refine lv_i2l X.ex X.co dL_law_1211 rfl ?_
      refine w_lcmp X dL_law_1212 ?_
      refine lv_if_eq (tgt := 1218) X.ex X.co dL_law_1213 (by decide) (fun c_3 => ?_) (fun c_3 => ?_)
      · refine lv_goto (tgt := 2348) X.ex X.co dL_law_1218 (by decide) ?_
        have hQ2 : Qs (fBestAnswer σ (xs (i + 1)) (xs (i + 2))).2 := by
          unfold fBestAnswer
          repeat' split
          all_goals first | exact hQ | exact hQ.e _ | exact hQ.z _
        exact kk (fBestAnswer σ (xs (i + 1)) (xs (i + 2))).2 f1 f2 H locs ls _ _ ⟨hQ2, hM, hCB, hfr, hO⟩ hS (lv_sub hl [2, 3, 4, 5, 6, 7] rfl) (by omega) (by omega)
      · exact absurd (by decide) c_3
  · exact absurd rfl c_1
set_option maxHeartbeats 4000000 in
set_option maxRecDepth 100000 in
theorem law_16 (hst : l.stackTraces = false) (hAc : ∀ q, Ac q → gA G q) (hAm : ∀ q, Am q → gA G q) (hA3 : ∀ q, (fun q => Ac q ∨ AO q ∨ Am q) q → gA G q) (d1 : ∀ q, Ac q → ¬ AO q) (d2 : ∀ q, Ac q → ¬ Am q) (d3 : ∀ q, Am q → ¬ AO q) (X : CF p s m args meth c cL_law 9 "CourseForgeLaw" (some .boolean)) (g0 : GG G s s.heap) (hX : va_X b L xs s s.heap) (hbl : b < s.heap.size) (hbA : ¬ (fun q => Ac q ∨ AO q ∨ Am q) b) (hR9 : 20 ≤ hR) (hi : i + 5 ≤ L) (hL : L ≤ 2560) (W0 : lawW G Ac Am AO x mad oad ρ f f2 H) (hS : va_S (fun q => Ac q ∨ AO q ∨ Am q) s.heap H locs) (hl : lv_has ls 9 [(0, .ref b), (1, .ref x), (2, .ref (mad (0, 0))), (3, .ref (oad (0, 0))), (4, .ref (oad (0, 1))), (5, .int (nI i))]) (h1 : cells + 110 ≤ rc) (h2 : slots + 2210 ≤ rs)
    (kk : ∀ (ρ : Sg) (f : Nat → Int64) (f2 : Nat → UInt64) (H : Heap) (locs : List Loc) (ls : Array Slot) (cells1 slots1 : Nat), lawW G Ac Am AO x mad oad ρ f f2 H → va_S (fun q => Ac q ∨ AO q ∨ Am q) s.heap H locs → lv_has ls 9 [(0, .ref b), (1, .ref x), (2, .ref (mad (0, 0))), (3, .ref (oad (0, 0))), (4, .ref (oad (0, 1))), (5, .int (nI i))] → cells1 ≤ cells + 110 → slots1 ≤ slots + 2210 → W p l e (RM hR rc rs) s m args below meth c H locs cells1 slots1 Q (F0 m 2348 ls [])) :
    W p l e (RM hR rc rs) s m args below meth c H locs cells slots Q (F0 m 1221 ls []) := by
  obtain ⟨hQ0, hM, hCB0, hfr, hO⟩ := W0
  obtain ⟨σ, hσ⟩ : ∃ σ, σ = sN ρ 0 0 0 := ⟨_, rfl⟩
  have hQ : Qs σ := by rw [hσ]; exact hQ0.z 0
  have h0 : σ.1 0 0 = 0 := by rw [hσ]; rfl
  have hCB : CB G Ac x σ H := by rw [hσ]; exact CB_0 0 hCB0
  obtain ⟨fsB, hfB⟩ := CB_at hCB
  refine lv_aload_n X.ex X.co dL_law_1221 rfl (lv_at hl 1 rfl) ?_
  refine lv_aload_n X.ex X.co dL_law_1222 rfl (lv_at hl 0 rfl) ?_
  refine lv_iload X.ex X.co dL_law_1223 (lv_at hl 5 rfl) ?_
  refine lv_iconst (v := 1) X.ex X.co dL_law_1225 (by decide) ?_
  refine n_add X (x := i) (y := 1) dL_law_1226 ?_
  refine va_sld X.ex X.co hX hbl hbA hS (i := nI (i + 1)) (vp_in_nI (show i + 1 < L by omega) (by omega)) dL_law_1227 ?_
  rw [nI_clamp (show i + 1 < 2 ^ 31 by omega)]
  refine lv_aload_n X.ex X.co dL_law_1228 rfl (lv_at hl 0 rfl) ?_
  refine lv_iload X.ex X.co dL_law_1229 (lv_at hl 5 rfl) ?_
  refine lv_iconst (v := 2) X.ex X.co dL_law_1231 (by decide) ?_
  refine n_add X (x := i) (y := 2) dL_law_1232 ?_
  refine va_sld X.ex X.co hX hbl hbA hS (i := nI (i + 2)) (vp_in_nI (show i + 2 < L by omega) (by omega)) dL_law_1233 ?_
  rw [nI_clamp (show i + 2 < 2 ^ 31 by omega)]
  refine lv_aload_n X.ex X.co dL_law_1234 rfl (lv_at hl 3 rfl) ?_
  refine w_cS (n := 4) X m_826 m_0 m_825 ⟨by decide, by decide, by decide +kernel⟩ (by decide) m_824 (c_L_mastery l hst G Ac AO hAc d1 x σ hQ.1 hQ.2 h0 (xs (i + 1)) (xs (i + 2)) lvO oad (enO G f f2) (0, 0) (Or.inl rfl) (oad (0, 0)) rfl f rfl) (g0.step hS hA3) ⟨⟨hCB, hfr⟩, hO⟩ (by omega) rfl hl.1 rfl (Nat.le_of_ble_eq_true rfl) dL_law_1235 (by omega) (by omega) hS (fun q h => h.elim Or.inl (fun z => Or.inr (Or.inl z))) (fun v0 H locs hB hz hk9 hS => ?_)
  obtain ⟨rfl, hCB, hle9, f1, hO, hf1⟩ := hB
  have hM := fw.kept hM (fun j hj => hk9 _ (fw.lt hM hj) (fun z => z.elim (fun z => d2 _ z (fw.in hM hj)) (fun z => d3 _ (fw.in hM hj) z)))
  have hO := enO_0 hO
  have hfr : ∀ q, H.size ≤ q → Ac q := fun q hq => hfr q (Nat.le_trans hz hq)
  refine lv_istore (lv' := [(6, .int (nI ((fMastery σ (xs (i + 1)) (xs (i + 2))).2.1 0 0))), (0, .ref b), (1, .ref x), (2, .ref (mad (0, 0))), (3, .ref (oad (0, 0))), (4, .ref (oad (0, 1))), (5, .int (nI i))]) X.ex X.co dL_law_1238 hl (by decide) rfl (fun ls hl => ?_)
  refine lv_aload_n X.ex X.co dL_law_1240 rfl (lv_at hl 3 rfl) ?_
  refine lv_aload_n X.ex X.co dL_law_1241 rfl (lv_at hl 1 rfl) ?_
  refine lv_iload X.ex X.co dL_law_1242 (lv_at hl 6 rfl) ?_
  refine lv_iconst (v := 1) X.ex X.co dL_law_1244 (by decide) ?_
  refine n_add X (x := i) (y := 1) dL_law_1245 ?_
  refine va_sld X.ex X.co hX hbl hbA hS (i := nI (i + 1)) (vp_in_nI (show i + 1 < L by omega) (by omega)) dL_law_1246 ?_
  rw [nI_clamp (show i + 1 < 2 ^ 31 by omega)]
  refine lv_aload_n X.ex X.co dL_law_1247 rfl (lv_at hl 1 rfl) ?_
  refine lv_iload X.ex X.co dL_law_1248 (lv_at hl 6 rfl) ?_
  refine lv_iconst (v := 2) X.ex X.co dL_law_1250 (by decide) ?_
  refine n_add X (x := i) (y := 2) dL_law_1251 ?_
  refine va_sld X.ex X.co hX hbl hbA hS (i := nI (i + 2)) (vp_in_nI (show i + 2 < L by omega) (by omega)) dL_law_1252 ?_
  rw [nI_clamp (show i + 2 < 2 ^ 31 by omega)]
  refine q_eV X ce_X10_mastery m_1617 (c_X10_mastery l G mad Am hAm ρ σ hσ hQ.1 (xs (i + 1)) (xs (i + 2))) (g0.step hS hA3) hM (mo hM) rfl (by omega) rfl hl.1 rfl (Nat.le_of_ble_eq_true rfl) dL_law_1253 (by omega) (by omega) hS (fun q h => Or.inr (Or.inr h)) (fun H locs hM hz hk9 hS => ?_)
  have hCB := CB.keptS hCB hk9 d2
  have hO := fw.kept hO (fun j hj => hk9 _ (fw.lt hO hj) (fun z => d3 _ z (fw.in hO hj)))
  have hfr : ∀ q, H.size ≤ q → Ac q := fun q hq => hfr q (Nat.le_trans hz hq)
  refine lv_istore (lv' := [(7, .int ((fMastery σ (xs (i + 1)) (xs (i + 2))).1)), (6, .int (nI ((fMastery σ (xs (i + 1)) (xs (i + 2))).2.1 0 0))), (0, .ref b), (1, .ref x), (2, .ref (mad (0, 0))), (3, .ref (oad (0, 0))), (4, .ref (oad (0, 1))), (5, .int (nI i))]) X.ex X.co dL_law_1256 hl (by decide) rfl (fun ls hl => ?_)
  refine lv_aload_n X.ex X.co dL_law_1258 rfl (lv_at hl 4 rfl) ?_
  refine q_rV X ce_X10_thrown m_1486 (c_X10_thrown l G mad Am (fMastery σ (xs (i + 1)) (xs (i + 2))).2) (g0.step hS hA3) hM (mo hM) rfl (by omega) rfl hl.1 rfl (Nat.le_of_ble_eq_true rfl) dL_law_1259 (by omega) (by omega) ?_
  refine lv_iload X.ex X.co dL_law_1262 (lv_at hl 1 rfl) ?_
  refine n_cmp_eq X (x := ((fMastery σ (xs (i + 1)) (xs (i + 2))).2.1 0 0)) (y := ((fMastery σ (xs (i + 1)) (xs (i + 2))).2.1 0 0)) (tgt := 1269) (by omega) (by omega) dL_law_1264 (by decide) (fun c_1 => ?_) (fun c_1 => ?_)
  · refine lv_iload X.ex X.co dL_law_1269 (lv_at hl 1 rfl) ?_
    refine n_if_ne X (x := ((fMastery σ (xs (i + 1)) (xs (i + 2))).2.1 0 0)) (tgt := 1286) (by omega) dL_law_1271 (by decide) (fun c_2 => ?_) (fun c_2 => ?_)
    · refine lv_goto (tgt := 2348) X.ex X.co dL_law_1286 (by decide) ?_
      have hQ2 : Qs (fMastery σ (xs (i + 1)) (xs (i + 2))).2 := by
        unfold fMastery
        repeat' split
        all_goals first | exact hQ | exact hQ.e _ | exact hQ.z _
      exact kk (fMastery σ (xs (i + 1)) (xs (i + 2))).2 f1 f2 H locs ls _ _ ⟨hQ2, hM, hCB, hfr, hO⟩ hS (lv_sub hl [2, 3, 4, 5, 6, 7] rfl) (by omega) (by omega)
    · refine lv_aload_n X.ex X.co dL_law_1274 rfl (lv_at hl 5 rfl) ?_
      refine lv_iconst (v := 0) X.ex X.co dL_law_1275 (by decide) ?_
      refine f_lald X g0.1 (fw.get hO (i := (0, 0)) (Or.inl rfl) rfl rfl) (x := 0) (show vp_in (nI 0) 1 from vp_in_nI (by omega) (by omega)) dL_law_1276 ?_
      rw [show f1 (0 : Int32).toNatClampNeg = (fMastery σ (xs (i + 1)) (xs (i + 2))).1.toInt64 from hf1 c_2]
      refine lv_iload X.ex X.co dL_law_1277 (lv_at hl 0 rfl) ?_
      refine lv_i2l X.ex X.co dL_law_1279 rfl ?_
      refine w_lcmp X dL_law_1280 ?_
      refine lv_if_eq (tgt := 1286) X.ex X.co dL_law_1281 (by decide) (fun c_3 => ?_) (fun c_3 => ?_)
      · refine lv_goto (tgt := 2348) X.ex X.co dL_law_1286 (by decide) ?_
        have hQ2 : Qs (fMastery σ (xs (i + 1)) (xs (i + 2))).2 := by
          unfold fMastery
          repeat' split
          all_goals first | exact hQ | exact hQ.e _ | exact hQ.z _
        exact kk (fMastery σ (xs (i + 1)) (xs (i + 2))).2 f1 f2 H locs ls _ _ ⟨hQ2, hM, hCB, hfr, hO⟩ hS (lv_sub hl [2, 3, 4, 5, 6, 7] rfl) (by omega) (by omega)
      · exact absurd (by decide) c_3
  · exact absurd rfl c_1
set_option maxHeartbeats 4000000 in
set_option maxRecDepth 100000 in
theorem law_17 (hst : l.stackTraces = false) (hAc : ∀ q, Ac q → gA G q) (hAm : ∀ q, Am q → gA G q) (hA3 : ∀ q, (fun q => Ac q ∨ AO q ∨ Am q) q → gA G q) (d1 : ∀ q, Ac q → ¬ AO q) (d2 : ∀ q, Ac q → ¬ Am q) (d3 : ∀ q, Am q → ¬ AO q) (X : CF p s m args meth c cL_law 9 "CourseForgeLaw" (some .boolean)) (g0 : GG G s s.heap) (hX : va_X b L xs s s.heap) (hbl : b < s.heap.size) (hbA : ¬ (fun q => Ac q ∨ AO q ∨ Am q) b) (hR9 : 20 ≤ hR) (hi : i + 5 ≤ L) (hL : L ≤ 2560) (W0 : lawW G Ac Am AO x mad oad ρ f f2 H) (hS : va_S (fun q => Ac q ∨ AO q ∨ Am q) s.heap H locs) (hl : lv_has ls 9 [(0, .ref b), (1, .ref x), (2, .ref (mad (0, 0))), (3, .ref (oad (0, 0))), (4, .ref (oad (0, 1))), (5, .int (nI i))]) (h1 : cells + 110 ≤ rc) (h2 : slots + 2210 ≤ rs)
    (kk : ∀ (ρ : Sg) (f : Nat → Int64) (f2 : Nat → UInt64) (H : Heap) (locs : List Loc) (ls : Array Slot) (cells1 slots1 : Nat), lawW G Ac Am AO x mad oad ρ f f2 H → va_S (fun q => Ac q ∨ AO q ∨ Am q) s.heap H locs → lv_has ls 9 [(0, .ref b), (1, .ref x), (2, .ref (mad (0, 0))), (3, .ref (oad (0, 0))), (4, .ref (oad (0, 1))), (5, .int (nI i))] → cells1 ≤ cells + 110 → slots1 ≤ slots + 2210 → W p l e (RM hR rc rs) s m args below meth c H locs cells1 slots1 Q (F0 m 2348 ls [])) :
    W p l e (RM hR rc rs) s m args below meth c H locs cells slots Q (F0 m 1289 ls []) := by
  obtain ⟨hQ0, hM, hCB0, hfr, hO⟩ := W0
  obtain ⟨σ, hσ⟩ : ∃ σ, σ = sN ρ 0 0 0 := ⟨_, rfl⟩
  have hQ : Qs σ := by rw [hσ]; exact hQ0.z 0
  have h0 : σ.1 0 0 = 0 := by rw [hσ]; rfl
  have hCB : CB G Ac x σ H := by rw [hσ]; exact CB_0 0 hCB0
  obtain ⟨fsB, hfB⟩ := CB_at hCB
  refine lv_aload_n X.ex X.co dL_law_1289 rfl (lv_at hl 1 rfl) ?_
  refine lv_aload_n X.ex X.co dL_law_1290 rfl (lv_at hl 0 rfl) ?_
  refine lv_iload X.ex X.co dL_law_1291 (lv_at hl 5 rfl) ?_
  refine lv_iconst (v := 1) X.ex X.co dL_law_1293 (by decide) ?_
  refine n_add X (x := i) (y := 1) dL_law_1294 ?_
  refine va_sld X.ex X.co hX hbl hbA hS (i := nI (i + 1)) (vp_in_nI (show i + 1 < L by omega) (by omega)) dL_law_1295 ?_
  rw [nI_clamp (show i + 1 < 2 ^ 31 by omega)]
  refine lv_aload_n X.ex X.co dL_law_1296 rfl (lv_at hl 0 rfl) ?_
  refine lv_iload X.ex X.co dL_law_1297 (lv_at hl 5 rfl) ?_
  refine lv_iconst (v := 2) X.ex X.co dL_law_1299 (by decide) ?_
  refine n_add X (x := i) (y := 2) dL_law_1300 ?_
  refine va_sld X.ex X.co hX hbl hbA hS (i := nI (i + 2)) (vp_in_nI (show i + 2 < L by omega) (by omega)) dL_law_1301 ?_
  rw [nI_clamp (show i + 2 < 2 ^ 31 by omega)]
  refine lv_aload_n X.ex X.co dL_law_1302 rfl (lv_at hl 3 rfl) ?_
  refine w_cS (n := 4) X m_833 m_0 m_832 ⟨by decide, by decide, by decide +kernel⟩ (by decide) m_831 (c_L_masteryAnew l hst G Ac AO hAc d1 x σ hQ.1 hQ.2 h0 (xs (i + 1)) (xs (i + 2)) lvO oad (enO G f f2) (0, 0) (Or.inl rfl) (oad (0, 0)) rfl f rfl) (g0.step hS hA3) ⟨⟨hCB, hfr⟩, hO⟩ (by omega) rfl hl.1 rfl (Nat.le_of_ble_eq_true rfl) dL_law_1303 (by omega) (by omega) hS (fun q h => h.elim Or.inl (fun z => Or.inr (Or.inl z))) (fun v0 H locs hB hz hk9 hS => ?_)
  obtain ⟨rfl, hCB, hle9, f1, hO, hf1⟩ := hB
  have hM := fw.kept hM (fun j hj => hk9 _ (fw.lt hM hj) (fun z => z.elim (fun z => d2 _ z (fw.in hM hj)) (fun z => d3 _ (fw.in hM hj) z)))
  have hO := enO_0 hO
  have hfr : ∀ q, H.size ≤ q → Ac q := fun q hq => hfr q (Nat.le_trans hz hq)
  refine lv_istore (lv' := [(6, .int (nI ((fMastery σ (xs (i + 1)) (xs (i + 2))).2.1 0 0))), (0, .ref b), (1, .ref x), (2, .ref (mad (0, 0))), (3, .ref (oad (0, 0))), (4, .ref (oad (0, 1))), (5, .int (nI i))]) X.ex X.co dL_law_1306 hl (by decide) rfl (fun ls hl => ?_)
  refine lv_aload_n X.ex X.co dL_law_1308 rfl (lv_at hl 3 rfl) ?_
  refine lv_aload_n X.ex X.co dL_law_1309 rfl (lv_at hl 1 rfl) ?_
  refine lv_iload X.ex X.co dL_law_1310 (lv_at hl 6 rfl) ?_
  refine lv_iconst (v := 1) X.ex X.co dL_law_1312 (by decide) ?_
  refine n_add X (x := i) (y := 1) dL_law_1313 ?_
  refine va_sld X.ex X.co hX hbl hbA hS (i := nI (i + 1)) (vp_in_nI (show i + 1 < L by omega) (by omega)) dL_law_1314 ?_
  rw [nI_clamp (show i + 1 < 2 ^ 31 by omega)]
  refine lv_aload_n X.ex X.co dL_law_1315 rfl (lv_at hl 1 rfl) ?_
  refine lv_iload X.ex X.co dL_law_1316 (lv_at hl 6 rfl) ?_
  refine lv_iconst (v := 2) X.ex X.co dL_law_1318 (by decide) ?_
  refine n_add X (x := i) (y := 2) dL_law_1319 ?_
  refine va_sld X.ex X.co hX hbl hbA hS (i := nI (i + 2)) (vp_in_nI (show i + 2 < L by omega) (by omega)) dL_law_1320 ?_
  rw [nI_clamp (show i + 2 < 2 ^ 31 by omega)]
  refine q_eV X ce_X10_masteryAnew m_1621 (c_X10_masteryAnew l G mad Am hAm ρ σ hσ hQ.1 (xs (i + 1)) (xs (i + 2))) (g0.step hS hA3) hM (mo hM) rfl (by omega) rfl hl.1 rfl (Nat.le_of_ble_eq_true rfl) dL_law_1321 (by omega) (by omega) hS (fun q h => Or.inr (Or.inr h)) (fun H locs hM hz hk9 hS => ?_)
  have hCB := CB.keptS hCB hk9 d2
  have hO := fw.kept hO (fun j hj => hk9 _ (fw.lt hO hj) (fun z => d3 _ z (fw.in hO hj)))
  have hfr : ∀ q, H.size ≤ q → Ac q := fun q hq => hfr q (Nat.le_trans hz hq)
  refine lv_istore (lv' := [(7, .int ((fMastery σ (xs (i + 1)) (xs (i + 2))).1)), (6, .int (nI ((fMastery σ (xs (i + 1)) (xs (i + 2))).2.1 0 0))), (0, .ref b), (1, .ref x), (2, .ref (mad (0, 0))), (3, .ref (oad (0, 0))), (4, .ref (oad (0, 1))), (5, .int (nI i))]) X.ex X.co dL_law_1324 hl (by decide) rfl (fun ls hl => ?_)
  refine lv_aload_n X.ex X.co dL_law_1326 rfl (lv_at hl 4 rfl) ?_
  refine q_rV X ce_X10_thrown m_1486 (c_X10_thrown l G mad Am (fMastery σ (xs (i + 1)) (xs (i + 2))).2) (g0.step hS hA3) hM (mo hM) rfl (by omega) rfl hl.1 rfl (Nat.le_of_ble_eq_true rfl) dL_law_1327 (by omega) (by omega) ?_
  refine lv_iload X.ex X.co dL_law_1330 (lv_at hl 1 rfl) ?_
  refine n_cmp_eq X (x := ((fMastery σ (xs (i + 1)) (xs (i + 2))).2.1 0 0)) (y := ((fMastery σ (xs (i + 1)) (xs (i + 2))).2.1 0 0)) (tgt := 1337) (by omega) (by omega) dL_law_1332 (by decide) (fun c_1 => ?_) (fun c_1 => ?_)
  · refine lv_iload X.ex X.co dL_law_1337 (lv_at hl 1 rfl) ?_
    refine n_if_ne X (x := ((fMastery σ (xs (i + 1)) (xs (i + 2))).2.1 0 0)) (tgt := 1354) (by omega) dL_law_1339 (by decide) (fun c_2 => ?_) (fun c_2 => ?_)
    · refine lv_goto (tgt := 2348) X.ex X.co dL_law_1354 (by decide) ?_
      have hQ2 : Qs (fMastery σ (xs (i + 1)) (xs (i + 2))).2 := by
        unfold fMastery
        repeat' split
        all_goals first | exact hQ | exact hQ.e _ | exact hQ.z _
      exact kk (fMastery σ (xs (i + 1)) (xs (i + 2))).2 f1 f2 H locs ls _ _ ⟨hQ2, hM, hCB, hfr, hO⟩ hS (lv_sub hl [2, 3, 4, 5, 6, 7] rfl) (by omega) (by omega)
    · refine lv_aload_n X.ex X.co dL_law_1342 rfl (lv_at hl 5 rfl) ?_
      refine lv_iconst (v := 0) X.ex X.co dL_law_1343 (by decide) ?_
      refine f_lald X g0.1 (fw.get hO (i := (0, 0)) (Or.inl rfl) rfl rfl) (x := 0) (show vp_in (nI 0) 1 from vp_in_nI (by omega) (by omega)) dL_law_1344 ?_
      rw [show f1 (0 : Int32).toNatClampNeg = (fMastery σ (xs (i + 1)) (xs (i + 2))).1.toInt64 from hf1 c_2]
      refine lv_iload X.ex X.co dL_law_1345 (lv_at hl 0 rfl) ?_
      refine lv_i2l X.ex X.co dL_law_1347 rfl ?_
      refine w_lcmp X dL_law_1348 ?_
      refine lv_if_eq (tgt := 1354) X.ex X.co dL_law_1349 (by decide) (fun c_3 => ?_) (fun c_3 => ?_)
      · refine lv_goto (tgt := 2348) X.ex X.co dL_law_1354 (by decide) ?_
        have hQ2 : Qs (fMastery σ (xs (i + 1)) (xs (i + 2))).2 := by
          unfold fMastery
          repeat' split
          all_goals first | exact hQ | exact hQ.e _ | exact hQ.z _
        exact kk (fMastery σ (xs (i + 1)) (xs (i + 2))).2 f1 f2 H locs ls _ _ ⟨hQ2, hM, hCB, hfr, hO⟩ hS (lv_sub hl [2, 3, 4, 5, 6, 7] rfl) (by omega) (by omega)
      · exact absurd (by decide) c_3
  · exact absurd rfl c_1
set_option maxHeartbeats 4000000 in
set_option maxRecDepth 100000 in
theorem law_18 (hst : l.stackTraces = false) (hAc : ∀ q, Ac q → gA G q) (hAm : ∀ q, Am q → gA G q) (hA3 : ∀ q, (fun q => Ac q ∨ AO q ∨ Am q) q → gA G q) (d1 : ∀ q, Ac q → ¬ AO q) (d2 : ∀ q, Ac q → ¬ Am q) (d3 : ∀ q, Am q → ¬ AO q) (X : CF p s m args meth c cL_law 9 "CourseForgeLaw" (some .boolean)) (g0 : GG G s s.heap) (hX : va_X b L xs s s.heap) (hbl : b < s.heap.size) (hbA : ¬ (fun q => Ac q ∨ AO q ∨ Am q) b) (hR9 : 20 ≤ hR) (hi : i + 5 ≤ L) (hL : L ≤ 2560) (W0 : lawW G Ac Am AO x mad oad ρ f f2 H) (hS : va_S (fun q => Ac q ∨ AO q ∨ Am q) s.heap H locs) (hl : lv_has ls 9 [(0, .ref b), (1, .ref x), (2, .ref (mad (0, 0))), (3, .ref (oad (0, 0))), (4, .ref (oad (0, 1))), (5, .int (nI i))]) (h1 : cells + 110 ≤ rc) (h2 : slots + 2210 ≤ rs)
    (kk : ∀ (ρ : Sg) (f : Nat → Int64) (f2 : Nat → UInt64) (H : Heap) (locs : List Loc) (ls : Array Slot) (cells1 slots1 : Nat), lawW G Ac Am AO x mad oad ρ f f2 H → va_S (fun q => Ac q ∨ AO q ∨ Am q) s.heap H locs → lv_has ls 9 [(0, .ref b), (1, .ref x), (2, .ref (mad (0, 0))), (3, .ref (oad (0, 0))), (4, .ref (oad (0, 1))), (5, .int (nI i))] → cells1 ≤ cells + 110 → slots1 ≤ slots + 2210 → W p l e (RM hR rc rs) s m args below meth c H locs cells1 slots1 Q (F0 m 2348 ls [])) :
    W p l e (RM hR rc rs) s m args below meth c H locs cells slots Q (F0 m 1357 ls []) := by
  obtain ⟨hQ0, hM, hCB0, hfr, hO⟩ := W0
  obtain ⟨σ, hσ⟩ : ∃ σ, σ = sN ρ 0 0 0 := ⟨_, rfl⟩
  have hQ : Qs σ := by rw [hσ]; exact hQ0.z 0
  have h0 : σ.1 0 0 = 0 := by rw [hσ]; rfl
  have hCB : CB G Ac x σ H := by rw [hσ]; exact CB_0 0 hCB0
  obtain ⟨fsB, hfB⟩ := CB_at hCB
  refine lv_aload_n X.ex X.co dL_law_1357 rfl (lv_at hl 1 rfl) ?_
  refine lv_aload_n X.ex X.co dL_law_1358 rfl (lv_at hl 0 rfl) ?_
  refine lv_iload X.ex X.co dL_law_1359 (lv_at hl 5 rfl) ?_
  refine lv_iconst (v := 1) X.ex X.co dL_law_1361 (by decide) ?_
  refine n_add X (x := i) (y := 1) dL_law_1362 ?_
  refine va_sld X.ex X.co hX hbl hbA hS (i := nI (i + 1)) (vp_in_nI (show i + 1 < L by omega) (by omega)) dL_law_1363 ?_
  rw [nI_clamp (show i + 1 < 2 ^ 31 by omega)]
  refine lv_aload_n X.ex X.co dL_law_1364 rfl (lv_at hl 3 rfl) ?_
  refine w_cS (n := 3) X m_840 m_0 m_839 ⟨by decide, by decide, by decide +kernel⟩ (by decide) m_838 (c_L_appeal l hst G Ac AO hAc d1 x σ hQ.1 hQ.2 h0 (xs (i + 1)) lvO oad (enO G f f2) (0, 0) (Or.inl rfl) (oad (0, 0)) rfl f rfl) (g0.step hS hA3) ⟨⟨hCB, hfr⟩, hO⟩ (by omega) rfl hl.1 rfl (Nat.le_of_ble_eq_true rfl) dL_law_1365 (by omega) (by omega) hS (fun q h => h.elim Or.inl (fun z => Or.inr (Or.inl z))) (fun v0 H locs hB hz hk9 hS => ?_)
  obtain ⟨rfl, hCB, hle9, f1, hO, hf1⟩ := hB
  have hM := fw.kept hM (fun j hj => hk9 _ (fw.lt hM hj) (fun z => z.elim (fun z => d2 _ z (fw.in hM hj)) (fun z => d3 _ (fw.in hM hj) z)))
  have hO := enO_0 hO
  have hfr : ∀ q, H.size ≤ q → Ac q := fun q hq => hfr q (Nat.le_trans hz hq)
  refine lv_istore (lv' := [(6, .int (nI ((fAppeal σ (xs (i + 1))).2.1 0 0))), (0, .ref b), (1, .ref x), (2, .ref (mad (0, 0))), (3, .ref (oad (0, 0))), (4, .ref (oad (0, 1))), (5, .int (nI i))]) X.ex X.co dL_law_1368 hl (by decide) rfl (fun ls hl => ?_)
  refine lv_aload_n X.ex X.co dL_law_1370 rfl (lv_at hl 3 rfl) ?_
  refine lv_aload_n X.ex X.co dL_law_1371 rfl (lv_at hl 1 rfl) ?_
  refine lv_iload X.ex X.co dL_law_1372 (lv_at hl 6 rfl) ?_
  refine lv_iconst (v := 1) X.ex X.co dL_law_1374 (by decide) ?_
  refine n_add X (x := i) (y := 1) dL_law_1375 ?_
  refine va_sld X.ex X.co hX hbl hbA hS (i := nI (i + 1)) (vp_in_nI (show i + 1 < L by omega) (by omega)) dL_law_1376 ?_
  rw [nI_clamp (show i + 1 < 2 ^ 31 by omega)]
  refine q_eV X ce_X10_appeal m_1626 (c_X10_appeal l G mad Am hAm ρ σ hσ hQ.1 (xs (i + 1))) (g0.step hS hA3) hM (mo hM) rfl (by omega) rfl hl.1 rfl (Nat.le_of_ble_eq_true rfl) dL_law_1377 (by omega) (by omega) hS (fun q h => Or.inr (Or.inr h)) (fun H locs hM hz hk9 hS => ?_)
  have hCB := CB.keptS hCB hk9 d2
  have hO := fw.kept hO (fun j hj => hk9 _ (fw.lt hO hj) (fun z => d3 _ z (fw.in hO hj)))
  have hfr : ∀ q, H.size ≤ q → Ac q := fun q hq => hfr q (Nat.le_trans hz hq)
  refine lv_istore (lv' := [(7, .int ((fAppeal σ (xs (i + 1))).1)), (6, .int (nI ((fAppeal σ (xs (i + 1))).2.1 0 0))), (0, .ref b), (1, .ref x), (2, .ref (mad (0, 0))), (3, .ref (oad (0, 0))), (4, .ref (oad (0, 1))), (5, .int (nI i))]) X.ex X.co dL_law_1380 hl (by decide) rfl (fun ls hl => ?_)
  refine lv_aload_n X.ex X.co dL_law_1382 rfl (lv_at hl 4 rfl) ?_
  refine q_rV X ce_X10_thrown m_1486 (c_X10_thrown l G mad Am (fAppeal σ (xs (i + 1))).2) (g0.step hS hA3) hM (mo hM) rfl (by omega) rfl hl.1 rfl (Nat.le_of_ble_eq_true rfl) dL_law_1383 (by omega) (by omega) ?_
  refine lv_iload X.ex X.co dL_law_1386 (lv_at hl 1 rfl) ?_
  refine n_cmp_eq X (x := ((fAppeal σ (xs (i + 1))).2.1 0 0)) (y := ((fAppeal σ (xs (i + 1))).2.1 0 0)) (tgt := 1393) (by omega) (by omega) dL_law_1388 (by decide) (fun c_1 => ?_) (fun c_1 => ?_)
  · refine lv_iload X.ex X.co dL_law_1393 (lv_at hl 1 rfl) ?_
    refine n_if_ne X (x := ((fAppeal σ (xs (i + 1))).2.1 0 0)) (tgt := 1410) (by omega) dL_law_1395 (by decide) (fun c_2 => ?_) (fun c_2 => ?_)
    · refine lv_goto (tgt := 2348) X.ex X.co dL_law_1410 (by decide) ?_
      have hQ2 : Qs (fAppeal σ (xs (i + 1))).2 := pr_appeal hQ  (xs (i + 1))
      exact kk (fAppeal σ (xs (i + 1))).2 f1 f2 H locs ls _ _ ⟨hQ2, hM, hCB, hfr, hO⟩ hS (lv_sub hl [2, 3, 4, 5, 6, 7] rfl) (by omega) (by omega)
    · refine lv_aload_n X.ex X.co dL_law_1398 rfl (lv_at hl 5 rfl) ?_
      refine lv_iconst (v := 0) X.ex X.co dL_law_1399 (by decide) ?_
      refine f_lald X g0.1 (fw.get hO (i := (0, 0)) (Or.inl rfl) rfl rfl) (x := 0) (show vp_in (nI 0) 1 from vp_in_nI (by omega) (by omega)) dL_law_1400 ?_
      rw [show f1 (0 : Int32).toNatClampNeg = (fAppeal σ (xs (i + 1))).1.toInt64 from hf1 c_2]
      refine lv_iload X.ex X.co dL_law_1401 (lv_at hl 0 rfl) ?_
      refine lv_i2l X.ex X.co dL_law_1403 rfl ?_
      refine w_lcmp X dL_law_1404 ?_
      refine lv_if_eq (tgt := 1410) X.ex X.co dL_law_1405 (by decide) (fun c_3 => ?_) (fun c_3 => ?_)
      · refine lv_goto (tgt := 2348) X.ex X.co dL_law_1410 (by decide) ?_
        have hQ2 : Qs (fAppeal σ (xs (i + 1))).2 := pr_appeal hQ  (xs (i + 1))
        exact kk (fAppeal σ (xs (i + 1))).2 f1 f2 H locs ls _ _ ⟨hQ2, hM, hCB, hfr, hO⟩ hS (lv_sub hl [2, 3, 4, 5, 6, 7] rfl) (by omega) (by omega)
      · exact absurd (by decide) c_3
  · exact absurd rfl c_1
set_option maxHeartbeats 4000000 in
set_option maxRecDepth 100000 in
theorem law_19 (hst : l.stackTraces = false) (hAc : ∀ q, Ac q → gA G q) (hAm : ∀ q, Am q → gA G q) (hA3 : ∀ q, (fun q => Ac q ∨ AO q ∨ Am q) q → gA G q) (d1 : ∀ q, Ac q → ¬ AO q) (d2 : ∀ q, Ac q → ¬ Am q) (d3 : ∀ q, Am q → ¬ AO q) (X : CF p s m args meth c cL_law 9 "CourseForgeLaw" (some .boolean)) (g0 : GG G s s.heap) (hX : va_X b L xs s s.heap) (hbl : b < s.heap.size) (hbA : ¬ (fun q => Ac q ∨ AO q ∨ Am q) b) (hR9 : 20 ≤ hR) (hi : i + 5 ≤ L) (hL : L ≤ 2560) (W0 : lawW G Ac Am AO x mad oad ρ f f2 H) (hS : va_S (fun q => Ac q ∨ AO q ∨ Am q) s.heap H locs) (hl : lv_has ls 9 [(0, .ref b), (1, .ref x), (2, .ref (mad (0, 0))), (3, .ref (oad (0, 0))), (4, .ref (oad (0, 1))), (5, .int (nI i))]) (h1 : cells + 110 ≤ rc) (h2 : slots + 2210 ≤ rs)
    (kk : ∀ (ρ : Sg) (f : Nat → Int64) (f2 : Nat → UInt64) (H : Heap) (locs : List Loc) (ls : Array Slot) (cells1 slots1 : Nat), lawW G Ac Am AO x mad oad ρ f f2 H → va_S (fun q => Ac q ∨ AO q ∨ Am q) s.heap H locs → lv_has ls 9 [(0, .ref b), (1, .ref x), (2, .ref (mad (0, 0))), (3, .ref (oad (0, 0))), (4, .ref (oad (0, 1))), (5, .int (nI i))] → cells1 ≤ cells + 110 → slots1 ≤ slots + 2210 → W p l e (RM hR rc rs) s m args below meth c H locs cells1 slots1 Q (F0 m 2348 ls [])) :
    W p l e (RM hR rc rs) s m args below meth c H locs cells slots Q (F0 m 1413 ls []) := by
  obtain ⟨hQ0, hM, hCB0, hfr, hO⟩ := W0
  obtain ⟨σ, hσ⟩ : ∃ σ, σ = sN ρ 0 0 0 := ⟨_, rfl⟩
  have hQ : Qs σ := by rw [hσ]; exact hQ0.z 0
  have h0 : σ.1 0 0 = 0 := by rw [hσ]; rfl
  have hCB : CB G Ac x σ H := by rw [hσ]; exact CB_0 0 hCB0
  obtain ⟨fsB, hfB⟩ := CB_at hCB
  refine lv_aload_n X.ex X.co dL_law_1413 rfl (lv_at hl 1 rfl) ?_
  refine lv_aload_n X.ex X.co dL_law_1414 rfl (lv_at hl 0 rfl) ?_
  refine lv_iload X.ex X.co dL_law_1415 (lv_at hl 5 rfl) ?_
  refine lv_iconst (v := 1) X.ex X.co dL_law_1417 (by decide) ?_
  refine n_add X (x := i) (y := 1) dL_law_1418 ?_
  refine va_sld X.ex X.co hX hbl hbA hS (i := nI (i + 1)) (vp_in_nI (show i + 1 < L by omega) (by omega)) dL_law_1419 ?_
  rw [nI_clamp (show i + 1 < 2 ^ 31 by omega)]
  refine lv_aload_n X.ex X.co dL_law_1420 rfl (lv_at hl 3 rfl) ?_
  refine w_cS (n := 3) X m_848 m_0 m_847 ⟨by decide, by decide, by decide +kernel⟩ (by decide) m_846 (c_L_withdraw l hst G Ac AO hAc d1 x σ hQ.1 hQ.2 h0 (xs (i + 1)) lvO oad (enO G f f2) (0, 0) (Or.inl rfl) (oad (0, 0)) rfl f rfl) (g0.step hS hA3) ⟨⟨hCB, hfr⟩, hO⟩ (by omega) rfl hl.1 rfl (Nat.le_of_ble_eq_true rfl) dL_law_1421 (by omega) (by omega) hS (fun q h => h.elim Or.inl (fun z => Or.inr (Or.inl z))) (fun v0 H locs hB hz hk9 hS => ?_)
  obtain ⟨rfl, hCB, hle9, f1, hO, hf1⟩ := hB
  have hM := fw.kept hM (fun j hj => hk9 _ (fw.lt hM hj) (fun z => z.elim (fun z => d2 _ z (fw.in hM hj)) (fun z => d3 _ (fw.in hM hj) z)))
  have hO := enO_0 hO
  have hfr : ∀ q, H.size ≤ q → Ac q := fun q hq => hfr q (Nat.le_trans hz hq)
  refine lv_istore (lv' := [(6, .int (nI ((fWithdraw σ (xs (i + 1))).2.1 0 0))), (0, .ref b), (1, .ref x), (2, .ref (mad (0, 0))), (3, .ref (oad (0, 0))), (4, .ref (oad (0, 1))), (5, .int (nI i))]) X.ex X.co dL_law_1424 hl (by decide) rfl (fun ls hl => ?_)
  refine lv_aload_n X.ex X.co dL_law_1426 rfl (lv_at hl 3 rfl) ?_
  refine lv_aload_n X.ex X.co dL_law_1427 rfl (lv_at hl 1 rfl) ?_
  refine lv_iload X.ex X.co dL_law_1428 (lv_at hl 6 rfl) ?_
  refine lv_iconst (v := 1) X.ex X.co dL_law_1430 (by decide) ?_
  refine n_add X (x := i) (y := 1) dL_law_1431 ?_
  refine va_sld X.ex X.co hX hbl hbA hS (i := nI (i + 1)) (vp_in_nI (show i + 1 < L by omega) (by omega)) dL_law_1432 ?_
  rw [nI_clamp (show i + 1 < 2 ^ 31 by omega)]
  refine q_eV X ce_X10_withdraw m_1634 (c_X10_withdraw l G mad Am hAm ρ σ hσ hQ.1 (xs (i + 1))) (g0.step hS hA3) hM (mo hM) rfl (by omega) rfl hl.1 rfl (Nat.le_of_ble_eq_true rfl) dL_law_1433 (by omega) (by omega) hS (fun q h => Or.inr (Or.inr h)) (fun H locs hM hz hk9 hS => ?_)
  have hCB := CB.keptS hCB hk9 d2
  have hO := fw.kept hO (fun j hj => hk9 _ (fw.lt hO hj) (fun z => d3 _ z (fw.in hO hj)))
  have hfr : ∀ q, H.size ≤ q → Ac q := fun q hq => hfr q (Nat.le_trans hz hq)
  refine lv_istore (lv' := [(7, .int ((fWithdraw σ (xs (i + 1))).1)), (6, .int (nI ((fWithdraw σ (xs (i + 1))).2.1 0 0))), (0, .ref b), (1, .ref x), (2, .ref (mad (0, 0))), (3, .ref (oad (0, 0))), (4, .ref (oad (0, 1))), (5, .int (nI i))]) X.ex X.co dL_law_1436 hl (by decide) rfl (fun ls hl => ?_)
  refine lv_aload_n X.ex X.co dL_law_1438 rfl (lv_at hl 4 rfl) ?_
  refine q_rV X ce_X10_thrown m_1486 (c_X10_thrown l G mad Am (fWithdraw σ (xs (i + 1))).2) (g0.step hS hA3) hM (mo hM) rfl (by omega) rfl hl.1 rfl (Nat.le_of_ble_eq_true rfl) dL_law_1439 (by omega) (by omega) ?_
  refine lv_iload X.ex X.co dL_law_1442 (lv_at hl 1 rfl) ?_
  refine n_cmp_eq X (x := ((fWithdraw σ (xs (i + 1))).2.1 0 0)) (y := ((fWithdraw σ (xs (i + 1))).2.1 0 0)) (tgt := 1449) (by omega) (by omega) dL_law_1444 (by decide) (fun c_1 => ?_) (fun c_1 => ?_)
  · refine lv_iload X.ex X.co dL_law_1449 (lv_at hl 1 rfl) ?_
    refine n_if_ne X (x := ((fWithdraw σ (xs (i + 1))).2.1 0 0)) (tgt := 1466) (by omega) dL_law_1451 (by decide) (fun c_2 => ?_) (fun c_2 => ?_)
    · refine lv_goto (tgt := 2348) X.ex X.co dL_law_1466 (by decide) ?_
      have hQ2 : Qs (fWithdraw σ (xs (i + 1))).2 := pr_withdraw hQ  (xs (i + 1))
      exact kk (fWithdraw σ (xs (i + 1))).2 f1 f2 H locs ls _ _ ⟨hQ2, hM, hCB, hfr, hO⟩ hS (lv_sub hl [2, 3, 4, 5, 6, 7] rfl) (by omega) (by omega)
    · refine lv_aload_n X.ex X.co dL_law_1454 rfl (lv_at hl 5 rfl) ?_
      refine lv_iconst (v := 0) X.ex X.co dL_law_1455 (by decide) ?_
      refine f_lald X g0.1 (fw.get hO (i := (0, 0)) (Or.inl rfl) rfl rfl) (x := 0) (show vp_in (nI 0) 1 from vp_in_nI (by omega) (by omega)) dL_law_1456 ?_
      rw [show f1 (0 : Int32).toNatClampNeg = (fWithdraw σ (xs (i + 1))).1.toInt64 from hf1 c_2]
      refine lv_iload X.ex X.co dL_law_1457 (lv_at hl 0 rfl) ?_
      refine lv_i2l X.ex X.co dL_law_1459 rfl ?_
      refine w_lcmp X dL_law_1460 ?_
      refine lv_if_eq (tgt := 1466) X.ex X.co dL_law_1461 (by decide) (fun c_3 => ?_) (fun c_3 => ?_)
      · refine lv_goto (tgt := 2348) X.ex X.co dL_law_1466 (by decide) ?_
        have hQ2 : Qs (fWithdraw σ (xs (i + 1))).2 := pr_withdraw hQ  (xs (i + 1))
        exact kk (fWithdraw σ (xs (i + 1))).2 f1 f2 H locs ls _ _ ⟨hQ2, hM, hCB, hfr, hO⟩ hS (lv_sub hl [2, 3, 4, 5, 6, 7] rfl) (by omega) (by omega)
      · exact absurd (by decide) c_3
  · exact absurd rfl c_1
set_option maxHeartbeats 4000000 in
set_option maxRecDepth 100000 in
theorem law_20 (hst : l.stackTraces = false) (hAc : ∀ q, Ac q → gA G q) (hAm : ∀ q, Am q → gA G q) (hA3 : ∀ q, (fun q => Ac q ∨ AO q ∨ Am q) q → gA G q) (d1 : ∀ q, Ac q → ¬ AO q) (d2 : ∀ q, Ac q → ¬ Am q) (d3 : ∀ q, Am q → ¬ AO q) (X : CF p s m args meth c cL_law 9 "CourseForgeLaw" (some .boolean)) (g0 : GG G s s.heap) (hX : va_X b L xs s s.heap) (hbl : b < s.heap.size) (hbA : ¬ (fun q => Ac q ∨ AO q ∨ Am q) b) (hR9 : 20 ≤ hR) (hi : i + 5 ≤ L) (hL : L ≤ 2560) (W0 : lawW G Ac Am AO x mad oad ρ f f2 H) (hS : va_S (fun q => Ac q ∨ AO q ∨ Am q) s.heap H locs) (hl : lv_has ls 9 [(0, .ref b), (1, .ref x), (2, .ref (mad (0, 0))), (3, .ref (oad (0, 0))), (4, .ref (oad (0, 1))), (5, .int (nI i))]) (h1 : cells + 110 ≤ rc) (h2 : slots + 2210 ≤ rs)
    (kk : ∀ (ρ : Sg) (f : Nat → Int64) (f2 : Nat → UInt64) (H : Heap) (locs : List Loc) (ls : Array Slot) (cells1 slots1 : Nat), lawW G Ac Am AO x mad oad ρ f f2 H → va_S (fun q => Ac q ∨ AO q ∨ Am q) s.heap H locs → lv_has ls 9 [(0, .ref b), (1, .ref x), (2, .ref (mad (0, 0))), (3, .ref (oad (0, 0))), (4, .ref (oad (0, 1))), (5, .int (nI i))] → cells1 ≤ cells + 110 → slots1 ≤ slots + 2210 → W p l e (RM hR rc rs) s m args below meth c H locs cells1 slots1 Q (F0 m 2348 ls [])) :
    W p l e (RM hR rc rs) s m args below meth c H locs cells slots Q (F0 m 1469 ls []) := by
  obtain ⟨hQ0, hM, hCB0, hfr, hO⟩ := W0
  obtain ⟨σ, hσ⟩ : ∃ σ, σ = sN ρ 0 0 0 := ⟨_, rfl⟩
  have hQ : Qs σ := by rw [hσ]; exact hQ0.z 0
  have h0 : σ.1 0 0 = 0 := by rw [hσ]; rfl
  have hCB : CB G Ac x σ H := by rw [hσ]; exact CB_0 0 hCB0
  obtain ⟨fsB, hfB⟩ := CB_at hCB
  refine lv_aload_n X.ex X.co dL_law_1469 rfl (lv_at hl 1 rfl) ?_
  refine lv_aload_n X.ex X.co dL_law_1470 rfl (lv_at hl 0 rfl) ?_
  refine lv_iload X.ex X.co dL_law_1471 (lv_at hl 5 rfl) ?_
  refine lv_iconst (v := 1) X.ex X.co dL_law_1473 (by decide) ?_
  refine n_add X (x := i) (y := 1) dL_law_1474 ?_
  refine va_sld X.ex X.co hX hbl hbA hS (i := nI (i + 1)) (vp_in_nI (show i + 1 < L by omega) (by omega)) dL_law_1475 ?_
  rw [nI_clamp (show i + 1 < 2 ^ 31 by omega)]
  refine lv_aload_n X.ex X.co dL_law_1476 rfl (lv_at hl 3 rfl) ?_
  refine w_cS (n := 3) X m_869 m_0 m_868 ⟨by decide, by decide, by decide +kernel⟩ (by decide) m_867 (c_L_decide l hst G Ac AO hAc d1 x σ hQ.1 hQ.2 h0 (xs (i + 1)) lvO oad (enO G f f2) (0, 0) (Or.inl rfl) (oad (0, 0)) rfl f rfl) (g0.step hS hA3) ⟨⟨hCB, hfr⟩, hO⟩ (by omega) rfl hl.1 rfl (Nat.le_of_ble_eq_true rfl) dL_law_1477 (by omega) (by omega) hS (fun q h => h.elim Or.inl (fun z => Or.inr (Or.inl z))) (fun v0 H locs hB hz hk9 hS => ?_)
  obtain ⟨rfl, hCB, hle9, f1, hO, hf1⟩ := hB
  have hM := fw.kept hM (fun j hj => hk9 _ (fw.lt hM hj) (fun z => z.elim (fun z => d2 _ z (fw.in hM hj)) (fun z => d3 _ (fw.in hM hj) z)))
  have hO := enO_0 hO
  have hfr : ∀ q, H.size ≤ q → Ac q := fun q hq => hfr q (Nat.le_trans hz hq)
  refine lv_istore (lv' := [(6, .int (nI ((fDecide σ (xs (i + 1))).2.1 0 0))), (0, .ref b), (1, .ref x), (2, .ref (mad (0, 0))), (3, .ref (oad (0, 0))), (4, .ref (oad (0, 1))), (5, .int (nI i))]) X.ex X.co dL_law_1480 hl (by decide) rfl (fun ls hl => ?_)
  refine lv_aload_n X.ex X.co dL_law_1482 rfl (lv_at hl 3 rfl) ?_
  refine lv_aload_n X.ex X.co dL_law_1483 rfl (lv_at hl 1 rfl) ?_
  refine lv_iload X.ex X.co dL_law_1484 (lv_at hl 6 rfl) ?_
  refine lv_iconst (v := 1) X.ex X.co dL_law_1486 (by decide) ?_
  refine n_add X (x := i) (y := 1) dL_law_1487 ?_
  refine va_sld X.ex X.co hX hbl hbA hS (i := nI (i + 1)) (vp_in_nI (show i + 1 < L by omega) (by omega)) dL_law_1488 ?_
  rw [nI_clamp (show i + 1 < 2 ^ 31 by omega)]
  refine q_eV X ce_X10_decide m_1642 (c_X10_decide l G mad Am hAm ρ σ hσ hQ.1 (xs (i + 1))) (g0.step hS hA3) hM (mo hM) rfl (by omega) rfl hl.1 rfl (Nat.le_of_ble_eq_true rfl) dL_law_1489 (by omega) (by omega) hS (fun q h => Or.inr (Or.inr h)) (fun H locs hM hz hk9 hS => ?_)
  have hCB := CB.keptS hCB hk9 d2
  have hO := fw.kept hO (fun j hj => hk9 _ (fw.lt hO hj) (fun z => d3 _ z (fw.in hO hj)))
  have hfr : ∀ q, H.size ≤ q → Ac q := fun q hq => hfr q (Nat.le_trans hz hq)
  refine lv_istore (lv' := [(7, .int ((fDecide σ (xs (i + 1))).1)), (6, .int (nI ((fDecide σ (xs (i + 1))).2.1 0 0))), (0, .ref b), (1, .ref x), (2, .ref (mad (0, 0))), (3, .ref (oad (0, 0))), (4, .ref (oad (0, 1))), (5, .int (nI i))]) X.ex X.co dL_law_1492 hl (by decide) rfl (fun ls hl => ?_)
  refine lv_aload_n X.ex X.co dL_law_1494 rfl (lv_at hl 4 rfl) ?_
  refine q_rV X ce_X10_thrown m_1486 (c_X10_thrown l G mad Am (fDecide σ (xs (i + 1))).2) (g0.step hS hA3) hM (mo hM) rfl (by omega) rfl hl.1 rfl (Nat.le_of_ble_eq_true rfl) dL_law_1495 (by omega) (by omega) ?_
  refine lv_iload X.ex X.co dL_law_1498 (lv_at hl 1 rfl) ?_
  refine n_cmp_eq X (x := ((fDecide σ (xs (i + 1))).2.1 0 0)) (y := ((fDecide σ (xs (i + 1))).2.1 0 0)) (tgt := 1505) (by omega) (by omega) dL_law_1500 (by decide) (fun c_1 => ?_) (fun c_1 => ?_)
  · refine lv_iload X.ex X.co dL_law_1505 (lv_at hl 1 rfl) ?_
    refine n_if_ne X (x := ((fDecide σ (xs (i + 1))).2.1 0 0)) (tgt := 1522) (by omega) dL_law_1507 (by decide) (fun c_2 => ?_) (fun c_2 => ?_)
    · refine lv_goto (tgt := 2348) X.ex X.co dL_law_1522 (by decide) ?_
      have hQ2 : Qs (fDecide σ (xs (i + 1))).2 := pr_decide hQ  (xs (i + 1))
      exact kk (fDecide σ (xs (i + 1))).2 f1 f2 H locs ls _ _ ⟨hQ2, hM, hCB, hfr, hO⟩ hS (lv_sub hl [2, 3, 4, 5, 6, 7] rfl) (by omega) (by omega)
    · refine lv_aload_n X.ex X.co dL_law_1510 rfl (lv_at hl 5 rfl) ?_
      refine lv_iconst (v := 0) X.ex X.co dL_law_1511 (by decide) ?_
      refine f_lald X g0.1 (fw.get hO (i := (0, 0)) (Or.inl rfl) rfl rfl) (x := 0) (show vp_in (nI 0) 1 from vp_in_nI (by omega) (by omega)) dL_law_1512 ?_
      rw [show f1 (0 : Int32).toNatClampNeg = (fDecide σ (xs (i + 1))).1.toInt64 from hf1 c_2]
      refine lv_iload X.ex X.co dL_law_1513 (lv_at hl 0 rfl) ?_
      refine lv_i2l X.ex X.co dL_law_1515 rfl ?_
      refine w_lcmp X dL_law_1516 ?_
      refine lv_if_eq (tgt := 1522) X.ex X.co dL_law_1517 (by decide) (fun c_3 => ?_) (fun c_3 => ?_)
      · refine lv_goto (tgt := 2348) X.ex X.co dL_law_1522 (by decide) ?_
        have hQ2 : Qs (fDecide σ (xs (i + 1))).2 := pr_decide hQ  (xs (i + 1))
        exact kk (fDecide σ (xs (i + 1))).2 f1 f2 H locs ls _ _ ⟨hQ2, hM, hCB, hfr, hO⟩ hS (lv_sub hl [2, 3, 4, 5, 6, 7] rfl) (by omega) (by omega)
      · exact absurd (by decide) c_3
  · exact absurd rfl c_1
set_option maxHeartbeats 4000000 in
set_option maxRecDepth 100000 in
theorem law_21 (hst : l.stackTraces = false) (hAc : ∀ q, Ac q → gA G q) (hAm : ∀ q, Am q → gA G q) (hA3 : ∀ q, (fun q => Ac q ∨ AO q ∨ Am q) q → gA G q) (d1 : ∀ q, Ac q → ¬ AO q) (d2 : ∀ q, Ac q → ¬ Am q) (d3 : ∀ q, Am q → ¬ AO q) (X : CF p s m args meth c cL_law 9 "CourseForgeLaw" (some .boolean)) (g0 : GG G s s.heap) (hX : va_X b L xs s s.heap) (hbl : b < s.heap.size) (hbA : ¬ (fun q => Ac q ∨ AO q ∨ Am q) b) (hR9 : 20 ≤ hR) (hi : i + 5 ≤ L) (hL : L ≤ 2560) (W0 : lawW G Ac Am AO x mad oad ρ f f2 H) (hS : va_S (fun q => Ac q ∨ AO q ∨ Am q) s.heap H locs) (hl : lv_has ls 9 [(0, .ref b), (1, .ref x), (2, .ref (mad (0, 0))), (3, .ref (oad (0, 0))), (4, .ref (oad (0, 1))), (5, .int (nI i))]) (h1 : cells + 110 ≤ rc) (h2 : slots + 2210 ≤ rs)
    (kk : ∀ (ρ : Sg) (f : Nat → Int64) (f2 : Nat → UInt64) (H : Heap) (locs : List Loc) (ls : Array Slot) (cells1 slots1 : Nat), lawW G Ac Am AO x mad oad ρ f f2 H → va_S (fun q => Ac q ∨ AO q ∨ Am q) s.heap H locs → lv_has ls 9 [(0, .ref b), (1, .ref x), (2, .ref (mad (0, 0))), (3, .ref (oad (0, 0))), (4, .ref (oad (0, 1))), (5, .int (nI i))] → cells1 ≤ cells + 110 → slots1 ≤ slots + 2210 → W p l e (RM hR rc rs) s m args below meth c H locs cells1 slots1 Q (F0 m 2348 ls [])) :
    W p l e (RM hR rc rs) s m args below meth c H locs cells slots Q (F0 m 1525 ls []) := by
  obtain ⟨hQ0, hM, hCB0, hfr, hO⟩ := W0
  obtain ⟨σ, hσ⟩ : ∃ σ, σ = sN ρ 0 0 0 := ⟨_, rfl⟩
  have hQ : Qs σ := by rw [hσ]; exact hQ0.z 0
  have h0 : σ.1 0 0 = 0 := by rw [hσ]; rfl
  have hCB : CB G Ac x σ H := by rw [hσ]; exact CB_0 0 hCB0
  obtain ⟨fsB, hfB⟩ := CB_at hCB
  refine lv_aload_n X.ex X.co dL_law_1525 rfl (lv_at hl 1 rfl) ?_
  refine q_cV X ce_X9_appealCount m_148 (c_X9_appealCount l G Ac hAc x σ hQ.1 hQ.2 h0) (g0.step hS hA3) ⟨hCB, hfr⟩ hfB rfl (by omega) rfl hl.1 rfl (Nat.le_of_ble_eq_true rfl) dL_law_1526 (by omega) (by omega) hS (fun q h => Or.inl h) (fun v0 H locs hB hz hk9 hS => ?_)
  obtain ⟨rfl, hk0, hCB⟩ := hB
  have hM := fw.kept hM (fun j hj => hk9 _ (fw.lt hM hj) (fun z => d2 _ z (fw.in hM hj)))
  have hO := fw.kept hO (fun j hj => hk9 _ (fw.lt hO hj) (fun z => d1 _ z (fw.in hO hj)))
  have hfr : ∀ q, H.size ≤ q → Ac q := fun q hq => hfr q (Nat.le_trans hz hq)
  refine lv_aload_n X.ex X.co dL_law_1529 rfl (lv_at hl 2 rfl) ?_
  refine q_eV X ce_X10_appealCount m_1646 (c_X10_appealCount l G mad Am hAm ρ σ hσ hQ.1) (g0.step hS hA3) hM (mo hM) rfl (by omega) rfl hl.1 rfl (Nat.le_of_ble_eq_true rfl) dL_law_1530 (by omega) (by omega) hS (fun q h => Or.inr (Or.inr h)) (fun H locs hM hz hk9 hS => ?_)
  have hCB := CB.keptS hCB hk9 d2
  have hO := fw.kept hO (fun j hj => hk9 _ (fw.lt hO hj) (fun z => d3 _ z (fw.in hO hj)))
  have hfr : ∀ q, H.size ≤ q → Ac q := fun q hq => hfr q (Nat.le_trans hz hq)
  refine lv_icmp_eq (tgt := 2348) X.ex X.co dL_law_1533 (by decide) (fun c_1 => ?_) (fun c_1 => ?_)
  · have hQ2 : Qs (fAppealCount σ).2 := by
      unfold fAppealCount
      repeat' split
      all_goals first | exact hQ | exact hQ.e _ | exact hQ.z _
    exact kk (fAppealCount σ).2 f f2 H locs ls _ _ ⟨hQ2, hM, hCB, hfr, hO⟩ hS (lv_sub hl [0, 1, 2, 3, 4, 5] rfl) (by omega) (by omega)
  · exact absurd rfl c_1
set_option maxHeartbeats 4000000 in
set_option maxRecDepth 100000 in
theorem law_22 (hst : l.stackTraces = false) (hAc : ∀ q, Ac q → gA G q) (hAm : ∀ q, Am q → gA G q) (hA3 : ∀ q, (fun q => Ac q ∨ AO q ∨ Am q) q → gA G q) (d1 : ∀ q, Ac q → ¬ AO q) (d2 : ∀ q, Ac q → ¬ Am q) (d3 : ∀ q, Am q → ¬ AO q) (X : CF p s m args meth c cL_law 9 "CourseForgeLaw" (some .boolean)) (g0 : GG G s s.heap) (hX : va_X b L xs s s.heap) (hbl : b < s.heap.size) (hbA : ¬ (fun q => Ac q ∨ AO q ∨ Am q) b) (hR9 : 20 ≤ hR) (hi : i + 5 ≤ L) (hL : L ≤ 2560) (W0 : lawW G Ac Am AO x mad oad ρ f f2 H) (hS : va_S (fun q => Ac q ∨ AO q ∨ Am q) s.heap H locs) (hl : lv_has ls 9 [(0, .ref b), (1, .ref x), (2, .ref (mad (0, 0))), (3, .ref (oad (0, 0))), (4, .ref (oad (0, 1))), (5, .int (nI i))]) (h1 : cells + 110 ≤ rc) (h2 : slots + 2210 ≤ rs)
    (kk : ∀ (ρ : Sg) (f : Nat → Int64) (f2 : Nat → UInt64) (H : Heap) (locs : List Loc) (ls : Array Slot) (cells1 slots1 : Nat), lawW G Ac Am AO x mad oad ρ f f2 H → va_S (fun q => Ac q ∨ AO q ∨ Am q) s.heap H locs → lv_has ls 9 [(0, .ref b), (1, .ref x), (2, .ref (mad (0, 0))), (3, .ref (oad (0, 0))), (4, .ref (oad (0, 1))), (5, .int (nI i))] → cells1 ≤ cells + 110 → slots1 ≤ slots + 2210 → W p l e (RM hR rc rs) s m args below meth c H locs cells1 slots1 Q (F0 m 2348 ls [])) :
    W p l e (RM hR rc rs) s m args below meth c H locs cells slots Q (F0 m 1538 ls []) := by
  obtain ⟨hQ0, hM, hCB0, hfr, hO⟩ := W0
  obtain ⟨σ, hσ⟩ : ∃ σ, σ = sN ρ 0 0 0 := ⟨_, rfl⟩
  have hQ : Qs σ := by rw [hσ]; exact hQ0.z 0
  have h0 : σ.1 0 0 = 0 := by rw [hσ]; rfl
  have hCB : CB G Ac x σ H := by rw [hσ]; exact CB_0 0 hCB0
  obtain ⟨fsB, hfB⟩ := CB_at hCB
  refine lv_aload_n X.ex X.co dL_law_1538 rfl (lv_at hl 1 rfl) ?_
  refine lv_aload_n X.ex X.co dL_law_1539 rfl (lv_at hl 0 rfl) ?_
  refine lv_iload X.ex X.co dL_law_1540 (lv_at hl 5 rfl) ?_
  refine lv_iconst (v := 1) X.ex X.co dL_law_1542 (by decide) ?_
  refine n_add X (x := i) (y := 1) dL_law_1543 ?_
  refine va_sld X.ex X.co hX hbl hbA hS (i := nI (i + 1)) (vp_in_nI (show i + 1 < L by omega) (by omega)) dL_law_1544 ?_
  rw [nI_clamp (show i + 1 < 2 ^ 31 by omega)]
  refine lv_aload_n X.ex X.co dL_law_1545 rfl (lv_at hl 3 rfl) ?_
  refine w_cS (n := 3) X m_878 m_0 m_877 ⟨by decide, by decide, by decide +kernel⟩ (by decide) m_876 (c_L_appealAt l hst G Ac AO hAc d1 x σ hQ.1 hQ.2 h0 (xs (i + 1)) lvO oad (enO G f f2) (0, 0) (Or.inl rfl) (oad (0, 0)) rfl f rfl) (g0.step hS hA3) ⟨⟨hCB, hfr⟩, hO⟩ (by omega) rfl hl.1 rfl (Nat.le_of_ble_eq_true rfl) dL_law_1546 (by omega) (by omega) hS (fun q h => h.elim Or.inl (fun z => Or.inr (Or.inl z))) (fun v0 H locs hB hz hk9 hS => ?_)
  obtain ⟨rfl, hCB, hle9, f1, hO, hf1⟩ := hB
  have hM := fw.kept hM (fun j hj => hk9 _ (fw.lt hM hj) (fun z => z.elim (fun z => d2 _ z (fw.in hM hj)) (fun z => d3 _ (fw.in hM hj) z)))
  have hO := enO_0 hO
  have hfr : ∀ q, H.size ≤ q → Ac q := fun q hq => hfr q (Nat.le_trans hz hq)
  refine lv_istore (lv' := [(6, .int (nI ((fAppealAt σ (xs (i + 1))).2.1 0 0))), (0, .ref b), (1, .ref x), (2, .ref (mad (0, 0))), (3, .ref (oad (0, 0))), (4, .ref (oad (0, 1))), (5, .int (nI i))]) X.ex X.co dL_law_1549 hl (by decide) rfl (fun ls hl => ?_)
  refine lv_aload_n X.ex X.co dL_law_1551 rfl (lv_at hl 3 rfl) ?_
  refine lv_aload_n X.ex X.co dL_law_1552 rfl (lv_at hl 1 rfl) ?_
  refine lv_iload X.ex X.co dL_law_1553 (lv_at hl 6 rfl) ?_
  refine lv_iconst (v := 1) X.ex X.co dL_law_1555 (by decide) ?_
  refine n_add X (x := i) (y := 1) dL_law_1556 ?_
  refine va_sld X.ex X.co hX hbl hbA hS (i := nI (i + 1)) (vp_in_nI (show i + 1 < L by omega) (by omega)) dL_law_1557 ?_
  rw [nI_clamp (show i + 1 < 2 ^ 31 by omega)]
  refine q_eV X ce_X10_appealAt m_1650 (c_X10_appealAt l G mad Am hAm ρ σ hσ hQ.1 (xs (i + 1))) (g0.step hS hA3) hM (mo hM) rfl (by omega) rfl hl.1 rfl (Nat.le_of_ble_eq_true rfl) dL_law_1558 (by omega) (by omega) hS (fun q h => Or.inr (Or.inr h)) (fun H locs hM hz hk9 hS => ?_)
  have hCB := CB.keptS hCB hk9 d2
  have hO := fw.kept hO (fun j hj => hk9 _ (fw.lt hO hj) (fun z => d3 _ z (fw.in hO hj)))
  have hfr : ∀ q, H.size ≤ q → Ac q := fun q hq => hfr q (Nat.le_trans hz hq)
  refine lv_istore (lv' := [(7, .int ((fAppealAt σ (xs (i + 1))).1)), (6, .int (nI ((fAppealAt σ (xs (i + 1))).2.1 0 0))), (0, .ref b), (1, .ref x), (2, .ref (mad (0, 0))), (3, .ref (oad (0, 0))), (4, .ref (oad (0, 1))), (5, .int (nI i))]) X.ex X.co dL_law_1561 hl (by decide) rfl (fun ls hl => ?_)
  refine lv_aload_n X.ex X.co dL_law_1563 rfl (lv_at hl 4 rfl) ?_
  refine q_rV X ce_X10_thrown m_1486 (c_X10_thrown l G mad Am (fAppealAt σ (xs (i + 1))).2) (g0.step hS hA3) hM (mo hM) rfl (by omega) rfl hl.1 rfl (Nat.le_of_ble_eq_true rfl) dL_law_1564 (by omega) (by omega) ?_
  refine lv_iload X.ex X.co dL_law_1567 (lv_at hl 1 rfl) ?_
  refine n_cmp_eq X (x := ((fAppealAt σ (xs (i + 1))).2.1 0 0)) (y := ((fAppealAt σ (xs (i + 1))).2.1 0 0)) (tgt := 1574) (by omega) (by omega) dL_law_1569 (by decide) (fun c_1 => ?_) (fun c_1 => ?_)
  · refine lv_iload X.ex X.co dL_law_1574 (lv_at hl 1 rfl) ?_
    refine n_if_ne X (x := ((fAppealAt σ (xs (i + 1))).2.1 0 0)) (tgt := 1591) (by omega) dL_law_1576 (by decide) (fun c_2 => ?_) (fun c_2 => ?_)
    · refine lv_goto (tgt := 2348) X.ex X.co dL_law_1591 (by decide) ?_
      have hQ2 : Qs (fAppealAt σ (xs (i + 1))).2 := by
        unfold fAppealAt
        repeat' split
        all_goals first | exact hQ | exact hQ.e _ | exact hQ.z _
      exact kk (fAppealAt σ (xs (i + 1))).2 f1 f2 H locs ls _ _ ⟨hQ2, hM, hCB, hfr, hO⟩ hS (lv_sub hl [2, 3, 4, 5, 6, 7] rfl) (by omega) (by omega)
    · refine lv_aload_n X.ex X.co dL_law_1579 rfl (lv_at hl 5 rfl) ?_
      refine lv_iconst (v := 0) X.ex X.co dL_law_1580 (by decide) ?_
      refine f_lald X g0.1 (fw.get hO (i := (0, 0)) (Or.inl rfl) rfl rfl) (x := 0) (show vp_in (nI 0) 1 from vp_in_nI (by omega) (by omega)) dL_law_1581 ?_
      rw [show f1 (0 : Int32).toNatClampNeg = (fAppealAt σ (xs (i + 1))).1.toInt64 from hf1 c_2]
      refine lv_iload X.ex X.co dL_law_1582 (lv_at hl 0 rfl) ?_
      refine lv_i2l X.ex X.co dL_law_1584 rfl ?_
      refine w_lcmp X dL_law_1585 ?_
      refine lv_if_eq (tgt := 1591) X.ex X.co dL_law_1586 (by decide) (fun c_3 => ?_) (fun c_3 => ?_)
      · refine lv_goto (tgt := 2348) X.ex X.co dL_law_1591 (by decide) ?_
        have hQ2 : Qs (fAppealAt σ (xs (i + 1))).2 := by
          unfold fAppealAt
          repeat' split
          all_goals first | exact hQ | exact hQ.e _ | exact hQ.z _
        exact kk (fAppealAt σ (xs (i + 1))).2 f1 f2 H locs ls _ _ ⟨hQ2, hM, hCB, hfr, hO⟩ hS (lv_sub hl [2, 3, 4, 5, 6, 7] rfl) (by omega) (by omega)
      · exact absurd (by decide) c_3
  · exact absurd rfl c_1
set_option maxHeartbeats 4000000 in
set_option maxRecDepth 100000 in
theorem law_23 (hst : l.stackTraces = false) (hAc : ∀ q, Ac q → gA G q) (hAm : ∀ q, Am q → gA G q) (hA3 : ∀ q, (fun q => Ac q ∨ AO q ∨ Am q) q → gA G q) (d1 : ∀ q, Ac q → ¬ AO q) (d2 : ∀ q, Ac q → ¬ Am q) (d3 : ∀ q, Am q → ¬ AO q) (X : CF p s m args meth c cL_law 9 "CourseForgeLaw" (some .boolean)) (g0 : GG G s s.heap) (hX : va_X b L xs s s.heap) (hbl : b < s.heap.size) (hbA : ¬ (fun q => Ac q ∨ AO q ∨ Am q) b) (hR9 : 20 ≤ hR) (hi : i + 5 ≤ L) (hL : L ≤ 2560) (W0 : lawW G Ac Am AO x mad oad ρ f f2 H) (hS : va_S (fun q => Ac q ∨ AO q ∨ Am q) s.heap H locs) (hl : lv_has ls 9 [(0, .ref b), (1, .ref x), (2, .ref (mad (0, 0))), (3, .ref (oad (0, 0))), (4, .ref (oad (0, 1))), (5, .int (nI i))]) (h1 : cells + 110 ≤ rc) (h2 : slots + 2210 ≤ rs)
    (kk : ∀ (ρ : Sg) (f : Nat → Int64) (f2 : Nat → UInt64) (H : Heap) (locs : List Loc) (ls : Array Slot) (cells1 slots1 : Nat), lawW G Ac Am AO x mad oad ρ f f2 H → va_S (fun q => Ac q ∨ AO q ∨ Am q) s.heap H locs → lv_has ls 9 [(0, .ref b), (1, .ref x), (2, .ref (mad (0, 0))), (3, .ref (oad (0, 0))), (4, .ref (oad (0, 1))), (5, .int (nI i))] → cells1 ≤ cells + 110 → slots1 ≤ slots + 2210 → W p l e (RM hR rc rs) s m args below meth c H locs cells1 slots1 Q (F0 m 2348 ls [])) :
    W p l e (RM hR rc rs) s m args below meth c H locs cells slots Q (F0 m 1594 ls []) := by
  obtain ⟨hQ0, hM, hCB0, hfr, hO⟩ := W0
  obtain ⟨σ, hσ⟩ : ∃ σ, σ = sN ρ 0 0 0 := ⟨_, rfl⟩
  have hQ : Qs σ := by rw [hσ]; exact hQ0.z 0
  have h0 : σ.1 0 0 = 0 := by rw [hσ]; rfl
  have hCB : CB G Ac x σ H := by rw [hσ]; exact CB_0 0 hCB0
  obtain ⟨fsB, hfB⟩ := CB_at hCB
  refine lv_aload_n X.ex X.co dL_law_1594 rfl (lv_at hl 1 rfl) ?_
  refine lv_aload_n X.ex X.co dL_law_1595 rfl (lv_at hl 0 rfl) ?_
  refine lv_iload X.ex X.co dL_law_1596 (lv_at hl 5 rfl) ?_
  refine lv_iconst (v := 1) X.ex X.co dL_law_1598 (by decide) ?_
  refine n_add X (x := i) (y := 1) dL_law_1599 ?_
  refine va_sld X.ex X.co hX hbl hbA hS (i := nI (i + 1)) (vp_in_nI (show i + 1 < L by omega) (by omega)) dL_law_1600 ?_
  rw [nI_clamp (show i + 1 < 2 ^ 31 by omega)]
  refine lv_aload_n X.ex X.co dL_law_1601 rfl (lv_at hl 0 rfl) ?_
  refine lv_iload X.ex X.co dL_law_1602 (lv_at hl 5 rfl) ?_
  refine lv_iconst (v := 2) X.ex X.co dL_law_1604 (by decide) ?_
  refine n_add X (x := i) (y := 2) dL_law_1605 ?_
  refine va_sld X.ex X.co hX hbl hbA hS (i := nI (i + 2)) (vp_in_nI (show i + 2 < L by omega) (by omega)) dL_law_1606 ?_
  rw [nI_clamp (show i + 2 < 2 ^ 31 by omega)]
  refine lv_aload_n X.ex X.co dL_law_1607 rfl (lv_at hl 0 rfl) ?_
  refine lv_iload X.ex X.co dL_law_1608 (lv_at hl 5 rfl) ?_
  refine lv_iconst (v := 3) X.ex X.co dL_law_1610 (by decide) ?_
  refine n_add X (x := i) (y := 3) dL_law_1611 ?_
  refine va_sld X.ex X.co hX hbl hbA hS (i := nI (i + 3)) (vp_in_nI (show i + 3 < L by omega) (by omega)) dL_law_1612 ?_
  rw [nI_clamp (show i + 3 < 2 ^ 31 by omega)]
  refine lv_aload_n X.ex X.co dL_law_1613 rfl (lv_at hl 3 rfl) ?_
  refine w_cS (n := 5) X m_886 m_0 m_885 ⟨by decide, by decide, by decide +kernel⟩ (by decide) m_884 (c_L_mend l hst G Ac AO hAc d1 x σ hQ.1 hQ.2 h0 (xs (i + 1)) (xs (i + 2)) (xs (i + 3)) lvO oad (enO G f f2) (0, 0) (Or.inl rfl) (oad (0, 0)) rfl f rfl) (g0.step hS hA3) ⟨⟨hCB, hfr⟩, hO⟩ (by omega) rfl hl.1 rfl (Nat.le_of_ble_eq_true rfl) dL_law_1614 (by omega) (by omega) hS (fun q h => h.elim Or.inl (fun z => Or.inr (Or.inl z))) (fun v0 H locs hB hz hk9 hS => ?_)
  obtain ⟨rfl, hCB, hle9, f1, hO, hf1⟩ := hB
  have hM := fw.kept hM (fun j hj => hk9 _ (fw.lt hM hj) (fun z => z.elim (fun z => d2 _ z (fw.in hM hj)) (fun z => d3 _ (fw.in hM hj) z)))
  have hO := enO_0 hO
  have hfr : ∀ q, H.size ≤ q → Ac q := fun q hq => hfr q (Nat.le_trans hz hq)
  refine lv_istore (lv' := [(6, .int (nI ((fMend σ (xs (i + 1)) (xs (i + 2)) (xs (i + 3))).2.1 0 0))), (0, .ref b), (1, .ref x), (2, .ref (mad (0, 0))), (3, .ref (oad (0, 0))), (4, .ref (oad (0, 1))), (5, .int (nI i))]) X.ex X.co dL_law_1617 hl (by decide) rfl (fun ls hl => ?_)
  refine lv_aload_n X.ex X.co dL_law_1619 rfl (lv_at hl 3 rfl) ?_
  refine lv_aload_n X.ex X.co dL_law_1620 rfl (lv_at hl 1 rfl) ?_
  refine lv_iload X.ex X.co dL_law_1621 (lv_at hl 6 rfl) ?_
  refine lv_iconst (v := 1) X.ex X.co dL_law_1623 (by decide) ?_
  refine n_add X (x := i) (y := 1) dL_law_1624 ?_
  refine va_sld X.ex X.co hX hbl hbA hS (i := nI (i + 1)) (vp_in_nI (show i + 1 < L by omega) (by omega)) dL_law_1625 ?_
  rw [nI_clamp (show i + 1 < 2 ^ 31 by omega)]
  refine lv_aload_n X.ex X.co dL_law_1626 rfl (lv_at hl 1 rfl) ?_
  refine lv_iload X.ex X.co dL_law_1627 (lv_at hl 6 rfl) ?_
  refine lv_iconst (v := 2) X.ex X.co dL_law_1629 (by decide) ?_
  refine n_add X (x := i) (y := 2) dL_law_1630 ?_
  refine va_sld X.ex X.co hX hbl hbA hS (i := nI (i + 2)) (vp_in_nI (show i + 2 < L by omega) (by omega)) dL_law_1631 ?_
  rw [nI_clamp (show i + 2 < 2 ^ 31 by omega)]
  refine lv_aload_n X.ex X.co dL_law_1632 rfl (lv_at hl 1 rfl) ?_
  refine lv_iload X.ex X.co dL_law_1633 (lv_at hl 6 rfl) ?_
  refine lv_iconst (v := 3) X.ex X.co dL_law_1635 (by decide) ?_
  refine n_add X (x := i) (y := 3) dL_law_1636 ?_
  refine va_sld X.ex X.co hX hbl hbA hS (i := nI (i + 3)) (vp_in_nI (show i + 3 < L by omega) (by omega)) dL_law_1637 ?_
  rw [nI_clamp (show i + 3 < 2 ^ 31 by omega)]
  refine q_eV X ce_X10_mend m_1654 (c_X10_mend l G mad Am hAm ρ σ hσ hQ.1 (xs (i + 1)) (xs (i + 2)) (xs (i + 3))) (g0.step hS hA3) hM (mo hM) rfl (by omega) rfl hl.1 rfl (Nat.le_of_ble_eq_true rfl) dL_law_1638 (by omega) (by omega) hS (fun q h => Or.inr (Or.inr h)) (fun H locs hM hz hk9 hS => ?_)
  have hCB := CB.keptS hCB hk9 d2
  have hO := fw.kept hO (fun j hj => hk9 _ (fw.lt hO hj) (fun z => d3 _ z (fw.in hO hj)))
  have hfr : ∀ q, H.size ≤ q → Ac q := fun q hq => hfr q (Nat.le_trans hz hq)
  refine lv_istore (lv' := [(7, .int ((fMend σ (xs (i + 1)) (xs (i + 2)) (xs (i + 3))).1)), (6, .int (nI ((fMend σ (xs (i + 1)) (xs (i + 2)) (xs (i + 3))).2.1 0 0))), (0, .ref b), (1, .ref x), (2, .ref (mad (0, 0))), (3, .ref (oad (0, 0))), (4, .ref (oad (0, 1))), (5, .int (nI i))]) X.ex X.co dL_law_1641 hl (by decide) rfl (fun ls hl => ?_)
  refine lv_aload_n X.ex X.co dL_law_1643 rfl (lv_at hl 4 rfl) ?_
  refine q_rV X ce_X10_thrown m_1486 (c_X10_thrown l G mad Am (fMend σ (xs (i + 1)) (xs (i + 2)) (xs (i + 3))).2) (g0.step hS hA3) hM (mo hM) rfl (by omega) rfl hl.1 rfl (Nat.le_of_ble_eq_true rfl) dL_law_1644 (by omega) (by omega) ?_
  refine lv_iload X.ex X.co dL_law_1647 (lv_at hl 1 rfl) ?_
  refine n_cmp_eq X (x := ((fMend σ (xs (i + 1)) (xs (i + 2)) (xs (i + 3))).2.1 0 0)) (y := ((fMend σ (xs (i + 1)) (xs (i + 2)) (xs (i + 3))).2.1 0 0)) (tgt := 1654) (by omega) (by omega) dL_law_1649 (by decide) (fun c_1 => ?_) (fun c_1 => ?_)
  · refine lv_iload X.ex X.co dL_law_1654 (lv_at hl 1 rfl) ?_
    refine n_if_ne X (x := ((fMend σ (xs (i + 1)) (xs (i + 2)) (xs (i + 3))).2.1 0 0)) (tgt := 1671) (by omega) dL_law_1656 (by decide) (fun c_2 => ?_) (fun c_2 => ?_)
    · refine lv_goto (tgt := 2348) X.ex X.co dL_law_1671 (by decide) ?_
      have hQ2 : Qs (fMend σ (xs (i + 1)) (xs (i + 2)) (xs (i + 3))).2 := pr_mend hQ  (xs (i + 1)) (xs (i + 2)) (xs (i + 3))
      exact kk (fMend σ (xs (i + 1)) (xs (i + 2)) (xs (i + 3))).2 f1 f2 H locs ls _ _ ⟨hQ2, hM, hCB, hfr, hO⟩ hS (lv_sub hl [2, 3, 4, 5, 6, 7] rfl) (by omega) (by omega)
    · refine lv_aload_n X.ex X.co dL_law_1659 rfl (lv_at hl 5 rfl) ?_
      refine lv_iconst (v := 0) X.ex X.co dL_law_1660 (by decide) ?_
      refine f_lald X g0.1 (fw.get hO (i := (0, 0)) (Or.inl rfl) rfl rfl) (x := 0) (show vp_in (nI 0) 1 from vp_in_nI (by omega) (by omega)) dL_law_1661 ?_
      rw [show f1 (0 : Int32).toNatClampNeg = (fMend σ (xs (i + 1)) (xs (i + 2)) (xs (i + 3))).1.toInt64 from hf1 c_2]
      refine lv_iload X.ex X.co dL_law_1662 (lv_at hl 0 rfl) ?_
      refine lv_i2l X.ex X.co dL_law_1664 rfl ?_
      refine w_lcmp X dL_law_1665 ?_
      refine lv_if_eq (tgt := 1671) X.ex X.co dL_law_1666 (by decide) (fun c_3 => ?_) (fun c_3 => ?_)
      · refine lv_goto (tgt := 2348) X.ex X.co dL_law_1671 (by decide) ?_
        have hQ2 : Qs (fMend σ (xs (i + 1)) (xs (i + 2)) (xs (i + 3))).2 := pr_mend hQ  (xs (i + 1)) (xs (i + 2)) (xs (i + 3))
        exact kk (fMend σ (xs (i + 1)) (xs (i + 2)) (xs (i + 3))).2 f1 f2 H locs ls _ _ ⟨hQ2, hM, hCB, hfr, hO⟩ hS (lv_sub hl [2, 3, 4, 5, 6, 7] rfl) (by omega) (by omega)
      · exact absurd (by decide) c_3
  · exact absurd rfl c_1
set_option maxHeartbeats 4000000 in
set_option maxRecDepth 100000 in
theorem law_24 (hst : l.stackTraces = false) (hAc : ∀ q, Ac q → gA G q) (hAm : ∀ q, Am q → gA G q) (hA3 : ∀ q, (fun q => Ac q ∨ AO q ∨ Am q) q → gA G q) (d1 : ∀ q, Ac q → ¬ AO q) (d2 : ∀ q, Ac q → ¬ Am q) (d3 : ∀ q, Am q → ¬ AO q) (X : CF p s m args meth c cL_law 9 "CourseForgeLaw" (some .boolean)) (g0 : GG G s s.heap) (hX : va_X b L xs s s.heap) (hbl : b < s.heap.size) (hbA : ¬ (fun q => Ac q ∨ AO q ∨ Am q) b) (hR9 : 20 ≤ hR) (hi : i + 5 ≤ L) (hL : L ≤ 2560) (W0 : lawW G Ac Am AO x mad oad ρ f f2 H) (hS : va_S (fun q => Ac q ∨ AO q ∨ Am q) s.heap H locs) (hl : lv_has ls 9 [(0, .ref b), (1, .ref x), (2, .ref (mad (0, 0))), (3, .ref (oad (0, 0))), (4, .ref (oad (0, 1))), (5, .int (nI i))]) (h1 : cells + 110 ≤ rc) (h2 : slots + 2210 ≤ rs)
    (kk : ∀ (ρ : Sg) (f : Nat → Int64) (f2 : Nat → UInt64) (H : Heap) (locs : List Loc) (ls : Array Slot) (cells1 slots1 : Nat), lawW G Ac Am AO x mad oad ρ f f2 H → va_S (fun q => Ac q ∨ AO q ∨ Am q) s.heap H locs → lv_has ls 9 [(0, .ref b), (1, .ref x), (2, .ref (mad (0, 0))), (3, .ref (oad (0, 0))), (4, .ref (oad (0, 1))), (5, .int (nI i))] → cells1 ≤ cells + 110 → slots1 ≤ slots + 2210 → W p l e (RM hR rc rs) s m args below meth c H locs cells1 slots1 Q (F0 m 2348 ls [])) :
    W p l e (RM hR rc rs) s m args below meth c H locs cells slots Q (F0 m 1674 ls []) := by
  obtain ⟨hQ0, hM, hCB0, hfr, hO⟩ := W0
  obtain ⟨σ, hσ⟩ : ∃ σ, σ = sN ρ 0 0 0 := ⟨_, rfl⟩
  have hQ : Qs σ := by rw [hσ]; exact hQ0.z 0
  have h0 : σ.1 0 0 = 0 := by rw [hσ]; rfl
  have hCB : CB G Ac x σ H := by rw [hσ]; exact CB_0 0 hCB0
  obtain ⟨fsB, hfB⟩ := CB_at hCB
  refine lv_aload_n X.ex X.co dL_law_1674 rfl (lv_at hl 1 rfl) ?_
  refine q_cV X ce_X9_harmedCount m_152 (c_X9_harmedCount l G Ac hAc x σ hQ.1 hQ.2 h0) (g0.step hS hA3) ⟨hCB, hfr⟩ hfB rfl (by omega) rfl hl.1 rfl (Nat.le_of_ble_eq_true rfl) dL_law_1675 (by omega) (by omega) hS (fun q h => Or.inl h) (fun v0 H locs hB hz hk9 hS => ?_)
  obtain ⟨rfl, hk0, hCB⟩ := hB
  have hM := fw.kept hM (fun j hj => hk9 _ (fw.lt hM hj) (fun z => d2 _ z (fw.in hM hj)))
  have hO := fw.kept hO (fun j hj => hk9 _ (fw.lt hO hj) (fun z => d1 _ z (fw.in hO hj)))
  have hfr : ∀ q, H.size ≤ q → Ac q := fun q hq => hfr q (Nat.le_trans hz hq)
  refine lv_aload_n X.ex X.co dL_law_1678 rfl (lv_at hl 2 rfl) ?_
  refine q_eV X ce_X10_harmedCount m_1662 (c_X10_harmedCount l G mad Am hAm ρ σ hσ hQ.1) (g0.step hS hA3) hM (mo hM) rfl (by omega) rfl hl.1 rfl (Nat.le_of_ble_eq_true rfl) dL_law_1679 (by omega) (by omega) hS (fun q h => Or.inr (Or.inr h)) (fun H locs hM hz hk9 hS => ?_)
  have hCB := CB.keptS hCB hk9 d2
  have hO := fw.kept hO (fun j hj => hk9 _ (fw.lt hO hj) (fun z => d3 _ z (fw.in hO hj)))
  have hfr : ∀ q, H.size ≤ q → Ac q := fun q hq => hfr q (Nat.le_trans hz hq)
  refine lv_icmp_eq (tgt := 2348) X.ex X.co dL_law_1682 (by decide) (fun c_1 => ?_) (fun c_1 => ?_)
  · have hQ2 : Qs (fHarmedCount σ).2 := by
      unfold fHarmedCount
      repeat' split
      all_goals first | exact hQ | exact hQ.e _ | exact hQ.z _
    exact kk (fHarmedCount σ).2 f f2 H locs ls _ _ ⟨hQ2, hM, hCB, hfr, hO⟩ hS (lv_sub hl [0, 1, 2, 3, 4, 5] rfl) (by omega) (by omega)
  · exact absurd rfl c_1
set_option maxHeartbeats 4000000 in
set_option maxRecDepth 100000 in
theorem law_25 (hst : l.stackTraces = false) (hAc : ∀ q, Ac q → gA G q) (hAm : ∀ q, Am q → gA G q) (hA3 : ∀ q, (fun q => Ac q ∨ AO q ∨ Am q) q → gA G q) (d1 : ∀ q, Ac q → ¬ AO q) (d2 : ∀ q, Ac q → ¬ Am q) (d3 : ∀ q, Am q → ¬ AO q) (X : CF p s m args meth c cL_law 9 "CourseForgeLaw" (some .boolean)) (g0 : GG G s s.heap) (hX : va_X b L xs s s.heap) (hbl : b < s.heap.size) (hbA : ¬ (fun q => Ac q ∨ AO q ∨ Am q) b) (hR9 : 20 ≤ hR) (hi : i + 5 ≤ L) (hL : L ≤ 2560) (W0 : lawW G Ac Am AO x mad oad ρ f f2 H) (hS : va_S (fun q => Ac q ∨ AO q ∨ Am q) s.heap H locs) (hl : lv_has ls 9 [(0, .ref b), (1, .ref x), (2, .ref (mad (0, 0))), (3, .ref (oad (0, 0))), (4, .ref (oad (0, 1))), (5, .int (nI i))]) (h1 : cells + 110 ≤ rc) (h2 : slots + 2210 ≤ rs)
    (kk : ∀ (ρ : Sg) (f : Nat → Int64) (f2 : Nat → UInt64) (H : Heap) (locs : List Loc) (ls : Array Slot) (cells1 slots1 : Nat), lawW G Ac Am AO x mad oad ρ f f2 H → va_S (fun q => Ac q ∨ AO q ∨ Am q) s.heap H locs → lv_has ls 9 [(0, .ref b), (1, .ref x), (2, .ref (mad (0, 0))), (3, .ref (oad (0, 0))), (4, .ref (oad (0, 1))), (5, .int (nI i))] → cells1 ≤ cells + 110 → slots1 ≤ slots + 2210 → W p l e (RM hR rc rs) s m args below meth c H locs cells1 slots1 Q (F0 m 2348 ls [])) :
    W p l e (RM hR rc rs) s m args below meth c H locs cells slots Q (F0 m 1687 ls []) := by
  obtain ⟨hQ0, hM, hCB0, hfr, hO⟩ := W0
  obtain ⟨σ, hσ⟩ : ∃ σ, σ = sN ρ 0 0 0 := ⟨_, rfl⟩
  have hQ : Qs σ := by rw [hσ]; exact hQ0.z 0
  have h0 : σ.1 0 0 = 0 := by rw [hσ]; rfl
  have hCB : CB G Ac x σ H := by rw [hσ]; exact CB_0 0 hCB0
  obtain ⟨fsB, hfB⟩ := CB_at hCB
  refine lv_aload_n X.ex X.co dL_law_1687 rfl (lv_at hl 1 rfl) ?_
  refine lv_aload_n X.ex X.co dL_law_1688 rfl (lv_at hl 0 rfl) ?_
  refine lv_iload X.ex X.co dL_law_1689 (lv_at hl 5 rfl) ?_
  refine lv_iconst (v := 1) X.ex X.co dL_law_1691 (by decide) ?_
  refine n_add X (x := i) (y := 1) dL_law_1692 ?_
  refine va_sld X.ex X.co hX hbl hbA hS (i := nI (i + 1)) (vp_in_nI (show i + 1 < L by omega) (by omega)) dL_law_1693 ?_
  rw [nI_clamp (show i + 1 < 2 ^ 31 by omega)]
  refine lv_aload_n X.ex X.co dL_law_1694 rfl (lv_at hl 3 rfl) ?_
  refine w_cS (n := 3) X m_1126 m_0 m_1125 ⟨by decide, by decide, by decide +kernel⟩ (by decide) m_1124 (c_L_harmedAt l hst G Ac AO hAc d1 x σ hQ.1 hQ.2 h0 (xs (i + 1)) lvO oad (enO G f f2) (0, 0) (Or.inl rfl) (oad (0, 0)) rfl f rfl) (g0.step hS hA3) ⟨⟨hCB, hfr⟩, hO⟩ (by omega) rfl hl.1 rfl (Nat.le_of_ble_eq_true rfl) dL_law_1695 (by omega) (by omega) hS (fun q h => h.elim Or.inl (fun z => Or.inr (Or.inl z))) (fun v0 H locs hB hz hk9 hS => ?_)
  obtain ⟨rfl, hCB, hle9, f1, hO, hf1⟩ := hB
  have hM := fw.kept hM (fun j hj => hk9 _ (fw.lt hM hj) (fun z => z.elim (fun z => d2 _ z (fw.in hM hj)) (fun z => d3 _ (fw.in hM hj) z)))
  have hO := enO_0 hO
  have hfr : ∀ q, H.size ≤ q → Ac q := fun q hq => hfr q (Nat.le_trans hz hq)
  refine lv_istore (lv' := [(6, .int (nI ((fHarmedAt σ (xs (i + 1))).2.1 0 0))), (0, .ref b), (1, .ref x), (2, .ref (mad (0, 0))), (3, .ref (oad (0, 0))), (4, .ref (oad (0, 1))), (5, .int (nI i))]) X.ex X.co dL_law_1698 hl (by decide) rfl (fun ls hl => ?_)
  refine lv_aload_n X.ex X.co dL_law_1700 rfl (lv_at hl 3 rfl) ?_
  refine lv_aload_n X.ex X.co dL_law_1701 rfl (lv_at hl 1 rfl) ?_
  refine lv_iload X.ex X.co dL_law_1702 (lv_at hl 6 rfl) ?_
  refine lv_iconst (v := 1) X.ex X.co dL_law_1704 (by decide) ?_
  refine n_add X (x := i) (y := 1) dL_law_1705 ?_
  refine va_sld X.ex X.co hX hbl hbA hS (i := nI (i + 1)) (vp_in_nI (show i + 1 < L by omega) (by omega)) dL_law_1706 ?_
  rw [nI_clamp (show i + 1 < 2 ^ 31 by omega)]
  refine q_eV X ce_X10_harmedAt m_1666 (c_X10_harmedAt l G mad Am hAm ρ σ hσ hQ.1 (xs (i + 1))) (g0.step hS hA3) hM (mo hM) rfl (by omega) rfl hl.1 rfl (Nat.le_of_ble_eq_true rfl) dL_law_1707 (by omega) (by omega) hS (fun q h => Or.inr (Or.inr h)) (fun H locs hM hz hk9 hS => ?_)
  have hCB := CB.keptS hCB hk9 d2
  have hO := fw.kept hO (fun j hj => hk9 _ (fw.lt hO hj) (fun z => d3 _ z (fw.in hO hj)))
  have hfr : ∀ q, H.size ≤ q → Ac q := fun q hq => hfr q (Nat.le_trans hz hq)
  refine lv_istore (lv' := [(7, .int ((fHarmedAt σ (xs (i + 1))).1)), (6, .int (nI ((fHarmedAt σ (xs (i + 1))).2.1 0 0))), (0, .ref b), (1, .ref x), (2, .ref (mad (0, 0))), (3, .ref (oad (0, 0))), (4, .ref (oad (0, 1))), (5, .int (nI i))]) X.ex X.co dL_law_1710 hl (by decide) rfl (fun ls hl => ?_)
  refine lv_aload_n X.ex X.co dL_law_1712 rfl (lv_at hl 4 rfl) ?_
  refine q_rV X ce_X10_thrown m_1486 (c_X10_thrown l G mad Am (fHarmedAt σ (xs (i + 1))).2) (g0.step hS hA3) hM (mo hM) rfl (by omega) rfl hl.1 rfl (Nat.le_of_ble_eq_true rfl) dL_law_1713 (by omega) (by omega) ?_
  refine lv_iload X.ex X.co dL_law_1716 (lv_at hl 1 rfl) ?_
  refine n_cmp_eq X (x := ((fHarmedAt σ (xs (i + 1))).2.1 0 0)) (y := ((fHarmedAt σ (xs (i + 1))).2.1 0 0)) (tgt := 1723) (by omega) (by omega) dL_law_1718 (by decide) (fun c_1 => ?_) (fun c_1 => ?_)
  · refine lv_iload X.ex X.co dL_law_1723 (lv_at hl 1 rfl) ?_
    refine n_if_ne X (x := ((fHarmedAt σ (xs (i + 1))).2.1 0 0)) (tgt := 1740) (by omega) dL_law_1725 (by decide) (fun c_2 => ?_) (fun c_2 => ?_)
    · refine lv_goto (tgt := 2348) X.ex X.co dL_law_1740 (by decide) ?_
      have hQ2 : Qs (fHarmedAt σ (xs (i + 1))).2 := by
        unfold fHarmedAt
        repeat' split
        all_goals first | exact hQ | exact hQ.e _ | exact hQ.z _
      exact kk (fHarmedAt σ (xs (i + 1))).2 f1 f2 H locs ls _ _ ⟨hQ2, hM, hCB, hfr, hO⟩ hS (lv_sub hl [2, 3, 4, 5, 6, 7] rfl) (by omega) (by omega)
    · refine lv_aload_n X.ex X.co dL_law_1728 rfl (lv_at hl 5 rfl) ?_
      refine lv_iconst (v := 0) X.ex X.co dL_law_1729 (by decide) ?_
      refine f_lald X g0.1 (fw.get hO (i := (0, 0)) (Or.inl rfl) rfl rfl) (x := 0) (show vp_in (nI 0) 1 from vp_in_nI (by omega) (by omega)) dL_law_1730 ?_
      rw [show f1 (0 : Int32).toNatClampNeg = (fHarmedAt σ (xs (i + 1))).1.toInt64 from hf1 c_2]
      refine lv_iload X.ex X.co dL_law_1731 (lv_at hl 0 rfl) ?_
      refine lv_i2l X.ex X.co dL_law_1733 rfl ?_
      refine w_lcmp X dL_law_1734 ?_
      refine lv_if_eq (tgt := 1740) X.ex X.co dL_law_1735 (by decide) (fun c_3 => ?_) (fun c_3 => ?_)
      · refine lv_goto (tgt := 2348) X.ex X.co dL_law_1740 (by decide) ?_
        have hQ2 : Qs (fHarmedAt σ (xs (i + 1))).2 := by
          unfold fHarmedAt
          repeat' split
          all_goals first | exact hQ | exact hQ.e _ | exact hQ.z _
        exact kk (fHarmedAt σ (xs (i + 1))).2 f1 f2 H locs ls _ _ ⟨hQ2, hM, hCB, hfr, hO⟩ hS (lv_sub hl [2, 3, 4, 5, 6, 7] rfl) (by omega) (by omega)
      · exact absurd (by decide) c_3
  · exact absurd rfl c_1
set_option maxHeartbeats 4000000 in
set_option maxRecDepth 100000 in
theorem law_26 (hst : l.stackTraces = false) (hAc : ∀ q, Ac q → gA G q) (hAm : ∀ q, Am q → gA G q) (hA3 : ∀ q, (fun q => Ac q ∨ AO q ∨ Am q) q → gA G q) (d1 : ∀ q, Ac q → ¬ AO q) (d2 : ∀ q, Ac q → ¬ Am q) (d3 : ∀ q, Am q → ¬ AO q) (X : CF p s m args meth c cL_law 9 "CourseForgeLaw" (some .boolean)) (g0 : GG G s s.heap) (hX : va_X b L xs s s.heap) (hbl : b < s.heap.size) (hbA : ¬ (fun q => Ac q ∨ AO q ∨ Am q) b) (hR9 : 20 ≤ hR) (hi : i + 5 ≤ L) (hL : L ≤ 2560) (W0 : lawW G Ac Am AO x mad oad ρ f f2 H) (hS : va_S (fun q => Ac q ∨ AO q ∨ Am q) s.heap H locs) (hl : lv_has ls 9 [(0, .ref b), (1, .ref x), (2, .ref (mad (0, 0))), (3, .ref (oad (0, 0))), (4, .ref (oad (0, 1))), (5, .int (nI i))]) (h1 : cells + 110 ≤ rc) (h2 : slots + 2210 ≤ rs)
    (kk : ∀ (ρ : Sg) (f : Nat → Int64) (f2 : Nat → UInt64) (H : Heap) (locs : List Loc) (ls : Array Slot) (cells1 slots1 : Nat), lawW G Ac Am AO x mad oad ρ f f2 H → va_S (fun q => Ac q ∨ AO q ∨ Am q) s.heap H locs → lv_has ls 9 [(0, .ref b), (1, .ref x), (2, .ref (mad (0, 0))), (3, .ref (oad (0, 0))), (4, .ref (oad (0, 1))), (5, .int (nI i))] → cells1 ≤ cells + 110 → slots1 ≤ slots + 2210 → W p l e (RM hR rc rs) s m args below meth c H locs cells1 slots1 Q (F0 m 2348 ls [])) :
    W p l e (RM hR rc rs) s m args below meth c H locs cells slots Q (F0 m 1743 ls []) := by
  obtain ⟨hQ0, hM, hCB0, hfr, hO⟩ := W0
  obtain ⟨σ, hσ⟩ : ∃ σ, σ = sN ρ 0 0 0 := ⟨_, rfl⟩
  have hQ : Qs σ := by rw [hσ]; exact hQ0.z 0
  have h0 : σ.1 0 0 = 0 := by rw [hσ]; rfl
  have hCB : CB G Ac x σ H := by rw [hσ]; exact CB_0 0 hCB0
  obtain ⟨fsB, hfB⟩ := CB_at hCB
  refine lv_aload_n X.ex X.co dL_law_1743 rfl (lv_at hl 1 rfl) ?_
  refine lv_aload_n X.ex X.co dL_law_1744 rfl (lv_at hl 0 rfl) ?_
  refine lv_iload X.ex X.co dL_law_1745 (lv_at hl 5 rfl) ?_
  refine lv_iconst (v := 1) X.ex X.co dL_law_1747 (by decide) ?_
  refine n_add X (x := i) (y := 1) dL_law_1748 ?_
  refine va_sld X.ex X.co hX hbl hbA hS (i := nI (i + 1)) (vp_in_nI (show i + 1 < L by omega) (by omega)) dL_law_1749 ?_
  rw [nI_clamp (show i + 1 < 2 ^ 31 by omega)]
  refine lv_aload_n X.ex X.co dL_law_1750 rfl (lv_at hl 0 rfl) ?_
  refine lv_iload X.ex X.co dL_law_1751 (lv_at hl 5 rfl) ?_
  refine lv_iconst (v := 2) X.ex X.co dL_law_1753 (by decide) ?_
  refine n_add X (x := i) (y := 2) dL_law_1754 ?_
  refine va_sld X.ex X.co hX hbl hbA hS (i := nI (i + 2)) (vp_in_nI (show i + 2 < L by omega) (by omega)) dL_law_1755 ?_
  rw [nI_clamp (show i + 2 < 2 ^ 31 by omega)]
  refine lv_aload_n X.ex X.co dL_law_1756 rfl (lv_at hl 3 rfl) ?_
  refine w_cS (n := 4) X m_1133 m_0 m_1132 ⟨by decide, by decide, by decide +kernel⟩ (by decide) m_1131 (c_L_addCourse l hst G Ac AO hAc d1 x σ hQ.1 hQ.2 h0 (xs (i + 1)) (xs (i + 2)) lvO oad (enO G f f2) (0, 0) (Or.inl rfl) (oad (0, 0)) rfl f rfl) (g0.step hS hA3) ⟨⟨hCB, hfr⟩, hO⟩ (by omega) rfl hl.1 rfl (Nat.le_of_ble_eq_true rfl) dL_law_1757 (by omega) (by omega) hS (fun q h => h.elim Or.inl (fun z => Or.inr (Or.inl z))) (fun v0 H locs hB hz hk9 hS => ?_)
  obtain ⟨rfl, hCB, hle9, f1, hO, hf1⟩ := hB
  have hM := fw.kept hM (fun j hj => hk9 _ (fw.lt hM hj) (fun z => z.elim (fun z => d2 _ z (fw.in hM hj)) (fun z => d3 _ (fw.in hM hj) z)))
  have hO := enO_0 hO
  have hfr : ∀ q, H.size ≤ q → Ac q := fun q hq => hfr q (Nat.le_trans hz hq)
  refine lv_istore (lv' := [(6, .int (nI ((fAddCourse σ (xs (i + 1)) (xs (i + 2))).2.1 0 0))), (0, .ref b), (1, .ref x), (2, .ref (mad (0, 0))), (3, .ref (oad (0, 0))), (4, .ref (oad (0, 1))), (5, .int (nI i))]) X.ex X.co dL_law_1760 hl (by decide) rfl (fun ls hl => ?_)
  refine lv_aload_n X.ex X.co dL_law_1762 rfl (lv_at hl 3 rfl) ?_
  refine lv_aload_n X.ex X.co dL_law_1763 rfl (lv_at hl 1 rfl) ?_
  refine lv_iload X.ex X.co dL_law_1764 (lv_at hl 6 rfl) ?_
  refine lv_iconst (v := 1) X.ex X.co dL_law_1766 (by decide) ?_
  refine n_add X (x := i) (y := 1) dL_law_1767 ?_
  refine va_sld X.ex X.co hX hbl hbA hS (i := nI (i + 1)) (vp_in_nI (show i + 1 < L by omega) (by omega)) dL_law_1768 ?_
  rw [nI_clamp (show i + 1 < 2 ^ 31 by omega)]
  refine lv_aload_n X.ex X.co dL_law_1769 rfl (lv_at hl 1 rfl) ?_
  refine lv_iload X.ex X.co dL_law_1770 (lv_at hl 6 rfl) ?_
  refine lv_iconst (v := 2) X.ex X.co dL_law_1772 (by decide) ?_
  refine n_add X (x := i) (y := 2) dL_law_1773 ?_
  refine va_sld X.ex X.co hX hbl hbA hS (i := nI (i + 2)) (vp_in_nI (show i + 2 < L by omega) (by omega)) dL_law_1774 ?_
  rw [nI_clamp (show i + 2 < 2 ^ 31 by omega)]
  refine q_eV X ce_X10_addCourse m_1670 (c_X10_addCourse l G mad Am hAm ρ σ hσ hQ.1 (xs (i + 1)) (xs (i + 2))) (g0.step hS hA3) hM (mo hM) rfl (by omega) rfl hl.1 rfl (Nat.le_of_ble_eq_true rfl) dL_law_1775 (by omega) (by omega) hS (fun q h => Or.inr (Or.inr h)) (fun H locs hM hz hk9 hS => ?_)
  have hCB := CB.keptS hCB hk9 d2
  have hO := fw.kept hO (fun j hj => hk9 _ (fw.lt hO hj) (fun z => d3 _ z (fw.in hO hj)))
  have hfr : ∀ q, H.size ≤ q → Ac q := fun q hq => hfr q (Nat.le_trans hz hq)
  refine lv_istore (lv' := [(7, .int ((fAddCourse σ (xs (i + 1)) (xs (i + 2))).1)), (6, .int (nI ((fAddCourse σ (xs (i + 1)) (xs (i + 2))).2.1 0 0))), (0, .ref b), (1, .ref x), (2, .ref (mad (0, 0))), (3, .ref (oad (0, 0))), (4, .ref (oad (0, 1))), (5, .int (nI i))]) X.ex X.co dL_law_1778 hl (by decide) rfl (fun ls hl => ?_)
  refine lv_aload_n X.ex X.co dL_law_1780 rfl (lv_at hl 4 rfl) ?_
  refine q_rV X ce_X10_thrown m_1486 (c_X10_thrown l G mad Am (fAddCourse σ (xs (i + 1)) (xs (i + 2))).2) (g0.step hS hA3) hM (mo hM) rfl (by omega) rfl hl.1 rfl (Nat.le_of_ble_eq_true rfl) dL_law_1781 (by omega) (by omega) ?_
  refine lv_iload X.ex X.co dL_law_1784 (lv_at hl 1 rfl) ?_
  refine n_cmp_eq X (x := ((fAddCourse σ (xs (i + 1)) (xs (i + 2))).2.1 0 0)) (y := ((fAddCourse σ (xs (i + 1)) (xs (i + 2))).2.1 0 0)) (tgt := 1791) (by omega) (by omega) dL_law_1786 (by decide) (fun c_1 => ?_) (fun c_1 => ?_)
  · refine lv_iload X.ex X.co dL_law_1791 (lv_at hl 1 rfl) ?_
    refine n_if_ne X (x := ((fAddCourse σ (xs (i + 1)) (xs (i + 2))).2.1 0 0)) (tgt := 1808) (by omega) dL_law_1793 (by decide) (fun c_2 => ?_) (fun c_2 => ?_)
    · refine lv_goto (tgt := 2348) X.ex X.co dL_law_1808 (by decide) ?_
      have hQ2 : Qs (fAddCourse σ (xs (i + 1)) (xs (i + 2))).2 := pr_addCourse hQ  (xs (i + 1)) (xs (i + 2))
      exact kk (fAddCourse σ (xs (i + 1)) (xs (i + 2))).2 f1 f2 H locs ls _ _ ⟨hQ2, hM, hCB, hfr, hO⟩ hS (lv_sub hl [2, 3, 4, 5, 6, 7] rfl) (by omega) (by omega)
    · refine lv_aload_n X.ex X.co dL_law_1796 rfl (lv_at hl 5 rfl) ?_
      refine lv_iconst (v := 0) X.ex X.co dL_law_1797 (by decide) ?_
      refine f_lald X g0.1 (fw.get hO (i := (0, 0)) (Or.inl rfl) rfl rfl) (x := 0) (show vp_in (nI 0) 1 from vp_in_nI (by omega) (by omega)) dL_law_1798 ?_
      rw [show f1 (0 : Int32).toNatClampNeg = (fAddCourse σ (xs (i + 1)) (xs (i + 2))).1.toInt64 from hf1 c_2]
      refine lv_iload X.ex X.co dL_law_1799 (lv_at hl 0 rfl) ?_
      refine lv_i2l X.ex X.co dL_law_1801 rfl ?_
      refine w_lcmp X dL_law_1802 ?_
      refine lv_if_eq (tgt := 1808) X.ex X.co dL_law_1803 (by decide) (fun c_3 => ?_) (fun c_3 => ?_)
      · refine lv_goto (tgt := 2348) X.ex X.co dL_law_1808 (by decide) ?_
        have hQ2 : Qs (fAddCourse σ (xs (i + 1)) (xs (i + 2))).2 := pr_addCourse hQ  (xs (i + 1)) (xs (i + 2))
        exact kk (fAddCourse σ (xs (i + 1)) (xs (i + 2))).2 f1 f2 H locs ls _ _ ⟨hQ2, hM, hCB, hfr, hO⟩ hS (lv_sub hl [2, 3, 4, 5, 6, 7] rfl) (by omega) (by omega)
      · exact absurd (by decide) c_3
  · exact absurd rfl c_1
set_option maxHeartbeats 4000000 in
set_option maxRecDepth 100000 in
theorem law_27 (hst : l.stackTraces = false) (hAc : ∀ q, Ac q → gA G q) (hAm : ∀ q, Am q → gA G q) (hA3 : ∀ q, (fun q => Ac q ∨ AO q ∨ Am q) q → gA G q) (d1 : ∀ q, Ac q → ¬ AO q) (d2 : ∀ q, Ac q → ¬ Am q) (d3 : ∀ q, Am q → ¬ AO q) (X : CF p s m args meth c cL_law 9 "CourseForgeLaw" (some .boolean)) (g0 : GG G s s.heap) (hX : va_X b L xs s s.heap) (hbl : b < s.heap.size) (hbA : ¬ (fun q => Ac q ∨ AO q ∨ Am q) b) (hR9 : 20 ≤ hR) (hi : i + 5 ≤ L) (hL : L ≤ 2560) (W0 : lawW G Ac Am AO x mad oad ρ f f2 H) (hS : va_S (fun q => Ac q ∨ AO q ∨ Am q) s.heap H locs) (hl : lv_has ls 9 [(0, .ref b), (1, .ref x), (2, .ref (mad (0, 0))), (3, .ref (oad (0, 0))), (4, .ref (oad (0, 1))), (5, .int (nI i))]) (h1 : cells + 110 ≤ rc) (h2 : slots + 2210 ≤ rs)
    (kk : ∀ (ρ : Sg) (f : Nat → Int64) (f2 : Nat → UInt64) (H : Heap) (locs : List Loc) (ls : Array Slot) (cells1 slots1 : Nat), lawW G Ac Am AO x mad oad ρ f f2 H → va_S (fun q => Ac q ∨ AO q ∨ Am q) s.heap H locs → lv_has ls 9 [(0, .ref b), (1, .ref x), (2, .ref (mad (0, 0))), (3, .ref (oad (0, 0))), (4, .ref (oad (0, 1))), (5, .int (nI i))] → cells1 ≤ cells + 110 → slots1 ≤ slots + 2210 → W p l e (RM hR rc rs) s m args below meth c H locs cells1 slots1 Q (F0 m 2348 ls [])) :
    W p l e (RM hR rc rs) s m args below meth c H locs cells slots Q (F0 m 1811 ls []) := by
  obtain ⟨hQ0, hM, hCB0, hfr, hO⟩ := W0
  obtain ⟨σ, hσ⟩ : ∃ σ, σ = sN ρ 0 0 0 := ⟨_, rfl⟩
  have hQ : Qs σ := by rw [hσ]; exact hQ0.z 0
  have h0 : σ.1 0 0 = 0 := by rw [hσ]; rfl
  have hCB : CB G Ac x σ H := by rw [hσ]; exact CB_0 0 hCB0
  obtain ⟨fsB, hfB⟩ := CB_at hCB
  refine lv_aload_n X.ex X.co dL_law_1811 rfl (lv_at hl 1 rfl) ?_
  refine lv_aload_n X.ex X.co dL_law_1812 rfl (lv_at hl 0 rfl) ?_
  refine lv_iload X.ex X.co dL_law_1813 (lv_at hl 5 rfl) ?_
  refine lv_iconst (v := 1) X.ex X.co dL_law_1815 (by decide) ?_
  refine n_add X (x := i) (y := 1) dL_law_1816 ?_
  refine va_sld X.ex X.co hX hbl hbA hS (i := nI (i + 1)) (vp_in_nI (show i + 1 < L by omega) (by omega)) dL_law_1817 ?_
  rw [nI_clamp (show i + 1 < 2 ^ 31 by omega)]
  refine lv_aload_n X.ex X.co dL_law_1818 rfl (lv_at hl 0 rfl) ?_
  refine lv_iload X.ex X.co dL_law_1819 (lv_at hl 5 rfl) ?_
  refine lv_iconst (v := 2) X.ex X.co dL_law_1821 (by decide) ?_
  refine n_add X (x := i) (y := 2) dL_law_1822 ?_
  refine va_sld X.ex X.co hX hbl hbA hS (i := nI (i + 2)) (vp_in_nI (show i + 2 < L by omega) (by omega)) dL_law_1823 ?_
  rw [nI_clamp (show i + 2 < 2 ^ 31 by omega)]
  refine lv_aload_n X.ex X.co dL_law_1824 rfl (lv_at hl 3 rfl) ?_
  refine w_cS (n := 4) X m_1158 m_0 m_1157 ⟨by decide, by decide, by decide +kernel⟩ (by decide) m_1156 (c_L_issue l hst G Ac AO hAc d1 x σ hQ.1 hQ.2 h0 (xs (i + 1)) (xs (i + 2)) lvO oad (enO G f f2) (0, 0) (Or.inl rfl) (oad (0, 0)) rfl f rfl) (g0.step hS hA3) ⟨⟨hCB, hfr⟩, hO⟩ (by omega) rfl hl.1 rfl (Nat.le_of_ble_eq_true rfl) dL_law_1825 (by omega) (by omega) hS (fun q h => h.elim Or.inl (fun z => Or.inr (Or.inl z))) (fun v0 H locs hB hz hk9 hS => ?_)
  obtain ⟨rfl, hCB, hle9, f1, hO, hf1⟩ := hB
  have hM := fw.kept hM (fun j hj => hk9 _ (fw.lt hM hj) (fun z => z.elim (fun z => d2 _ z (fw.in hM hj)) (fun z => d3 _ (fw.in hM hj) z)))
  have hO := enO_0 hO
  have hfr : ∀ q, H.size ≤ q → Ac q := fun q hq => hfr q (Nat.le_trans hz hq)
  refine lv_istore (lv' := [(6, .int (nI ((fIssue σ (xs (i + 1)) (xs (i + 2))).2.1 0 0))), (0, .ref b), (1, .ref x), (2, .ref (mad (0, 0))), (3, .ref (oad (0, 0))), (4, .ref (oad (0, 1))), (5, .int (nI i))]) X.ex X.co dL_law_1828 hl (by decide) rfl (fun ls hl => ?_)
  refine lv_aload_n X.ex X.co dL_law_1830 rfl (lv_at hl 3 rfl) ?_
  refine lv_aload_n X.ex X.co dL_law_1831 rfl (lv_at hl 1 rfl) ?_
  refine lv_iload X.ex X.co dL_law_1832 (lv_at hl 6 rfl) ?_
  refine lv_iconst (v := 1) X.ex X.co dL_law_1834 (by decide) ?_
  refine n_add X (x := i) (y := 1) dL_law_1835 ?_
  refine va_sld X.ex X.co hX hbl hbA hS (i := nI (i + 1)) (vp_in_nI (show i + 1 < L by omega) (by omega)) dL_law_1836 ?_
  rw [nI_clamp (show i + 1 < 2 ^ 31 by omega)]
  refine lv_aload_n X.ex X.co dL_law_1837 rfl (lv_at hl 1 rfl) ?_
  refine lv_iload X.ex X.co dL_law_1838 (lv_at hl 6 rfl) ?_
  refine lv_iconst (v := 2) X.ex X.co dL_law_1840 (by decide) ?_
  refine n_add X (x := i) (y := 2) dL_law_1841 ?_
  refine va_sld X.ex X.co hX hbl hbA hS (i := nI (i + 2)) (vp_in_nI (show i + 2 < L by omega) (by omega)) dL_law_1842 ?_
  rw [nI_clamp (show i + 2 < 2 ^ 31 by omega)]
  refine q_eV X ce_X10_issue m_1674 (c_X10_issue l G mad Am hAm ρ σ hσ hQ.1 (xs (i + 1)) (xs (i + 2))) (g0.step hS hA3) hM (mo hM) rfl (by omega) rfl hl.1 rfl (Nat.le_of_ble_eq_true rfl) dL_law_1843 (by omega) (by omega) hS (fun q h => Or.inr (Or.inr h)) (fun H locs hM hz hk9 hS => ?_)
  have hCB := CB.keptS hCB hk9 d2
  have hO := fw.kept hO (fun j hj => hk9 _ (fw.lt hO hj) (fun z => d3 _ z (fw.in hO hj)))
  have hfr : ∀ q, H.size ≤ q → Ac q := fun q hq => hfr q (Nat.le_trans hz hq)
  refine lv_istore (lv' := [(7, .int ((fIssue σ (xs (i + 1)) (xs (i + 2))).1)), (6, .int (nI ((fIssue σ (xs (i + 1)) (xs (i + 2))).2.1 0 0))), (0, .ref b), (1, .ref x), (2, .ref (mad (0, 0))), (3, .ref (oad (0, 0))), (4, .ref (oad (0, 1))), (5, .int (nI i))]) X.ex X.co dL_law_1846 hl (by decide) rfl (fun ls hl => ?_)
  refine lv_aload_n X.ex X.co dL_law_1848 rfl (lv_at hl 4 rfl) ?_
  refine q_rV X ce_X10_thrown m_1486 (c_X10_thrown l G mad Am (fIssue σ (xs (i + 1)) (xs (i + 2))).2) (g0.step hS hA3) hM (mo hM) rfl (by omega) rfl hl.1 rfl (Nat.le_of_ble_eq_true rfl) dL_law_1849 (by omega) (by omega) ?_
  refine lv_iload X.ex X.co dL_law_1852 (lv_at hl 1 rfl) ?_
  refine n_cmp_eq X (x := ((fIssue σ (xs (i + 1)) (xs (i + 2))).2.1 0 0)) (y := ((fIssue σ (xs (i + 1)) (xs (i + 2))).2.1 0 0)) (tgt := 1859) (by omega) (by omega) dL_law_1854 (by decide) (fun c_1 => ?_) (fun c_1 => ?_)
  · refine lv_iload X.ex X.co dL_law_1859 (lv_at hl 1 rfl) ?_
    refine n_if_ne X (x := ((fIssue σ (xs (i + 1)) (xs (i + 2))).2.1 0 0)) (tgt := 1876) (by omega) dL_law_1861 (by decide) (fun c_2 => ?_) (fun c_2 => ?_)
    · refine lv_goto (tgt := 2348) X.ex X.co dL_law_1876 (by decide) ?_
      have hQ2 : Qs (fIssue σ (xs (i + 1)) (xs (i + 2))).2 := pr_issue hQ  (xs (i + 1)) (xs (i + 2))
      exact kk (fIssue σ (xs (i + 1)) (xs (i + 2))).2 f1 f2 H locs ls _ _ ⟨hQ2, hM, hCB, hfr, hO⟩ hS (lv_sub hl [2, 3, 4, 5, 6, 7] rfl) (by omega) (by omega)
    · refine lv_aload_n X.ex X.co dL_law_1864 rfl (lv_at hl 5 rfl) ?_
      refine lv_iconst (v := 0) X.ex X.co dL_law_1865 (by decide) ?_
      refine f_lald X g0.1 (fw.get hO (i := (0, 0)) (Or.inl rfl) rfl rfl) (x := 0) (show vp_in (nI 0) 1 from vp_in_nI (by omega) (by omega)) dL_law_1866 ?_
      rw [show f1 (0 : Int32).toNatClampNeg = (fIssue σ (xs (i + 1)) (xs (i + 2))).1.toInt64 from hf1 c_2]
      refine lv_iload X.ex X.co dL_law_1867 (lv_at hl 0 rfl) ?_
      refine lv_i2l X.ex X.co dL_law_1869 rfl ?_
      refine w_lcmp X dL_law_1870 ?_
      refine lv_if_eq (tgt := 1876) X.ex X.co dL_law_1871 (by decide) (fun c_3 => ?_) (fun c_3 => ?_)
      · refine lv_goto (tgt := 2348) X.ex X.co dL_law_1876 (by decide) ?_
        have hQ2 : Qs (fIssue σ (xs (i + 1)) (xs (i + 2))).2 := pr_issue hQ  (xs (i + 1)) (xs (i + 2))
        exact kk (fIssue σ (xs (i + 1)) (xs (i + 2))).2 f1 f2 H locs ls _ _ ⟨hQ2, hM, hCB, hfr, hO⟩ hS (lv_sub hl [2, 3, 4, 5, 6, 7] rfl) (by omega) (by omega)
      · exact absurd (by decide) c_3
  · exact absurd rfl c_1
set_option maxHeartbeats 4000000 in
set_option maxRecDepth 100000 in
theorem law_28 (hst : l.stackTraces = false) (hAc : ∀ q, Ac q → gA G q) (hAm : ∀ q, Am q → gA G q) (hA3 : ∀ q, (fun q => Ac q ∨ AO q ∨ Am q) q → gA G q) (d1 : ∀ q, Ac q → ¬ AO q) (d2 : ∀ q, Ac q → ¬ Am q) (d3 : ∀ q, Am q → ¬ AO q) (X : CF p s m args meth c cL_law 9 "CourseForgeLaw" (some .boolean)) (g0 : GG G s s.heap) (hX : va_X b L xs s s.heap) (hbl : b < s.heap.size) (hbA : ¬ (fun q => Ac q ∨ AO q ∨ Am q) b) (hR9 : 20 ≤ hR) (hi : i + 5 ≤ L) (hL : L ≤ 2560) (W0 : lawW G Ac Am AO x mad oad ρ f f2 H) (hS : va_S (fun q => Ac q ∨ AO q ∨ Am q) s.heap H locs) (hl : lv_has ls 9 [(0, .ref b), (1, .ref x), (2, .ref (mad (0, 0))), (3, .ref (oad (0, 0))), (4, .ref (oad (0, 1))), (5, .int (nI i))]) (h1 : cells + 110 ≤ rc) (h2 : slots + 2210 ≤ rs)
    (kk : ∀ (ρ : Sg) (f : Nat → Int64) (f2 : Nat → UInt64) (H : Heap) (locs : List Loc) (ls : Array Slot) (cells1 slots1 : Nat), lawW G Ac Am AO x mad oad ρ f f2 H → va_S (fun q => Ac q ∨ AO q ∨ Am q) s.heap H locs → lv_has ls 9 [(0, .ref b), (1, .ref x), (2, .ref (mad (0, 0))), (3, .ref (oad (0, 0))), (4, .ref (oad (0, 1))), (5, .int (nI i))] → cells1 ≤ cells + 110 → slots1 ≤ slots + 2210 → W p l e (RM hR rc rs) s m args below meth c H locs cells1 slots1 Q (F0 m 2348 ls [])) :
    W p l e (RM hR rc rs) s m args below meth c H locs cells slots Q (F0 m 1879 ls []) := by
  obtain ⟨hQ0, hM, hCB0, hfr, hO⟩ := W0
  obtain ⟨σ, hσ⟩ : ∃ σ, σ = sN ρ 0 0 0 := ⟨_, rfl⟩
  have hQ : Qs σ := by rw [hσ]; exact hQ0.z 0
  have h0 : σ.1 0 0 = 0 := by rw [hσ]; rfl
  have hCB : CB G Ac x σ H := by rw [hσ]; exact CB_0 0 hCB0
  obtain ⟨fsB, hfB⟩ := CB_at hCB
  refine lv_aload_n X.ex X.co dL_law_1879 rfl (lv_at hl 1 rfl) ?_
  refine lv_aload_n X.ex X.co dL_law_1880 rfl (lv_at hl 0 rfl) ?_
  refine lv_iload X.ex X.co dL_law_1881 (lv_at hl 5 rfl) ?_
  refine lv_iconst (v := 1) X.ex X.co dL_law_1883 (by decide) ?_
  refine n_add X (x := i) (y := 1) dL_law_1884 ?_
  refine va_sld X.ex X.co hX hbl hbA hS (i := nI (i + 1)) (vp_in_nI (show i + 1 < L by omega) (by omega)) dL_law_1885 ?_
  rw [nI_clamp (show i + 1 < 2 ^ 31 by omega)]
  refine lv_aload_n X.ex X.co dL_law_1886 rfl (lv_at hl 3 rfl) ?_
  refine w_cS (n := 3) X m_1202 m_0 m_1201 ⟨by decide, by decide, by decide +kernel⟩ (by decide) m_1200 (c_L_doesStand l hst G Ac AO hAc d1 x σ hQ.1 hQ.2 h0 (xs (i + 1)) lvO oad (enO G f f2) (0, 0) (Or.inl rfl) (oad (0, 0)) rfl f rfl) (g0.step hS hA3) ⟨⟨hCB, hfr⟩, hO⟩ (by omega) rfl hl.1 rfl (Nat.le_of_ble_eq_true rfl) dL_law_1887 (by omega) (by omega) hS (fun q h => h.elim Or.inl (fun z => Or.inr (Or.inl z))) (fun v0 H locs hB hz hk9 hS => ?_)
  obtain ⟨rfl, hCB, hle9, f1, hO, hf1⟩ := hB
  have hM := fw.kept hM (fun j hj => hk9 _ (fw.lt hM hj) (fun z => z.elim (fun z => d2 _ z (fw.in hM hj)) (fun z => d3 _ (fw.in hM hj) z)))
  have hO := enO_0 hO
  have hfr : ∀ q, H.size ≤ q → Ac q := fun q hq => hfr q (Nat.le_trans hz hq)
  refine lv_istore (lv' := [(6, .int (nI ((fDoesStand σ (xs (i + 1))).2.1 0 0))), (0, .ref b), (1, .ref x), (2, .ref (mad (0, 0))), (3, .ref (oad (0, 0))), (4, .ref (oad (0, 1))), (5, .int (nI i))]) X.ex X.co dL_law_1890 hl (by decide) rfl (fun ls hl => ?_)
  refine lv_aload_n X.ex X.co dL_law_1892 rfl (lv_at hl 3 rfl) ?_
  refine lv_aload_n X.ex X.co dL_law_1893 rfl (lv_at hl 1 rfl) ?_
  refine lv_iload X.ex X.co dL_law_1894 (lv_at hl 6 rfl) ?_
  refine lv_iconst (v := 1) X.ex X.co dL_law_1896 (by decide) ?_
  refine n_add X (x := i) (y := 1) dL_law_1897 ?_
  refine va_sld X.ex X.co hX hbl hbA hS (i := nI (i + 1)) (vp_in_nI (show i + 1 < L by omega) (by omega)) dL_law_1898 ?_
  rw [nI_clamp (show i + 1 < 2 ^ 31 by omega)]
  refine q_eV X ce_X10_doesStand m_1686 (c_X10_doesStand l G mad Am hAm ρ σ hσ hQ.1 (xs (i + 1))) (g0.step hS hA3) hM (mo hM) rfl (by omega) rfl hl.1 rfl (Nat.le_of_ble_eq_true rfl) dL_law_1899 (by omega) (by omega) hS (fun q h => Or.inr (Or.inr h)) (fun H locs hM hz hk9 hS => ?_)
  have hCB := CB.keptS hCB hk9 d2
  have hO := fw.kept hO (fun j hj => hk9 _ (fw.lt hO hj) (fun z => d3 _ z (fw.in hO hj)))
  have hfr : ∀ q, H.size ≤ q → Ac q := fun q hq => hfr q (Nat.le_trans hz hq)
  refine lv_istore (lv' := [(7, .int ((fDoesStand σ (xs (i + 1))).1)), (6, .int (nI ((fDoesStand σ (xs (i + 1))).2.1 0 0))), (0, .ref b), (1, .ref x), (2, .ref (mad (0, 0))), (3, .ref (oad (0, 0))), (4, .ref (oad (0, 1))), (5, .int (nI i))]) X.ex X.co dL_law_1902 hl (by decide) rfl (fun ls hl => ?_)
  refine lv_aload_n X.ex X.co dL_law_1904 rfl (lv_at hl 4 rfl) ?_
  refine q_rV X ce_X10_thrown m_1486 (c_X10_thrown l G mad Am (fDoesStand σ (xs (i + 1))).2) (g0.step hS hA3) hM (mo hM) rfl (by omega) rfl hl.1 rfl (Nat.le_of_ble_eq_true rfl) dL_law_1905 (by omega) (by omega) ?_
  refine lv_iload X.ex X.co dL_law_1908 (lv_at hl 1 rfl) ?_
  refine n_cmp_eq X (x := ((fDoesStand σ (xs (i + 1))).2.1 0 0)) (y := ((fDoesStand σ (xs (i + 1))).2.1 0 0)) (tgt := 1915) (by omega) (by omega) dL_law_1910 (by decide) (fun c_1 => ?_) (fun c_1 => ?_)
  · refine lv_iload X.ex X.co dL_law_1915 (lv_at hl 1 rfl) ?_
    refine n_if_ne X (x := ((fDoesStand σ (xs (i + 1))).2.1 0 0)) (tgt := 1939) (by omega) dL_law_1917 (by decide) (fun c_2 => ?_) (fun c_2 => ?_)
    · refine lv_goto (tgt := 2348) X.ex X.co dL_law_1939 (by decide) ?_
      have hQ2 : Qs (fDoesStand σ (xs (i + 1))).2 := by
        unfold fDoesStand
        repeat' split
        all_goals first | exact hQ | exact hQ.e _ | exact hQ.z _
      exact kk (fDoesStand σ (xs (i + 1))).2 f1 f2 H locs ls _ _ ⟨hQ2, hM, hCB, hfr, hO⟩ hS (lv_sub hl [2, 3, 4, 5, 6, 7] rfl) (by omega) (by omega)
    · refine lv_aload_n X.ex X.co dL_law_1920 rfl (lv_at hl 5 rfl) ?_
      refine lv_iconst (v := 0) X.ex X.co dL_law_1921 (by decide) ?_
      refine f_lald X g0.1 (fw.get hO (i := (0, 0)) (Or.inl rfl) rfl rfl) (x := 0) (show vp_in (nI 0) 1 from vp_in_nI (by omega) (by omega)) dL_law_1922 ?_
      rw [show f1 (0 : Int32).toNatClampNeg = (fDoesStand σ (xs (i + 1))).1.toInt64 from hf1 c_2]
      refine lv_iload X.ex X.co dL_law_1923 (lv_at hl 0 rfl) ?_
      refine lv_if_eq (tgt := 1932) X.ex X.co dL_law_1925 (by decide) (fun c_3 => ?_) (fun c_3 => ?_)
      · refine lv_lconst (v := 0) X.ex X.co dL_law_1932 rfl ?_
        rw [show (fDoesStand σ (xs (i + 1))).1.toInt64 = 0 from by rw [c_3]; rfl]
        refine w_lcmp X dL_law_1933 ?_
        refine lv_if_eq (tgt := 1939) X.ex X.co dL_law_1934 (by decide) (fun c_4 => ?_) (fun c_4 => ?_)
        · refine lv_goto (tgt := 2348) X.ex X.co dL_law_1939 (by decide) ?_
          have hQ2 : Qs (fDoesStand σ (xs (i + 1))).2 := by
            unfold fDoesStand
            repeat' split
            all_goals first | exact hQ | exact hQ.e _ | exact hQ.z _
          exact kk (fDoesStand σ (xs (i + 1))).2 f1 f2 H locs ls _ _ ⟨hQ2, hM, hCB, hfr, hO⟩ hS (lv_sub hl [2, 3, 4, 5, 6, 7] rfl) (by omega) (by omega)
        · exact absurd (by decide) c_4
      · refine lv_lconst (v := 1) X.ex X.co dL_law_1928 rfl ?_
        refine lv_goto (tgt := 1933) X.ex X.co dL_law_1929 (by decide) ?_
        rw [show (fDoesStand σ (xs (i + 1))).1.toInt64 = 1 from by rw [(ds_01 _ _).resolve_left c_3]; rfl]
        refine w_lcmp X dL_law_1933 ?_
        refine lv_if_eq (tgt := 1939) X.ex X.co dL_law_1934 (by decide) (fun c_5 => ?_) (fun c_5 => ?_)
        · refine lv_goto (tgt := 2348) X.ex X.co dL_law_1939 (by decide) ?_
          have hQ2 : Qs (fDoesStand σ (xs (i + 1))).2 := by
            unfold fDoesStand
            repeat' split
            all_goals first | exact hQ | exact hQ.e _ | exact hQ.z _
          exact kk (fDoesStand σ (xs (i + 1))).2 f1 f2 H locs ls _ _ ⟨hQ2, hM, hCB, hfr, hO⟩ hS (lv_sub hl [2, 3, 4, 5, 6, 7] rfl) (by omega) (by omega)
        · exact absurd (by decide) c_5
  · exact absurd rfl c_1
set_option maxHeartbeats 4000000 in
set_option maxRecDepth 100000 in
theorem law_29 (hst : l.stackTraces = false) (hAc : ∀ q, Ac q → gA G q) (hAm : ∀ q, Am q → gA G q) (hA3 : ∀ q, (fun q => Ac q ∨ AO q ∨ Am q) q → gA G q) (d1 : ∀ q, Ac q → ¬ AO q) (d2 : ∀ q, Ac q → ¬ Am q) (d3 : ∀ q, Am q → ¬ AO q) (X : CF p s m args meth c cL_law 9 "CourseForgeLaw" (some .boolean)) (g0 : GG G s s.heap) (hX : va_X b L xs s s.heap) (hbl : b < s.heap.size) (hbA : ¬ (fun q => Ac q ∨ AO q ∨ Am q) b) (hR9 : 20 ≤ hR) (hi : i + 5 ≤ L) (hL : L ≤ 2560) (W0 : lawW G Ac Am AO x mad oad ρ f f2 H) (hS : va_S (fun q => Ac q ∨ AO q ∨ Am q) s.heap H locs) (hl : lv_has ls 9 [(0, .ref b), (1, .ref x), (2, .ref (mad (0, 0))), (3, .ref (oad (0, 0))), (4, .ref (oad (0, 1))), (5, .int (nI i))]) (h1 : cells + 110 ≤ rc) (h2 : slots + 2210 ≤ rs)
    (kk : ∀ (ρ : Sg) (f : Nat → Int64) (f2 : Nat → UInt64) (H : Heap) (locs : List Loc) (ls : Array Slot) (cells1 slots1 : Nat), lawW G Ac Am AO x mad oad ρ f f2 H → va_S (fun q => Ac q ∨ AO q ∨ Am q) s.heap H locs → lv_has ls 9 [(0, .ref b), (1, .ref x), (2, .ref (mad (0, 0))), (3, .ref (oad (0, 0))), (4, .ref (oad (0, 1))), (5, .int (nI i))] → cells1 ≤ cells + 110 → slots1 ≤ slots + 2210 → W p l e (RM hR rc rs) s m args below meth c H locs cells1 slots1 Q (F0 m 2348 ls [])) :
    W p l e (RM hR rc rs) s m args below meth c H locs cells slots Q (F0 m 1942 ls []) := by
  obtain ⟨hQ0, hM, hCB0, hfr, hO⟩ := W0
  obtain ⟨σ, hσ⟩ : ∃ σ, σ = sN ρ 0 0 0 := ⟨_, rfl⟩
  have hQ : Qs σ := by rw [hσ]; exact hQ0.z 0
  have h0 : σ.1 0 0 = 0 := by rw [hσ]; rfl
  have hCB : CB G Ac x σ H := by rw [hσ]; exact CB_0 0 hCB0
  obtain ⟨fsB, hfB⟩ := CB_at hCB
  refine lv_aload_n X.ex X.co dL_law_1942 rfl (lv_at hl 1 rfl) ?_
  refine lv_aload_n X.ex X.co dL_law_1943 rfl (lv_at hl 0 rfl) ?_
  refine lv_iload X.ex X.co dL_law_1944 (lv_at hl 5 rfl) ?_
  refine lv_iconst (v := 1) X.ex X.co dL_law_1946 (by decide) ?_
  refine n_add X (x := i) (y := 1) dL_law_1947 ?_
  refine va_sld X.ex X.co hX hbl hbA hS (i := nI (i + 1)) (vp_in_nI (show i + 1 < L by omega) (by omega)) dL_law_1948 ?_
  rw [nI_clamp (show i + 1 < 2 ^ 31 by omega)]
  refine lv_aload_n X.ex X.co dL_law_1949 rfl (lv_at hl 0 rfl) ?_
  refine lv_iload X.ex X.co dL_law_1950 (lv_at hl 5 rfl) ?_
  refine lv_iconst (v := 2) X.ex X.co dL_law_1952 (by decide) ?_
  refine n_add X (x := i) (y := 2) dL_law_1953 ?_
  refine va_sld X.ex X.co hX hbl hbA hS (i := nI (i + 2)) (vp_in_nI (show i + 2 < L by omega) (by omega)) dL_law_1954 ?_
  rw [nI_clamp (show i + 2 < 2 ^ 31 by omega)]
  refine lv_aload_n X.ex X.co dL_law_1955 rfl (lv_at hl 3 rfl) ?_
  refine w_cS (n := 4) X m_1210 m_0 m_1209 ⟨by decide, by decide, by decide +kernel⟩ (by decide) m_1208 (c_L_certificateOf l hst G Ac AO hAc d1 x σ hQ.1 hQ.2 h0 (xs (i + 1)) (xs (i + 2)) lvO oad (enO G f f2) (0, 0) (Or.inl rfl) (oad (0, 0)) rfl f rfl) (g0.step hS hA3) ⟨⟨hCB, hfr⟩, hO⟩ (by omega) rfl hl.1 rfl (Nat.le_of_ble_eq_true rfl) dL_law_1956 (by omega) (by omega) hS (fun q h => h.elim Or.inl (fun z => Or.inr (Or.inl z))) (fun v0 H locs hB hz hk9 hS => ?_)
  obtain ⟨rfl, hCB, hle9, f1, hO, hf1⟩ := hB
  have hM := fw.kept hM (fun j hj => hk9 _ (fw.lt hM hj) (fun z => z.elim (fun z => d2 _ z (fw.in hM hj)) (fun z => d3 _ (fw.in hM hj) z)))
  have hO := enO_0 hO
  have hfr : ∀ q, H.size ≤ q → Ac q := fun q hq => hfr q (Nat.le_trans hz hq)
  refine lv_istore (lv' := [(6, .int (nI ((fCertificateOf σ (xs (i + 1)) (xs (i + 2))).2.1 0 0))), (0, .ref b), (1, .ref x), (2, .ref (mad (0, 0))), (3, .ref (oad (0, 0))), (4, .ref (oad (0, 1))), (5, .int (nI i))]) X.ex X.co dL_law_1959 hl (by decide) rfl (fun ls hl => ?_)
  refine lv_aload_n X.ex X.co dL_law_1961 rfl (lv_at hl 3 rfl) ?_
  refine lv_aload_n X.ex X.co dL_law_1962 rfl (lv_at hl 1 rfl) ?_
  refine lv_iload X.ex X.co dL_law_1963 (lv_at hl 6 rfl) ?_
  refine lv_iconst (v := 1) X.ex X.co dL_law_1965 (by decide) ?_
  refine n_add X (x := i) (y := 1) dL_law_1966 ?_
  refine va_sld X.ex X.co hX hbl hbA hS (i := nI (i + 1)) (vp_in_nI (show i + 1 < L by omega) (by omega)) dL_law_1967 ?_
  rw [nI_clamp (show i + 1 < 2 ^ 31 by omega)]
  refine lv_aload_n X.ex X.co dL_law_1968 rfl (lv_at hl 1 rfl) ?_
  refine lv_iload X.ex X.co dL_law_1969 (lv_at hl 6 rfl) ?_
  refine lv_iconst (v := 2) X.ex X.co dL_law_1971 (by decide) ?_
  refine n_add X (x := i) (y := 2) dL_law_1972 ?_
  refine va_sld X.ex X.co hX hbl hbA hS (i := nI (i + 2)) (vp_in_nI (show i + 2 < L by omega) (by omega)) dL_law_1973 ?_
  rw [nI_clamp (show i + 2 < 2 ^ 31 by omega)]
  refine q_eV X ce_X10_certificateOf m_1690 (c_X10_certificateOf l G mad Am hAm ρ σ hσ hQ.1 (xs (i + 1)) (xs (i + 2))) (g0.step hS hA3) hM (mo hM) rfl (by omega) rfl hl.1 rfl (Nat.le_of_ble_eq_true rfl) dL_law_1974 (by omega) (by omega) hS (fun q h => Or.inr (Or.inr h)) (fun H locs hM hz hk9 hS => ?_)
  have hCB := CB.keptS hCB hk9 d2
  have hO := fw.kept hO (fun j hj => hk9 _ (fw.lt hO hj) (fun z => d3 _ z (fw.in hO hj)))
  have hfr : ∀ q, H.size ≤ q → Ac q := fun q hq => hfr q (Nat.le_trans hz hq)
  refine lv_istore (lv' := [(7, .int ((fCertificateOf σ (xs (i + 1)) (xs (i + 2))).1)), (6, .int (nI ((fCertificateOf σ (xs (i + 1)) (xs (i + 2))).2.1 0 0))), (0, .ref b), (1, .ref x), (2, .ref (mad (0, 0))), (3, .ref (oad (0, 0))), (4, .ref (oad (0, 1))), (5, .int (nI i))]) X.ex X.co dL_law_1977 hl (by decide) rfl (fun ls hl => ?_)
  refine lv_aload_n X.ex X.co dL_law_1979 rfl (lv_at hl 4 rfl) ?_
  refine q_rV X ce_X10_thrown m_1486 (c_X10_thrown l G mad Am (fCertificateOf σ (xs (i + 1)) (xs (i + 2))).2) (g0.step hS hA3) hM (mo hM) rfl (by omega) rfl hl.1 rfl (Nat.le_of_ble_eq_true rfl) dL_law_1980 (by omega) (by omega) ?_
  refine lv_iload X.ex X.co dL_law_1983 (lv_at hl 1 rfl) ?_
  refine n_cmp_eq X (x := ((fCertificateOf σ (xs (i + 1)) (xs (i + 2))).2.1 0 0)) (y := ((fCertificateOf σ (xs (i + 1)) (xs (i + 2))).2.1 0 0)) (tgt := 1990) (by omega) (by omega) dL_law_1985 (by decide) (fun c_1 => ?_) (fun c_1 => ?_)
  · refine lv_iload X.ex X.co dL_law_1990 (lv_at hl 1 rfl) ?_
    refine n_if_ne X (x := ((fCertificateOf σ (xs (i + 1)) (xs (i + 2))).2.1 0 0)) (tgt := 2007) (by omega) dL_law_1992 (by decide) (fun c_2 => ?_) (fun c_2 => ?_)
    · refine lv_goto (tgt := 2348) X.ex X.co dL_law_2007 (by decide) ?_
      have hQ2 : Qs (fCertificateOf σ (xs (i + 1)) (xs (i + 2))).2 := by
        unfold fCertificateOf
        repeat' split
        all_goals first | exact hQ | exact hQ.e _ | exact hQ.z _
      exact kk (fCertificateOf σ (xs (i + 1)) (xs (i + 2))).2 f1 f2 H locs ls _ _ ⟨hQ2, hM, hCB, hfr, hO⟩ hS (lv_sub hl [2, 3, 4, 5, 6, 7] rfl) (by omega) (by omega)
    · refine lv_aload_n X.ex X.co dL_law_1995 rfl (lv_at hl 5 rfl) ?_
      refine lv_iconst (v := 0) X.ex X.co dL_law_1996 (by decide) ?_
      refine f_lald X g0.1 (fw.get hO (i := (0, 0)) (Or.inl rfl) rfl rfl) (x := 0) (show vp_in (nI 0) 1 from vp_in_nI (by omega) (by omega)) dL_law_1997 ?_
      rw [show f1 (0 : Int32).toNatClampNeg = (fCertificateOf σ (xs (i + 1)) (xs (i + 2))).1.toInt64 from hf1 c_2]
      refine lv_iload X.ex X.co dL_law_1998 (lv_at hl 0 rfl) ?_
      refine lv_i2l X.ex X.co dL_law_2000 rfl ?_
      refine w_lcmp X dL_law_2001 ?_
      refine lv_if_eq (tgt := 2007) X.ex X.co dL_law_2002 (by decide) (fun c_3 => ?_) (fun c_3 => ?_)
      · refine lv_goto (tgt := 2348) X.ex X.co dL_law_2007 (by decide) ?_
        have hQ2 : Qs (fCertificateOf σ (xs (i + 1)) (xs (i + 2))).2 := by
          unfold fCertificateOf
          repeat' split
          all_goals first | exact hQ | exact hQ.e _ | exact hQ.z _
        exact kk (fCertificateOf σ (xs (i + 1)) (xs (i + 2))).2 f1 f2 H locs ls _ _ ⟨hQ2, hM, hCB, hfr, hO⟩ hS (lv_sub hl [2, 3, 4, 5, 6, 7] rfl) (by omega) (by omega)
      · exact absurd (by decide) c_3
  · exact absurd rfl c_1
set_option maxHeartbeats 4000000 in
set_option maxRecDepth 100000 in
theorem law_30 (hst : l.stackTraces = false) (hAc : ∀ q, Ac q → gA G q) (hAm : ∀ q, Am q → gA G q) (hA3 : ∀ q, (fun q => Ac q ∨ AO q ∨ Am q) q → gA G q) (d1 : ∀ q, Ac q → ¬ AO q) (d2 : ∀ q, Ac q → ¬ Am q) (d3 : ∀ q, Am q → ¬ AO q) (X : CF p s m args meth c cL_law 9 "CourseForgeLaw" (some .boolean)) (g0 : GG G s s.heap) (hX : va_X b L xs s s.heap) (hbl : b < s.heap.size) (hbA : ¬ (fun q => Ac q ∨ AO q ∨ Am q) b) (hR9 : 20 ≤ hR) (hi : i + 5 ≤ L) (hL : L ≤ 2560) (W0 : lawW G Ac Am AO x mad oad ρ f f2 H) (hS : va_S (fun q => Ac q ∨ AO q ∨ Am q) s.heap H locs) (hl : lv_has ls 9 [(0, .ref b), (1, .ref x), (2, .ref (mad (0, 0))), (3, .ref (oad (0, 0))), (4, .ref (oad (0, 1))), (5, .int (nI i))]) (h1 : cells + 110 ≤ rc) (h2 : slots + 2210 ≤ rs)
    (kk : ∀ (ρ : Sg) (f : Nat → Int64) (f2 : Nat → UInt64) (H : Heap) (locs : List Loc) (ls : Array Slot) (cells1 slots1 : Nat), lawW G Ac Am AO x mad oad ρ f f2 H → va_S (fun q => Ac q ∨ AO q ∨ Am q) s.heap H locs → lv_has ls 9 [(0, .ref b), (1, .ref x), (2, .ref (mad (0, 0))), (3, .ref (oad (0, 0))), (4, .ref (oad (0, 1))), (5, .int (nI i))] → cells1 ≤ cells + 110 → slots1 ≤ slots + 2210 → W p l e (RM hR rc rs) s m args below meth c H locs cells1 slots1 Q (F0 m 2348 ls [])) :
    W p l e (RM hR rc rs) s m args below meth c H locs cells slots Q (F0 m 2010 ls []) := by
  obtain ⟨hQ0, hM, hCB0, hfr, hO⟩ := W0
  obtain ⟨σ, hσ⟩ : ∃ σ, σ = sN ρ 0 0 0 := ⟨_, rfl⟩
  have hQ : Qs σ := by rw [hσ]; exact hQ0.z 0
  have h0 : σ.1 0 0 = 0 := by rw [hσ]; rfl
  have hCB : CB G Ac x σ H := by rw [hσ]; exact CB_0 0 hCB0
  obtain ⟨fsB, hfB⟩ := CB_at hCB
  refine lv_aload_n X.ex X.co dL_law_2010 rfl (lv_at hl 1 rfl) ?_
  refine q_cV X ce_X9_revoked m_156 (c_X9_revoked l G Ac hAc x σ hQ.1 hQ.2 h0) (g0.step hS hA3) ⟨hCB, hfr⟩ hfB rfl (by omega) rfl hl.1 rfl (Nat.le_of_ble_eq_true rfl) dL_law_2011 (by omega) (by omega) hS (fun q h => Or.inl h) (fun v0 H locs hB hz hk9 hS => ?_)
  obtain ⟨rfl, hk0, hCB⟩ := hB
  have hM := fw.kept hM (fun j hj => hk9 _ (fw.lt hM hj) (fun z => d2 _ z (fw.in hM hj)))
  have hO := fw.kept hO (fun j hj => hk9 _ (fw.lt hO hj) (fun z => d1 _ z (fw.in hO hj)))
  have hfr : ∀ q, H.size ≤ q → Ac q := fun q hq => hfr q (Nat.le_trans hz hq)
  refine lv_aload_n X.ex X.co dL_law_2014 rfl (lv_at hl 2 rfl) ?_
  refine q_eV X ce_X10_revoked m_1694 (c_X10_revoked l G mad Am hAm ρ σ hσ hQ.1) (g0.step hS hA3) hM (mo hM) rfl (by omega) rfl hl.1 rfl (Nat.le_of_ble_eq_true rfl) dL_law_2015 (by omega) (by omega) hS (fun q h => Or.inr (Or.inr h)) (fun H locs hM hz hk9 hS => ?_)
  have hCB := CB.keptS hCB hk9 d2
  have hO := fw.kept hO (fun j hj => hk9 _ (fw.lt hO hj) (fun z => d3 _ z (fw.in hO hj)))
  have hfr : ∀ q, H.size ≤ q → Ac q := fun q hq => hfr q (Nat.le_trans hz hq)
  refine lv_icmp_eq (tgt := 2348) X.ex X.co dL_law_2018 (by decide) (fun c_1 => ?_) (fun c_1 => ?_)
  · have hQ2 : Qs (fRevoked σ).2 := by
      unfold fRevoked
      repeat' split
      all_goals first | exact hQ | exact hQ.e _ | exact hQ.z _
    exact kk (fRevoked σ).2 f f2 H locs ls _ _ ⟨hQ2, hM, hCB, hfr, hO⟩ hS (lv_sub hl [0, 1, 2, 3, 4, 5] rfl) (by omega) (by omega)
  · exact absurd rfl c_1
set_option maxHeartbeats 4000000 in
set_option maxRecDepth 100000 in
theorem law_31 (hst : l.stackTraces = false) (hAc : ∀ q, Ac q → gA G q) (hAm : ∀ q, Am q → gA G q) (hA3 : ∀ q, (fun q => Ac q ∨ AO q ∨ Am q) q → gA G q) (d1 : ∀ q, Ac q → ¬ AO q) (d2 : ∀ q, Ac q → ¬ Am q) (d3 : ∀ q, Am q → ¬ AO q) (X : CF p s m args meth c cL_law 9 "CourseForgeLaw" (some .boolean)) (g0 : GG G s s.heap) (hX : va_X b L xs s s.heap) (hbl : b < s.heap.size) (hbA : ¬ (fun q => Ac q ∨ AO q ∨ Am q) b) (hR9 : 20 ≤ hR) (hi : i + 5 ≤ L) (hL : L ≤ 2560) (W0 : lawW G Ac Am AO x mad oad ρ f f2 H) (hS : va_S (fun q => Ac q ∨ AO q ∨ Am q) s.heap H locs) (hl : lv_has ls 9 [(0, .ref b), (1, .ref x), (2, .ref (mad (0, 0))), (3, .ref (oad (0, 0))), (4, .ref (oad (0, 1))), (5, .int (nI i))]) (h1 : cells + 110 ≤ rc) (h2 : slots + 2210 ≤ rs)
    (kk : ∀ (ρ : Sg) (f : Nat → Int64) (f2 : Nat → UInt64) (H : Heap) (locs : List Loc) (ls : Array Slot) (cells1 slots1 : Nat), lawW G Ac Am AO x mad oad ρ f f2 H → va_S (fun q => Ac q ∨ AO q ∨ Am q) s.heap H locs → lv_has ls 9 [(0, .ref b), (1, .ref x), (2, .ref (mad (0, 0))), (3, .ref (oad (0, 0))), (4, .ref (oad (0, 1))), (5, .int (nI i))] → cells1 ≤ cells + 110 → slots1 ≤ slots + 2210 → W p l e (RM hR rc rs) s m args below meth c H locs cells1 slots1 Q (F0 m 2348 ls [])) :
    W p l e (RM hR rc rs) s m args below meth c H locs cells slots Q (F0 m 2023 ls []) := by
  obtain ⟨hQ0, hM, hCB0, hfr, hO⟩ := W0
  obtain ⟨σ, hσ⟩ : ∃ σ, σ = sN ρ 0 0 0 := ⟨_, rfl⟩
  have hQ : Qs σ := by rw [hσ]; exact hQ0.z 0
  have h0 : σ.1 0 0 = 0 := by rw [hσ]; rfl
  have hCB : CB G Ac x σ H := by rw [hσ]; exact CB_0 0 hCB0
  obtain ⟨fsB, hfB⟩ := CB_at hCB
  refine lv_aload_n X.ex X.co dL_law_2023 rfl (lv_at hl 1 rfl) ?_
  refine lv_aload_n X.ex X.co dL_law_2024 rfl (lv_at hl 0 rfl) ?_
  refine lv_iload X.ex X.co dL_law_2025 (lv_at hl 5 rfl) ?_
  refine lv_iconst (v := 1) X.ex X.co dL_law_2027 (by decide) ?_
  refine n_add X (x := i) (y := 1) dL_law_2028 ?_
  refine va_sld X.ex X.co hX hbl hbA hS (i := nI (i + 1)) (vp_in_nI (show i + 1 < L by omega) (by omega)) dL_law_2029 ?_
  rw [nI_clamp (show i + 1 < 2 ^ 31 by omega)]
  refine lv_aload_n X.ex X.co dL_law_2030 rfl (lv_at hl 3 rfl) ?_
  refine w_cS (n := 3) X m_1218 m_0 m_1217 ⟨by decide, by decide, by decide +kernel⟩ (by decide) m_1216 (c_L_pass l hst G Ac AO hAc d1 x σ hQ.1 hQ.2 h0 (xs (i + 1)) lvO oad (enO G f f2) (0, 0) (Or.inl rfl) (oad (0, 0)) rfl f rfl) (g0.step hS hA3) ⟨⟨hCB, hfr⟩, hO⟩ (by omega) rfl hl.1 rfl (Nat.le_of_ble_eq_true rfl) dL_law_2031 (by omega) (by omega) hS (fun q h => h.elim Or.inl (fun z => Or.inr (Or.inl z))) (fun v0 H locs hB hz hk9 hS => ?_)
  obtain ⟨rfl, hCB, hle9, f1, hO, hf1⟩ := hB
  have hM := fw.kept hM (fun j hj => hk9 _ (fw.lt hM hj) (fun z => z.elim (fun z => d2 _ z (fw.in hM hj)) (fun z => d3 _ (fw.in hM hj) z)))
  have hO := enO_0 hO
  have hfr : ∀ q, H.size ≤ q → Ac q := fun q hq => hfr q (Nat.le_trans hz hq)
  refine lv_istore (lv' := [(6, .int (nI ((fPass σ (xs (i + 1))).2.1 0 0))), (0, .ref b), (1, .ref x), (2, .ref (mad (0, 0))), (3, .ref (oad (0, 0))), (4, .ref (oad (0, 1))), (5, .int (nI i))]) X.ex X.co dL_law_2034 hl (by decide) rfl (fun ls hl => ?_)
  refine lv_aload_n X.ex X.co dL_law_2036 rfl (lv_at hl 3 rfl) ?_
  refine lv_aload_n X.ex X.co dL_law_2037 rfl (lv_at hl 1 rfl) ?_
  refine lv_iload X.ex X.co dL_law_2038 (lv_at hl 6 rfl) ?_
  refine lv_iconst (v := 1) X.ex X.co dL_law_2040 (by decide) ?_
  refine n_add X (x := i) (y := 1) dL_law_2041 ?_
  refine va_sld X.ex X.co hX hbl hbA hS (i := nI (i + 1)) (vp_in_nI (show i + 1 < L by omega) (by omega)) dL_law_2042 ?_
  rw [nI_clamp (show i + 1 < 2 ^ 31 by omega)]
  refine q_eV X ce_X10_pass m_1702 (c_X10_pass l G mad Am hAm ρ σ hσ hQ.1 (xs (i + 1))) (g0.step hS hA3) hM (mo hM) rfl (by omega) rfl hl.1 rfl (Nat.le_of_ble_eq_true rfl) dL_law_2043 (by omega) (by omega) hS (fun q h => Or.inr (Or.inr h)) (fun H locs hM hz hk9 hS => ?_)
  have hCB := CB.keptS hCB hk9 d2
  have hO := fw.kept hO (fun j hj => hk9 _ (fw.lt hO hj) (fun z => d3 _ z (fw.in hO hj)))
  have hfr : ∀ q, H.size ≤ q → Ac q := fun q hq => hfr q (Nat.le_trans hz hq)
  refine lv_istore (lv' := [(7, .int ((fPass σ (xs (i + 1))).1)), (6, .int (nI ((fPass σ (xs (i + 1))).2.1 0 0))), (0, .ref b), (1, .ref x), (2, .ref (mad (0, 0))), (3, .ref (oad (0, 0))), (4, .ref (oad (0, 1))), (5, .int (nI i))]) X.ex X.co dL_law_2046 hl (by decide) rfl (fun ls hl => ?_)
  refine lv_aload_n X.ex X.co dL_law_2048 rfl (lv_at hl 4 rfl) ?_
  refine q_rV X ce_X10_thrown m_1486 (c_X10_thrown l G mad Am (fPass σ (xs (i + 1))).2) (g0.step hS hA3) hM (mo hM) rfl (by omega) rfl hl.1 rfl (Nat.le_of_ble_eq_true rfl) dL_law_2049 (by omega) (by omega) ?_
  refine lv_iload X.ex X.co dL_law_2052 (lv_at hl 1 rfl) ?_
  refine n_cmp_eq X (x := ((fPass σ (xs (i + 1))).2.1 0 0)) (y := ((fPass σ (xs (i + 1))).2.1 0 0)) (tgt := 2059) (by omega) (by omega) dL_law_2054 (by decide) (fun c_1 => ?_) (fun c_1 => ?_)
  · refine lv_iload X.ex X.co dL_law_2059 (lv_at hl 1 rfl) ?_
    refine n_if_ne X (x := ((fPass σ (xs (i + 1))).2.1 0 0)) (tgt := 2076) (by omega) dL_law_2061 (by decide) (fun c_2 => ?_) (fun c_2 => ?_)
    · refine lv_goto (tgt := 2348) X.ex X.co dL_law_2076 (by decide) ?_
      have hQ2 : Qs (fPass σ (xs (i + 1))).2 := pr_pass hQ  (xs (i + 1))
      exact kk (fPass σ (xs (i + 1))).2 f1 f2 H locs ls _ _ ⟨hQ2, hM, hCB, hfr, hO⟩ hS (lv_sub hl [2, 3, 4, 5, 6, 7] rfl) (by omega) (by omega)
    · refine lv_aload_n X.ex X.co dL_law_2064 rfl (lv_at hl 5 rfl) ?_
      refine lv_iconst (v := 0) X.ex X.co dL_law_2065 (by decide) ?_
      refine f_lald X g0.1 (fw.get hO (i := (0, 0)) (Or.inl rfl) rfl rfl) (x := 0) (show vp_in (nI 0) 1 from vp_in_nI (by omega) (by omega)) dL_law_2066 ?_
      rw [show f1 (0 : Int32).toNatClampNeg = (fPass σ (xs (i + 1))).1.toInt64 from hf1 c_2]
      refine lv_iload X.ex X.co dL_law_2067 (lv_at hl 0 rfl) ?_
      refine lv_i2l X.ex X.co dL_law_2069 rfl ?_
      refine w_lcmp X dL_law_2070 ?_
      refine lv_if_eq (tgt := 2076) X.ex X.co dL_law_2071 (by decide) (fun c_3 => ?_) (fun c_3 => ?_)
      · refine lv_goto (tgt := 2348) X.ex X.co dL_law_2076 (by decide) ?_
        have hQ2 : Qs (fPass σ (xs (i + 1))).2 := pr_pass hQ  (xs (i + 1))
        exact kk (fPass σ (xs (i + 1))).2 f1 f2 H locs ls _ _ ⟨hQ2, hM, hCB, hfr, hO⟩ hS (lv_sub hl [2, 3, 4, 5, 6, 7] rfl) (by omega) (by omega)
      · exact absurd (by decide) c_3
  · exact absurd rfl c_1
set_option maxHeartbeats 4000000 in
set_option maxRecDepth 100000 in
theorem law_32 (hst : l.stackTraces = false) (hAc : ∀ q, Ac q → gA G q) (hAm : ∀ q, Am q → gA G q) (hA3 : ∀ q, (fun q => Ac q ∨ AO q ∨ Am q) q → gA G q) (d1 : ∀ q, Ac q → ¬ AO q) (d2 : ∀ q, Ac q → ¬ Am q) (d3 : ∀ q, Am q → ¬ AO q) (X : CF p s m args meth c cL_law 9 "CourseForgeLaw" (some .boolean)) (g0 : GG G s s.heap) (hX : va_X b L xs s s.heap) (hbl : b < s.heap.size) (hbA : ¬ (fun q => Ac q ∨ AO q ∨ Am q) b) (hR9 : 20 ≤ hR) (hi : i + 5 ≤ L) (hL : L ≤ 2560) (W0 : lawW G Ac Am AO x mad oad ρ f f2 H) (hS : va_S (fun q => Ac q ∨ AO q ∨ Am q) s.heap H locs) (hl : lv_has ls 9 [(0, .ref b), (1, .ref x), (2, .ref (mad (0, 0))), (3, .ref (oad (0, 0))), (4, .ref (oad (0, 1))), (5, .int (nI i))]) (h1 : cells + 110 ≤ rc) (h2 : slots + 2210 ≤ rs)
    (kk : ∀ (ρ : Sg) (f : Nat → Int64) (f2 : Nat → UInt64) (H : Heap) (locs : List Loc) (ls : Array Slot) (cells1 slots1 : Nat), lawW G Ac Am AO x mad oad ρ f f2 H → va_S (fun q => Ac q ∨ AO q ∨ Am q) s.heap H locs → lv_has ls 9 [(0, .ref b), (1, .ref x), (2, .ref (mad (0, 0))), (3, .ref (oad (0, 0))), (4, .ref (oad (0, 1))), (5, .int (nI i))] → cells1 ≤ cells + 110 → slots1 ≤ slots + 2210 → W p l e (RM hR rc rs) s m args below meth c H locs cells1 slots1 Q (F0 m 2348 ls [])) :
    W p l e (RM hR rc rs) s m args below meth c H locs cells slots Q (F0 m 2079 ls []) := by
  obtain ⟨hQ0, hM, hCB0, hfr, hO⟩ := W0
  obtain ⟨σ, hσ⟩ : ∃ σ, σ = sN ρ 0 0 0 := ⟨_, rfl⟩
  have hQ : Qs σ := by rw [hσ]; exact hQ0.z 0
  have h0 : σ.1 0 0 = 0 := by rw [hσ]; rfl
  have hCB : CB G Ac x σ H := by rw [hσ]; exact CB_0 0 hCB0
  obtain ⟨fsB, hfB⟩ := CB_at hCB
  refine lv_aload_n X.ex X.co dL_law_2079 rfl (lv_at hl 1 rfl) ?_
  refine q_cV X ce_X9_today m_179 (c_X9_today l G Ac hAc x σ hQ.1 hQ.2 h0) (g0.step hS hA3) ⟨hCB, hfr⟩ hfB rfl (by omega) rfl hl.1 rfl (Nat.le_of_ble_eq_true rfl) dL_law_2080 (by omega) (by omega) hS (fun q h => Or.inl h) (fun v0 H locs hB hz hk9 hS => ?_)
  obtain ⟨rfl, hk0, hCB⟩ := hB
  have hM := fw.kept hM (fun j hj => hk9 _ (fw.lt hM hj) (fun z => d2 _ z (fw.in hM hj)))
  have hO := fw.kept hO (fun j hj => hk9 _ (fw.lt hO hj) (fun z => d1 _ z (fw.in hO hj)))
  have hfr : ∀ q, H.size ≤ q → Ac q := fun q hq => hfr q (Nat.le_trans hz hq)
  refine lv_aload_n X.ex X.co dL_law_2083 rfl (lv_at hl 2 rfl) ?_
  refine q_eV X ce_X10_today m_1706 (c_X10_today l G mad Am hAm ρ σ hσ hQ.1) (g0.step hS hA3) hM (mo hM) rfl (by omega) rfl hl.1 rfl (Nat.le_of_ble_eq_true rfl) dL_law_2084 (by omega) (by omega) hS (fun q h => Or.inr (Or.inr h)) (fun H locs hM hz hk9 hS => ?_)
  have hCB := CB.keptS hCB hk9 d2
  have hO := fw.kept hO (fun j hj => hk9 _ (fw.lt hO hj) (fun z => d3 _ z (fw.in hO hj)))
  have hfr : ∀ q, H.size ≤ q → Ac q := fun q hq => hfr q (Nat.le_trans hz hq)
  refine lv_icmp_eq (tgt := 2348) X.ex X.co dL_law_2087 (by decide) (fun c_1 => ?_) (fun c_1 => ?_)
  · have hQ2 : Qs (fToday σ).2 := by
      unfold fToday
      repeat' split
      all_goals first | exact hQ | exact hQ.e _ | exact hQ.z _
    exact kk (fToday σ).2 f f2 H locs ls _ _ ⟨hQ2, hM, hCB, hfr, hO⟩ hS (lv_sub hl [0, 1, 2, 3, 4, 5] rfl) (by omega) (by omega)
  · exact absurd rfl c_1
set_option maxHeartbeats 4000000 in
set_option maxRecDepth 100000 in
theorem law_33 (hst : l.stackTraces = false) (hAc : ∀ q, Ac q → gA G q) (hAm : ∀ q, Am q → gA G q) (hA3 : ∀ q, (fun q => Ac q ∨ AO q ∨ Am q) q → gA G q) (d1 : ∀ q, Ac q → ¬ AO q) (d2 : ∀ q, Ac q → ¬ Am q) (d3 : ∀ q, Am q → ¬ AO q) (X : CF p s m args meth c cL_law 9 "CourseForgeLaw" (some .boolean)) (g0 : GG G s s.heap) (hX : va_X b L xs s s.heap) (hbl : b < s.heap.size) (hbA : ¬ (fun q => Ac q ∨ AO q ∨ Am q) b) (hR9 : 20 ≤ hR) (hi : i + 5 ≤ L) (hL : L ≤ 2560) (W0 : lawW G Ac Am AO x mad oad ρ f f2 H) (hS : va_S (fun q => Ac q ∨ AO q ∨ Am q) s.heap H locs) (hl : lv_has ls 9 [(0, .ref b), (1, .ref x), (2, .ref (mad (0, 0))), (3, .ref (oad (0, 0))), (4, .ref (oad (0, 1))), (5, .int (nI i))]) (h1 : cells + 110 ≤ rc) (h2 : slots + 2210 ≤ rs)
    (kk : ∀ (ρ : Sg) (f : Nat → Int64) (f2 : Nat → UInt64) (H : Heap) (locs : List Loc) (ls : Array Slot) (cells1 slots1 : Nat), lawW G Ac Am AO x mad oad ρ f f2 H → va_S (fun q => Ac q ∨ AO q ∨ Am q) s.heap H locs → lv_has ls 9 [(0, .ref b), (1, .ref x), (2, .ref (mad (0, 0))), (3, .ref (oad (0, 0))), (4, .ref (oad (0, 1))), (5, .int (nI i))] → cells1 ≤ cells + 110 → slots1 ≤ slots + 2210 → W p l e (RM hR rc rs) s m args below meth c H locs cells1 slots1 Q (F0 m 2348 ls [])) :
    W p l e (RM hR rc rs) s m args below meth c H locs cells slots Q (F0 m 2092 ls []) := by
  obtain ⟨hQ0, hM, hCB0, hfr, hO⟩ := W0
  obtain ⟨σ, hσ⟩ : ∃ σ, σ = sN ρ 0 0 0 := ⟨_, rfl⟩
  have hQ : Qs σ := by rw [hσ]; exact hQ0.z 0
  have h0 : σ.1 0 0 = 0 := by rw [hσ]; rfl
  have hCB : CB G Ac x σ H := by rw [hσ]; exact CB_0 0 hCB0
  obtain ⟨fsB, hfB⟩ := CB_at hCB
  refine lv_aload_n X.ex X.co dL_law_2092 rfl (lv_at hl 1 rfl) ?_
  refine lv_aload X.ex X.co dL_law_2093 (lv_at hl 4 rfl) ?_
  refine w_cS (n := 2) X m_1227 m_0 m_1226 ⟨by decide, by decide, by decide +kernel⟩ (by decide) m_1225 (c_L_meanGrade l hst G Ac AO hAc d1 x σ hQ.1 hQ.2 h0 lvO oad (enO G f f2) (0, 1) (Or.inr rfl) (oad (0, 1)) rfl f2 rfl) (g0.step hS hA3) ⟨⟨hCB, hfr⟩, hO⟩ (by omega) rfl hl.1 rfl (Nat.le_of_ble_eq_true rfl) dL_law_2095 (by omega) (by omega) hS (fun q h => h.elim Or.inl (fun z => Or.inr (Or.inl z))) (fun v0 H locs hB hz hk9 hS => ?_)
  obtain ⟨rfl, hCB, hle9, f1, hO, hf1⟩ := hB
  have hM := fw.kept hM (fun j hj => hk9 _ (fw.lt hM hj) (fun z => z.elim (fun z => d2 _ z (fw.in hM hj)) (fun z => d3 _ (fw.in hM hj) z)))
  have hO := enO_1 hO
  have hfr : ∀ q, H.size ≤ q → Ac q := fun q hq => hfr q (Nat.le_trans hz hq)
  refine lv_istore (lv' := [(6, .int (nI ((fMeanGrade σ).2.1 0 0))), (0, .ref b), (1, .ref x), (2, .ref (mad (0, 0))), (3, .ref (oad (0, 0))), (4, .ref (oad (0, 1))), (5, .int (nI i))]) X.ex X.co dL_law_2098 hl (by decide) rfl (fun ls hl => ?_)
  refine lv_aload_n X.ex X.co dL_law_2100 rfl (lv_at hl 3 rfl) ?_
  refine q_eV X ce_X10_meanGrade m_1710 (c_X10_meanGrade l G mad Am hAm ρ σ hσ hQ.1) (g0.step hS hA3) hM (mo hM) rfl (by omega) rfl hl.1 rfl (Nat.le_of_ble_eq_true rfl) dL_law_2101 (by omega) (by omega) hS (fun q h => Or.inr (Or.inr h)) (fun H locs hM hz hk9 hS => ?_)
  have hCB := CB.keptS hCB hk9 d2
  have hO := fw.kept hO (fun j hj => hk9 _ (fw.lt hO hj) (fun z => d3 _ z (fw.in hO hj)))
  have hfr : ∀ q, H.size ≤ q → Ac q := fun q hq => hfr q (Nat.le_trans hz hq)
  refine lv_dstore (lv' := [(7, .double ((fMeanGrade σ).1)), (6, .int (nI ((fMeanGrade σ).2.1 0 0))), (0, .ref b), (1, .ref x), (2, .ref (mad (0, 0))), (3, .ref (oad (0, 0))), (4, .ref (oad (0, 1))), (5, .int (nI i))]) X.ex X.co dL_law_2104 hl (by decide) rfl (fun ls hl => ?_)
  refine lv_aload_n X.ex X.co dL_law_2106 rfl (lv_at hl 4 rfl) ?_
  refine q_rV X ce_X10_thrown m_1486 (c_X10_thrown l G mad Am (fMeanGrade σ).2) (g0.step hS hA3) hM (mo hM) rfl (by omega) rfl hl.1 rfl (Nat.le_of_ble_eq_true rfl) dL_law_2107 (by omega) (by omega) ?_
  refine lv_iload X.ex X.co dL_law_2110 (lv_at hl 1 rfl) ?_
  refine n_cmp_eq X (x := ((fMeanGrade σ).2.1 0 0)) (y := ((fMeanGrade σ).2.1 0 0)) (tgt := 2117) (by omega) (by omega) dL_law_2112 (by decide) (fun c_1 => ?_) (fun c_1 => ?_)
  · refine lv_iload X.ex X.co dL_law_2117 (lv_at hl 1 rfl) ?_
    refine n_if_ne X (x := ((fMeanGrade σ).2.1 0 0)) (tgt := 2154) (by omega) dL_law_2119 (by decide) (fun c_2 => ?_) (fun c_2 => ?_)
    · refine lv_goto (tgt := 2348) X.ex X.co dL_law_2154 (by decide) ?_
      have hQ2 : Qs (fMeanGrade σ).2 := by
        unfold fMeanGrade
        repeat' split
        all_goals first | exact hQ | exact hQ.e _ | exact hQ.z _
      exact kk (fMeanGrade σ).2 f f1 H locs ls _ _ ⟨hQ2, hM, hCB, hfr, hO⟩ hS (lv_sub hl [2, 3, 4, 5, 6, 7] rfl) (by omega) (by omega)
    · refine lv_aload X.ex X.co dL_law_2122 (lv_at hl 6 rfl) ?_
      refine lv_iconst (v := 0) X.ex X.co dL_law_2124 (by decide) ?_
      refine f_dald X g0.1 (fw.get hO (i := (0, 1)) (Or.inr rfl) rfl rfl) (x := 0) (show vp_in (nI 0) 1 from vp_in_nI (by omega) (by omega)) dL_law_2125 ?_
      rw [show f1 (0 : Int32).toNatClampNeg = (fMeanGrade σ).1 from hf1 c_2]
      refine lv_dload X.ex X.co dL_law_2126 (lv_at hl 0 rfl) ?_
      refine w_dcmp X (mg_n hQ.1 c_2) dL_law_2128 ?_
      refine lv_if_eq (tgt := 2154) X.ex X.co dL_law_2129 (by decide) (fun c_3 => ?_) (fun c_3 => ?_)
      · refine lv_goto (tgt := 2348) X.ex X.co dL_law_2154 (by decide) ?_
        have hQ2 : Qs (fMeanGrade σ).2 := by
          unfold fMeanGrade
          repeat' split
          all_goals first | exact hQ | exact hQ.e _ | exact hQ.z _
        exact kk (fMeanGrade σ).2 f f1 H locs ls _ _ ⟨hQ2, hM, hCB, hfr, hO⟩ hS (lv_sub hl [2, 3, 4, 5, 6, 7] rfl) (by omega) (by omega)
      · exact absurd (by decide) c_3
  · exact absurd rfl c_1
set_option maxHeartbeats 4000000 in
set_option maxRecDepth 100000 in
theorem law_34 (hst : l.stackTraces = false) (hAc : ∀ q, Ac q → gA G q) (hAm : ∀ q, Am q → gA G q) (hA3 : ∀ q, (fun q => Ac q ∨ AO q ∨ Am q) q → gA G q) (d1 : ∀ q, Ac q → ¬ AO q) (d2 : ∀ q, Ac q → ¬ Am q) (d3 : ∀ q, Am q → ¬ AO q) (X : CF p s m args meth c cL_law 9 "CourseForgeLaw" (some .boolean)) (g0 : GG G s s.heap) (hX : va_X b L xs s s.heap) (hbl : b < s.heap.size) (hbA : ¬ (fun q => Ac q ∨ AO q ∨ Am q) b) (hR9 : 20 ≤ hR) (hi : i + 5 ≤ L) (hL : L ≤ 2560) (W0 : lawW G Ac Am AO x mad oad ρ f f2 H) (hS : va_S (fun q => Ac q ∨ AO q ∨ Am q) s.heap H locs) (hl : lv_has ls 9 [(0, .ref b), (1, .ref x), (2, .ref (mad (0, 0))), (3, .ref (oad (0, 0))), (4, .ref (oad (0, 1))), (5, .int (nI i))]) (h1 : cells + 110 ≤ rc) (h2 : slots + 2210 ≤ rs)
    (kk : ∀ (ρ : Sg) (f : Nat → Int64) (f2 : Nat → UInt64) (H : Heap) (locs : List Loc) (ls : Array Slot) (cells1 slots1 : Nat), lawW G Ac Am AO x mad oad ρ f f2 H → va_S (fun q => Ac q ∨ AO q ∨ Am q) s.heap H locs → lv_has ls 9 [(0, .ref b), (1, .ref x), (2, .ref (mad (0, 0))), (3, .ref (oad (0, 0))), (4, .ref (oad (0, 1))), (5, .int (nI i))] → cells1 ≤ cells + 110 → slots1 ≤ slots + 2210 → W p l e (RM hR rc rs) s m args below meth c H locs cells1 slots1 Q (F0 m 2348 ls [])) :
    W p l e (RM hR rc rs) s m args below meth c H locs cells slots Q (F0 m 2157 ls []) := by
  obtain ⟨hQ0, hM, hCB0, hfr, hO⟩ := W0
  obtain ⟨σ, hσ⟩ : ∃ σ, σ = sN ρ 0 0 0 := ⟨_, rfl⟩
  have hQ : Qs σ := by rw [hσ]; exact hQ0.z 0
  have h0 : σ.1 0 0 = 0 := by rw [hσ]; rfl
  have hCB : CB G Ac x σ H := by rw [hσ]; exact CB_0 0 hCB0
  obtain ⟨fsB, hfB⟩ := CB_at hCB
  refine lv_aload_n X.ex X.co dL_law_2157 rfl (lv_at hl 1 rfl) ?_
  refine lv_aload X.ex X.co dL_law_2158 (lv_at hl 4 rfl) ?_
  refine w_cS (n := 2) X m_1251 m_0 m_1250 ⟨by decide, by decide, by decide +kernel⟩ (by decide) m_1249 (c_L_standingShare l hst G Ac AO hAc d1 x σ hQ.1 hQ.2 h0 lvO oad (enO G f f2) (0, 1) (Or.inr rfl) (oad (0, 1)) rfl f2 rfl) (g0.step hS hA3) ⟨⟨hCB, hfr⟩, hO⟩ (by omega) rfl hl.1 rfl (Nat.le_of_ble_eq_true rfl) dL_law_2160 (by omega) (by omega) hS (fun q h => h.elim Or.inl (fun z => Or.inr (Or.inl z))) (fun v0 H locs hB hz hk9 hS => ?_)
  obtain ⟨rfl, hCB, hle9, f1, hO, hf1⟩ := hB
  have hM := fw.kept hM (fun j hj => hk9 _ (fw.lt hM hj) (fun z => z.elim (fun z => d2 _ z (fw.in hM hj)) (fun z => d3 _ (fw.in hM hj) z)))
  have hO := enO_1 hO
  have hfr : ∀ q, H.size ≤ q → Ac q := fun q hq => hfr q (Nat.le_trans hz hq)
  refine lv_istore (lv' := [(6, .int (nI ((fStandingShare σ).2.1 0 0))), (0, .ref b), (1, .ref x), (2, .ref (mad (0, 0))), (3, .ref (oad (0, 0))), (4, .ref (oad (0, 1))), (5, .int (nI i))]) X.ex X.co dL_law_2163 hl (by decide) rfl (fun ls hl => ?_)
  refine lv_aload_n X.ex X.co dL_law_2165 rfl (lv_at hl 3 rfl) ?_
  refine q_eV X ce_X10_standingShare m_1714 (c_X10_standingShare l G mad Am hAm ρ σ hσ hQ.1) (g0.step hS hA3) hM (mo hM) rfl (by omega) rfl hl.1 rfl (Nat.le_of_ble_eq_true rfl) dL_law_2166 (by omega) (by omega) hS (fun q h => Or.inr (Or.inr h)) (fun H locs hM hz hk9 hS => ?_)
  have hCB := CB.keptS hCB hk9 d2
  have hO := fw.kept hO (fun j hj => hk9 _ (fw.lt hO hj) (fun z => d3 _ z (fw.in hO hj)))
  have hfr : ∀ q, H.size ≤ q → Ac q := fun q hq => hfr q (Nat.le_trans hz hq)
  refine lv_fstore (lv' := [(7, .float ((fStandingShare σ).1)), (6, .int (nI ((fStandingShare σ).2.1 0 0))), (0, .ref b), (1, .ref x), (2, .ref (mad (0, 0))), (3, .ref (oad (0, 0))), (4, .ref (oad (0, 1))), (5, .int (nI i))]) X.ex X.co dL_law_2169 hl (by decide) rfl (fun ls hl => ?_)
  refine lv_aload_n X.ex X.co dL_law_2171 rfl (lv_at hl 4 rfl) ?_
  refine q_rV X ce_X10_thrown m_1486 (c_X10_thrown l G mad Am (fStandingShare σ).2) (g0.step hS hA3) hM (mo hM) rfl (by omega) rfl hl.1 rfl (Nat.le_of_ble_eq_true rfl) dL_law_2172 (by omega) (by omega) ?_
  refine lv_iload X.ex X.co dL_law_2175 (lv_at hl 1 rfl) ?_
  refine n_cmp_eq X (x := ((fStandingShare σ).2.1 0 0)) (y := ((fStandingShare σ).2.1 0 0)) (tgt := 2182) (by omega) (by omega) dL_law_2177 (by decide) (fun c_1 => ?_) (fun c_1 => ?_)
  · refine lv_iload X.ex X.co dL_law_2182 (lv_at hl 1 rfl) ?_
    refine n_if_ne X (x := ((fStandingShare σ).2.1 0 0)) (tgt := 2220) (by omega) dL_law_2184 (by decide) (fun c_2 => ?_) (fun c_2 => ?_)
    · refine lv_goto (tgt := 2348) X.ex X.co dL_law_2220 (by decide) ?_
      have hQ2 : Qs (fStandingShare σ).2 := by
        unfold fStandingShare
        repeat' split
        all_goals first | exact hQ | exact hQ.e _ | exact hQ.z _
      exact kk (fStandingShare σ).2 f f1 H locs ls _ _ ⟨hQ2, hM, hCB, hfr, hO⟩ hS (lv_sub hl [2, 3, 4, 5, 6, 7] rfl) (by omega) (by omega)
    · refine lv_aload X.ex X.co dL_law_2187 (lv_at hl 6 rfl) ?_
      refine lv_iconst (v := 0) X.ex X.co dL_law_2189 (by decide) ?_
      refine f_dald X g0.1 (fw.get hO (i := (0, 1)) (Or.inr rfl) rfl rfl) (x := 0) (show vp_in (nI 0) 1 from vp_in_nI (by omega) (by omega)) dL_law_2190 ?_
      rw [show f1 (0 : Int32).toNatClampNeg = (FP.f2d (fStandingShare σ).1) from hf1 c_2]
      refine lv_fload X.ex X.co dL_law_2191 (lv_at hl 0 rfl) ?_
      refine lv_f2d X.ex X.co dL_law_2193 (ss_n hQ.1 c_2) ?_
      refine w_dcmp X (ss_d hQ.1 c_2) dL_law_2194 ?_
      refine lv_if_eq (tgt := 2220) X.ex X.co dL_law_2195 (by decide) (fun c_3 => ?_) (fun c_3 => ?_)
      · refine lv_goto (tgt := 2348) X.ex X.co dL_law_2220 (by decide) ?_
        have hQ2 : Qs (fStandingShare σ).2 := by
          unfold fStandingShare
          repeat' split
          all_goals first | exact hQ | exact hQ.e _ | exact hQ.z _
        exact kk (fStandingShare σ).2 f f1 H locs ls _ _ ⟨hQ2, hM, hCB, hfr, hO⟩ hS (lv_sub hl [2, 3, 4, 5, 6, 7] rfl) (by omega) (by omega)
      · exact absurd (by decide) c_3
  · exact absurd rfl c_1
set_option maxHeartbeats 4000000 in
set_option maxRecDepth 100000 in
theorem law_35 (hst : l.stackTraces = false) (hAc : ∀ q, Ac q → gA G q) (hAm : ∀ q, Am q → gA G q) (hA3 : ∀ q, (fun q => Ac q ∨ AO q ∨ Am q) q → gA G q) (d1 : ∀ q, Ac q → ¬ AO q) (d2 : ∀ q, Ac q → ¬ Am q) (d3 : ∀ q, Am q → ¬ AO q) (X : CF p s m args meth c cL_law 9 "CourseForgeLaw" (some .boolean)) (g0 : GG G s s.heap) (hX : va_X b L xs s s.heap) (hbl : b < s.heap.size) (hbA : ¬ (fun q => Ac q ∨ AO q ∨ Am q) b) (hR9 : 20 ≤ hR) (hi : i + 5 ≤ L) (hL : L ≤ 2560) (W0 : lawW G Ac Am AO x mad oad ρ f f2 H) (hS : va_S (fun q => Ac q ∨ AO q ∨ Am q) s.heap H locs) (hl : lv_has ls 9 [(0, .ref b), (1, .ref x), (2, .ref (mad (0, 0))), (3, .ref (oad (0, 0))), (4, .ref (oad (0, 1))), (5, .int (nI i))]) (h1 : cells + 110 ≤ rc) (h2 : slots + 2210 ≤ rs)
    (kk : ∀ (ρ : Sg) (f : Nat → Int64) (f2 : Nat → UInt64) (H : Heap) (locs : List Loc) (ls : Array Slot) (cells1 slots1 : Nat), lawW G Ac Am AO x mad oad ρ f f2 H → va_S (fun q => Ac q ∨ AO q ∨ Am q) s.heap H locs → lv_has ls 9 [(0, .ref b), (1, .ref x), (2, .ref (mad (0, 0))), (3, .ref (oad (0, 0))), (4, .ref (oad (0, 1))), (5, .int (nI i))] → cells1 ≤ cells + 110 → slots1 ≤ slots + 2210 → W p l e (RM hR rc rs) s m args below meth c H locs cells1 slots1 Q (F0 m 2348 ls [])) :
    W p l e (RM hR rc rs) s m args below meth c H locs cells slots Q (F0 m 2223 ls []) := by
  obtain ⟨hQ0, hM, hCB0, hfr, hO⟩ := W0
  obtain ⟨σ, hσ⟩ : ∃ σ, σ = sN ρ 0 0 0 := ⟨_, rfl⟩
  have hQ : Qs σ := by rw [hσ]; exact hQ0.z 0
  have h0 : σ.1 0 0 = 0 := by rw [hσ]; rfl
  have hCB : CB G Ac x σ H := by rw [hσ]; exact CB_0 0 hCB0
  obtain ⟨fsB, hfB⟩ := CB_at hCB
  refine lv_aload_n X.ex X.co dL_law_2223 rfl (lv_at hl 1 rfl) ?_
  refine q_cV X ce_X9_isConsistent m_183 (c_X9_isConsistent l G Ac hAc x σ hQ.1 hQ.2 h0) (g0.step hS hA3) ⟨hCB, hfr⟩ hfB rfl (by omega) rfl hl.1 rfl (Nat.le_of_ble_eq_true rfl) dL_law_2224 (by omega) (by omega) hS (fun q h => Or.inl h) (fun v0 H locs hB hz hk9 hS => ?_)
  obtain ⟨rfl, hk0, hCB⟩ := hB
  have hM := fw.kept hM (fun j hj => hk9 _ (fw.lt hM hj) (fun z => d2 _ z (fw.in hM hj)))
  have hO := fw.kept hO (fun j hj => hk9 _ (fw.lt hO hj) (fun z => d1 _ z (fw.in hO hj)))
  have hfr : ∀ q, H.size ≤ q → Ac q := fun q hq => hfr q (Nat.le_trans hz hq)
  refine lv_aload_n X.ex X.co dL_law_2227 rfl (lv_at hl 2 rfl) ?_
  refine q_eV X ce_X10_isConsistent m_1718 (c_X10_isConsistent l G mad Am hAm ρ σ hσ hQ.1) (g0.step hS hA3) hM (mo hM) rfl (by omega) rfl hl.1 rfl (Nat.le_of_ble_eq_true rfl) dL_law_2228 (by omega) (by omega) hS (fun q h => Or.inr (Or.inr h)) (fun H locs hM hz hk9 hS => ?_)
  have hCB := CB.keptS hCB hk9 d2
  have hO := fw.kept hO (fun j hj => hk9 _ (fw.lt hO hj) (fun z => d3 _ z (fw.in hO hj)))
  have hfr : ∀ q, H.size ≤ q → Ac q := fun q hq => hfr q (Nat.le_trans hz hq)
  refine lv_icmp_eq (tgt := 2348) X.ex X.co dL_law_2231 (by decide) (fun c_1 => ?_) (fun c_1 => ?_)
  · have hQ2 : Qs (fIsConsistent σ).2 := by
      unfold fIsConsistent
      repeat' split
      all_goals first | exact hQ | exact hQ.e _ | exact hQ.z _
    exact kk (fIsConsistent σ).2 f f2 H locs ls _ _ ⟨hQ2, hM, hCB, hfr, hO⟩ hS (lv_sub hl [0, 1, 2, 3, 4, 5] rfl) (by omega) (by omega)
  · exact absurd rfl c_1
set_option maxHeartbeats 4000000 in
set_option maxRecDepth 100000 in
theorem law_36 (hst : l.stackTraces = false) (hAc : ∀ q, Ac q → gA G q) (hAm : ∀ q, Am q → gA G q) (hA3 : ∀ q, (fun q => Ac q ∨ AO q ∨ Am q) q → gA G q) (d1 : ∀ q, Ac q → ¬ AO q) (d2 : ∀ q, Ac q → ¬ Am q) (d3 : ∀ q, Am q → ¬ AO q) (X : CF p s m args meth c cL_law 9 "CourseForgeLaw" (some .boolean)) (g0 : GG G s s.heap) (hX : va_X b L xs s s.heap) (hbl : b < s.heap.size) (hbA : ¬ (fun q => Ac q ∨ AO q ∨ Am q) b) (hR9 : 20 ≤ hR) (hi : i + 5 ≤ L) (hL : L ≤ 2560) (W0 : lawW G Ac Am AO x mad oad ρ f f2 H) (hS : va_S (fun q => Ac q ∨ AO q ∨ Am q) s.heap H locs) (hl : lv_has ls 9 [(0, .ref b), (1, .ref x), (2, .ref (mad (0, 0))), (3, .ref (oad (0, 0))), (4, .ref (oad (0, 1))), (5, .int (nI i))]) (h1 : cells + 110 ≤ rc) (h2 : slots + 2210 ≤ rs)
    (kk : ∀ (ρ : Sg) (f : Nat → Int64) (f2 : Nat → UInt64) (H : Heap) (locs : List Loc) (ls : Array Slot) (cells1 slots1 : Nat), lawW G Ac Am AO x mad oad ρ f f2 H → va_S (fun q => Ac q ∨ AO q ∨ Am q) s.heap H locs → lv_has ls 9 [(0, .ref b), (1, .ref x), (2, .ref (mad (0, 0))), (3, .ref (oad (0, 0))), (4, .ref (oad (0, 1))), (5, .int (nI i))] → cells1 ≤ cells + 110 → slots1 ≤ slots + 2210 → W p l e (RM hR rc rs) s m args below meth c H locs cells1 slots1 Q (F0 m 2348 ls [])) :
    W p l e (RM hR rc rs) s m args below meth c H locs cells slots Q (F0 m 2236 ls []) := by
  obtain ⟨hQ0, hM, hCB0, hfr, hO⟩ := W0
  obtain ⟨σ, hσ⟩ : ∃ σ, σ = sN ρ 0 0 0 := ⟨_, rfl⟩
  have hQ : Qs σ := by rw [hσ]; exact hQ0.z 0
  have h0 : σ.1 0 0 = 0 := by rw [hσ]; rfl
  have hCB : CB G Ac x σ H := by rw [hσ]; exact CB_0 0 hCB0
  obtain ⟨fsB, hfB⟩ := CB_at hCB
  refine lv_aload_n X.ex X.co dL_law_2236 rfl (lv_at hl 1 rfl) ?_
  refine lv_aload_n X.ex X.co dL_law_2237 rfl (lv_at hl 0 rfl) ?_
  refine lv_iload X.ex X.co dL_law_2238 (lv_at hl 5 rfl) ?_
  refine lv_iconst (v := 1) X.ex X.co dL_law_2240 (by decide) ?_
  refine n_add X (x := i) (y := 1) dL_law_2241 ?_
  refine va_sld X.ex X.co hX hbl hbA hS (i := nI (i + 1)) (vp_in_nI (show i + 1 < L by omega) (by omega)) dL_law_2242 ?_
  rw [nI_clamp (show i + 1 < 2 ^ 31 by omega)]
  refine lv_aload_n X.ex X.co dL_law_2243 rfl (lv_at hl 3 rfl) ?_
  refine w_cS (n := 3) X m_1259 m_0 m_1258 ⟨by decide, by decide, by decide +kernel⟩ (by decide) m_1257 (c_L_writeAnswer l hst G Ac AO hAc d1 x σ hQ.1 hQ.2 h0 (xs (i + 1)) lvO oad (enO G f f2) (0, 0) (Or.inl rfl) (oad (0, 0)) rfl f rfl) (g0.step hS hA3) ⟨⟨hCB, hfr⟩, hO⟩ (by omega) rfl hl.1 rfl (Nat.le_of_ble_eq_true rfl) dL_law_2244 (by omega) (by omega) hS (fun q h => h.elim Or.inl (fun z => Or.inr (Or.inl z))) (fun v0 H locs hB hz hk9 hS => ?_)
  obtain ⟨rfl, hCB, hle9, f1, hO, hf1⟩ := hB
  have hM := fw.kept hM (fun j hj => hk9 _ (fw.lt hM hj) (fun z => z.elim (fun z => d2 _ z (fw.in hM hj)) (fun z => d3 _ (fw.in hM hj) z)))
  have hO := enO_0 hO
  have hfr : ∀ q, H.size ≤ q → Ac q := fun q hq => hfr q (Nat.le_trans hz hq)
  refine lv_istore (lv' := [(6, .int (nI ((fWriteAnswer σ (xs (i + 1))).2.1 0 0))), (0, .ref b), (1, .ref x), (2, .ref (mad (0, 0))), (3, .ref (oad (0, 0))), (4, .ref (oad (0, 1))), (5, .int (nI i))]) X.ex X.co dL_law_2247 hl (by decide) rfl (fun ls hl => ?_)
  refine lv_aload_n X.ex X.co dL_law_2249 rfl (lv_at hl 3 rfl) ?_
  refine lv_aload_n X.ex X.co dL_law_2250 rfl (lv_at hl 1 rfl) ?_
  refine lv_iload X.ex X.co dL_law_2251 (lv_at hl 6 rfl) ?_
  refine lv_iconst (v := 1) X.ex X.co dL_law_2253 (by decide) ?_
  refine n_add X (x := i) (y := 1) dL_law_2254 ?_
  refine va_sld X.ex X.co hX hbl hbA hS (i := nI (i + 1)) (vp_in_nI (show i + 1 < L by omega) (by omega)) dL_law_2255 ?_
  rw [nI_clamp (show i + 1 < 2 ^ 31 by omega)]
  refine q_eV X ce_X10_writeAnswer m_1722 (c_X10_writeAnswer l G mad Am hAm ρ σ hσ hQ.1 (xs (i + 1))) (g0.step hS hA3) hM (mo hM) rfl (by omega) rfl hl.1 rfl (Nat.le_of_ble_eq_true rfl) dL_law_2256 (by omega) (by omega) hS (fun q h => Or.inr (Or.inr h)) (fun H locs hM hz hk9 hS => ?_)
  have hCB := CB.keptS hCB hk9 d2
  have hO := fw.kept hO (fun j hj => hk9 _ (fw.lt hO hj) (fun z => d3 _ z (fw.in hO hj)))
  have hfr : ∀ q, H.size ≤ q → Ac q := fun q hq => hfr q (Nat.le_trans hz hq)
  refine lv_istore (lv' := [(7, .int ((fWriteAnswer σ (xs (i + 1))).1)), (6, .int (nI ((fWriteAnswer σ (xs (i + 1))).2.1 0 0))), (0, .ref b), (1, .ref x), (2, .ref (mad (0, 0))), (3, .ref (oad (0, 0))), (4, .ref (oad (0, 1))), (5, .int (nI i))]) X.ex X.co dL_law_2259 hl (by decide) rfl (fun ls hl => ?_)
  refine lv_aload_n X.ex X.co dL_law_2261 rfl (lv_at hl 4 rfl) ?_
  refine q_rV X ce_X10_thrown m_1486 (c_X10_thrown l G mad Am (fWriteAnswer σ (xs (i + 1))).2) (g0.step hS hA3) hM (mo hM) rfl (by omega) rfl hl.1 rfl (Nat.le_of_ble_eq_true rfl) dL_law_2262 (by omega) (by omega) ?_
  refine lv_iload X.ex X.co dL_law_2265 (lv_at hl 1 rfl) ?_
  refine n_cmp_eq X (x := ((fWriteAnswer σ (xs (i + 1))).2.1 0 0)) (y := ((fWriteAnswer σ (xs (i + 1))).2.1 0 0)) (tgt := 2272) (by omega) (by omega) dL_law_2267 (by decide) (fun c_1 => ?_) (fun c_1 => ?_)
  · refine lv_iload X.ex X.co dL_law_2272 (lv_at hl 1 rfl) ?_
    refine n_if_ne X (x := ((fWriteAnswer σ (xs (i + 1))).2.1 0 0)) (tgt := 2289) (by omega) dL_law_2274 (by decide) (fun c_2 => ?_) (fun c_2 => ?_)
    · refine lv_goto (tgt := 2348) X.ex X.co dL_law_2289 (by decide) ?_
      have hQ2 : Qs (fWriteAnswer σ (xs (i + 1))).2 := pr_writeAnswer hQ  (xs (i + 1))
      exact kk (fWriteAnswer σ (xs (i + 1))).2 f1 f2 H locs ls _ _ ⟨hQ2, hM, hCB, hfr, hO⟩ hS (lv_sub hl [2, 3, 4, 5, 6, 7] rfl) (by omega) (by omega)
    · refine lv_aload_n X.ex X.co dL_law_2277 rfl (lv_at hl 5 rfl) ?_
      refine lv_iconst (v := 0) X.ex X.co dL_law_2278 (by decide) ?_
      refine f_lald X g0.1 (fw.get hO (i := (0, 0)) (Or.inl rfl) rfl rfl) (x := 0) (show vp_in (nI 0) 1 from vp_in_nI (by omega) (by omega)) dL_law_2279 ?_
      rw [show f1 (0 : Int32).toNatClampNeg = (fWriteAnswer σ (xs (i + 1))).1.toInt64 from hf1 c_2]
      refine lv_iload X.ex X.co dL_law_2280 (lv_at hl 0 rfl) ?_
      refine lv_i2l X.ex X.co dL_law_2282 rfl ?_
      refine w_lcmp X dL_law_2283 ?_
      refine lv_if_eq (tgt := 2289) X.ex X.co dL_law_2284 (by decide) (fun c_3 => ?_) (fun c_3 => ?_)
      · refine lv_goto (tgt := 2348) X.ex X.co dL_law_2289 (by decide) ?_
        have hQ2 : Qs (fWriteAnswer σ (xs (i + 1))).2 := pr_writeAnswer hQ  (xs (i + 1))
        exact kk (fWriteAnswer σ (xs (i + 1))).2 f1 f2 H locs ls _ _ ⟨hQ2, hM, hCB, hfr, hO⟩ hS (lv_sub hl [2, 3, 4, 5, 6, 7] rfl) (by omega) (by omega)
      · exact absurd (by decide) c_3
  · exact absurd rfl c_1
set_option maxHeartbeats 4000000 in
set_option maxRecDepth 100000 in
theorem law_37 (hst : l.stackTraces = false) (hAc : ∀ q, Ac q → gA G q) (hAm : ∀ q, Am q → gA G q) (hA3 : ∀ q, (fun q => Ac q ∨ AO q ∨ Am q) q → gA G q) (d1 : ∀ q, Ac q → ¬ AO q) (d2 : ∀ q, Ac q → ¬ Am q) (d3 : ∀ q, Am q → ¬ AO q) (X : CF p s m args meth c cL_law 9 "CourseForgeLaw" (some .boolean)) (g0 : GG G s s.heap) (hX : va_X b L xs s s.heap) (hbl : b < s.heap.size) (hbA : ¬ (fun q => Ac q ∨ AO q ∨ Am q) b) (hR9 : 20 ≤ hR) (hi : i + 5 ≤ L) (hL : L ≤ 2560) (W0 : lawW G Ac Am AO x mad oad ρ f f2 H) (hS : va_S (fun q => Ac q ∨ AO q ∨ Am q) s.heap H locs) (hl : lv_has ls 9 [(0, .ref b), (1, .ref x), (2, .ref (mad (0, 0))), (3, .ref (oad (0, 0))), (4, .ref (oad (0, 1))), (5, .int (nI i))]) (h1 : cells + 110 ≤ rc) (h2 : slots + 2210 ≤ rs)
    (kk : ∀ (ρ : Sg) (f : Nat → Int64) (f2 : Nat → UInt64) (H : Heap) (locs : List Loc) (ls : Array Slot) (cells1 slots1 : Nat), lawW G Ac Am AO x mad oad ρ f f2 H → va_S (fun q => Ac q ∨ AO q ∨ Am q) s.heap H locs → lv_has ls 9 [(0, .ref b), (1, .ref x), (2, .ref (mad (0, 0))), (3, .ref (oad (0, 0))), (4, .ref (oad (0, 1))), (5, .int (nI i))] → cells1 ≤ cells + 110 → slots1 ≤ slots + 2210 → W p l e (RM hR rc rs) s m args below meth c H locs cells1 slots1 Q (F0 m 2348 ls [])) :
    W p l e (RM hR rc rs) s m args below meth c H locs cells slots Q (F0 m 2292 ls []) := by
  obtain ⟨hQ0, hM, hCB0, hfr, hO⟩ := W0
  obtain ⟨σ, hσ⟩ : ∃ σ, σ = sN ρ 0 0 0 := ⟨_, rfl⟩
  have hQ : Qs σ := by rw [hσ]; exact hQ0.z 0
  have h0 : σ.1 0 0 = 0 := by rw [hσ]; rfl
  have hCB : CB G Ac x σ H := by rw [hσ]; exact CB_0 0 hCB0
  obtain ⟨fsB, hfB⟩ := CB_at hCB
  refine lv_aload_n X.ex X.co dL_law_2292 rfl (lv_at hl 1 rfl) ?_
  refine lv_aload_n X.ex X.co dL_law_2293 rfl (lv_at hl 0 rfl) ?_
  refine lv_iload X.ex X.co dL_law_2294 (lv_at hl 5 rfl) ?_
  refine lv_iconst (v := 1) X.ex X.co dL_law_2296 (by decide) ?_
  refine n_add X (x := i) (y := 1) dL_law_2297 ?_
  refine va_sld X.ex X.co hX hbl hbA hS (i := nI (i + 1)) (vp_in_nI (show i + 1 < L by omega) (by omega)) dL_law_2298 ?_
  rw [nI_clamp (show i + 1 < 2 ^ 31 by omega)]
  refine lv_aload_n X.ex X.co dL_law_2299 rfl (lv_at hl 3 rfl) ?_
  refine w_cS (n := 3) X m_1326 m_0 m_1325 ⟨by decide, by decide, by decide +kernel⟩ (by decide) m_1324 (c_L_lineAt l hst G Ac AO hAc d1 x σ hQ.1 hQ.2 h0 (xs (i + 1)) lvO oad (enO G f f2) (0, 0) (Or.inl rfl) (oad (0, 0)) rfl f rfl) (g0.step hS hA3) ⟨⟨hCB, hfr⟩, hO⟩ (by omega) rfl hl.1 rfl (Nat.le_of_ble_eq_true rfl) dL_law_2300 (by omega) (by omega) hS (fun q h => h.elim Or.inl (fun z => Or.inr (Or.inl z))) (fun v0 H locs hB hz hk9 hS => ?_)
  obtain ⟨rfl, hCB, hle9, f1, hO, hf1⟩ := hB
  have hM := fw.kept hM (fun j hj => hk9 _ (fw.lt hM hj) (fun z => z.elim (fun z => d2 _ z (fw.in hM hj)) (fun z => d3 _ (fw.in hM hj) z)))
  have hO := enO_0 hO
  have hfr : ∀ q, H.size ≤ q → Ac q := fun q hq => hfr q (Nat.le_trans hz hq)
  refine lv_istore (lv' := [(6, .int (nI ((fLineAt σ (xs (i + 1))).2.1 0 0))), (0, .ref b), (1, .ref x), (2, .ref (mad (0, 0))), (3, .ref (oad (0, 0))), (4, .ref (oad (0, 1))), (5, .int (nI i))]) X.ex X.co dL_law_2303 hl (by decide) rfl (fun ls hl => ?_)
  refine lv_aload_n X.ex X.co dL_law_2305 rfl (lv_at hl 3 rfl) ?_
  refine lv_aload_n X.ex X.co dL_law_2306 rfl (lv_at hl 1 rfl) ?_
  refine lv_iload X.ex X.co dL_law_2307 (lv_at hl 6 rfl) ?_
  refine lv_iconst (v := 1) X.ex X.co dL_law_2309 (by decide) ?_
  refine n_add X (x := i) (y := 1) dL_law_2310 ?_
  refine va_sld X.ex X.co hX hbl hbA hS (i := nI (i + 1)) (vp_in_nI (show i + 1 < L by omega) (by omega)) dL_law_2311 ?_
  rw [nI_clamp (show i + 1 < 2 ^ 31 by omega)]
  refine q_eV X ce_X10_lineAt m_1742 (c_X10_lineAt l G mad Am hAm ρ σ hσ hQ.1 (xs (i + 1))) (g0.step hS hA3) hM (mo hM) rfl (by omega) rfl hl.1 rfl (Nat.le_of_ble_eq_true rfl) dL_law_2312 (by omega) (by omega) hS (fun q h => Or.inr (Or.inr h)) (fun H locs hM hz hk9 hS => ?_)
  have hCB := CB.keptS hCB hk9 d2
  have hO := fw.kept hO (fun j hj => hk9 _ (fw.lt hO hj) (fun z => d3 _ z (fw.in hO hj)))
  have hfr : ∀ q, H.size ≤ q → Ac q := fun q hq => hfr q (Nat.le_trans hz hq)
  refine lv_istore (lv' := [(7, .int ((fLineAt σ (xs (i + 1))).1)), (6, .int (nI ((fLineAt σ (xs (i + 1))).2.1 0 0))), (0, .ref b), (1, .ref x), (2, .ref (mad (0, 0))), (3, .ref (oad (0, 0))), (4, .ref (oad (0, 1))), (5, .int (nI i))]) X.ex X.co dL_law_2315 hl (by decide) rfl (fun ls hl => ?_)
  refine lv_aload_n X.ex X.co dL_law_2317 rfl (lv_at hl 4 rfl) ?_
  refine q_rV X ce_X10_thrown m_1486 (c_X10_thrown l G mad Am (fLineAt σ (xs (i + 1))).2) (g0.step hS hA3) hM (mo hM) rfl (by omega) rfl hl.1 rfl (Nat.le_of_ble_eq_true rfl) dL_law_2318 (by omega) (by omega) ?_
  refine lv_iload X.ex X.co dL_law_2321 (lv_at hl 1 rfl) ?_
  refine n_cmp_eq X (x := ((fLineAt σ (xs (i + 1))).2.1 0 0)) (y := ((fLineAt σ (xs (i + 1))).2.1 0 0)) (tgt := 2328) (by omega) (by omega) dL_law_2323 (by decide) (fun c_1 => ?_) (fun c_1 => ?_)
  · refine lv_iload X.ex X.co dL_law_2328 (lv_at hl 1 rfl) ?_
    refine n_if_ne X (x := ((fLineAt σ (xs (i + 1))).2.1 0 0)) (tgt := 2345) (by omega) dL_law_2330 (by decide) (fun c_2 => ?_) (fun c_2 => ?_)
    · refine lv_goto (tgt := 2348) X.ex X.co dL_law_2345 (by decide) ?_
      have hQ2 : Qs (fLineAt σ (xs (i + 1))).2 := by
        unfold fLineAt
        repeat' split
        all_goals first | exact hQ | exact hQ.e _ | exact hQ.z _
      exact kk (fLineAt σ (xs (i + 1))).2 f1 f2 H locs ls _ _ ⟨hQ2, hM, hCB, hfr, hO⟩ hS (lv_sub hl [2, 3, 4, 5, 6, 7] rfl) (by omega) (by omega)
    · refine lv_aload_n X.ex X.co dL_law_2333 rfl (lv_at hl 5 rfl) ?_
      refine lv_iconst (v := 0) X.ex X.co dL_law_2334 (by decide) ?_
      refine f_lald X g0.1 (fw.get hO (i := (0, 0)) (Or.inl rfl) rfl rfl) (x := 0) (show vp_in (nI 0) 1 from vp_in_nI (by omega) (by omega)) dL_law_2335 ?_
      rw [show f1 (0 : Int32).toNatClampNeg = (fLineAt σ (xs (i + 1))).1.toInt64 from hf1 c_2]
      refine lv_iload X.ex X.co dL_law_2336 (lv_at hl 0 rfl) ?_
      refine lv_i2l X.ex X.co dL_law_2338 rfl ?_
      refine w_lcmp X dL_law_2339 ?_
      refine lv_if_eq (tgt := 2345) X.ex X.co dL_law_2340 (by decide) (fun c_3 => ?_) (fun c_3 => ?_)
      · refine lv_goto (tgt := 2348) X.ex X.co dL_law_2345 (by decide) ?_
        have hQ2 : Qs (fLineAt σ (xs (i + 1))).2 := by
          unfold fLineAt
          repeat' split
          all_goals first | exact hQ | exact hQ.e _ | exact hQ.z _
        exact kk (fLineAt σ (xs (i + 1))).2 f1 f2 H locs ls _ _ ⟨hQ2, hM, hCB, hfr, hO⟩ hS (lv_sub hl [2, 3, 4, 5, 6, 7] rfl) (by omega) (by omega)
      · exact absurd (by decide) c_3
  · exact absurd rfl c_1
end CASES
