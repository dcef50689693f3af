theorem CB.keptS {G : GT} {A Am : Nat → Prop} {b : Nat} {σ : Sg} {H H1 : Heap} (h : CB G A b σ H) (hk : ∀ q : Nat, q < H.size → ¬ Am q → H1[q]? = H[q]?) (hd : ∀ q, A q → ¬ Am q) : CB G A b σ H1 := h.kept fun q hA hlt => hk q hlt (hd q hA)
theorem ce_X9_answerCount : ceV yX9_answerCount cX9_answerCount 1 ((Option.some FieldType.int)) 0 := ⟨m_141, m_142, m_1, m_143, ⟨by decide, by decide, by decide +kernel⟩, by decide⟩
theorem ce_X9_appealCount : ceV yX9_appealCount cX9_appealCount 1 ((Option.some FieldType.int)) 0 := ⟨m_149, m_150, m_1, m_151, ⟨by decide, by decide, by decide +kernel⟩, by decide⟩
theorem ce_X9_harmedCount : ceV yX9_harmedCount cX9_harmedCount 1 ((Option.some FieldType.int)) 0 := ⟨m_153, m_154, m_1, m_155, ⟨by decide, by decide, by decide +kernel⟩, by decide⟩
theorem ce_X9_today : ceV yX9_today cX9_today 1 ((Option.some FieldType.int)) 0 := ⟨m_180, m_181, m_1, m_182, ⟨by decide, by decide, by decide +kernel⟩, by decide⟩
theorem ce_X9_revoked : ceV yX9_revoked cX9_revoked 1 ((Option.some FieldType.int)) 0 := ⟨m_157, m_158, m_1, m_159, ⟨by decide, by decide, by decide +kernel⟩, by decide⟩
theorem ce_X9_isConsistent : ceV yX9_isConsistent cX9_isConsistent 6 ((Option.some FieldType.boolean)) 0 := ⟨m_184, m_185, m_1, m_186, ⟨by decide, by decide, by decide +kernel⟩, by decide⟩
section CASES
variable {p : Program} {l : Launch} {e : Env} {hR rc rs : Nat} {s : State} {m : MethodId} {args : Array Value} {below : List Frame} {meth : Method} {c : Code} {H : Heap} {locs : List Loc} {cells slots : Nat} {Q : State → Prop}
variable {G : GT} {Ac Am AO : Nat → Prop} {b L x i : Nat} {xs : Nat → Int32} {mad oad : I2 → Nat} {ρ : Sg} {f : Nat → Int64} {f2 : Nat → UInt64} {ls : Array Slot}
set_option maxHeartbeats 4000000 in
set_option maxRecDepth 100000 in
theorem law_0 (hst : l.stackTraces = false) (hAc : ∀ q, Ac q → gA G q) (hAm : ∀ q, Am q → gA G q) (hA3 : ∀ q, (fun q => Ac q ∨ AO q ∨ Am q) q → gA G q) (d1 : ∀ q, Ac q → ¬ AO q) (d2 : ∀ q, Ac q → ¬ Am q) (d3 : ∀ q, Am q → ¬ AO q) (X : CF p s m args meth c cL_law 9 "CourseForgeLaw" (some .boolean)) (g0 : GG G s s.heap) (hX : va_X b L xs s s.heap) (hbl : b < s.heap.size) (hbA : ¬ (fun q => Ac q ∨ AO q ∨ Am q) b) (hR9 : 20 ≤ hR) (hi : i + 5 ≤ L) (hL : L ≤ 2560) (W0 : lawW G Ac Am AO x mad oad ρ f f2 H) (hS : va_S (fun q => Ac q ∨ AO q ∨ Am q) s.heap H locs) (hl : lv_has ls 9 [(0, .ref b), (1, .ref x), (2, .ref (mad (0, 0))), (3, .ref (oad (0, 0))), (4, .ref (oad (0, 1))), (5, .int (nI i))]) (h1 : cells + 110 ≤ rc) (h2 : slots + 2210 ≤ rs)
    (kk : ∀ (ρ : Sg) (f : Nat → Int64) (f2 : Nat → UInt64) (H : Heap) (locs : List Loc) (ls : Array Slot) (cells1 slots1 : Nat), lawW G Ac Am AO x mad oad ρ f f2 H → va_S (fun q => Ac q ∨ AO q ∨ Am q) s.heap H locs → lv_has ls 9 [(0, .ref b), (1, .ref x), (2, .ref (mad (0, 0))), (3, .ref (oad (0, 0))), (4, .ref (oad (0, 1))), (5, .int (nI i))] → cells1 ≤ cells + 110 → slots1 ≤ slots + 2210 → W p l e (RM hR rc rs) s m args below meth c H locs cells1 slots1 Q (F0 m 2348 ls [])) :
    W p l e (RM hR rc rs) s m args below meth c H locs cells slots Q (F0 m 212 ls []) := by
  obtain ⟨hQ0, hM, hCB0, hfr, hO⟩ := W0
  obtain ⟨σ, hσ⟩ : ∃ σ, σ = sN ρ 0 0 0 := ⟨_, rfl⟩
  have hQ : Qs σ := by rw [hσ]; exact hQ0.z 0
  have h0 : σ.1 0 0 = 0 := by rw [hσ]; rfl
  have hCB : CB G Ac x σ H := by rw [hσ]; exact CB_0 0 hCB0
  obtain ⟨fsB, hfB⟩ := CB_at hCB
  refine lv_aload_n X.ex X.co dL_law_212 rfl (lv_at hl 1 rfl) ?_
  refine lv_aload_n X.ex X.co dL_law_213 rfl (lv_at hl 0 rfl) ?_
  refine lv_iload X.ex X.co dL_law_214 (lv_at hl 5 rfl) ?_
  refine lv_iconst (v := 1) X.ex X.co dL_law_216 (by decide) ?_
  refine n_add X (x := i) (y := 1) dL_law_217 ?_
  refine va_sld X.ex X.co hX hbl hbA hS (i := nI (i + 1)) (vp_in_nI (show i + 1 < L by omega) (by omega)) dL_law_218 ?_
  rw [nI_clamp (show i + 1 < 2 ^ 31 by omega)]
  refine lv_aload_n X.ex X.co dL_law_219 rfl (lv_at hl 0 rfl) ?_
  refine lv_iload X.ex X.co dL_law_220 (lv_at hl 5 rfl) ?_
  refine lv_iconst (v := 2) X.ex X.co dL_law_222 (by decide) ?_
  refine n_add X (x := i) (y := 2) dL_law_223 ?_
  refine va_sld X.ex X.co hX hbl hbA hS (i := nI (i + 2)) (vp_in_nI (show i + 2 < L by omega) (by omega)) dL_law_224 ?_
  rw [nI_clamp (show i + 2 < 2 ^ 31 by omega)]
  refine lv_aload_n X.ex X.co dL_law_225 rfl (lv_at hl 3 rfl) ?_
  refine w_cS (n := 4) X m_267 m_0 m_266 ⟨by decide, by decide, by decide +kernel⟩ (by decide) m_265 (c_L_addCohort l hst G Ac AO hAc d1 x σ hQ.1 hQ.2 h0 (xs (i + 1)) (xs (i + 2)) lvO oad (enO G f f2) (0, 0) (Or.inl rfl) (oad (0, 0)) rfl f rfl) (g0.step hS hA3) ⟨⟨hCB, hfr⟩, hO⟩ (by omega) rfl hl.1 rfl (Nat.le_of_ble_eq_true rfl) dL_law_226 (by omega) (by omega) hS (fun q h => h.elim Or.inl (fun z => Or.inr (Or.inl z))) (fun v0 H locs hB hz hk9 hS => ?_)
  obtain ⟨rfl, hCB, hle9, f1, hO, hf1⟩ := hB
  have hM := fw.kept hM (fun j hj => hk9 _ (fw.lt hM hj) (fun z => z.elim (fun z => d2 _ z (fw.in hM hj)) (fun z => d3 _ (fw.in hM hj) z)))
  have hO := enO_0 hO
  have hfr : ∀ q, H.size ≤ q → Ac q := fun q hq => hfr q (Nat.le_trans hz hq)
  refine lv_istore (lv' := [(6, .int (nI ((fAddCohort σ (xs (i + 1)) (xs (i + 2))).2.1 0 0))), (0, .ref b), (1, .ref x), (2, .ref (mad (0, 0))), (3, .ref (oad (0, 0))), (4, .ref (oad (0, 1))), (5, .int (nI i))]) X.ex X.co dL_law_229 hl (by decide) rfl (fun ls hl => ?_)
  refine lv_aload_n X.ex X.co dL_law_231 rfl (lv_at hl 3 rfl) ?_
  refine lv_aload_n X.ex X.co dL_law_232 rfl (lv_at hl 1 rfl) ?_
  refine lv_iload X.ex X.co dL_law_233 (lv_at hl 6 rfl) ?_
  refine lv_iconst (v := 1) X.ex X.co dL_law_235 (by decide) ?_
  refine n_add X (x := i) (y := 1) dL_law_236 ?_
  refine va_sld X.ex X.co hX hbl hbA hS (i := nI (i + 1)) (vp_in_nI (show i + 1 < L by omega) (by omega)) dL_law_237 ?_
  rw [nI_clamp (show i + 1 < 2 ^ 31 by omega)]
  refine lv_aload_n X.ex X.co dL_law_238 rfl (lv_at hl 1 rfl) ?_
  refine lv_iload X.ex X.co dL_law_239 (lv_at hl 6 rfl) ?_
  refine lv_iconst (v := 2) X.ex X.co dL_law_241 (by decide) ?_
  refine n_add X (x := i) (y := 2) dL_law_242 ?_
  refine va_sld X.ex X.co hX hbl hbA hS (i := nI (i + 2)) (vp_in_nI (show i + 2 < L by omega) (by omega)) dL_law_243 ?_
  rw [nI_clamp (show i + 2 < 2 ^ 31 by omega)]
  refine q_eV X ce_X10_addCohort m_1490 (c_X10_addCohort l G mad Am hAm ρ σ hσ hQ.1 (xs (i + 1)) (xs (i + 2))) (g0.step hS hA3) hM (mo hM) rfl (by omega) rfl hl.1 rfl (Nat.le_of_ble_eq_true rfl) dL_law_244 (by omega) (by omega) hS (fun q h => Or.inr (Or.inr h)) (fun H locs hM hz hk9 hS => ?_)
  have hCB := CB.keptS hCB hk9 d2
  have hO := fw.kept hO (fun j hj => hk9 _ (fw.lt hO hj) (fun z => d3 _ z (fw.in hO hj)))
  have hfr : ∀ q, H.size ≤ q → Ac q := fun q hq => hfr q (Nat.le_trans hz hq)
  refine lv_istore (lv' := [(7, .int ((fAddCohort σ (xs (i + 1)) (xs (i + 2))).1)), (6, .int (nI ((fAddCohort σ (xs (i + 1)) (xs (i + 2))).2.1 0 0))), (0, .ref b), (1, .ref x), (2, .ref (mad (0, 0))), (3, .ref (oad (0, 0))), (4, .ref (oad (0, 1))), (5, .int (nI i))]) X.ex X.co dL_law_247 hl (by decide) rfl (fun ls hl => ?_)
  refine lv_aload_n X.ex X.co dL_law_249 rfl (lv_at hl 4 rfl) ?_
  refine q_rV X ce_X10_thrown m_1486 (c_X10_thrown l G mad Am (fAddCohort σ (xs (i + 1)) (xs (i + 2))).2) (g0.step hS hA3) hM (mo hM) rfl (by omega) rfl hl.1 rfl (Nat.le_of_ble_eq_true rfl) dL_law_250 (by omega) (by omega) ?_
  refine lv_iload X.ex X.co dL_law_253 (lv_at hl 1 rfl) ?_
  refine n_cmp_eq X (x := ((fAddCohort σ (xs (i + 1)) (xs (i + 2))).2.1 0 0)) (y := ((fAddCohort σ (xs (i + 1)) (xs (i + 2))).2.1 0 0)) (tgt := 260) (by omega) (by omega) dL_law_255 (by decide) (fun c_1 => ?_) (fun c_1 => ?_)
  · refine lv_iload X.ex X.co dL_law_260 (lv_at hl 1 rfl) ?_
    refine n_if_ne X (x := ((fAddCohort σ (xs (i + 1)) (xs (i + 2))).2.1 0 0)) (tgt := 277) (by omega) dL_law_262 (by decide) (fun c_2 => ?_) (fun c_2 => ?_)
    · refine lv_goto (tgt := 2348) X.ex X.co dL_law_277 (by decide) ?_
      have hQ2 : Qs (fAddCohort σ (xs (i + 1)) (xs (i + 2))).2 := pr_addCohort hQ  (xs (i + 1)) (xs (i + 2))
      exact kk (fAddCohort σ (xs (i + 1)) (xs (i + 2))).2 f1 f2 H locs ls _ _ ⟨hQ2, hM, hCB, hfr, hO⟩ hS (lv_sub hl [2, 3, 4, 5, 6, 7] rfl) (by omega) (by omega)
    · refine lv_aload_n X.ex X.co dL_law_265 rfl (lv_at hl 5 rfl) ?_
      refine lv_iconst (v := 0) X.ex X.co dL_law_266 (by decide) ?_
      refine f_lald X g0.1 (fw.get hO (i := (0, 0)) (Or.inl rfl) rfl rfl) (x := 0) (show vp_in (nI 0) 1 from vp_in_nI (by omega) (by omega)) dL_law_267 ?_
      rw [show f1 (0 : Int32).toNatClampNeg = (fAddCohort σ (xs (i + 1)) (xs (i + 2))).1.toInt64 from hf1 c_2]
      refine lv_iload X.ex X.co dL_law_268 (lv_at hl 0 rfl) ?_
      refine lv_i2l X.ex X.co dL_law_270 rfl ?_
      refine w_lcmp X dL_law_271 ?_
      refine lv_if_eq (tgt := 277) X.ex X.co dL_law_272 (by decide) (fun c_3 => ?_) (fun c_3 => ?_)
      · refine lv_goto (tgt := 2348) X.ex X.co dL_law_277 (by decide) ?_
        have hQ2 : Qs (fAddCohort σ (xs (i + 1)) (xs (i + 2))).2 := pr_addCohort hQ  (xs (i + 1)) (xs (i + 2))
        exact kk (fAddCohort σ (xs (i + 1)) (xs (i + 2))).2 f1 f2 H locs ls _ _ ⟨hQ2, hM, hCB, hfr, hO⟩ hS (lv_sub hl [2, 3, 4, 5, 6, 7] rfl) (by omega) (by omega)
      · exact absurd (by decide) c_3
  · exact absurd rfl c_1
set_option maxHeartbeats 4000000 in
set_option maxRecDepth 100000 in
theorem law_9 (hst : l.stackTraces = false) (hAc : ∀ q, Ac q → gA G q) (hAm : ∀ q, Am q → gA G q) (hA3 : ∀ q, (fun q => Ac q ∨ AO q ∨ Am q) q → gA G q) (d1 : ∀ q, Ac q → ¬ AO q) (d2 : ∀ q, Ac q → ¬ Am q) (d3 : ∀ q, Am q → ¬ AO q) (X : CF p s m args meth c cL_law 9 "CourseForgeLaw" (some .boolean)) (g0 : GG G s s.heap) (hX : va_X b L xs s s.heap) (hbl : b < s.heap.size) (hbA : ¬ (fun q => Ac q ∨ AO q ∨ Am q) b) (hR9 : 20 ≤ hR) (hi : i + 5 ≤ L) (hL : L ≤ 2560) (W0 : lawW G Ac Am AO x mad oad ρ f f2 H) (hS : va_S (fun q => Ac q ∨ AO q ∨ Am q) s.heap H locs) (hl : lv_has ls 9 [(0, .ref b), (1, .ref x), (2, .ref (mad (0, 0))), (3, .ref (oad (0, 0))), (4, .ref (oad (0, 1))), (5, .int (nI i))]) (h1 : cells + 110 ≤ rc) (h2 : slots + 2210 ≤ rs)
    (kk : ∀ (ρ : Sg) (f : Nat → Int64) (f2 : Nat → UInt64) (H : Heap) (locs : List Loc) (ls : Array Slot) (cells1 slots1 : Nat), lawW G Ac Am AO x mad oad ρ f f2 H → va_S (fun q => Ac q ∨ AO q ∨ Am q) s.heap H locs → lv_has ls 9 [(0, .ref b), (1, .ref x), (2, .ref (mad (0, 0))), (3, .ref (oad (0, 0))), (4, .ref (oad (0, 1))), (5, .int (nI i))] → cells1 ≤ cells + 110 → slots1 ≤ slots + 2210 → W p l e (RM hR rc rs) s m args below meth c H locs cells1 slots1 Q (F0 m 2348 ls [])) :
    W p l e (RM hR rc rs) s m args below meth c H locs cells slots Q (F0 m 848 ls []) := by
  obtain ⟨hQ0, hM, hCB0, hfr, hO⟩ := W0
  obtain ⟨σ, hσ⟩ : ∃ σ, σ = sN ρ 0 0 0 := ⟨_, rfl⟩
  have hQ : Qs σ := by rw [hσ]; exact hQ0.z 0
  have h0 : σ.1 0 0 = 0 := by rw [hσ]; rfl
  have hCB : CB G Ac x σ H := by rw [hσ]; exact CB_0 0 hCB0
  obtain ⟨fsB, hfB⟩ := CB_at hCB
  refine lv_aload_n X.ex X.co dL_law_848 rfl (lv_at hl 1 rfl) ?_
  refine q_cV X ce_X9_answerCount m_140 (c_X9_answerCount l G Ac hAc x σ hQ.1 hQ.2 h0) (g0.step hS hA3) ⟨hCB, hfr⟩ hfB rfl (by omega) rfl hl.1 rfl (Nat.le_of_ble_eq_true rfl) dL_law_849 (by omega) (by omega) hS (fun q h => Or.inl h) (fun v0 H locs hB hz hk9 hS => ?_)
  obtain ⟨rfl, hk0, hCB⟩ := hB
  have hM := fw.kept hM (fun j hj => hk9 _ (fw.lt hM hj) (fun z => d2 _ z (fw.in hM hj)))
  have hO := fw.kept hO (fun j hj => hk9 _ (fw.lt hO hj) (fun z => d1 _ z (fw.in hO hj)))
  have hfr : ∀ q, H.size ≤ q → Ac q := fun q hq => hfr q (Nat.le_trans hz hq)
  refine lv_aload_n X.ex X.co dL_law_852 rfl (lv_at hl 2 rfl) ?_
  refine q_eV X ce_X10_answerCount m_1584 (c_X10_answerCount l G mad Am hAm ρ σ hσ hQ.1) (g0.step hS hA3) hM (mo hM) rfl (by omega) rfl hl.1 rfl (Nat.le_of_ble_eq_true rfl) dL_law_853 (by omega) (by omega) hS (fun q h => Or.inr (Or.inr h)) (fun H locs hM hz hk9 hS => ?_)
  have hCB := CB.keptS hCB hk9 d2
  have hO := fw.kept hO (fun j hj => hk9 _ (fw.lt hO hj) (fun z => d3 _ z (fw.in hO hj)))
  have hfr : ∀ q, H.size ≤ q → Ac q := fun q hq => hfr q (Nat.le_trans hz hq)
  refine lv_icmp_eq (tgt := 2348) X.ex X.co dL_law_856 (by decide) (fun c_1 => ?_) (fun c_1 => ?_)
  · have hQ2 : Qs (fAnswerCount σ).2 := by
      unfold fAnswerCount
      repeat' split
      all_goals first | exact hQ | exact hQ.e _
    exact kk (fAnswerCount σ).2 f f2 H locs ls _ _ ⟨hQ2, hM, hCB, hfr, hO⟩ hS (lv_sub hl [0, 1, 2, 3, 4, 5] rfl) (by omega) (by omega)
  · exact absurd rfl c_1
end CASES
