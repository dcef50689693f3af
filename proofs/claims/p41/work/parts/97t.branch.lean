section BRANCHES
variable {p : Program} {l : Launch} {e : Env} {hR rc rs : Nat} {s : State} {m : MethodId} {args : Array Value} {below : List Frame} {meth : Method} {c : Code} {H : Heap} {locs : List Loc} {cells slots : Nat} {Q : State → Prop}
variable {G : GT} {A AO : Nat → Prop} {b d : Nat} {σ : Sg} {oad : I2 → Nat} {wf : Nat → Int32} {ls : Array Slot}
variable {sx L k i x9 w9 : Nat} {xs : Nat → Int32}
theorem WF_e {σ τ : Sg} {wf : Nat → Int32} (h5 : nCe τ = nCe σ) (h7 : τ.2 41 = σ.2 41) (hw : WF σ wf) : WF τ wf := fun c hc => by
  obtain ⟨q1, q2⟩ := hw c hc
  exact ⟨by rw [h5]; exact q1, by rw [h7]; exact q2⟩
set_option maxHeartbeats 4000000 in
set_option maxRecDepth 100000 in
theorem lb_2 (hst : l.stackTraces = false) (hAg : ∀ q, A q → gA G q) (hA2 : ∀ q, (fun q => A q ∨ AO q) q → gA G q) (hdis : ∀ q, A q → ¬ AO q) (X : CF p s m args meth c cL_law 13 "CourseForgeLaw" (some .boolean)) (g0 : GG G s s.heap) (hX : va_X sx L xs s s.heap) (hxl : sx < s.heap.size) (hxA : ¬ (fun q => A q ∨ AO q) sx) (hL : L ≤ 2560) (hR9 : 20 ≤ hR) (hk80 : k < 80) (hi : i ≤ 700) (hz : LZ k d σ) (hk : k < 3 ∨ 14 ≤ k) (hx9 : 7 ≤ k → x9 < nEx σ) (W0 : LW G A AO b d σ oad (mR σ) wf H) (hwf : WF σ wf) (hS : va_S (fun q => A q ∨ AO q) s.heap H locs) (hl : lv_has ls 13 [(0, .ref sx), (1, .ref b), (2, .ref (oad (0, 0))), (3, .ref (oad (0, 1))), (5, .int (nI k)), (6, .int (nI i)), (7, .int (nI w9)), (8, .int (nI x9)), (9, .int (nI (nAn σ)))]) (hrc : cells + 700 ≤ rc) (hrs : slots + 6000 ≤ rs) (kk : ∀ (d2 : Nat) (τ : Sg) (H : Heap) (locs : List Loc) (ls : Array Slot) (cells1 slots1 : Nat), LW G A AO b d2 τ oad (mR τ) wf H → WF τ wf → LZ (k + 1) d2 τ → va_S (fun q => A q ∨ AO q) s.heap H locs → lv_has ls 13 [(0, .ref sx), (1, .ref b), (2, .ref (oad (0, 0))), (3, .ref (oad (0, 1))), (4, .int 1), (5, .int (nI k))] → cells1 ≤ cells + 700 → slots1 ≤ slots + 6000 → W p l e (RM hR rc rs) s m args below meth c H locs cells1 slots1 Q (F0 m 1265 ls [])) :
    W p l e (RM hR rc rs) s m args below meth c H locs cells slots Q (F0 m 237 ls []) := by
  have hb := W0.1.1.1.1.1.1
  have hapb := W0.1.1.1.1.2.1
  obtain ⟨z1, z2, z3, z4, z5⟩ := hz
  have hp2 := Nat.two_pow_pos (nLe σ)
  have hp3 : 2 ^ nLe σ ≤ 2 ^ 8 := Nat.pow_le_pow_right (by decide) hb.2.2.1
  refine lv_aload_n X.ex X.co dL_law_237 rfl (lv_at hl 1 rfl) ?_
  refine lv_iconst (v := 2) X.ex X.co dL_law_238 (by decide) ?_
  refine lv_aload_n X.ex X.co dL_law_239 rfl (lv_at hl 0 rfl) ?_
  refine lv_iload X.ex X.co dL_law_240 (lv_at hl 5 rfl) ?_
  refine lv_iconst (v := 2) X.ex X.co dL_law_242 (by decide) ?_
  refine n_add X (x := i) (y := 2) dL_law_243 ?_
  refine lv_iconst (v := 1) X.ex X.co dL_law_244 (by decide) ?_
  refine lv_aload_n X.ex X.co dL_law_245 rfl (lv_at hl 2 rfl) ?_
  refine lv_iconst (v := 2) X.ex X.co dL_law_246 (by decide) ?_
  refine k_ml X g0.1 W0.2.2.2 2 (by omega) (mR_2 σ) dL_law_247 ?_
  refine lv_ishl X.ex X.co dL_law_248 ?_
  rw [sh_1 (nLe σ) (by omega)]
  refine k_pick X hX hxl hxA g0 hA2 hS hL (i := i + 2) (by omega) (k := 2 ^ nLe σ) (by omega) (by omega) (by omega) hl.1 (Nat.le_of_ble_eq_true rfl) dL_law_249 (by omega) (by omega) (fun p_1 hp_1 => ?_)
  refine lv_aload_n X.ex X.co dL_law_252 rfl (lv_at hl 0 rfl) ?_
  refine lv_iload X.ex X.co dL_law_253 (lv_at hl 5 rfl) ?_
  refine lv_iconst (v := 3) X.ex X.co dL_law_255 (by decide) ?_
  refine n_add X (x := i) (y := 3) dL_law_256 ?_
  refine lv_iconst (v := 5) X.ex X.co dL_law_257 (by decide) ?_
  refine k_pick X hX hxl hxA g0 hA2 hS hL (i := i + 3) (by omega) (k := 5) (by omega) (by omega) (by omega) hl.1 (Nat.le_of_ble_eq_true rfl) dL_law_258 (by omega) (by omega) (fun p_2 hp_2 => ?_)
  refine lv_iconst (v := 0) X.ex X.co dL_law_261 (by decide) ?_
  refine lv_iconst (v := 0) X.ex X.co dL_law_262 (by decide) ?_
  rcases s_addLesson W0.1 hp_1 hp_2 with ⟨h8, hv, hs9⟩ | ⟨h7, hv, τ, hs9, hL9, g1, g2, g3, g4, g5, g6, g7⟩
  · refine k_call (n := 6) X mn_16 m_0 mn_15 ⟨by decide, by decide, by decide +kernel⟩ (by decide) mn_14 (c_L_deed_2 l hst G A hAg b σ W0.1.1.1.1 W0.1.1.1.2 W0.1.1.2 (nI p_1) (nI p_2) 0 0) (g0.step hS hA2) W0 hdis hs9 W0.1 hv (by omega) rfl hl.1 rfl (Nat.le_of_ble_eq_true rfl) dL_law_263 (by omega) (by omega) hS (fun q h => Or.inl h) (fun H locs W0 hz hk9 hS => ?_)
    refine lv_aload_n X.ex X.co dL_law_266 rfl (lv_at hl 2 rfl) ?_
    refine lv_iconst (v := 2) X.ex X.co dL_law_267 (by decide) ?_
    refine k_ml X g0.1 W0.2.2.2 2 (by omega) (mR_2 σ) dL_law_268 ?_
    refine lv_bipush (v := 8) X.ex X.co dL_law_269 (by decide) ?_
    refine n_cmp_ne X (x := nLe σ) (y := 8) (tgt := 280) (by omega) (by omega) dL_law_271 (by decide) (fun c_3 => ?_) (fun c_3 => ?_)
    · exact absurd c_3 (by omega)
    · refine lv_sipush (v := (-2003)) X.ex X.co dL_law_274 (by decide) ?_
      refine lv_goto (tgt := 283) X.ex X.co dL_law_277 (by decide) ?_
      refine lv_icmp_ne (tgt := 290) X.ex X.co dL_law_283 (by decide) (fun c_4 => ?_) (fun c_4 => ?_)
      · exact absurd (by decide) c_4
      · refine lv_iconst (v := 1) X.ex X.co dL_law_286 (by decide) ?_
        refine lv_goto (tgt := 291) X.ex X.co dL_law_287 (by decide) ?_
        refine lv_istore (lv' := [(4, .int 1), (0, .ref sx), (1, .ref b), (2, .ref (oad (0, 0))), (3, .ref (oad (0, 1))), (5, .int (nI k)), (6, .int (nI i)), (7, .int (nI w9)), (8, .int (nI x9)), (9, .int (nI (nAn σ)))]) X.ex X.co dL_law_291 hl (by decide) rfl (fun ls hl => ?_)
        refine lv_aload_n X.ex X.co dL_law_293 rfl (lv_at hl 3 rfl) ?_
        refine lv_iconst (v := 2) X.ex X.co dL_law_294 (by decide) ?_
        refine lv_bipush (v := 8) X.ex X.co dL_law_295 (by decide) ?_
        refine lv_aload_n X.ex X.co dL_law_297 rfl (lv_at hl 3 rfl) ?_
        refine lv_iconst (v := 2) X.ex X.co dL_law_298 (by decide) ?_
        refine k_ml X g0.1 W0.2.2.2 2 (by omega) (mR_2 σ) dL_law_299 ?_
        refine lv_iconst (v := 1) X.ex X.co dL_law_300 (by decide) ?_
        refine n_add X (x := nLe σ) (y := 1) dL_law_301 ?_
        refine va_mmin X.ex X.co (X.ml.trans hl.1.symm) X.ow (X.ts _ mn_84) (X.ts _ m_204) (X.ts _ m_17) (X.ts _ m_205) (by show 1 ≤ 10 + hR; omega) (Nat.le_trans (Nat.le_of_ble_eq_true rfl : _ ≤ 400) (Nat.le_add_right _ _)) (by show _ ≤ rc; omega) (by show _ ≤ rs; omega) dL_law_302 ?_
        rw [mn8e h8]
        refine k_ms X g0.1 W0 hdis hS (fun q h => Or.inr h) 2 (by omega) (v := nI 8) dL_law_305 (fun H locs W0 hS => ?_)
        rw [mR_s (σ := σ) (τ := σ) (j := 2) (show nI 8 = mR σ 2 by rw [mR_2, h8]) (Or.inr rfl) (Or.inl rfl) rfl (Or.inr rfl) (Or.inr rfl) (fun _ _ => rfl)] at W0
        refine lv_goto (tgt := 1265) X.ex X.co dL_law_306 (by decide) ?_
        exact kk d σ H locs ls _ _ W0 hwf (by unfold LZ; omega) hS (lv_sub hl [1, 2, 3, 4, 0, 5] rfl) (by omega) (by omega)
  · refine k_call (n := 6) X mn_16 m_0 mn_15 ⟨by decide, by decide, by decide +kernel⟩ (by decide) mn_14 (c_L_deed_2 l hst G A hAg b σ W0.1.1.1.1 W0.1.1.1.2 W0.1.1.2 (nI p_1) (nI p_2) 0 0) (g0.step hS hA2) W0 hdis hs9 hL9 hv (by omega) rfl hl.1 rfl (Nat.le_of_ble_eq_true rfl) dL_law_263 (by omega) (by omega) hS (fun q h => Or.inl h) (fun H locs W0 hz hk9 hS => ?_)
    refine lv_aload_n X.ex X.co dL_law_266 rfl (lv_at hl 2 rfl) ?_
    refine lv_iconst (v := 2) X.ex X.co dL_law_267 (by decide) ?_
    refine k_ml X g0.1 W0.2.2.2 2 (by omega) (mR_2 σ) dL_law_268 ?_
    refine lv_bipush (v := 8) X.ex X.co dL_law_269 (by decide) ?_
    refine n_cmp_ne X (x := nLe σ) (y := 8) (tgt := 280) (by omega) (by omega) dL_law_271 (by decide) (fun c_5 => ?_) (fun c_5 => ?_)
    · refine lv_aload_n X.ex X.co dL_law_280 rfl (lv_at hl 2 rfl) ?_
      refine lv_iconst (v := 2) X.ex X.co dL_law_281 (by decide) ?_
      refine k_ml X g0.1 W0.2.2.2 2 (by omega) (mR_2 σ) dL_law_282 ?_
      refine n_cmp_ne X (x := nLe σ) (y := nLe σ) (tgt := 290) (by omega) (by omega) dL_law_283 (by decide) (fun c_6 => ?_) (fun c_6 => ?_)
      · exact absurd rfl c_6
      · refine lv_iconst (v := 1) X.ex X.co dL_law_286 (by decide) ?_
        refine lv_goto (tgt := 291) X.ex X.co dL_law_287 (by decide) ?_
        refine lv_istore (lv' := [(4, .int 1), (0, .ref sx), (1, .ref b), (2, .ref (oad (0, 0))), (3, .ref (oad (0, 1))), (5, .int (nI k)), (6, .int (nI i)), (7, .int (nI w9)), (8, .int (nI x9)), (9, .int (nI (nAn σ)))]) X.ex X.co dL_law_291 hl (by decide) rfl (fun ls hl => ?_)
        refine lv_aload_n X.ex X.co dL_law_293 rfl (lv_at hl 3 rfl) ?_
        refine lv_iconst (v := 2) X.ex X.co dL_law_294 (by decide) ?_
        refine lv_bipush (v := 8) X.ex X.co dL_law_295 (by decide) ?_
        refine lv_aload_n X.ex X.co dL_law_297 rfl (lv_at hl 3 rfl) ?_
        refine lv_iconst (v := 2) X.ex X.co dL_law_298 (by decide) ?_
        refine k_ml X g0.1 W0.2.2.2 2 (by omega) (mR_2 σ) dL_law_299 ?_
        refine lv_iconst (v := 1) X.ex X.co dL_law_300 (by decide) ?_
        refine n_add X (x := nLe σ) (y := 1) dL_law_301 ?_
        refine va_mmin X.ex X.co (X.ml.trans hl.1.symm) X.ow (X.ts _ mn_84) (X.ts _ m_204) (X.ts _ m_17) (X.ts _ m_205) (by show 1 ≤ 10 + hR; omega) (Nat.le_trans (Nat.le_of_ble_eq_true rfl : _ ≤ 400) (Nat.le_add_right _ _)) (by show _ ≤ rc; omega) (by show _ ≤ rs; omega) dL_law_302 ?_
        rw [mn8 h7]
        refine k_ms X g0.1 W0 hdis hS (fun q h => Or.inr h) 2 (by omega) (v := nI (nLe σ + 1)) dL_law_305 (fun H locs W0 hS => ?_)
        rw [mR_s (σ := σ) (τ := τ) (j := 2) (show nI (nLe σ + 1) = mR τ 2 by rw [mR_2, g2]) (Or.inr g1) (Or.inl rfl) g3 (Or.inr g4) (Or.inr g5) (fun _ _ => by rw [g6])] at W0
        refine lv_goto (tgt := 1265) X.ex X.co dL_law_306 (by decide) ?_
        exact kk d τ H locs ls _ _ W0 (WF_e g5 g7 hwf) (by unfold LZ; omega) hS (lv_sub hl [1, 2, 3, 4, 0, 5] rfl) (by omega) (by omega)
    · exact absurd c_5 (by omega)
set_option maxHeartbeats 4000000 in
set_option maxRecDepth 100000 in
theorem lb_3 (hst : l.stackTraces = false) (hAg : ∀ q, A q → gA G q) (hA2 : ∀ q, (fun q => A q ∨ AO q) q → gA G q) (hdis : ∀ q, A q → ¬ AO q) (X : CF p s m args meth c cL_law 13 "CourseForgeLaw" (some .boolean)) (g0 : GG G s s.heap) (hX : va_X sx L xs s s.heap) (hxl : sx < s.heap.size) (hxA : ¬ (fun q => A q ∨ AO q) sx) (hL : L ≤ 2560) (hR9 : 20 ≤ hR) (hk80 : k < 80) (hi : i ≤ 700) (hz : LZ k d σ) (hk : (3 ≤ k ∧ k < 7) ∨ 14 ≤ k) (hx9 : 7 ≤ k → x9 < nEx σ) (W0 : LW G A AO b d σ oad (mR σ) wf H) (hwf : WF σ wf) (hS : va_S (fun q => A q ∨ AO q) s.heap H locs) (hl : lv_has ls 13 [(0, .ref sx), (1, .ref b), (2, .ref (oad (0, 0))), (3, .ref (oad (0, 1))), (5, .int (nI k)), (6, .int (nI i)), (7, .int (nI w9)), (8, .int (nI x9)), (9, .int (nI (nAn σ)))]) (hrc : cells + 700 ≤ rc) (hrs : slots + 6000 ≤ rs) (kk : ∀ (d2 : Nat) (τ : Sg) (H : Heap) (locs : List Loc) (ls : Array Slot) (cells1 slots1 : Nat), LW G A AO b d2 τ oad (mR τ) wf H → WF τ wf → LZ (k + 1) d2 τ → va_S (fun q => A q ∨ AO q) s.heap H locs → lv_has ls 13 [(0, .ref sx), (1, .ref b), (2, .ref (oad (0, 0))), (3, .ref (oad (0, 1))), (4, .int 1), (5, .int (nI k))] → cells1 ≤ cells + 700 → slots1 ≤ slots + 6000 → W p l e (RM hR rc rs) s m args below meth c H locs cells1 slots1 Q (F0 m 1265 ls [])) :
    W p l e (RM hR rc rs) s m args below meth c H locs cells slots Q (F0 m 315 ls []) := by
  have hb := W0.1.1.1.1.1.1
  have hapb := W0.1.1.1.1.2.1
  obtain ⟨z1, z2, z3, z4, z5⟩ := hz
  have hp2 := Nat.two_pow_pos (nLe σ)
  have hp3 : 2 ^ nLe σ ≤ 2 ^ 8 := Nat.pow_le_pow_right (by decide) hb.2.2.1
  refine lv_aload_n X.ex X.co dL_law_315 rfl (lv_at hl 0 rfl) ?_
  refine lv_iload X.ex X.co dL_law_316 (lv_at hl 5 rfl) ?_
  refine lv_iconst (v := 2) X.ex X.co dL_law_318 (by decide) ?_
  refine n_add X (x := i) (y := 2) dL_law_319 ?_
  refine lv_aload_n X.ex X.co dL_law_320 rfl (lv_at hl 2 rfl) ?_
  refine lv_iconst (v := 2) X.ex X.co dL_law_321 (by decide) ?_
  refine k_ml X g0.1 W0.2.2.2 2 (by omega) (mR_2 σ) dL_law_322 ?_
  refine k_pick X hX hxl hxA g0 hA2 hS hL (i := i + 2) (by omega) (k := nLe σ) (by omega) (by omega) (by omega) hl.1 (Nat.le_of_ble_eq_true rfl) dL_law_323 (by omega) (by omega) (fun p_1 hp_1 => ?_)
  refine lv_istore (lv' := [(10, .int (nI p_1)), (0, .ref sx), (1, .ref b), (2, .ref (oad (0, 0))), (3, .ref (oad (0, 1))), (5, .int (nI k)), (6, .int (nI i)), (7, .int (nI w9)), (8, .int (nI x9)), (9, .int (nI (nAn σ)))]) X.ex X.co dL_law_326 hl (by decide) rfl (fun ls hl => ?_)
  refine lv_aload_n X.ex X.co dL_law_328 rfl (lv_at hl 2 rfl) ?_
  refine lv_iconst (v := 3) X.ex X.co dL_law_329 (by decide) ?_
  refine lv_iload X.ex X.co dL_law_330 (lv_at hl 0 rfl) ?_
  refine lv_aload_n X.ex X.co dL_law_332 rfl (lv_at hl 1 rfl) ?_
  refine lv_iload X.ex X.co dL_law_333 (lv_at hl 6 rfl) ?_
  refine lv_iconst (v := 3) X.ex X.co dL_law_335 (by decide) ?_
  refine n_add X (x := i) (y := 3) dL_law_336 ?_
  refine lv_iconst (v := 5) X.ex X.co dL_law_337 (by decide) ?_
  refine k_pick X hX hxl hxA g0 hA2 hS hL (i := i + 3) (by omega) (k := 5) (by omega) (by omega) (by omega) hl.1 (Nat.le_of_ble_eq_true rfl) dL_law_338 (by omega) (by omega) (fun p_2 hp_2 => ?_)
  refine lv_iconst (v := 2) X.ex X.co dL_law_341 (by decide) ?_
  refine lv_isub X.ex X.co dL_law_342 ?_
  refine lv_aload_n X.ex X.co dL_law_343 rfl (lv_at hl 1 rfl) ?_
  refine lv_iload X.ex X.co dL_law_344 (lv_at hl 6 rfl) ?_
  refine lv_iconst (v := 4) X.ex X.co dL_law_346 (by decide) ?_
  refine n_add X (x := i) (y := 4) dL_law_347 ?_
  refine lv_bipush (v := 9) X.ex X.co dL_law_348 (by decide) ?_
  refine k_pick X hX hxl hxA g0 hA2 hS hL (i := i + 4) (by omega) (k := 9) (by omega) (by omega) (by omega) hl.1 (Nat.le_of_ble_eq_true rfl) dL_law_350 (by omega) (by omega) (fun p_3 hp_3 => ?_)
  refine lv_aload_n X.ex X.co dL_law_353 rfl (lv_at hl 1 rfl) ?_
  refine lv_iload X.ex X.co dL_law_354 (lv_at hl 6 rfl) ?_
  refine lv_iconst (v := 5) X.ex X.co dL_law_356 (by decide) ?_
  refine n_add X (x := i) (y := 5) dL_law_357 ?_
  refine lv_iconst (v := 3) X.ex X.co dL_law_358 (by decide) ?_
  refine k_pick X hX hxl hxA g0 hA2 hS hL (i := i + 5) (by omega) (k := 3) (by omega) (by omega) (by omega) hl.1 (Nat.le_of_ble_eq_true rfl) dL_law_359 (by omega) (by omega) (fun p_4 hp_4 => ?_)
  rcases s_addExercise W0.1 hp_1 hp_2 hp_3 hp_4 with ⟨h8, hv, hs9⟩ | ⟨h7, hv, τ, hs9, hL9, g1, g2, g3, g4, g5, g6, g8, g7⟩
  · refine k_call (n := 6) X mn_16 m_0 mn_15 ⟨by decide, by decide, by decide +kernel⟩ (by decide) mn_14 (c_L_deed_3 l hst G A hAg b σ W0.1.1.1.1 W0.1.1.1.2 W0.1.1.2 (nI p_1) (nI p_2 - 2) (nI p_3) (nI p_4)) (g0.step hS hA2) W0 hdis hs9 W0.1 hv (by omega) rfl hl.1 rfl (Nat.le_of_ble_eq_true rfl) dL_law_362 (by omega) (by omega) hS (fun q h => Or.inl h) (fun H locs W0 hz hk9 hS => ?_)
    refine lv_aload_n X.ex X.co dL_law_365 rfl (lv_at hl 3 rfl) ?_
    refine lv_iconst (v := 3) X.ex X.co dL_law_366 (by decide) ?_
    refine k_ml X g0.1 W0.2.2.2 3 (by omega) (mR_3 σ) dL_law_367 ?_
    refine lv_bipush (v := 12) X.ex X.co dL_law_368 (by decide) ?_
    refine n_cmp_ne X (x := nEx σ) (y := 12) (tgt := 379) (by omega) (by omega) dL_law_370 (by decide) (fun c_5 => ?_) (fun c_5 => ?_)
    · exact absurd c_5 (by omega)
    · refine lv_sipush (v := (-2003)) X.ex X.co dL_law_373 (by decide) ?_
      refine lv_goto (tgt := 382) X.ex X.co dL_law_376 (by decide) ?_
      refine lv_icmp_ne (tgt := 389) X.ex X.co dL_law_382 (by decide) (fun c_6 => ?_) (fun c_6 => ?_)
      · exact absurd (by decide) c_6
      · refine lv_iconst (v := 1) X.ex X.co dL_law_385 (by decide) ?_
        refine lv_goto (tgt := 390) X.ex X.co dL_law_386 (by decide) ?_
        refine lv_istore (lv' := [(4, .int 1), (10, .int (nI p_1)), (0, .ref sx), (1, .ref b), (2, .ref (oad (0, 0))), (3, .ref (oad (0, 1))), (5, .int (nI k)), (6, .int (nI i)), (7, .int (nI w9)), (8, .int (nI x9)), (9, .int (nI (nAn σ)))]) X.ex X.co dL_law_390 hl (by decide) rfl (fun ls hl => ?_)
        refine lv_aload_n X.ex X.co dL_law_392 rfl (lv_at hl 4 rfl) ?_
        refine lv_iconst (v := 3) X.ex X.co dL_law_393 (by decide) ?_
        refine k_ml X g0.1 W0.2.2.2 3 (by omega) (mR_3 σ) dL_law_394 ?_
        refine lv_bipush (v := 12) X.ex X.co dL_law_395 (by decide) ?_
        refine n_cmp_ge X (x := nEx σ) (y := 12) (tgt := 417) (by omega) (by omega) dL_law_397 (by decide) (fun c_7 => ?_) (fun c_7 => ?_)
        · refine lv_goto (tgt := 1265) X.ex X.co dL_law_417 (by decide) ?_
          exact kk d σ H locs ls _ _ W0 hwf (by unfold LZ; omega) hS (lv_sub hl [2, 3, 4, 5, 0, 6] rfl) (by omega) (by omega)
        · exact absurd c_7 (by omega)
  · refine k_call (n := 6) X mn_16 m_0 mn_15 ⟨by decide, by decide, by decide +kernel⟩ (by decide) mn_14 (c_L_deed_3 l hst G A hAg b σ W0.1.1.1.1 W0.1.1.1.2 W0.1.1.2 (nI p_1) (nI p_2 - 2) (nI p_3) (nI p_4)) (g0.step hS hA2) W0 hdis hs9 hL9 hv (by omega) rfl hl.1 rfl (Nat.le_of_ble_eq_true rfl) dL_law_362 (by omega) (by omega) hS (fun q h => Or.inl h) (fun H locs W0 hz hk9 hS => ?_)
    refine lv_aload_n X.ex X.co dL_law_365 rfl (lv_at hl 3 rfl) ?_
    refine lv_iconst (v := 3) X.ex X.co dL_law_366 (by decide) ?_
    refine k_ml X g0.1 W0.2.2.2 3 (by omega) (mR_3 σ) dL_law_367 ?_
    refine lv_bipush (v := 12) X.ex X.co dL_law_368 (by decide) ?_
    refine n_cmp_ne X (x := nEx σ) (y := 12) (tgt := 379) (by omega) (by omega) dL_law_370 (by decide) (fun c_8 => ?_) (fun c_8 => ?_)
    · refine lv_aload_n X.ex X.co dL_law_379 rfl (lv_at hl 3 rfl) ?_
      refine lv_iconst (v := 3) X.ex X.co dL_law_380 (by decide) ?_
      refine k_ml X g0.1 W0.2.2.2 3 (by omega) (mR_3 σ) dL_law_381 ?_
      refine n_cmp_ne X (x := nEx σ) (y := nEx σ) (tgt := 389) (by omega) (by omega) dL_law_382 (by decide) (fun c_9 => ?_) (fun c_9 => ?_)
      · exact absurd rfl c_9
      · refine lv_iconst (v := 1) X.ex X.co dL_law_385 (by decide) ?_
        refine lv_goto (tgt := 390) X.ex X.co dL_law_386 (by decide) ?_
        refine lv_istore (lv' := [(4, .int 1), (10, .int (nI p_1)), (0, .ref sx), (1, .ref b), (2, .ref (oad (0, 0))), (3, .ref (oad (0, 1))), (5, .int (nI k)), (6, .int (nI i)), (7, .int (nI w9)), (8, .int (nI x9)), (9, .int (nI (nAn σ)))]) X.ex X.co dL_law_390 hl (by decide) rfl (fun ls hl => ?_)
        refine lv_aload_n X.ex X.co dL_law_392 rfl (lv_at hl 4 rfl) ?_
        refine lv_iconst (v := 3) X.ex X.co dL_law_393 (by decide) ?_
        refine k_ml X g0.1 W0.2.2.2 3 (by omega) (mR_3 σ) dL_law_394 ?_
        refine lv_bipush (v := 12) X.ex X.co dL_law_395 (by decide) ?_
        refine n_cmp_ge X (x := nEx σ) (y := 12) (tgt := 417) (by omega) (by omega) dL_law_397 (by decide) (fun c_10 => ?_) (fun c_10 => ?_)
        · exact absurd c_10 (by omega)
        · refine lv_aload_n X.ex X.co dL_law_400 rfl (lv_at hl 4 rfl) ?_
          refine lv_bipush (v := 10) X.ex X.co dL_law_401 (by decide) ?_
          refine lv_aload_n X.ex X.co dL_law_403 rfl (lv_at hl 4 rfl) ?_
          refine lv_iconst (v := 3) X.ex X.co dL_law_404 (by decide) ?_
          refine k_ml X g0.1 W0.2.2.2 3 (by omega) (mR_3 σ) dL_law_405 ?_
          refine n_add X (x := 10) (y := nEx σ) dL_law_406 ?_
          refine lv_iload X.ex X.co dL_law_407 (lv_at hl 1 rfl) ?_
          refine k_ms X g0.1 W0 hdis hS (fun q h => Or.inr h) (10 + (nEx σ)) (by omega) (v := nI p_1) dL_law_409 (fun H locs W0 hS => ?_)
          refine lv_aload_n X.ex X.co dL_law_410 rfl (lv_at hl 4 rfl) ?_
          refine lv_iconst (v := 3) X.ex X.co dL_law_411 (by decide) ?_
          refine lv_dup2_11 X.ex X.co dL_law_412 rfl rfl ?_
          refine k_ml X g0.1 W0.2.2.2 3 (by omega) ((pk_un (by omega)).trans (mR_3 σ)) dL_law_413 ?_
          refine lv_iconst (v := 1) X.ex X.co dL_law_414 (by decide) ?_
          refine n_add X (x := nEx σ) (y := 1) dL_law_415 ?_
          refine k_ms X g0.1 W0 hdis hS (fun q h => Or.inr h) 3 (by omega) (v := nI ((nEx σ) + 1)) dL_law_416 (fun H locs W0 hS => ?_)
          rw [mR_x g1 g2 g3 g4 g5 g6 g8] at W0
          refine lv_goto (tgt := 1265) X.ex X.co dL_law_417 (by decide) ?_
          exact kk d τ H locs ls _ _ W0 (WF_e g5 g7 hwf) (by unfold LZ; omega) hS (lv_sub hl [2, 3, 4, 5, 0, 6] rfl) (by omega) (by omega)
    · exact absurd c_8 (by omega)
set_option maxHeartbeats 4000000 in
set_option maxRecDepth 100000 in
theorem lb_4 (hst : l.stackTraces = false) (hAg : ∀ q, A q → gA G q) (hA2 : ∀ q, (fun q => A q ∨ AO q) q → gA G q) (hdis : ∀ q, A q → ¬ AO q) (X : CF p s m args meth c cL_law 13 "CourseForgeLaw" (some .boolean)) (g0 : GG G s s.heap) (hX : va_X sx L xs s s.heap) (hxl : sx < s.heap.size) (hxA : ¬ (fun q => A q ∨ AO q) sx) (hL : L ≤ 2560) (hR9 : 20 ≤ hR) (hk80 : k < 80) (hi : i ≤ 700) (hz : LZ k d σ) (hk : 7 ≤ k) (hx9 : 7 ≤ k → x9 < nEx σ) (W0 : LW G A AO b d σ oad (mR σ) wf H) (hwf : WF σ wf) (hS : va_S (fun q => A q ∨ AO q) s.heap H locs) (hl : lv_has ls 13 [(0, .ref sx), (1, .ref b), (2, .ref (oad (0, 0))), (3, .ref (oad (0, 1))), (5, .int (nI k)), (6, .int (nI i)), (7, .int (nI w9)), (8, .int (nI x9)), (9, .int (nI (nAn σ)))]) (hrc : cells + 700 ≤ rc) (hrs : slots + 6000 ≤ rs) (kk : ∀ (d2 : Nat) (τ : Sg) (H : Heap) (locs : List Loc) (ls : Array Slot) (cells1 slots1 : Nat), LW G A AO b d2 τ oad (mR τ) wf H → WF τ wf → LZ (k + 1) d2 τ → va_S (fun q => A q ∨ AO q) s.heap H locs → lv_has ls 13 [(0, .ref sx), (1, .ref b), (2, .ref (oad (0, 0))), (3, .ref (oad (0, 1))), (4, .int 1), (5, .int (nI k))] → cells1 ≤ cells + 700 → slots1 ≤ slots + 6000 → W p l e (RM hR rc rs) s m args below meth c H locs cells1 slots1 Q (F0 m 1265 ls [])) :
    W p l e (RM hR rc rs) s m args below meth c H locs cells slots Q (F0 m 426 ls []) := by
  have hb := W0.1.1.1.1.1.1
  have hapb := W0.1.1.1.1.2.1
  obtain ⟨z1, z2, z3, z4, z5⟩ := hz
  have hp2 := Nat.two_pow_pos (nLe σ)
  have hp3 : 2 ^ nLe σ ≤ 2 ^ 8 := Nat.pow_le_pow_right (by decide) hb.2.2.1
  refine lv_aload_n X.ex X.co dL_law_426 rfl (lv_at hl 1 rfl) ?_
  refine lv_iconst (v := 4) X.ex X.co dL_law_427 (by decide) ?_
  refine lv_iload X.ex X.co dL_law_428 (lv_at hl 7 rfl) ?_
  refine lv_aload_n X.ex X.co dL_law_430 rfl (lv_at hl 0 rfl) ?_
  refine lv_iload X.ex X.co dL_law_431 (lv_at hl 5 rfl) ?_
  refine lv_iconst (v := 2) X.ex X.co dL_law_433 (by decide) ?_
  refine n_add X (x := i) (y := 2) dL_law_434 ?_
  refine lv_bipush (v := 6) X.ex X.co dL_law_435 (by decide) ?_
  refine k_pick X hX hxl hxA g0 hA2 hS hL (i := i + 2) (by omega) (k := 6) (by omega) (by omega) (by omega) hl.1 (Nat.le_of_ble_eq_true rfl) dL_law_437 (by omega) (by omega) (fun p_1 hp_1 => ?_)
  refine lv_iconst (v := 1) X.ex X.co dL_law_440 (by decide) ?_
  refine lv_aload_n X.ex X.co dL_law_441 rfl (lv_at hl 0 rfl) ?_
  refine lv_iload X.ex X.co dL_law_442 (lv_at hl 5 rfl) ?_
  refine lv_iconst (v := 3) X.ex X.co dL_law_444 (by decide) ?_
  refine n_add X (x := i) (y := 3) dL_law_445 ?_
  refine lv_bipush (v := 9) X.ex X.co dL_law_446 (by decide) ?_
  refine k_pick X hX hxl hxA g0 hA2 hS hL (i := i + 3) (by omega) (k := 9) (by omega) (by omega) (by omega) hl.1 (Nat.le_of_ble_eq_true rfl) dL_law_448 (by omega) (by omega) (fun p_2 hp_2 => ?_)
  refine n_add X (x := 1) (y := p_2) dL_law_451 ?_
  refine lv_iconst (v := 0) X.ex X.co dL_law_452 (by decide) ?_
  rcases s_addCase W0.1 (hx9 (by omega)) hp_1 (w := 1 + p_2) (by omega) with ⟨hv, hs9⟩ | ⟨cn, hc1, hc6, hv, τ, hs9, hL9, g1, g2, g3, g4, g5, g6, g7⟩
  · refine k_call (n := 6) X mn_16 m_0 mn_15 ⟨by decide, by decide, by decide +kernel⟩ (by decide) mn_14 (c_L_deed_4 l hst G A hAg b σ W0.1.1.1.1 W0.1.1.1.2 W0.1.1.2 (nI x9) (nI p_1) (nI (1 + p_2)) 0) (g0.step hS hA2) W0 hdis hs9 W0.1 hv (by omega) rfl hl.1 rfl (Nat.le_of_ble_eq_true rfl) dL_law_453 (by omega) (by omega) hS (fun q h => Or.inl h) (fun H locs W0 hz hk9 hS => ?_)
    refine lv_istore (lv' := [(10, .int (-2003)), (0, .ref sx), (1, .ref b), (2, .ref (oad (0, 0))), (3, .ref (oad (0, 1))), (5, .int (nI k)), (6, .int (nI i)), (7, .int (nI w9)), (8, .int (nI x9)), (9, .int (nI (nAn σ)))]) X.ex X.co dL_law_456 hl (by decide) rfl (fun ls hl => ?_)
    refine lv_iload X.ex X.co dL_law_458 (lv_at hl 0 rfl) ?_
    refine lv_sipush (v := (-2003)) X.ex X.co dL_law_460 (by decide) ?_
    refine lv_icmp_eq (tgt := 479) X.ex X.co dL_law_463 (by decide) (fun c_3 => ?_) (fun c_3 => ?_)
    · refine lv_iconst (v := 1) X.ex X.co dL_law_479 (by decide) ?_
      refine lv_goto (tgt := 484) X.ex X.co dL_law_480 (by decide) ?_
      refine lv_istore (lv' := [(4, .int 1), (10, .int (-2003)), (0, .ref sx), (1, .ref b), (2, .ref (oad (0, 0))), (3, .ref (oad (0, 1))), (5, .int (nI k)), (6, .int (nI i)), (7, .int (nI w9)), (8, .int (nI x9)), (9, .int (nI (nAn σ)))]) X.ex X.co dL_law_484 hl (by decide) rfl (fun ls hl => ?_)
      refine lv_goto (tgt := 1265) X.ex X.co dL_law_486 (by decide) ?_
      exact kk d σ H locs ls _ _ W0 hwf (by unfold LZ; omega) hS (lv_sub hl [2, 3, 4, 5, 0, 6] rfl) (by omega) (by omega)
    · exact absurd (by decide) c_3
  · have hq9 : cEq τ σ := ⟨g1, g2, g3, g4, g5, g6, fun z _ h => by rw [g7]; exact h⟩
    obtain ⟨q1, q2, q3, -, -, -, -⟩ := id hq9
    refine k_call (n := 6) X mn_16 m_0 mn_15 ⟨by decide, by decide, by decide +kernel⟩ (by decide) mn_14 (c_L_deed_4 l hst G A hAg b σ W0.1.1.1.1 W0.1.1.1.2 W0.1.1.2 (nI x9) (nI p_1) (nI (1 + p_2)) 0) (g0.step hS hA2) W0 hdis hs9 hL9 hv (by omega) rfl hl.1 rfl (Nat.le_of_ble_eq_true rfl) dL_law_453 (by omega) (by omega) hS (fun q h => Or.inl h) (fun H locs W0 hz hk9 hS => ?_)
    refine lv_istore (lv' := [(10, .int (nI cn)), (0, .ref sx), (1, .ref b), (2, .ref (oad (0, 0))), (3, .ref (oad (0, 1))), (5, .int (nI k)), (6, .int (nI i)), (7, .int (nI w9)), (8, .int (nI x9)), (9, .int (nI (nAn σ)))]) X.ex X.co dL_law_456 hl (by decide) rfl (fun ls hl => ?_)
    refine lv_iload X.ex X.co dL_law_458 (lv_at hl 0 rfl) ?_
    refine lv_sipush (v := (-2003)) X.ex X.co dL_law_460 (by decide) ?_
    refine lv_icmp_eq (tgt := 479) X.ex X.co dL_law_463 (by decide) (fun c_4 => ?_) (fun c_4 => ?_)
    · exact absurd c_4 (nI_ne3 (by omega))
    · refine lv_iload X.ex X.co dL_law_466 (lv_at hl 0 rfl) ?_
      refine lv_iconst (v := 1) X.ex X.co dL_law_468 (by decide) ?_
      refine n_cmp_lt X (x := cn) (y := 1) (tgt := 483) (by omega) (by omega) dL_law_469 (by decide) (fun c_5 => ?_) (fun c_5 => ?_)
      · exact absurd c_5 (by omega)
      · refine lv_iload X.ex X.co dL_law_472 (lv_at hl 0 rfl) ?_
        refine lv_bipush (v := 6) X.ex X.co dL_law_474 (by decide) ?_
        refine n_cmp_gt X (x := cn) (y := 6) (tgt := 483) (by omega) (by omega) dL_law_476 (by decide) (fun c_6 => ?_) (fun c_6 => ?_)
        · exact absurd c_6 (by omega)
        · refine lv_iconst (v := 1) X.ex X.co dL_law_479 (by decide) ?_
          refine lv_goto (tgt := 484) X.ex X.co dL_law_480 (by decide) ?_
          refine lv_istore (lv' := [(4, .int 1), (10, .int (nI cn)), (0, .ref sx), (1, .ref b), (2, .ref (oad (0, 0))), (3, .ref (oad (0, 1))), (5, .int (nI k)), (6, .int (nI i)), (7, .int (nI w9)), (8, .int (nI x9)), (9, .int (nI (nAn σ)))]) X.ex X.co dL_law_484 hl (by decide) rfl (fun ls hl => ?_)
          refine lv_goto (tgt := 1265) X.ex X.co dL_law_486 (by decide) ?_
          rw [← hq9.mr] at W0
          exact kk d τ H locs ls _ _ W0 (hq9.wf hwf) (by unfold LZ; omega) hS (lv_sub hl [2, 3, 4, 5, 0, 6] rfl) (by omega) (by omega)
set_option maxHeartbeats 4000000 in
set_option maxRecDepth 100000 in
theorem lb_5 (hst : l.stackTraces = false) (hAg : ∀ q, A q → gA G q) (hA2 : ∀ q, (fun q => A q ∨ AO q) q → gA G q) (hdis : ∀ q, A q → ¬ AO q) (X : CF p s m args meth c cL_law 13 "CourseForgeLaw" (some .boolean)) (g0 : GG G s s.heap) (hX : va_X sx L xs s s.heap) (hxl : sx < s.heap.size) (hxA : ¬ (fun q => A q ∨ AO q) sx) (hL : L ≤ 2560) (hR9 : 20 ≤ hR) (hk80 : k < 80) (hi : i ≤ 700) (hz : LZ k d σ) (hk : 7 ≤ k) (hx9 : 7 ≤ k → x9 < nEx σ) (W0 : LW G A AO b d σ oad (mR σ) wf H) (hwf : WF σ wf) (hS : va_S (fun q => A q ∨ AO q) s.heap H locs) (hl : lv_has ls 13 [(0, .ref sx), (1, .ref b), (2, .ref (oad (0, 0))), (3, .ref (oad (0, 1))), (5, .int (nI k)), (6, .int (nI i)), (7, .int (nI w9)), (8, .int (nI x9)), (9, .int (nI (nAn σ)))]) (hrc : cells + 700 ≤ rc) (hrs : slots + 6000 ≤ rs) (kk : ∀ (d2 : Nat) (τ : Sg) (H : Heap) (locs : List Loc) (ls : Array Slot) (cells1 slots1 : Nat), LW G A AO b d2 τ oad (mR τ) wf H → WF τ wf → LZ (k + 1) d2 τ → va_S (fun q => A q ∨ AO q) s.heap H locs → lv_has ls 13 [(0, .ref sx), (1, .ref b), (2, .ref (oad (0, 0))), (3, .ref (oad (0, 1))), (4, .int 1), (5, .int (nI k))] → cells1 ≤ cells + 700 → slots1 ≤ slots + 6000 → W p l e (RM hR rc rs) s m args below meth c H locs cells1 slots1 Q (F0 m 1265 ls [])) :
    W p l e (RM hR rc rs) s m args below meth c H locs cells slots Q (F0 m 495 ls []) := by
  have hb := W0.1.1.1.1.1.1
  have hapb := W0.1.1.1.1.2.1
  obtain ⟨z1, z2, z3, z4, z5⟩ := hz
  have hp2 := Nat.two_pow_pos (nLe σ)
  have hp3 : 2 ^ nLe σ ≤ 2 ^ 8 := Nat.pow_le_pow_right (by decide) hb.2.2.1
  refine lv_aload_n X.ex X.co dL_law_495 rfl (lv_at hl 1 rfl) ?_
  refine k_cnt X ce_X9_appealCount mn_3 (c_X9_appealCount l G A hAg b σ W0.1.1.1.1 W0.1.1.1.2 W0.1.1.2) (g0.step hS hA2) W0 hdis (r := fAppealCount σ) rfl (v := nI (nAp σ)) rfl rfl (by omega) rfl hl.1 rfl (Nat.le_of_ble_eq_true rfl) dL_law_496 (by omega) (by omega) hS (fun q h => Or.inl h) (fun H locs W0 hz hk9 hS => ?_)
  refine lv_istore (lv' := [(10, .int (nI (nAp σ))), (0, .ref sx), (1, .ref b), (2, .ref (oad (0, 0))), (3, .ref (oad (0, 1))), (5, .int (nI k)), (6, .int (nI i)), (7, .int (nI w9)), (8, .int (nI x9)), (9, .int (nI (nAn σ)))]) X.ex X.co dL_law_499 hl (by decide) rfl (fun ls hl => ?_)
  refine lv_aload_n X.ex X.co dL_law_501 rfl (lv_at hl 1 rfl) ?_
  refine lv_iload X.ex X.co dL_law_502 (lv_at hl 6 rfl) ?_
  refine lv_iconst (v := 2) X.ex X.co dL_law_504 (by decide) ?_
  refine n_add X (x := i) (y := 2) dL_law_505 ?_
  refine lv_iload X.ex X.co dL_law_506 (lv_at hl 9 rfl) ?_
  refine lv_iconst (v := 1) X.ex X.co dL_law_508 (by decide) ?_
  refine n_add X (x := nAn σ) (y := 1) dL_law_509 ?_
  refine k_pick X hX hxl hxA g0 hA2 hS hL (i := i + 2) (by omega) (k := (nAn σ) + 1) (by omega) (by omega) (by omega) hl.1 (Nat.le_of_ble_eq_true rfl) dL_law_510 (by omega) (by omega) (fun p_1 hp_1 => ?_)
  refine lv_istore (lv' := [(11, .int (nI p_1)), (10, .int (nI (nAp σ))), (0, .ref sx), (1, .ref b), (2, .ref (oad (0, 0))), (3, .ref (oad (0, 1))), (5, .int (nI k)), (6, .int (nI i)), (7, .int (nI w9)), (8, .int (nI x9)), (9, .int (nI (nAn σ)))]) X.ex X.co dL_law_513 hl (by decide) rfl (fun ls hl => ?_)
  refine lv_aload_n X.ex X.co dL_law_515 rfl (lv_at hl 3 rfl) ?_
  refine lv_bipush (v := 6) X.ex X.co dL_law_516 (by decide) ?_
  refine lv_iload X.ex X.co dL_law_518 (lv_at hl 0 rfl) ?_
  refine lv_iconst (v := 0) X.ex X.co dL_law_520 (by decide) ?_
  refine lv_iconst (v := 0) X.ex X.co dL_law_521 (by decide) ?_
  refine lv_iconst (v := 0) X.ex X.co dL_law_522 (by decide) ?_
  rcases s_appeal W0.1 (show p_1 ≤ nAn σ by omega) with ⟨hpa, hv, hs9⟩ | ⟨hpa, hv, hs9⟩ | ⟨hpa, hv, τ, hs9, hL9, g1, g2, g3, g4, g5, g6, g7, hap1, happ, hag, hags⟩
  · refine k_call (n := 6) X mn_16 m_0 mn_15 ⟨by decide, by decide, by decide +kernel⟩ (by decide) mn_14 (c_L_deed_6 l hst G A hAg b σ W0.1.1.1.1 W0.1.1.1.2 W0.1.1.2 (nI p_1) 0 0 0) (g0.step hS hA2) W0 hdis hs9 W0.1 hv (by omega) rfl hl.1 rfl (Nat.le_of_ble_eq_true rfl) dL_law_523 (by omega) (by omega) hS (fun q h => Or.inl h) (fun H locs W0 hz hk9 hS => ?_)
    refine lv_istore (lv' := [(12, .int (-2001)), (11, .int (nI p_1)), (10, .int (nI (nAp σ))), (0, .ref sx), (1, .ref b), (2, .ref (oad (0, 0))), (3, .ref (oad (0, 1))), (5, .int (nI k)), (6, .int (nI i)), (7, .int (nI w9)), (8, .int (nI x9)), (9, .int (nI (nAn σ)))]) X.ex X.co dL_law_526 hl (by decide) rfl (fun ls hl => ?_)
    refine lv_iload X.ex X.co dL_law_528 (lv_at hl 0 rfl) ?_
    refine lv_iload X.ex X.co dL_law_530 (lv_at hl 1 rfl) ?_
    refine lv_iload X.ex X.co dL_law_532 (lv_at hl 11 rfl) ?_
    refine n_cmp_ne X (x := p_1) (y := nAn σ) (tgt := 543) (by omega) (by omega) dL_law_534 (by decide) (fun c_2 => ?_) (fun c_2 => ?_)
    · exact absurd c_2 (by omega)
    · refine lv_sipush (v := (-2001)) X.ex X.co dL_law_537 (by decide) ?_
      refine lv_goto (tgt := 546) X.ex X.co dL_law_540 (by decide) ?_
      refine lv_icmp_eq (tgt := 589) X.ex X.co dL_law_546 (by decide) (fun c_3 => ?_) (fun c_3 => ?_)
      · refine lv_iconst (v := 1) X.ex X.co dL_law_589 (by decide) ?_
        refine lv_goto (tgt := 594) X.ex X.co dL_law_590 (by decide) ?_
        refine lv_istore (lv' := [(4, .int 1), (12, .int (-2001)), (11, .int (nI p_1)), (10, .int (nI (nAp σ))), (0, .ref sx), (1, .ref b), (2, .ref (oad (0, 0))), (3, .ref (oad (0, 1))), (5, .int (nI k)), (6, .int (nI i)), (7, .int (nI w9)), (8, .int (nI x9)), (9, .int (nI (nAn σ)))]) X.ex X.co dL_law_594 hl (by decide) rfl (fun ls hl => ?_)
        refine lv_goto (tgt := 1265) X.ex X.co dL_law_596 (by decide) ?_
        exact kk d σ H locs ls _ _ W0 hwf (by unfold LZ; omega) hS (lv_sub hl [4, 5, 6, 7, 0, 8] rfl) (by omega) (by omega)
      · exact absurd (by decide) c_3
  · refine k_call (n := 6) X mn_16 m_0 mn_15 ⟨by decide, by decide, by decide +kernel⟩ (by decide) mn_14 (c_L_deed_6 l hst G A hAg b σ W0.1.1.1.1 W0.1.1.1.2 W0.1.1.2 (nI p_1) 0 0 0) (g0.step hS hA2) W0 hdis hs9 W0.1 hv (by omega) rfl hl.1 rfl (Nat.le_of_ble_eq_true rfl) dL_law_523 (by omega) (by omega) hS (fun q h => Or.inl h) (fun H locs W0 hz hk9 hS => ?_)
    refine lv_istore (lv' := [(12, .int (-2003)), (11, .int (nI p_1)), (10, .int (nI (nAp σ))), (0, .ref sx), (1, .ref b), (2, .ref (oad (0, 0))), (3, .ref (oad (0, 1))), (5, .int (nI k)), (6, .int (nI i)), (7, .int (nI w9)), (8, .int (nI x9)), (9, .int (nI (nAn σ)))]) X.ex X.co dL_law_526 hl (by decide) rfl (fun ls hl => ?_)
    refine lv_iload X.ex X.co dL_law_528 (lv_at hl 0 rfl) ?_
    refine lv_iload X.ex X.co dL_law_530 (lv_at hl 1 rfl) ?_
    refine lv_iload X.ex X.co dL_law_532 (lv_at hl 11 rfl) ?_
    refine n_cmp_ne X (x := p_1) (y := nAn σ) (tgt := 543) (by omega) (by omega) dL_law_534 (by decide) (fun c_4 => ?_) (fun c_4 => ?_)
    · refine lv_sipush (v := (-2003)) X.ex X.co dL_law_543 (by decide) ?_
      refine lv_icmp_eq (tgt := 589) X.ex X.co dL_law_546 (by decide) (fun c_5 => ?_) (fun c_5 => ?_)
      · refine lv_iconst (v := 1) X.ex X.co dL_law_589 (by decide) ?_
        refine lv_goto (tgt := 594) X.ex X.co dL_law_590 (by decide) ?_
        refine lv_istore (lv' := [(4, .int 1), (12, .int (-2003)), (11, .int (nI p_1)), (10, .int (nI (nAp σ))), (0, .ref sx), (1, .ref b), (2, .ref (oad (0, 0))), (3, .ref (oad (0, 1))), (5, .int (nI k)), (6, .int (nI i)), (7, .int (nI w9)), (8, .int (nI x9)), (9, .int (nI (nAn σ)))]) X.ex X.co dL_law_594 hl (by decide) rfl (fun ls hl => ?_)
        refine lv_goto (tgt := 1265) X.ex X.co dL_law_596 (by decide) ?_
        exact kk d σ H locs ls _ _ W0 hwf (by unfold LZ; omega) hS (lv_sub hl [4, 5, 6, 7, 0, 8] rfl) (by omega) (by omega)
      · exact absurd (by decide) c_5
    · exact absurd c_4 (by omega)
  · have hq9 : cEq τ σ := ⟨g1, g2, g3, g4, g5, g6, fun z _ h => by rw [g7]; exact h⟩
    obtain ⟨q1, q2, q3, -, -, -, -⟩ := id hq9
    refine k_call (n := 6) X mn_16 m_0 mn_15 ⟨by decide, by decide, by decide +kernel⟩ (by decide) mn_14 (c_L_deed_6 l hst G A hAg b σ W0.1.1.1.1 W0.1.1.1.2 W0.1.1.2 (nI p_1) 0 0 0) (g0.step hS hA2) W0 hdis hs9 hL9 hv (by omega) rfl hl.1 rfl (Nat.le_of_ble_eq_true rfl) dL_law_523 (by omega) (by omega) hS (fun q h => Or.inl h) (fun H locs W0 hz hk9 hS => ?_)
    refine lv_istore (lv' := [(12, .int (nI (nAp σ + 1))), (11, .int (nI p_1)), (10, .int (nI (nAp σ))), (0, .ref sx), (1, .ref b), (2, .ref (oad (0, 0))), (3, .ref (oad (0, 1))), (5, .int (nI k)), (6, .int (nI i)), (7, .int (nI w9)), (8, .int (nI x9)), (9, .int (nI (nAn σ)))]) X.ex X.co dL_law_526 hl (by decide) rfl (fun ls hl => ?_)
    refine lv_iload X.ex X.co dL_law_528 (lv_at hl 0 rfl) ?_
    refine lv_iload X.ex X.co dL_law_530 (lv_at hl 1 rfl) ?_
    refine lv_iload X.ex X.co dL_law_532 (lv_at hl 11 rfl) ?_
    refine n_cmp_ne X (x := p_1) (y := nAn σ) (tgt := 543) (by omega) (by omega) dL_law_534 (by decide) (fun c_6 => ?_) (fun c_6 => ?_)
    · refine lv_sipush (v := (-2003)) X.ex X.co dL_law_543 (by decide) ?_
      refine lv_icmp_eq (tgt := 589) X.ex X.co dL_law_546 (by decide) (fun c_7 => ?_) (fun c_7 => ?_)
      · exact absurd c_7 (nI_ne3 (by omega))
      · refine lv_iload X.ex X.co dL_law_549 (lv_at hl 0 rfl) ?_
        refine lv_iload X.ex X.co dL_law_551 (lv_at hl 2 rfl) ?_
        refine lv_iconst (v := 1) X.ex X.co dL_law_553 (by decide) ?_
        refine n_add X (x := (nAp σ)) (y := 1) dL_law_554 ?_
        refine n_cmp_ne X (x := nAp σ + 1) (y := (nAp σ) + 1) (tgt := 593) (by omega) (by omega) dL_law_555 (by decide) (fun c_8 => ?_) (fun c_8 => ?_)
        · exact absurd rfl c_8
        · refine lv_aload_n X.ex X.co dL_law_558 rfl (lv_at hl 4 rfl) ?_
          refine lv_bipush (v := 11) X.ex X.co dL_law_559 (by decide) ?_
          refine lv_iload X.ex X.co dL_law_561 (lv_at hl 2 rfl) ?_
          refine lv_iconst (v := 0) X.ex X.co dL_law_563 (by decide) ?_
          refine k_call (n := 4) X mn_40 m_0 mn_39 ⟨by decide, by decide, by decide +kernel⟩ (by decide) mn_38 (c_L_ask_11 l hst G A hAg b τ W0.1.1.1.1 W0.1.1.1.2 W0.1.1.2 (nI (nAp σ)) 0) (g0.step hS hA2) W0 hdis (lsq_ap W0.1.1.2 _) W0.1 ((q_ap W0.1 (show nAp σ < nAp τ by omega)).trans (by rw [happ])) (by omega) rfl hl.1 rfl (Nat.le_of_ble_eq_true rfl) dL_law_564 (by omega) (by omega) hS (fun q h => Or.inl h) (fun H locs W0 hz hk9 hS => ?_)
          refine lv_iload X.ex X.co dL_law_567 (lv_at hl 1 rfl) ?_
          refine n_cmp_ne X (x := p_1) (y := p_1) (tgt := 593) (by omega) (by omega) dL_law_569 (by decide) (fun c_9 => ?_) (fun c_9 => ?_)
          · exact absurd rfl c_9
          · refine lv_aload_n X.ex X.co dL_law_572 rfl (lv_at hl 4 rfl) ?_
            refine lv_bipush (v := 6) X.ex X.co dL_law_573 (by decide) ?_
            refine lv_iload X.ex X.co dL_law_575 (lv_at hl 1 rfl) ?_
            refine lv_iconst (v := 0) X.ex X.co dL_law_577 (by decide) ?_
            refine lv_iconst (v := 0) X.ex X.co dL_law_578 (by decide) ?_
            refine lv_iconst (v := 0) X.ex X.co dL_law_579 (by decide) ?_
            refine k_call (n := 6) X mn_16 m_0 mn_15 ⟨by decide, by decide, by decide +kernel⟩ (by decide) mn_14 (c_L_deed_6 l hst G A hAg b τ W0.1.1.1.1 W0.1.1.1.2 W0.1.1.2 (nI p_1) 0 0 0) (g0.step hS hA2) W0 hdis hags W0.1 hag (by omega) rfl hl.1 rfl (Nat.le_of_ble_eq_true rfl) dL_law_580 (by omega) (by omega) hS (fun q h => Or.inl h) (fun H locs W0 hz hk9 hS => ?_)
            refine lv_sipush (v := (-2003)) X.ex X.co dL_law_583 (by decide) ?_
            refine lv_icmp_ne (tgt := 593) X.ex X.co dL_law_586 (by decide) (fun c_10 => ?_) (fun c_10 => ?_)
            · exact absurd (by decide) c_10
            · refine lv_iconst (v := 1) X.ex X.co dL_law_589 (by decide) ?_
              refine lv_goto (tgt := 594) X.ex X.co dL_law_590 (by decide) ?_
              refine lv_istore (lv' := [(4, .int 1), (12, .int (nI (nAp σ + 1))), (11, .int (nI p_1)), (10, .int (nI (nAp σ))), (0, .ref sx), (1, .ref b), (2, .ref (oad (0, 0))), (3, .ref (oad (0, 1))), (5, .int (nI k)), (6, .int (nI i)), (7, .int (nI w9)), (8, .int (nI x9)), (9, .int (nI (nAn σ)))]) X.ex X.co dL_law_594 hl (by decide) rfl (fun ls hl => ?_)
              refine lv_goto (tgt := 1265) X.ex X.co dL_law_596 (by decide) ?_
              rw [← hq9.mr] at W0
              exact kk d τ H locs ls _ _ W0 (hq9.wf hwf) (by unfold LZ; omega) hS (lv_sub hl [4, 5, 6, 7, 0, 8] rfl) (by omega) (by omega)
    · exact absurd c_6 (by omega)
set_option maxHeartbeats 4000000 in
set_option maxRecDepth 100000 in
theorem lb_6 (hst : l.stackTraces = false) (hAg : ∀ q, A q → gA G q) (hA2 : ∀ q, (fun q => A q ∨ AO q) q → gA G q) (hdis : ∀ q, A q → ¬ AO q) (X : CF p s m args meth c cL_law 13 "CourseForgeLaw" (some .boolean)) (g0 : GG G s s.heap) (hX : va_X sx L xs s s.heap) (hxl : sx < s.heap.size) (hxA : ¬ (fun q => A q ∨ AO q) sx) (hL : L ≤ 2560) (hR9 : 20 ≤ hR) (hk80 : k < 80) (hi : i ≤ 700) (hz : LZ k d σ) (hk : 7 ≤ k) (hx9 : 7 ≤ k → x9 < nEx σ) (W0 : LW G A AO b d σ oad (mR σ) wf H) (hwf : WF σ wf) (hS : va_S (fun q => A q ∨ AO q) s.heap H locs) (hl : lv_has ls 13 [(0, .ref sx), (1, .ref b), (2, .ref (oad (0, 0))), (3, .ref (oad (0, 1))), (5, .int (nI k)), (6, .int (nI i)), (7, .int (nI w9)), (8, .int (nI x9)), (9, .int (nI (nAn σ)))]) (hrc : cells + 700 ≤ rc) (hrs : slots + 6000 ≤ rs) (kk : ∀ (d2 : Nat) (τ : Sg) (H : Heap) (locs : List Loc) (ls : Array Slot) (cells1 slots1 : Nat), LW G A AO b d2 τ oad (mR τ) wf H → WF τ wf → LZ (k + 1) d2 τ → va_S (fun q => A q ∨ AO q) s.heap H locs → lv_has ls 13 [(0, .ref sx), (1, .ref b), (2, .ref (oad (0, 0))), (3, .ref (oad (0, 1))), (4, .int 1), (5, .int (nI k))] → cells1 ≤ cells + 700 → slots1 ≤ slots + 6000 → W p l e (RM hR rc rs) s m args below meth c H locs cells1 slots1 Q (F0 m 1265 ls [])) :
    W p l e (RM hR rc rs) s m args below meth c H locs cells slots Q (F0 m 606 ls []) := by
  have hb := W0.1.1.1.1.1.1
  have hapb := W0.1.1.1.1.2.1
  obtain ⟨z1, z2, z3, z4, z5⟩ := hz
  have hp2 := Nat.two_pow_pos (nLe σ)
  have hp3 : 2 ^ nLe σ ≤ 2 ^ 8 := Nat.pow_le_pow_right (by decide) hb.2.2.1
  rcases Nat.eq_zero_or_pos (nAp σ) with ha0 | ha0
  · refine lv_aload_n X.ex X.co dL_law_606 rfl (lv_at hl 1 rfl) ?_
    refine lv_bipush (v := 11) X.ex X.co dL_law_607 (by decide) ?_
    refine lv_iconst (v := 0) X.ex X.co dL_law_609 (by decide) ?_
    refine lv_iconst (v := 0) X.ex X.co dL_law_610 (by decide) ?_
    refine k_call (n := 4) X mn_40 m_0 mn_39 ⟨by decide, by decide, by decide +kernel⟩ (by decide) mn_38 (c_L_ask_11 l hst G A hAg b σ W0.1.1.1.1 W0.1.1.1.2 W0.1.1.2 0 0) (g0.step hS hA2) W0 hdis (lsq_ap W0.1.1.2 _) W0.1 (q_ap0 W0.1 ha0) (by omega) rfl hl.1 rfl (Nat.le_of_ble_eq_true rfl) dL_law_611 (by omega) (by omega) hS (fun q h => Or.inl h) (fun H locs W0 hz hk9 hS => ?_)
    refine lv_istore (lv' := [(10, .int (-2001)), (0, .ref sx), (1, .ref b), (2, .ref (oad (0, 0))), (3, .ref (oad (0, 1))), (5, .int (nI k)), (6, .int (nI i)), (7, .int (nI w9)), (8, .int (nI x9)), (9, .int (nI (nAn σ)))]) X.ex X.co dL_law_614 hl (by decide) rfl (fun ls hl => ?_)
    refine lv_aload_n X.ex X.co dL_law_616 rfl (lv_at hl 1 rfl) ?_
    refine lv_iload X.ex X.co dL_law_617 (lv_at hl 6 rfl) ?_
    refine lv_iconst (v := 2) X.ex X.co dL_law_619 (by decide) ?_
    refine n_add X (x := i) (y := 2) dL_law_620 ?_
    refine lv_bipush (v := 60) X.ex X.co dL_law_621 (by decide) ?_
    refine k_pick X hX hxl hxA g0 hA2 hS hL (i := i + 2) (by omega) (k := 60) (by omega) (by omega) (by omega) hl.1 (Nat.le_of_ble_eq_true rfl) dL_law_623 (by omega) (by omega) (fun p_1 hp_1 => ?_)
    refine lv_istore (lv' := [(11, .int (nI p_1)), (10, .int (-2001)), (0, .ref sx), (1, .ref b), (2, .ref (oad (0, 0))), (3, .ref (oad (0, 1))), (5, .int (nI k)), (6, .int (nI i)), (7, .int (nI w9)), (8, .int (nI x9)), (9, .int (nI (nAn σ)))]) X.ex X.co dL_law_626 hl (by decide) rfl (fun ls hl => ?_)
    refine lv_iload X.ex X.co dL_law_628 (lv_at hl 1 rfl) ?_
    refine lv_if_ge (tgt := 637) X.ex X.co dL_law_630 (by decide) (fun c_2 => ?_) (fun c_2 => ?_)
    · exact absurd c_2 (by decide)
    · refine lv_iconst (v := 0) X.ex X.co dL_law_633 (by decide) ?_
      refine lv_goto (tgt := 645) X.ex X.co dL_law_634 (by decide) ?_
      refine lv_istore (lv' := [(12, .int 0), (11, .int (nI p_1)), (10, .int (-2001)), (0, .ref sx), (1, .ref b), (2, .ref (oad (0, 0))), (3, .ref (oad (0, 1))), (5, .int (nI k)), (6, .int (nI i)), (7, .int (nI w9)), (8, .int (nI x9)), (9, .int (nI (nAn σ)))]) X.ex X.co dL_law_645 hl (by decide) rfl (fun ls hl => ?_)
      refine lv_aload_n X.ex X.co dL_law_647 rfl (lv_at hl 4 rfl) ?_
      refine lv_bipush (v := 8) X.ex X.co dL_law_648 (by decide) ?_
      refine lv_iload X.ex X.co dL_law_650 (lv_at hl 1 rfl) ?_
      refine lv_iconst (v := 0) X.ex X.co dL_law_652 (by decide) ?_
      refine lv_iconst (v := 0) X.ex X.co dL_law_653 (by decide) ?_
      refine lv_iconst (v := 0) X.ex X.co dL_law_654 (by decide) ?_
      rcases s_decide W0.1 hp_1 with ⟨-, hv, hs9⟩ | ⟨h9, -⟩
      · refine k_call (n := 6) X mn_16 m_0 mn_15 ⟨by decide, by decide, by decide +kernel⟩ (by decide) mn_14 (c_L_deed_8 l hst G A hAg b σ W0.1.1.1.1 W0.1.1.1.2 W0.1.1.2 (nI p_1) 0 0 0) (g0.step hS hA2) W0 hdis hs9 W0.1 hv (by omega) rfl hl.1 rfl (Nat.le_of_ble_eq_true rfl) dL_law_655 (by omega) (by omega) hS (fun q h => Or.inl h) (fun H locs W0 hz hk9 hS => ?_)
        refine lv_iload X.ex X.co dL_law_658 (lv_at hl 2 rfl) ?_
        refine lv_if_ge (tgt := 669) X.ex X.co dL_law_660 (by decide) (fun c_3 => ?_) (fun c_3 => ?_)
        · exact absurd c_3 (by decide)
        · refine lv_sipush (v := (-2005)) X.ex X.co dL_law_663 (by decide) ?_
          refine lv_goto (tgt := 671) X.ex X.co dL_law_666 (by decide) ?_
          refine lv_icmp_ne (tgt := 721) X.ex X.co dL_law_671 (by decide) (fun c_4 => ?_) (fun c_4 => ?_)
          · exact absurd (by decide) c_4
          · refine lv_iload X.ex X.co dL_law_674 (lv_at hl 2 rfl) ?_
            refine lv_if_lt (tgt := 717) X.ex X.co dL_law_676 (by decide) (fun c_5 => ?_) (fun c_5 => ?_)
            · refine lv_iconst (v := 1) X.ex X.co dL_law_717 (by decide) ?_
              refine lv_goto (tgt := 722) X.ex X.co dL_law_718 (by decide) ?_
              refine lv_istore (lv' := [(4, .int 1), (12, .int 0), (11, .int (nI p_1)), (10, .int (-2001)), (0, .ref sx), (1, .ref b), (2, .ref (oad (0, 0))), (3, .ref (oad (0, 1))), (5, .int (nI k)), (6, .int (nI i)), (7, .int (nI w9)), (8, .int (nI x9)), (9, .int (nI (nAn σ)))]) X.ex X.co dL_law_722 hl (by decide) rfl (fun ls hl => ?_)
              refine lv_goto (tgt := 1265) X.ex X.co dL_law_724 (by decide) ?_
              exact kk d σ H locs ls _ _ W0 hwf (by unfold LZ; omega) hS (lv_sub hl [4, 5, 6, 7, 0, 8] rfl) (by omega) (by omega)
            · exact absurd (by decide) c_5
      · exact absurd h9 (by omega)
  · have hap9 := W0.1.1.1.1.ap ha0
    have hgb := (grade_g W0.1.1.1.1 hap9).2
    refine lv_aload_n X.ex X.co dL_law_606 rfl (lv_at hl 1 rfl) ?_
    refine lv_bipush (v := 11) X.ex X.co dL_law_607 (by decide) ?_
    refine lv_iconst (v := 0) X.ex X.co dL_law_609 (by decide) ?_
    refine lv_iconst (v := 0) X.ex X.co dL_law_610 (by decide) ?_
    refine k_call (n := 4) X mn_40 m_0 mn_39 ⟨by decide, by decide, by decide +kernel⟩ (by decide) mn_38 (c_L_ask_11 l hst G A hAg b σ W0.1.1.1.1 W0.1.1.1.2 W0.1.1.2 0 0) (g0.step hS hA2) W0 hdis (lsq_ap W0.1.1.2 _) W0.1 (q_ap (j := 0) W0.1 ha0) (by omega) rfl hl.1 rfl (Nat.le_of_ble_eq_true rfl) dL_law_611 (by omega) (by omega) hS (fun q h => Or.inl h) (fun H locs W0 hz hk9 hS => ?_)
    refine lv_istore (lv' := [(10, .int (nI (app σ 0))), (0, .ref sx), (1, .ref b), (2, .ref (oad (0, 0))), (3, .ref (oad (0, 1))), (5, .int (nI k)), (6, .int (nI i)), (7, .int (nI w9)), (8, .int (nI x9)), (9, .int (nI (nAn σ)))]) X.ex X.co dL_law_614 hl (by decide) rfl (fun ls hl => ?_)
    refine lv_aload_n X.ex X.co dL_law_616 rfl (lv_at hl 1 rfl) ?_
    refine lv_iload X.ex X.co dL_law_617 (lv_at hl 6 rfl) ?_
    refine lv_iconst (v := 2) X.ex X.co dL_law_619 (by decide) ?_
    refine n_add X (x := i) (y := 2) dL_law_620 ?_
    refine lv_bipush (v := 60) X.ex X.co dL_law_621 (by decide) ?_
    refine k_pick X hX hxl hxA g0 hA2 hS hL (i := i + 2) (by omega) (k := 60) (by omega) (by omega) (by omega) hl.1 (Nat.le_of_ble_eq_true rfl) dL_law_623 (by omega) (by omega) (fun p_6 hp_6 => ?_)
    refine lv_istore (lv' := [(11, .int (nI p_6)), (10, .int (nI (app σ 0))), (0, .ref sx), (1, .ref b), (2, .ref (oad (0, 0))), (3, .ref (oad (0, 1))), (5, .int (nI k)), (6, .int (nI i)), (7, .int (nI w9)), (8, .int (nI x9)), (9, .int (nI (nAn σ)))]) X.ex X.co dL_law_626 hl (by decide) rfl (fun ls hl => ?_)
    refine lv_iload X.ex X.co dL_law_628 (lv_at hl 1 rfl) ?_
    refine n_if_ge X (x := app σ 0) (tgt := 637) (by omega) dL_law_630 (by decide) (fun c_7 => ?_) (fun c_7 => ?_)
    · refine lv_aload_n X.ex X.co dL_law_637 rfl (lv_at hl 3 rfl) ?_
      refine lv_iconst (v := 3) X.ex X.co dL_law_638 (by decide) ?_
      refine lv_iload X.ex X.co dL_law_639 (lv_at hl 1 rfl) ?_
      refine lv_iconst (v := 0) X.ex X.co dL_law_641 (by decide) ?_
      refine k_call (n := 4) X mn_40 m_0 mn_39 ⟨by decide, by decide, by decide +kernel⟩ (by decide) mn_38 (c_L_ask_3 l hst G A hAg b σ W0.1.1.1.1 W0.1.1.1.2 W0.1.1.2 (nI (app σ 0)) 0) (g0.step hS hA2) W0 hdis (lsq_gr W0.1.1.2 _) W0.1 (q_gr W0.1 hap9) (by omega) rfl hl.1 rfl (Nat.le_of_ble_eq_true rfl) dL_law_642 (by omega) (by omega) hS (fun q h => Or.inl h) (fun H locs W0 hz hk9 hS => ?_)
      refine lv_istore (lv' := [(12, .int (nI (graN σ (app σ 0)))), (11, .int (nI p_6)), (10, .int (nI (app σ 0))), (0, .ref sx), (1, .ref b), (2, .ref (oad (0, 0))), (3, .ref (oad (0, 1))), (5, .int (nI k)), (6, .int (nI i)), (7, .int (nI w9)), (8, .int (nI x9)), (9, .int (nI (nAn σ)))]) X.ex X.co dL_law_645 hl (by decide) rfl (fun ls hl => ?_)
      refine lv_aload_n X.ex X.co dL_law_647 rfl (lv_at hl 4 rfl) ?_
      refine lv_bipush (v := 8) X.ex X.co dL_law_648 (by decide) ?_
      refine lv_iload X.ex X.co dL_law_650 (lv_at hl 1 rfl) ?_
      refine lv_iconst (v := 0) X.ex X.co dL_law_652 (by decide) ?_
      refine lv_iconst (v := 0) X.ex X.co dL_law_653 (by decide) ?_
      refine lv_iconst (v := 0) X.ex X.co dL_law_654 (by decide) ?_
      rcases s_decide W0.1 hp_6 with ⟨h9, -⟩ | ⟨-, -, hv, τ, hs9, hL9, g1, g2, g3, g4, g5, g6, g7, g8, ⟨gg, hgg, eg1, eg2⟩, hag, hags⟩
      · exact absurd h9 (by omega)
      · have hq9 : cEq τ σ := ⟨g1, g2, g3, g4, g5, g6, fun z _ h => by rw [g7]; exact h⟩
        obtain ⟨q1, q2, q3, -, -, -, -⟩ := id hq9
        have hgs : graN σ (app σ 0) = gg := by unfold graN; rw [eg1, nI_clamp (by omega)]
        have hmin : (if nI (graN σ (app σ 0) + p_6) < 100 then nI (graN σ (app σ 0) + p_6) else 100) = nI (graN τ (app σ 0)) := by
          rw [mn100 (by omega), hgs]
          have h100 : (if gg + p_6 < 100 then gg + p_6 else 100) ≤ 100 := by split <;> omega
          have : graN τ (app σ 0) = if gg + p_6 < 100 then gg + p_6 else 100 := by unfold graN; rw [eg2, nI_clamp (by omega)]
          rw [this]
        have hgt := (grade_g hL9.1.1.1 (a := app σ 0) (by rw [g8]; exact hap9)).2
        refine k_call (n := 6) X mn_16 m_0 mn_15 ⟨by decide, by decide, by decide +kernel⟩ (by decide) mn_14 (c_L_deed_8 l hst G A hAg b σ W0.1.1.1.1 W0.1.1.1.2 W0.1.1.2 (nI p_6) 0 0 0) (g0.step hS hA2) W0 hdis hs9 hL9 hv (by omega) rfl hl.1 rfl (Nat.le_of_ble_eq_true rfl) dL_law_655 (by omega) (by omega) hS (fun q h => Or.inl h) (fun H locs W0 hz hk9 hS => ?_)
        refine lv_iload X.ex X.co dL_law_658 (lv_at hl 2 rfl) ?_
        refine n_if_ge X (x := app σ 0) (tgt := 669) (by omega) dL_law_660 (by decide) (fun c_8 => ?_) (fun c_8 => ?_)
        · refine lv_iload X.ex X.co dL_law_669 (lv_at hl 2 rfl) ?_
          refine n_cmp_ne X (x := app σ 0) (y := app σ 0) (tgt := 721) (by omega) (by omega) dL_law_671 (by decide) (fun c_9 => ?_) (fun c_9 => ?_)
          · exact absurd rfl c_9
          · refine lv_iload X.ex X.co dL_law_674 (lv_at hl 2 rfl) ?_
            refine n_if_lt X (x := app σ 0) (tgt := 717) (by omega) dL_law_676 (by decide) (fun c_10 => ?_) (fun c_10 => ?_)
            · exact c_10.elim
            · refine lv_aload_n X.ex X.co dL_law_679 rfl (lv_at hl 4 rfl) ?_
              refine lv_iconst (v := 3) X.ex X.co dL_law_680 (by decide) ?_
              refine lv_iload X.ex X.co dL_law_681 (lv_at hl 2 rfl) ?_
              refine lv_iconst (v := 0) X.ex X.co dL_law_683 (by decide) ?_
              refine k_call (n := 4) X mn_40 m_0 mn_39 ⟨by decide, by decide, by decide +kernel⟩ (by decide) mn_38 (c_L_ask_3 l hst G A hAg b τ W0.1.1.1.1 W0.1.1.1.2 W0.1.1.2 (nI (app σ 0)) 0) (g0.step hS hA2) W0 hdis (lsq_gr W0.1.1.2 _) W0.1 (q_gr W0.1 (show app σ 0 < nAn τ by omega)) (by omega) rfl hl.1 rfl (Nat.le_of_ble_eq_true rfl) dL_law_684 (by omega) (by omega) hS (fun q h => Or.inl h) (fun H locs W0 hz hk9 hS => ?_)
              refine lv_bipush (v := 100) X.ex X.co dL_law_687 (by decide) ?_
              refine lv_iload X.ex X.co dL_law_689 (lv_at hl 0 rfl) ?_
              refine lv_iload X.ex X.co dL_law_691 (lv_at hl 1 rfl) ?_
              refine n_add X (x := graN σ (app σ 0)) (y := p_6) dL_law_693 ?_
              refine va_mmin X.ex X.co (X.ml.trans hl.1.symm) X.ow (X.ts _ mn_84) (X.ts _ m_204) (X.ts _ m_17) (X.ts _ m_205) (by show 1 ≤ 10 + hR; omega) (Nat.le_trans (Nat.le_of_ble_eq_true rfl : _ ≤ 400) (Nat.le_add_right _ _)) (by show _ ≤ rc; omega) (by show _ ≤ rs; omega) dL_law_694 ?_
              rw [hmin]
              refine n_cmp_ne X (x := graN τ (app σ 0)) (y := graN τ (app σ 0)) (tgt := 721) (by omega) (by omega) dL_law_697 (by decide) (fun c_11 => ?_) (fun c_11 => ?_)
              · exact absurd rfl c_11
              · refine lv_aload_n X.ex X.co dL_law_700 rfl (lv_at hl 4 rfl) ?_
                refine lv_bipush (v := 6) X.ex X.co dL_law_701 (by decide) ?_
                refine lv_iload X.ex X.co dL_law_703 (lv_at hl 2 rfl) ?_
                refine lv_iconst (v := 0) X.ex X.co dL_law_705 (by decide) ?_
                refine lv_iconst (v := 0) X.ex X.co dL_law_706 (by decide) ?_
                refine lv_iconst (v := 0) X.ex X.co dL_law_707 (by decide) ?_
                refine k_call (n := 6) X mn_16 m_0 mn_15 ⟨by decide, by decide, by decide +kernel⟩ (by decide) mn_14 (c_L_deed_6 l hst G A hAg b τ W0.1.1.1.1 W0.1.1.1.2 W0.1.1.2 (nI (app σ 0)) 0 0 0) (g0.step hS hA2) W0 hdis hags W0.1 hag (by omega) rfl hl.1 rfl (Nat.le_of_ble_eq_true rfl) dL_law_708 (by omega) (by omega) hS (fun q h => Or.inl h) (fun H locs W0 hz hk9 hS => ?_)
                refine lv_sipush (v := (-2003)) X.ex X.co dL_law_711 (by decide) ?_
                refine lv_icmp_ne (tgt := 721) X.ex X.co dL_law_714 (by decide) (fun c_12 => ?_) (fun c_12 => ?_)
                · exact absurd (by decide) c_12
                · refine lv_iconst (v := 1) X.ex X.co dL_law_717 (by decide) ?_
                  refine lv_goto (tgt := 722) X.ex X.co dL_law_718 (by decide) ?_
                  refine lv_istore (lv' := [(4, .int 1), (12, .int (nI (graN σ (app σ 0)))), (11, .int (nI p_6)), (10, .int (nI (app σ 0))), (0, .ref sx), (1, .ref b), (2, .ref (oad (0, 0))), (3, .ref (oad (0, 1))), (5, .int (nI k)), (6, .int (nI i)), (7, .int (nI w9)), (8, .int (nI x9)), (9, .int (nI (nAn σ)))]) X.ex X.co dL_law_722 hl (by decide) rfl (fun ls hl => ?_)
                  refine lv_goto (tgt := 1265) X.ex X.co dL_law_724 (by decide) ?_
                  rw [← hq9.mr] at W0
                  exact kk d τ H locs ls _ _ W0 (hq9.wf hwf) (by unfold LZ; omega) hS (lv_sub hl [4, 5, 6, 7, 0, 8] rfl) (by omega) (by omega)
        · exact c_8.elim
    · exact c_7.elim
set_option maxHeartbeats 4000000 in
set_option maxRecDepth 100000 in
theorem lb_7 (hst : l.stackTraces = false) (hAg : ∀ q, A q → gA G q) (hA2 : ∀ q, (fun q => A q ∨ AO q) q → gA G q) (hdis : ∀ q, A q → ¬ AO q) (X : CF p s m args meth c cL_law 13 "CourseForgeLaw" (some .boolean)) (g0 : GG G s s.heap) (hX : va_X sx L xs s s.heap) (hxl : sx < s.heap.size) (hxA : ¬ (fun q => A q ∨ AO q) sx) (hL : L ≤ 2560) (hR9 : 20 ≤ hR) (hk80 : k < 80) (hi : i ≤ 700) (hz : LZ k d σ) (hk : 7 ≤ k) (hx9 : 7 ≤ k → x9 < nEx σ) (W0 : LW G A AO b d σ oad (mR σ) wf H) (hwf : WF σ wf) (hS : va_S (fun q => A q ∨ AO q) s.heap H locs) (hl : lv_has ls 13 [(0, .ref sx), (1, .ref b), (2, .ref (oad (0, 0))), (3, .ref (oad (0, 1))), (5, .int (nI k)), (6, .int (nI i)), (7, .int (nI w9)), (8, .int (nI x9)), (9, .int (nI (nAn σ)))]) (hrc : cells + 700 ≤ rc) (hrs : slots + 6000 ≤ rs) (kk : ∀ (d2 : Nat) (τ : Sg) (H : Heap) (locs : List Loc) (ls : Array Slot) (cells1 slots1 : Nat), LW G A AO b d2 τ oad (mR τ) wf H → WF τ wf → LZ (k + 1) d2 τ → va_S (fun q => A q ∨ AO q) s.heap H locs → lv_has ls 13 [(0, .ref sx), (1, .ref b), (2, .ref (oad (0, 0))), (3, .ref (oad (0, 1))), (4, .int 1), (5, .int (nI k))] → cells1 ≤ cells + 700 → slots1 ≤ slots + 6000 → W p l e (RM hR rc rs) s m args below meth c H locs cells1 slots1 Q (F0 m 1265 ls [])) :
    W p l e (RM hR rc rs) s m args below meth c H locs cells slots Q (F0 m 734 ls []) := by
  have hb := W0.1.1.1.1.1.1
  have hapb := W0.1.1.1.1.2.1
  obtain ⟨z1, z2, z3, z4, z5⟩ := hz
  have hp2 := Nat.two_pow_pos (nLe σ)
  have hp3 : 2 ^ nLe σ ≤ 2 ^ 8 := Nat.pow_le_pow_right (by decide) hb.2.2.1
  refine lv_aload_n X.ex X.co dL_law_734 rfl (lv_at hl 0 rfl) ?_
  refine lv_iload X.ex X.co dL_law_735 (lv_at hl 5 rfl) ?_
  refine lv_iconst (v := 2) X.ex X.co dL_law_737 (by decide) ?_
  refine n_add X (x := i) (y := 2) dL_law_738 ?_
  refine lv_iload X.ex X.co dL_law_739 (lv_at hl 8 rfl) ?_
  refine lv_iconst (v := 1) X.ex X.co dL_law_741 (by decide) ?_
  refine n_add X (x := nAn σ) (y := 1) dL_law_742 ?_
  refine k_pick X hX hxl hxA g0 hA2 hS hL (i := i + 2) (by omega) (k := (nAn σ) + 1) (by omega) (by omega) (by omega) hl.1 (Nat.le_of_ble_eq_true rfl) dL_law_743 (by omega) (by omega) (fun p_1 hp_1 => ?_)
  refine lv_istore (lv' := [(10, .int (nI p_1)), (0, .ref sx), (1, .ref b), (2, .ref (oad (0, 0))), (3, .ref (oad (0, 1))), (5, .int (nI k)), (6, .int (nI i)), (7, .int (nI w9)), (8, .int (nI x9)), (9, .int (nI (nAn σ)))]) X.ex X.co dL_law_746 hl (by decide) rfl (fun ls hl => ?_)
  refine lv_aload_n X.ex X.co dL_law_748 rfl (lv_at hl 2 rfl) ?_
  refine k_cnt X ce_X9_appealCount mn_3 (c_X9_appealCount l G A hAg b σ W0.1.1.1.1 W0.1.1.1.2 W0.1.1.2) (g0.step hS hA2) W0 hdis (r := fAppealCount σ) rfl (v := nI (nAp σ)) rfl rfl (by omega) rfl hl.1 rfl (Nat.le_of_ble_eq_true rfl) dL_law_749 (by omega) (by omega) hS (fun q h => Or.inl h) (fun H locs W0 hz hk9 hS => ?_)
  refine lv_istore (lv' := [(11, .int (nI (nAp σ))), (10, .int (nI p_1)), (0, .ref sx), (1, .ref b), (2, .ref (oad (0, 0))), (3, .ref (oad (0, 1))), (5, .int (nI k)), (6, .int (nI i)), (7, .int (nI w9)), (8, .int (nI x9)), (9, .int (nI (nAn σ)))]) X.ex X.co dL_law_752 hl (by decide) rfl (fun ls hl => ?_)
  refine lv_aload_n X.ex X.co dL_law_754 rfl (lv_at hl 3 rfl) ?_
  refine lv_bipush (v := 7) X.ex X.co dL_law_755 (by decide) ?_
  refine lv_iload X.ex X.co dL_law_757 (lv_at hl 1 rfl) ?_
  refine lv_iconst (v := 0) X.ex X.co dL_law_759 (by decide) ?_
  refine lv_iconst (v := 0) X.ex X.co dL_law_760 (by decide) ?_
  refine lv_iconst (v := 0) X.ex X.co dL_law_761 (by decide) ?_
  rcases s_withdraw W0.1 (show p_1 ≤ nAn σ by omega) with ⟨hpa, hv, hs9⟩ | ⟨hpa, hv, hs9⟩ | ⟨hpa, hap1, hv, τ, hs9, hL9, g1, g2, g3, g4, g5, g6, g7⟩
  · refine k_call (n := 6) X mn_16 m_0 mn_15 ⟨by decide, by decide, by decide +kernel⟩ (by decide) mn_14 (c_L_deed_7 l hst G A hAg b σ W0.1.1.1.1 W0.1.1.1.2 W0.1.1.2 (nI p_1) 0 0 0) (g0.step hS hA2) W0 hdis hs9 W0.1 hv (by omega) rfl hl.1 rfl (Nat.le_of_ble_eq_true rfl) dL_law_762 (by omega) (by omega) hS (fun q h => Or.inl h) (fun H locs W0 hz hk9 hS => ?_)
    refine lv_istore (lv' := [(12, .int (-2001)), (11, .int (nI (nAp σ))), (10, .int (nI p_1)), (0, .ref sx), (1, .ref b), (2, .ref (oad (0, 0))), (3, .ref (oad (0, 1))), (5, .int (nI k)), (6, .int (nI i)), (7, .int (nI w9)), (8, .int (nI x9)), (9, .int (nI (nAn σ)))]) X.ex X.co dL_law_765 hl (by decide) rfl (fun ls hl => ?_)
    refine lv_iload X.ex X.co dL_law_767 (lv_at hl 0 rfl) ?_
    refine lv_iload X.ex X.co dL_law_769 (lv_at hl 2 rfl) ?_
    refine lv_iload X.ex X.co dL_law_771 (lv_at hl 11 rfl) ?_
    refine n_cmp_ne X (x := p_1) (y := nAn σ) (tgt := 782) (by omega) (by omega) dL_law_773 (by decide) (fun c_2 => ?_) (fun c_2 => ?_)
    · exact absurd c_2 (by omega)
    · refine lv_sipush (v := (-2001)) X.ex X.co dL_law_776 (by decide) ?_
      refine lv_goto (tgt := 785) X.ex X.co dL_law_779 (by decide) ?_
      refine lv_icmp_eq (tgt := 797) X.ex X.co dL_law_785 (by decide) (fun c_3 => ?_) (fun c_3 => ?_)
      · refine lv_iconst (v := 1) X.ex X.co dL_law_797 (by decide) ?_
        refine lv_goto (tgt := 802) X.ex X.co dL_law_798 (by decide) ?_
        refine lv_istore (lv' := [(4, .int 1), (12, .int (-2001)), (11, .int (nI (nAp σ))), (10, .int (nI p_1)), (0, .ref sx), (1, .ref b), (2, .ref (oad (0, 0))), (3, .ref (oad (0, 1))), (5, .int (nI k)), (6, .int (nI i)), (7, .int (nI w9)), (8, .int (nI x9)), (9, .int (nI (nAn σ)))]) X.ex X.co dL_law_802 hl (by decide) rfl (fun ls hl => ?_)
        refine lv_goto (tgt := 1265) X.ex X.co dL_law_804 (by decide) ?_
        exact kk d σ H locs ls _ _ W0 hwf (by unfold LZ; omega) hS (lv_sub hl [4, 5, 6, 7, 0, 8] rfl) (by omega) (by omega)
      · exact absurd (by decide) c_3
  · refine k_call (n := 6) X mn_16 m_0 mn_15 ⟨by decide, by decide, by decide +kernel⟩ (by decide) mn_14 (c_L_deed_7 l hst G A hAg b σ W0.1.1.1.1 W0.1.1.1.2 W0.1.1.2 (nI p_1) 0 0 0) (g0.step hS hA2) W0 hdis hs9 W0.1 hv (by omega) rfl hl.1 rfl (Nat.le_of_ble_eq_true rfl) dL_law_762 (by omega) (by omega) hS (fun q h => Or.inl h) (fun H locs W0 hz hk9 hS => ?_)
    refine lv_istore (lv' := [(12, .int (-2005)), (11, .int (nI (nAp σ))), (10, .int (nI p_1)), (0, .ref sx), (1, .ref b), (2, .ref (oad (0, 0))), (3, .ref (oad (0, 1))), (5, .int (nI k)), (6, .int (nI i)), (7, .int (nI w9)), (8, .int (nI x9)), (9, .int (nI (nAn σ)))]) X.ex X.co dL_law_765 hl (by decide) rfl (fun ls hl => ?_)
    refine lv_iload X.ex X.co dL_law_767 (lv_at hl 0 rfl) ?_
    refine lv_iload X.ex X.co dL_law_769 (lv_at hl 2 rfl) ?_
    refine lv_iload X.ex X.co dL_law_771 (lv_at hl 11 rfl) ?_
    refine n_cmp_ne X (x := p_1) (y := nAn σ) (tgt := 782) (by omega) (by omega) dL_law_773 (by decide) (fun c_4 => ?_) (fun c_4 => ?_)
    · refine lv_sipush (v := (-2005)) X.ex X.co dL_law_782 (by decide) ?_
      refine lv_icmp_eq (tgt := 797) X.ex X.co dL_law_785 (by decide) (fun c_5 => ?_) (fun c_5 => ?_)
      · refine lv_iconst (v := 1) X.ex X.co dL_law_797 (by decide) ?_
        refine lv_goto (tgt := 802) X.ex X.co dL_law_798 (by decide) ?_
        refine lv_istore (lv' := [(4, .int 1), (12, .int (-2005)), (11, .int (nI (nAp σ))), (10, .int (nI p_1)), (0, .ref sx), (1, .ref b), (2, .ref (oad (0, 0))), (3, .ref (oad (0, 1))), (5, .int (nI k)), (6, .int (nI i)), (7, .int (nI w9)), (8, .int (nI x9)), (9, .int (nI (nAn σ)))]) X.ex X.co dL_law_802 hl (by decide) rfl (fun ls hl => ?_)
        refine lv_goto (tgt := 1265) X.ex X.co dL_law_804 (by decide) ?_
        exact kk d σ H locs ls _ _ W0 hwf (by unfold LZ; omega) hS (lv_sub hl [4, 5, 6, 7, 0, 8] rfl) (by omega) (by omega)
      · exact absurd (by decide) c_5
    · exact absurd c_4 (by omega)
  · have hq9 : cEq τ σ := ⟨g1, g2, g3, g4, g5, g6, fun z _ h => by rw [g7]; exact h⟩
    obtain ⟨q1, q2, q3, -, -, -, -⟩ := id hq9
    refine k_call (n := 6) X mn_16 m_0 mn_15 ⟨by decide, by decide, by decide +kernel⟩ (by decide) mn_14 (c_L_deed_7 l hst G A hAg b σ W0.1.1.1.1 W0.1.1.1.2 W0.1.1.2 (nI p_1) 0 0 0) (g0.step hS hA2) W0 hdis hs9 hL9 hv (by omega) rfl hl.1 rfl (Nat.le_of_ble_eq_true rfl) dL_law_762 (by omega) (by omega) hS (fun q h => Or.inl h) (fun H locs W0 hz hk9 hS => ?_)
    refine lv_istore (lv' := [(12, .int (nI (nAp σ - 1))), (11, .int (nI (nAp σ))), (10, .int (nI p_1)), (0, .ref sx), (1, .ref b), (2, .ref (oad (0, 0))), (3, .ref (oad (0, 1))), (5, .int (nI k)), (6, .int (nI i)), (7, .int (nI w9)), (8, .int (nI x9)), (9, .int (nI (nAn σ)))]) X.ex X.co dL_law_765 hl (by decide) rfl (fun ls hl => ?_)
    refine lv_iload X.ex X.co dL_law_767 (lv_at hl 0 rfl) ?_
    refine lv_iload X.ex X.co dL_law_769 (lv_at hl 2 rfl) ?_
    refine lv_iload X.ex X.co dL_law_771 (lv_at hl 11 rfl) ?_
    refine n_cmp_ne X (x := p_1) (y := nAn σ) (tgt := 782) (by omega) (by omega) dL_law_773 (by decide) (fun c_6 => ?_) (fun c_6 => ?_)
    · refine lv_sipush (v := (-2005)) X.ex X.co dL_law_782 (by decide) ?_
      refine lv_icmp_eq (tgt := 797) X.ex X.co dL_law_785 (by decide) (fun c_7 => ?_) (fun c_7 => ?_)
      · exact absurd c_7 (nI_ne5 (by omega))
      · refine lv_iload X.ex X.co dL_law_788 (lv_at hl 0 rfl) ?_
        refine lv_iload X.ex X.co dL_law_790 (lv_at hl 1 rfl) ?_
        refine lv_iconst (v := 1) X.ex X.co dL_law_792 (by decide) ?_
        refine n_sub X (x := (nAp σ)) (y := 1) (by omega) dL_law_793 ?_
        refine n_cmp_ne X (x := nAp σ - 1) (y := (nAp σ) - 1) (tgt := 801) (by omega) (by omega) dL_law_794 (by decide) (fun c_8 => ?_) (fun c_8 => ?_)
        · exact absurd rfl c_8
        · refine lv_iconst (v := 1) X.ex X.co dL_law_797 (by decide) ?_
          refine lv_goto (tgt := 802) X.ex X.co dL_law_798 (by decide) ?_
          refine lv_istore (lv' := [(4, .int 1), (12, .int (nI (nAp σ - 1))), (11, .int (nI (nAp σ))), (10, .int (nI p_1)), (0, .ref sx), (1, .ref b), (2, .ref (oad (0, 0))), (3, .ref (oad (0, 1))), (5, .int (nI k)), (6, .int (nI i)), (7, .int (nI w9)), (8, .int (nI x9)), (9, .int (nI (nAn σ)))]) X.ex X.co dL_law_802 hl (by decide) rfl (fun ls hl => ?_)
          refine lv_goto (tgt := 1265) X.ex X.co dL_law_804 (by decide) ?_
          rw [← hq9.mr] at W0
          exact kk d τ H locs ls _ _ W0 (hq9.wf hwf) (by unfold LZ; omega) hS (lv_sub hl [4, 5, 6, 7, 0, 8] rfl) (by omega) (by omega)
    · exact absurd c_6 (by omega)
set_option maxHeartbeats 4000000 in
set_option maxRecDepth 100000 in
theorem lb_8 (hst : l.stackTraces = false) (hAg : ∀ q, A q → gA G q) (hA2 : ∀ q, (fun q => A q ∨ AO q) q → gA G q) (hdis : ∀ q, A q → ¬ AO q) (X : CF p s m args meth c cL_law 13 "CourseForgeLaw" (some .boolean)) (g0 : GG G s s.heap) (hX : va_X sx L xs s s.heap) (hxl : sx < s.heap.size) (hxA : ¬ (fun q => A q ∨ AO q) sx) (hL : L ≤ 2560) (hR9 : 20 ≤ hR) (hk80 : k < 80) (hi : i ≤ 700) (hz : LZ k d σ) (hk : 7 ≤ k) (hx9 : 7 ≤ k → x9 < nEx σ) (W0 : LW G A AO b d σ oad (mR σ) wf H) (hwf : WF σ wf) (hS : va_S (fun q => A q ∨ AO q) s.heap H locs) (hl : lv_has ls 13 [(0, .ref sx), (1, .ref b), (2, .ref (oad (0, 0))), (3, .ref (oad (0, 1))), (5, .int (nI k)), (6, .int (nI i)), (7, .int (nI w9)), (8, .int (nI x9)), (9, .int (nI (nAn σ)))]) (hrc : cells + 700 ≤ rc) (hrs : slots + 6000 ≤ rs) (kk : ∀ (d2 : Nat) (τ : Sg) (H : Heap) (locs : List Loc) (ls : Array Slot) (cells1 slots1 : Nat), LW G A AO b d2 τ oad (mR τ) wf H → WF τ wf → LZ (k + 1) d2 τ → va_S (fun q => A q ∨ AO q) s.heap H locs → lv_has ls 13 [(0, .ref sx), (1, .ref b), (2, .ref (oad (0, 0))), (3, .ref (oad (0, 1))), (4, .int 1), (5, .int (nI k))] → cells1 ≤ cells + 700 → slots1 ≤ slots + 6000 → W p l e (RM hR rc rs) s m args below meth c H locs cells1 slots1 Q (F0 m 1265 ls [])) :
    W p l e (RM hR rc rs) s m args below meth c H locs cells slots Q (F0 m 814 ls []) := by
  have hb := W0.1.1.1.1.1.1
  have hapb := W0.1.1.1.1.2.1
  obtain ⟨z1, z2, z3, z4, z5⟩ := hz
  have hp2 := Nat.two_pow_pos (nLe σ)
  have hp3 : 2 ^ nLe σ ≤ 2 ^ 8 := Nat.pow_le_pow_right (by decide) hb.2.2.1
  refine lv_aload_n X.ex X.co dL_law_814 rfl (lv_at hl 1 rfl) ?_
  refine lv_aload_n X.ex X.co dL_law_815 rfl (lv_at hl 2 rfl) ?_
  refine lv_iload X.ex X.co dL_law_816 (lv_at hl 7 rfl) ?_
  refine lv_aload_n X.ex X.co dL_law_818 rfl (lv_at hl 0 rfl) ?_
  refine lv_iload X.ex X.co dL_law_819 (lv_at hl 5 rfl) ?_
  refine lv_iconst (v := 2) X.ex X.co dL_law_821 (by decide) ?_
  refine n_add X (x := i) (y := 2) dL_law_822 ?_
  refine lv_iconst (v := 5) X.ex X.co dL_law_823 (by decide) ?_
  refine k_pick X hX hxl hxA g0 hA2 hS hL (i := i + 2) (by omega) (k := 5) (by omega) (by omega) (by omega) hl.1 (Nat.le_of_ble_eq_true rfl) dL_law_824 (by omega) (by omega) (fun p_1 hp_1 => ?_)
  refine lv_iconst (v := 2) X.ex X.co dL_law_827 (by decide) ?_
  refine lv_isub X.ex X.co dL_law_828 ?_
  refine lv_aload_n X.ex X.co dL_law_829 rfl (lv_at hl 0 rfl) ?_
  refine lv_iload X.ex X.co dL_law_830 (lv_at hl 5 rfl) ?_
  refine lv_iconst (v := 3) X.ex X.co dL_law_832 (by decide) ?_
  refine n_add X (x := i) (y := 3) dL_law_833 ?_
  refine lv_bipush (v := 9) X.ex X.co dL_law_834 (by decide) ?_
  refine k_pick X hX hxl hxA g0 hA2 hS hL (i := i + 3) (by omega) (k := 9) (by omega) (by omega) (by omega) hl.1 (Nat.le_of_ble_eq_true rfl) dL_law_836 (by omega) (by omega) (fun p_2 hp_2 => ?_)
  refine q_cS X ce_L_isMend mn_76 (c_L_isMend l hst G A AO hAg hdis b d σ oad wf (by omega) x9 p_1 p_2 (hx9 (by omega)) hp_1 hp_2) (g0.step hS hA2) W0 (by omega) rfl hl.1 rfl (Nat.le_of_ble_eq_true rfl) dL_law_839 (by omega) (by omega) hS (fun q h => Or.inl h) (fun v0 H locs hB hz9 hk9 hS => ?_)
  obtain ⟨rfl, τ, W0, hq9⟩ := hB
  obtain ⟨q1, q2, q3, -, -, -, -⟩ := id hq9
  refine lv_istore (lv' := [(4, .int 1), (0, .ref sx), (1, .ref b), (2, .ref (oad (0, 0))), (3, .ref (oad (0, 1))), (5, .int (nI k)), (6, .int (nI i)), (7, .int (nI w9)), (8, .int (nI x9)), (9, .int (nI (nAn σ)))]) X.ex X.co dL_law_842 hl (by decide) rfl (fun ls hl => ?_)
  refine lv_goto (tgt := 1265) X.ex X.co dL_law_844 (by decide) ?_
  rw [← hq9.mr] at W0
  exact kk d τ H locs ls _ _ W0 (hq9.wf hwf) (by unfold LZ; omega) hS (lv_sub hl [1, 2, 3, 4, 0, 5] rfl) (by omega) (by omega)
set_option maxHeartbeats 4000000 in
set_option maxRecDepth 100000 in
theorem lb_10 (hst : l.stackTraces = false) (hAg : ∀ q, A q → gA G q) (hA2 : ∀ q, (fun q => A q ∨ AO q) q → gA G q) (hdis : ∀ q, A q → ¬ AO q) (X : CF p s m args meth c cL_law 13 "CourseForgeLaw" (some .boolean)) (g0 : GG G s s.heap) (hX : va_X sx L xs s s.heap) (hxl : sx < s.heap.size) (hxA : ¬ (fun q => A q ∨ AO q) sx) (hL : L ≤ 2560) (hR9 : 20 ≤ hR) (hk80 : k < 80) (hi : i ≤ 700) (hz : LZ k d σ) (hk : 7 ≤ k) (hx9 : 7 ≤ k → x9 < nEx σ) (W0 : LW G A AO b d σ oad (mR σ) wf H) (hwf : WF σ wf) (hS : va_S (fun q => A q ∨ AO q) s.heap H locs) (hl : lv_has ls 13 [(0, .ref sx), (1, .ref b), (2, .ref (oad (0, 0))), (3, .ref (oad (0, 1))), (5, .int (nI k)), (6, .int (nI i)), (7, .int (nI w9)), (8, .int (nI x9)), (9, .int (nI (nAn σ)))]) (hrc : cells + 700 ≤ rc) (hrs : slots + 6000 ≤ rs) (kk : ∀ (d2 : Nat) (τ : Sg) (H : Heap) (locs : List Loc) (ls : Array Slot) (cells1 slots1 : Nat), LW G A AO b d2 τ oad (mR τ) wf H → WF τ wf → LZ (k + 1) d2 τ → va_S (fun q => A q ∨ AO q) s.heap H locs → lv_has ls 13 [(0, .ref sx), (1, .ref b), (2, .ref (oad (0, 0))), (3, .ref (oad (0, 1))), (4, .int 1), (5, .int (nI k))] → cells1 ≤ cells + 700 → slots1 ≤ slots + 6000 → W p l e (RM hR rc rs) s m args below meth c H locs cells1 slots1 Q (F0 m 1265 ls [])) :
    W p l e (RM hR rc rs) s m args below meth c H locs cells slots Q (F0 m 854 ls []) := by
  have hb := W0.1.1.1.1.1.1
  have hapb := W0.1.1.1.1.2.1
  obtain ⟨z1, z2, z3, z4, z5⟩ := hz
  have hp2 := Nat.two_pow_pos (nLe σ)
  have hp3 : 2 ^ nLe σ ≤ 2 ^ 8 := Nat.pow_le_pow_right (by decide) hb.2.2.1
  refine lv_aload_n X.ex X.co dL_law_854 rfl (lv_at hl 1 rfl) ?_
  refine lv_bipush (v := 10) X.ex X.co dL_law_855 (by decide) ?_
  refine lv_aload_n X.ex X.co dL_law_857 rfl (lv_at hl 0 rfl) ?_
  refine lv_iload X.ex X.co dL_law_858 (lv_at hl 5 rfl) ?_
  refine lv_iconst (v := 2) X.ex X.co dL_law_860 (by decide) ?_
  refine n_add X (x := i) (y := 2) dL_law_861 ?_
  refine lv_iconst (v := 1) X.ex X.co dL_law_862 (by decide) ?_
  refine lv_aload_n X.ex X.co dL_law_863 rfl (lv_at hl 2 rfl) ?_
  refine lv_iconst (v := 2) X.ex X.co dL_law_864 (by decide) ?_
  refine k_ml X g0.1 W0.2.2.2 2 (by omega) (mR_2 σ) dL_law_865 ?_
  refine lv_ishl X.ex X.co dL_law_866 ?_
  rw [sh_1 (nLe σ) (by omega)]
  refine k_pick X hX hxl hxA g0 hA2 hS hL (i := i + 2) (by omega) (k := 2 ^ nLe σ) (by omega) (by omega) (by omega) hl.1 (Nat.le_of_ble_eq_true rfl) dL_law_867 (by omega) (by omega) (fun p_1 hp_1 => ?_)
  refine lv_iconst (v := 1) X.ex X.co dL_law_870 (by decide) ?_
  refine lv_aload_n X.ex X.co dL_law_871 rfl (lv_at hl 0 rfl) ?_
  refine lv_iload X.ex X.co dL_law_872 (lv_at hl 5 rfl) ?_
  refine lv_iconst (v := 3) X.ex X.co dL_law_874 (by decide) ?_
  refine n_add X (x := i) (y := 3) dL_law_875 ?_
  refine lv_bipush (v := 80) X.ex X.co dL_law_876 (by decide) ?_
  refine k_pick X hX hxl hxA g0 hA2 hS hL (i := i + 3) (by omega) (k := 80) (by omega) (by omega) (by omega) hl.1 (Nat.le_of_ble_eq_true rfl) dL_law_878 (by omega) (by omega) (fun p_2 hp_2 => ?_)
  refine n_add X (x := 1) (y := p_2) dL_law_881 ?_
  refine lv_iconst (v := 0) X.ex X.co dL_law_882 (by decide) ?_
  refine lv_iconst (v := 0) X.ex X.co dL_law_883 (by decide) ?_
  rcases s_addCourse W0.1 hp_1 (x := 1 + p_2) (by omega) with ⟨hv, hs9⟩ | ⟨h4, hv, hs9⟩ | ⟨h4, hv, τ, hs9, hL9, g1, g2, g3, g4, g5, g6, g7⟩
  · refine k_call (n := 6) X mn_16 m_0 mn_15 ⟨by decide, by decide, by decide +kernel⟩ (by decide) mn_14 (c_L_deed_10 l hst G A hAg b σ W0.1.1.1.1 W0.1.1.1.2 W0.1.1.2 (nI p_1) (nI (1 + p_2)) 0 0) (g0.step hS hA2) W0 hdis hs9 W0.1 hv (by omega) rfl hl.1 rfl (Nat.le_of_ble_eq_true rfl) dL_law_884 (by omega) (by omega) hS (fun q h => Or.inl h) (fun H locs W0 hz hk9 hS => ?_)
    refine lv_istore (lv' := [(10, .int (-2002)), (0, .ref sx), (1, .ref b), (2, .ref (oad (0, 0))), (3, .ref (oad (0, 1))), (5, .int (nI k)), (6, .int (nI i)), (7, .int (nI w9)), (8, .int (nI x9)), (9, .int (nI (nAn σ)))]) X.ex X.co dL_law_887 hl (by decide) rfl (fun ls hl => ?_)
    refine lv_iload X.ex X.co dL_law_889 (lv_at hl 0 rfl) ?_
    refine lv_sipush (v := (-2002)) X.ex X.co dL_law_891 (by decide) ?_
    refine lv_icmp_eq (tgt := 918) X.ex X.co dL_law_894 (by decide) (fun c_3 => ?_) (fun c_3 => ?_)
    · refine lv_iconst (v := 1) X.ex X.co dL_law_918 (by decide) ?_
      refine lv_goto (tgt := 923) X.ex X.co dL_law_919 (by decide) ?_
      refine lv_istore (lv' := [(4, .int 1), (10, .int (-2002)), (0, .ref sx), (1, .ref b), (2, .ref (oad (0, 0))), (3, .ref (oad (0, 1))), (5, .int (nI k)), (6, .int (nI i)), (7, .int (nI w9)), (8, .int (nI x9)), (9, .int (nI (nAn σ)))]) X.ex X.co dL_law_923 hl (by decide) rfl (fun ls hl => ?_)
      refine lv_aload_n X.ex X.co dL_law_925 rfl (lv_at hl 4 rfl) ?_
      refine lv_iconst (v := 4) X.ex X.co dL_law_926 (by decide) ?_
      refine lv_dup2_11 X.ex X.co dL_law_927 rfl rfl ?_
      refine k_ml X g0.1 W0.2.2.2 4 (by omega) (mR_4 σ) dL_law_928 ?_
      refine lv_iload X.ex X.co dL_law_929 (lv_at hl 1 rfl) ?_
      refine lv_if_lt (tgt := 938) X.ex X.co dL_law_931 (by decide) (fun c_4 => ?_) (fun c_4 => ?_)
      · refine lv_iconst (v := 0) X.ex X.co dL_law_938 (by decide) ?_
        refine n_add X (x := nCr σ) (y := 0) dL_law_939 ?_
        refine k_ms X g0.1 W0 hdis hS (fun q h => Or.inr h) 4 (by omega) (v := nI ((nCr σ) + 0)) dL_law_940 (fun H locs W0 hS => ?_)
        rw [mR_s (σ := σ) (τ := σ) (j := 4) (show nI (nCr σ + 0) = mR σ 4 from rfl) (Or.inr rfl) (Or.inr rfl) rfl (Or.inl rfl) (Or.inr rfl) (fun _ _ => rfl)] at W0
        refine lv_goto (tgt := 1265) X.ex X.co dL_law_941 (by decide) ?_
        exact kk d σ H locs ls _ _ W0 hwf (by unfold LZ; omega) hS (lv_sub hl [2, 3, 4, 5, 0, 6] rfl) (by omega) (by omega)
      · exact absurd (by decide) c_4
    · exact absurd (by decide) c_3
  · refine k_call (n := 6) X mn_16 m_0 mn_15 ⟨by decide, by decide, by decide +kernel⟩ (by decide) mn_14 (c_L_deed_10 l hst G A hAg b σ W0.1.1.1.1 W0.1.1.1.2 W0.1.1.2 (nI p_1) (nI (1 + p_2)) 0 0) (g0.step hS hA2) W0 hdis hs9 W0.1 hv (by omega) rfl hl.1 rfl (Nat.le_of_ble_eq_true rfl) dL_law_884 (by omega) (by omega) hS (fun q h => Or.inl h) (fun H locs W0 hz hk9 hS => ?_)
    refine lv_istore (lv' := [(10, .int (-2003)), (0, .ref sx), (1, .ref b), (2, .ref (oad (0, 0))), (3, .ref (oad (0, 1))), (5, .int (nI k)), (6, .int (nI i)), (7, .int (nI w9)), (8, .int (nI x9)), (9, .int (nI (nAn σ)))]) X.ex X.co dL_law_887 hl (by decide) rfl (fun ls hl => ?_)
    refine lv_iload X.ex X.co dL_law_889 (lv_at hl 0 rfl) ?_
    refine lv_sipush (v := (-2002)) X.ex X.co dL_law_891 (by decide) ?_
    refine lv_icmp_eq (tgt := 918) X.ex X.co dL_law_894 (by decide) (fun c_5 => ?_) (fun c_5 => ?_)
    · exact absurd c_5 (by decide)
    · refine lv_iload X.ex X.co dL_law_897 (lv_at hl 0 rfl) ?_
      refine lv_aload_n X.ex X.co dL_law_899 rfl (lv_at hl 3 rfl) ?_
      refine lv_iconst (v := 4) X.ex X.co dL_law_900 (by decide) ?_
      refine k_ml X g0.1 W0.2.2.2 4 (by omega) (mR_4 σ) dL_law_901 ?_
      refine lv_iconst (v := 4) X.ex X.co dL_law_902 (by decide) ?_
      refine n_cmp_ne X (x := nCr σ) (y := 4) (tgt := 912) (by omega) (by omega) dL_law_903 (by decide) (fun c_6 => ?_) (fun c_6 => ?_)
      · exact absurd c_6 (by omega)
      · refine lv_sipush (v := (-2003)) X.ex X.co dL_law_906 (by decide) ?_
        refine lv_goto (tgt := 915) X.ex X.co dL_law_909 (by decide) ?_
        refine lv_icmp_ne (tgt := 922) X.ex X.co dL_law_915 (by decide) (fun c_7 => ?_) (fun c_7 => ?_)
        · exact absurd (by decide) c_7
        · refine lv_iconst (v := 1) X.ex X.co dL_law_918 (by decide) ?_
          refine lv_goto (tgt := 923) X.ex X.co dL_law_919 (by decide) ?_
          refine lv_istore (lv' := [(4, .int 1), (10, .int (-2003)), (0, .ref sx), (1, .ref b), (2, .ref (oad (0, 0))), (3, .ref (oad (0, 1))), (5, .int (nI k)), (6, .int (nI i)), (7, .int (nI w9)), (8, .int (nI x9)), (9, .int (nI (nAn σ)))]) X.ex X.co dL_law_923 hl (by decide) rfl (fun ls hl => ?_)
          refine lv_aload_n X.ex X.co dL_law_925 rfl (lv_at hl 4 rfl) ?_
          refine lv_iconst (v := 4) X.ex X.co dL_law_926 (by decide) ?_
          refine lv_dup2_11 X.ex X.co dL_law_927 rfl rfl ?_
          refine k_ml X g0.1 W0.2.2.2 4 (by omega) (mR_4 σ) dL_law_928 ?_
          refine lv_iload X.ex X.co dL_law_929 (lv_at hl 1 rfl) ?_
          refine lv_if_lt (tgt := 938) X.ex X.co dL_law_931 (by decide) (fun c_8 => ?_) (fun c_8 => ?_)
          · refine lv_iconst (v := 0) X.ex X.co dL_law_938 (by decide) ?_
            refine n_add X (x := nCr σ) (y := 0) dL_law_939 ?_
            refine k_ms X g0.1 W0 hdis hS (fun q h => Or.inr h) 4 (by omega) (v := nI ((nCr σ) + 0)) dL_law_940 (fun H locs W0 hS => ?_)
            rw [mR_s (σ := σ) (τ := σ) (j := 4) (show nI (nCr σ + 0) = mR σ 4 from rfl) (Or.inr rfl) (Or.inr rfl) rfl (Or.inl rfl) (Or.inr rfl) (fun _ _ => rfl)] at W0
            refine lv_goto (tgt := 1265) X.ex X.co dL_law_941 (by decide) ?_
            exact kk d σ H locs ls _ _ W0 hwf (by unfold LZ; omega) hS (lv_sub hl [2, 3, 4, 5, 0, 6] rfl) (by omega) (by omega)
          · exact absurd (by decide) c_8
  · refine k_call (n := 6) X mn_16 m_0 mn_15 ⟨by decide, by decide, by decide +kernel⟩ (by decide) mn_14 (c_L_deed_10 l hst G A hAg b σ W0.1.1.1.1 W0.1.1.1.2 W0.1.1.2 (nI p_1) (nI (1 + p_2)) 0 0) (g0.step hS hA2) W0 hdis hs9 hL9 hv (by omega) rfl hl.1 rfl (Nat.le_of_ble_eq_true rfl) dL_law_884 (by omega) (by omega) hS (fun q h => Or.inl h) (fun H locs W0 hz hk9 hS => ?_)
    refine lv_istore (lv' := [(10, .int (nI (nCr σ))), (0, .ref sx), (1, .ref b), (2, .ref (oad (0, 0))), (3, .ref (oad (0, 1))), (5, .int (nI k)), (6, .int (nI i)), (7, .int (nI w9)), (8, .int (nI x9)), (9, .int (nI (nAn σ)))]) X.ex X.co dL_law_887 hl (by decide) rfl (fun ls hl => ?_)
    refine lv_iload X.ex X.co dL_law_889 (lv_at hl 0 rfl) ?_
    refine lv_sipush (v := (-2002)) X.ex X.co dL_law_891 (by decide) ?_
    refine lv_icmp_eq (tgt := 918) X.ex X.co dL_law_894 (by decide) (fun c_9 => ?_) (fun c_9 => ?_)
    · exact absurd c_9 (nI_ne2 (by omega))
    · refine lv_iload X.ex X.co dL_law_897 (lv_at hl 0 rfl) ?_
      refine lv_aload_n X.ex X.co dL_law_899 rfl (lv_at hl 3 rfl) ?_
      refine lv_iconst (v := 4) X.ex X.co dL_law_900 (by decide) ?_
      refine k_ml X g0.1 W0.2.2.2 4 (by omega) (mR_4 σ) dL_law_901 ?_
      refine lv_iconst (v := 4) X.ex X.co dL_law_902 (by decide) ?_
      refine n_cmp_ne X (x := nCr σ) (y := 4) (tgt := 912) (by omega) (by omega) dL_law_903 (by decide) (fun c_10 => ?_) (fun c_10 => ?_)
      · refine lv_aload_n X.ex X.co dL_law_912 rfl (lv_at hl 3 rfl) ?_
        refine lv_iconst (v := 4) X.ex X.co dL_law_913 (by decide) ?_
        refine k_ml X g0.1 W0.2.2.2 4 (by omega) (mR_4 σ) dL_law_914 ?_
        refine n_cmp_ne X (x := nCr σ) (y := nCr σ) (tgt := 922) (by omega) (by omega) dL_law_915 (by decide) (fun c_11 => ?_) (fun c_11 => ?_)
        · exact absurd rfl c_11
        · refine lv_iconst (v := 1) X.ex X.co dL_law_918 (by decide) ?_
          refine lv_goto (tgt := 923) X.ex X.co dL_law_919 (by decide) ?_
          refine lv_istore (lv' := [(4, .int 1), (10, .int (nI (nCr σ))), (0, .ref sx), (1, .ref b), (2, .ref (oad (0, 0))), (3, .ref (oad (0, 1))), (5, .int (nI k)), (6, .int (nI i)), (7, .int (nI w9)), (8, .int (nI x9)), (9, .int (nI (nAn σ)))]) X.ex X.co dL_law_923 hl (by decide) rfl (fun ls hl => ?_)
          refine lv_aload_n X.ex X.co dL_law_925 rfl (lv_at hl 4 rfl) ?_
          refine lv_iconst (v := 4) X.ex X.co dL_law_926 (by decide) ?_
          refine lv_dup2_11 X.ex X.co dL_law_927 rfl rfl ?_
          refine k_ml X g0.1 W0.2.2.2 4 (by omega) (mR_4 σ) dL_law_928 ?_
          refine lv_iload X.ex X.co dL_law_929 (lv_at hl 1 rfl) ?_
          refine n_if_lt X (x := nCr σ) (tgt := 938) (by omega) dL_law_931 (by decide) (fun c_12 => ?_) (fun c_12 => ?_)
          · exact c_12.elim
          · refine lv_iconst (v := 1) X.ex X.co dL_law_934 (by decide) ?_
            refine lv_goto (tgt := 939) X.ex X.co dL_law_935 (by decide) ?_
            refine n_add X (x := nCr σ) (y := 1) dL_law_939 ?_
            refine k_ms X g0.1 W0 hdis hS (fun q h => Or.inr h) 4 (by omega) (v := nI ((nCr σ) + 1)) dL_law_940 (fun H locs W0 hS => ?_)
            rw [mR_s (σ := σ) (τ := τ) (j := 4) (show nI (nCr σ + 1) = mR τ 4 by rw [mR_4, g4]) (Or.inr g1) (Or.inr g2) g3 (Or.inl rfl) (Or.inr g5) (fun _ _ => by rw [g6])] at W0
            refine lv_goto (tgt := 1265) X.ex X.co dL_law_941 (by decide) ?_
            exact kk d τ H locs ls _ _ W0 (WF_e g5 g7 hwf) (by unfold LZ; omega) hS (lv_sub hl [2, 3, 4, 5, 0, 6] rfl) (by omega) (by omega)
      · exact absurd c_10 (by omega)
theorem WF_c {σ τ : Sg} {wf : Nat → Int32} (h5 : nCe σ ≤ nCe τ) (h7 : ∀ z, z < nCe σ → τ.2 41 z = σ.2 41 z) (hw : WF σ wf) : WF τ wf := fun c hc => by
  obtain ⟨q1, q2⟩ := hw c hc
  exact ⟨by omega, by rw [h7 c q1]; exact q2⟩
set_option maxHeartbeats 4000000 in
set_option maxRecDepth 100000 in
theorem lb_11 (hst : l.stackTraces = false) (hAg : ∀ q, A q → gA G q) (hA2 : ∀ q, (fun q => A q ∨ AO q) q → gA G q) (hdis : ∀ q, A q → ¬ AO q) (X : CF p s m args meth c cL_law 13 "CourseForgeLaw" (some .boolean)) (g0 : GG G s s.heap) (hX : va_X sx L xs s s.heap) (hxl : sx < s.heap.size) (hxA : ¬ (fun q => A q ∨ AO q) sx) (hL : L ≤ 2560) (hR9 : 20 ≤ hR) (hk80 : k < 80) (hi : i ≤ 700) (hz : LZ k d σ) (hk : 7 ≤ k) (hx9 : 7 ≤ k → x9 < nEx σ) (W0 : LW G A AO b d σ oad (mR σ) wf H) (hwf : WF σ wf) (hS : va_S (fun q => A q ∨ AO q) s.heap H locs) (hl : lv_has ls 13 [(0, .ref sx), (1, .ref b), (2, .ref (oad (0, 0))), (3, .ref (oad (0, 1))), (5, .int (nI k)), (6, .int (nI i)), (7, .int (nI w9)), (8, .int (nI x9)), (9, .int (nI (nAn σ)))]) (hrc : cells + 700 ≤ rc) (hrs : slots + 6000 ≤ rs) (kk : ∀ (d2 : Nat) (τ : Sg) (H : Heap) (locs : List Loc) (ls : Array Slot) (cells1 slots1 : Nat), LW G A AO b d2 τ oad (mR τ) wf H → WF τ wf → LZ (k + 1) d2 τ → va_S (fun q => A q ∨ AO q) s.heap H locs → lv_has ls 13 [(0, .ref sx), (1, .ref b), (2, .ref (oad (0, 0))), (3, .ref (oad (0, 1))), (4, .int 1), (5, .int (nI k))] → cells1 ≤ cells + 700 → slots1 ≤ slots + 6000 → W p l e (RM hR rc rs) s m args below meth c H locs cells1 slots1 Q (F0 m 1265 ls [])) :
    W p l e (RM hR rc rs) s m args below meth c H locs cells slots Q (F0 m 951 ls []) := by
  have hb := W0.1.1.1.1.1.1
  have hapb := W0.1.1.1.1.2.1
  obtain ⟨z1, z2, z3, z4, z5⟩ := hz
  have hp2 := Nat.two_pow_pos (nLe σ)
  have hp3 : 2 ^ nLe σ ≤ 2 ^ 8 := Nat.pow_le_pow_right (by decide) hb.2.2.1
  refine lv_aload_n X.ex X.co dL_law_951 rfl (lv_at hl 0 rfl) ?_
  refine lv_iload X.ex X.co dL_law_952 (lv_at hl 5 rfl) ?_
  refine lv_iconst (v := 2) X.ex X.co dL_law_954 (by decide) ?_
  refine n_add X (x := i) (y := 2) dL_law_955 ?_
  refine lv_aload_n X.ex X.co dL_law_956 rfl (lv_at hl 2 rfl) ?_
  refine lv_iconst (v := 1) X.ex X.co dL_law_957 (by decide) ?_
  refine k_ml X g0.1 W0.2.2.2 1 (by omega) (mR_1 σ) dL_law_958 ?_
  refine k_pick X hX hxl hxA g0 hA2 hS hL (i := i + 2) (by omega) (k := nSt σ) (by omega) (by omega) (by omega) hl.1 (Nat.le_of_ble_eq_true rfl) dL_law_959 (by omega) (by omega) (fun p_1 hp_1 => ?_)
  refine lv_istore (lv' := [(10, .int (nI p_1)), (0, .ref sx), (1, .ref b), (2, .ref (oad (0, 0))), (3, .ref (oad (0, 1))), (5, .int (nI k)), (6, .int (nI i)), (7, .int (nI w9)), (8, .int (nI x9)), (9, .int (nI (nAn σ)))]) X.ex X.co dL_law_962 hl (by decide) rfl (fun ls hl => ?_)
  refine lv_aload_n X.ex X.co dL_law_964 rfl (lv_at hl 1 rfl) ?_
  refine lv_iload X.ex X.co dL_law_965 (lv_at hl 6 rfl) ?_
  refine lv_iconst (v := 3) X.ex X.co dL_law_967 (by decide) ?_
  refine n_add X (x := i) (y := 3) dL_law_968 ?_
  refine lv_aload_n X.ex X.co dL_law_969 rfl (lv_at hl 3 rfl) ?_
  refine lv_iconst (v := 4) X.ex X.co dL_law_970 (by decide) ?_
  refine k_ml X g0.1 W0.2.2.2 4 (by omega) (mR_4 σ) dL_law_971 ?_
  refine lv_iconst (v := 1) X.ex X.co dL_law_972 (by decide) ?_
  refine n_add X (x := nCr σ) (y := 1) dL_law_973 ?_
  refine k_pick X hX hxl hxA g0 hA2 hS hL (i := i + 3) (by omega) (k := (nCr σ) + 1) (by omega) (by omega) (by omega) hl.1 (Nat.le_of_ble_eq_true rfl) dL_law_974 (by omega) (by omega) (fun p_2 hp_2 => ?_)
  refine lv_istore (lv' := [(11, .int (nI p_2)), (10, .int (nI p_1)), (0, .ref sx), (1, .ref b), (2, .ref (oad (0, 0))), (3, .ref (oad (0, 1))), (5, .int (nI k)), (6, .int (nI i)), (7, .int (nI w9)), (8, .int (nI x9)), (9, .int (nI (nAn σ)))]) X.ex X.co dL_law_977 hl (by decide) rfl (fun ls hl => ?_)
  refine lv_aload_n X.ex X.co dL_law_979 rfl (lv_at hl 3 rfl) ?_
  refine lv_bipush (v := 11) X.ex X.co dL_law_980 (by decide) ?_
  refine lv_iload X.ex X.co dL_law_982 (lv_at hl 1 rfl) ?_
  refine lv_iload X.ex X.co dL_law_984 (lv_at hl 0 rfl) ?_
  refine lv_iconst (v := 0) X.ex X.co dL_law_986 (by decide) ?_
  refine lv_iconst (v := 0) X.ex X.co dL_law_987 (by decide) ?_
  obtain ⟨τ, hs9, hL9, g1, g2, g3, g4, g6, g7, hcase⟩ := s_issue W0.1 (s := p_1) (c := p_2) hp_1 (by omega)
  rcases hcase with ⟨hpc, hv, g5⟩ | ⟨hpc, hv, g5⟩ | ⟨hpc, hv, g5, h30⟩ | ⟨hpc, hv, g5, h30, hce⟩
  · refine k_call (n := 6) X mn_16 m_0 mn_15 ⟨by decide, by decide, by decide +kernel⟩ (by decide) mn_14 (c_L_deed_11 l hst G A hAg b σ W0.1.1.1.1 W0.1.1.1.2 W0.1.1.2 (nI p_1) (nI p_2) 0 0) (g0.step hS hA2) W0 hdis hs9 hL9 hv (by omega) rfl hl.1 rfl (Nat.le_of_ble_eq_true rfl) dL_law_988 (by omega) (by omega) hS (fun q h => Or.inl h) (fun H locs W0 hz hk9 hS => ?_)
    refine lv_istore (lv' := [(12, .int (-2001)), (11, .int (nI p_2)), (10, .int (nI p_1)), (0, .ref sx), (1, .ref b), (2, .ref (oad (0, 0))), (3, .ref (oad (0, 1))), (5, .int (nI k)), (6, .int (nI i)), (7, .int (nI w9)), (8, .int (nI x9)), (9, .int (nI (nAn σ)))]) X.ex X.co dL_law_991 hl (by decide) rfl (fun ls hl => ?_)
    refine lv_iload X.ex X.co dL_law_993 (lv_at hl 0 rfl) ?_
    refine lv_iload X.ex X.co dL_law_995 (lv_at hl 1 rfl) ?_
    refine lv_aload_n X.ex X.co dL_law_997 rfl (lv_at hl 5 rfl) ?_
    refine lv_iconst (v := 4) X.ex X.co dL_law_998 (by decide) ?_
    refine k_ml X g0.1 W0.2.2.2 4 (by omega) (mR_4 σ) dL_law_999 ?_
    refine n_cmp_ne X (x := p_2) (y := nCr σ) (tgt := 1009) (by omega) (by omega) dL_law_1000 (by decide) (fun c_3 => ?_) (fun c_3 => ?_)
    · exact absurd c_3 (by omega)
    · refine lv_sipush (v := (-2001)) X.ex X.co dL_law_1003 (by decide) ?_
      refine lv_goto (tgt := 1012) X.ex X.co dL_law_1006 (by decide) ?_
      refine lv_icmp_eq (tgt := 1067) X.ex X.co dL_law_1012 (by decide) (fun c_4 => ?_) (fun c_4 => ?_)
      · refine lv_iconst (v := 1) X.ex X.co dL_law_1067 (by decide) ?_
        refine lv_goto (tgt := 1072) X.ex X.co dL_law_1068 (by decide) ?_
        refine lv_istore (lv' := [(4, .int 1), (12, .int (-2001)), (11, .int (nI p_2)), (10, .int (nI p_1)), (0, .ref sx), (1, .ref b), (2, .ref (oad (0, 0))), (3, .ref (oad (0, 1))), (5, .int (nI k)), (6, .int (nI i)), (7, .int (nI w9)), (8, .int (nI x9)), (9, .int (nI (nAn σ)))]) X.ex X.co dL_law_1072 hl (by decide) rfl (fun ls hl => ?_)
        refine lv_aload_n X.ex X.co dL_law_1074 rfl (lv_at hl 6 rfl) ?_
        refine lv_iconst (v := 5) X.ex X.co dL_law_1075 (by decide) ?_
        refine lv_dup2_11 X.ex X.co dL_law_1076 rfl rfl ?_
        refine k_ml X g0.1 W0.2.2.2 5 (by omega) (mR_5 σ) dL_law_1077 ?_
        refine lv_iload X.ex X.co dL_law_1078 (lv_at hl 1 rfl) ?_
        refine lv_if_lt (tgt := 1087) X.ex X.co dL_law_1080 (by decide) (fun c_5 => ?_) (fun c_5 => ?_)
        · refine lv_iconst (v := 0) X.ex X.co dL_law_1087 (by decide) ?_
          refine n_add X (x := nCe σ) (y := 0) dL_law_1088 ?_
          refine k_ms X g0.1 W0 hdis hS (fun q h => Or.inr h) 5 (by omega) (v := nI ((nCe σ) + 0)) dL_law_1089 (fun H locs W0 hS => ?_)
          rw [mR_s (σ := σ) (τ := τ) (j := 5) (show nI (nCe σ + 0) = mR τ 5 by rw [mR_5, g5, Nat.add_zero]) (Or.inr g1) (Or.inr g2) g3 (Or.inr g4) (Or.inl rfl) (fun _ _ => by rw [g6])] at W0
          refine lv_goto (tgt := 1265) X.ex X.co dL_law_1090 (by decide) ?_
          exact kk d τ H locs ls _ _ W0 (WF_c (by omega) g7 hwf) (by unfold LZ; omega) hS (lv_sub hl [4, 5, 6, 7, 0, 8] rfl) (by omega) (by omega)
        · exact absurd (by decide) c_5
      · exact absurd (by decide) c_4
  · refine k_call (n := 6) X mn_16 m_0 mn_15 ⟨by decide, by decide, by decide +kernel⟩ (by decide) mn_14 (c_L_deed_11 l hst G A hAg b σ W0.1.1.1.1 W0.1.1.1.2 W0.1.1.2 (nI p_1) (nI p_2) 0 0) (g0.step hS hA2) W0 hdis hs9 hL9 hv (by omega) rfl hl.1 rfl (Nat.le_of_ble_eq_true rfl) dL_law_988 (by omega) (by omega) hS (fun q h => Or.inl h) (fun H locs W0 hz hk9 hS => ?_)
    refine lv_istore (lv' := [(12, .int (-2004)), (11, .int (nI p_2)), (10, .int (nI p_1)), (0, .ref sx), (1, .ref b), (2, .ref (oad (0, 0))), (3, .ref (oad (0, 1))), (5, .int (nI k)), (6, .int (nI i)), (7, .int (nI w9)), (8, .int (nI x9)), (9, .int (nI (nAn σ)))]) X.ex X.co dL_law_991 hl (by decide) rfl (fun ls hl => ?_)
    refine lv_iload X.ex X.co dL_law_993 (lv_at hl 0 rfl) ?_
    refine lv_iload X.ex X.co dL_law_995 (lv_at hl 1 rfl) ?_
    refine lv_aload_n X.ex X.co dL_law_997 rfl (lv_at hl 5 rfl) ?_
    refine lv_iconst (v := 4) X.ex X.co dL_law_998 (by decide) ?_
    refine k_ml X g0.1 W0.2.2.2 4 (by omega) (mR_4 σ) dL_law_999 ?_
    refine n_cmp_ne X (x := p_2) (y := nCr σ) (tgt := 1009) (by omega) (by omega) dL_law_1000 (by decide) (fun c_6 => ?_) (fun c_6 => ?_)
    · refine lv_sipush (v := (-2004)) X.ex X.co dL_law_1009 (by decide) ?_
      refine lv_icmp_eq (tgt := 1067) X.ex X.co dL_law_1012 (by decide) (fun c_7 => ?_) (fun c_7 => ?_)
      · refine lv_iconst (v := 1) X.ex X.co dL_law_1067 (by decide) ?_
        refine lv_goto (tgt := 1072) X.ex X.co dL_law_1068 (by decide) ?_
        refine lv_istore (lv' := [(4, .int 1), (12, .int (-2004)), (11, .int (nI p_2)), (10, .int (nI p_1)), (0, .ref sx), (1, .ref b), (2, .ref (oad (0, 0))), (3, .ref (oad (0, 1))), (5, .int (nI k)), (6, .int (nI i)), (7, .int (nI w9)), (8, .int (nI x9)), (9, .int (nI (nAn σ)))]) X.ex X.co dL_law_1072 hl (by decide) rfl (fun ls hl => ?_)
        refine lv_aload_n X.ex X.co dL_law_1074 rfl (lv_at hl 6 rfl) ?_
        refine lv_iconst (v := 5) X.ex X.co dL_law_1075 (by decide) ?_
        refine lv_dup2_11 X.ex X.co dL_law_1076 rfl rfl ?_
        refine k_ml X g0.1 W0.2.2.2 5 (by omega) (mR_5 σ) dL_law_1077 ?_
        refine lv_iload X.ex X.co dL_law_1078 (lv_at hl 1 rfl) ?_
        refine lv_if_lt (tgt := 1087) X.ex X.co dL_law_1080 (by decide) (fun c_8 => ?_) (fun c_8 => ?_)
        · refine lv_iconst (v := 0) X.ex X.co dL_law_1087 (by decide) ?_
          refine n_add X (x := nCe σ) (y := 0) dL_law_1088 ?_
          refine k_ms X g0.1 W0 hdis hS (fun q h => Or.inr h) 5 (by omega) (v := nI ((nCe σ) + 0)) dL_law_1089 (fun H locs W0 hS => ?_)
          rw [mR_s (σ := σ) (τ := τ) (j := 5) (show nI (nCe σ + 0) = mR τ 5 by rw [mR_5, g5, Nat.add_zero]) (Or.inr g1) (Or.inr g2) g3 (Or.inr g4) (Or.inl rfl) (fun _ _ => by rw [g6])] at W0
          refine lv_goto (tgt := 1265) X.ex X.co dL_law_1090 (by decide) ?_
          exact kk d τ H locs ls _ _ W0 (WF_c (by omega) g7 hwf) (by unfold LZ; omega) hS (lv_sub hl [4, 5, 6, 7, 0, 8] rfl) (by omega) (by omega)
        · exact absurd (by decide) c_8
      · exact absurd (by decide) c_7
    · exact absurd c_6 (by omega)
  · rcases h30 with h30 | ⟨z, hz30, hce⟩
    · refine k_call (n := 6) X mn_16 m_0 mn_15 ⟨by decide, by decide, by decide +kernel⟩ (by decide) mn_14 (c_L_deed_11 l hst G A hAg b σ W0.1.1.1.1 W0.1.1.1.2 W0.1.1.2 (nI p_1) (nI p_2) 0 0) (g0.step hS hA2) W0 hdis hs9 hL9 hv (by omega) rfl hl.1 rfl (Nat.le_of_ble_eq_true rfl) dL_law_988 (by omega) (by omega) hS (fun q h => Or.inl h) (fun H locs W0 hz hk9 hS => ?_)
      refine lv_istore (lv' := [(12, .int (-2003)), (11, .int (nI p_2)), (10, .int (nI p_1)), (0, .ref sx), (1, .ref b), (2, .ref (oad (0, 0))), (3, .ref (oad (0, 1))), (5, .int (nI k)), (6, .int (nI i)), (7, .int (nI w9)), (8, .int (nI x9)), (9, .int (nI (nAn σ)))]) X.ex X.co dL_law_991 hl (by decide) rfl (fun ls hl => ?_)
      refine lv_iload X.ex X.co dL_law_993 (lv_at hl 0 rfl) ?_
      refine lv_iload X.ex X.co dL_law_995 (lv_at hl 1 rfl) ?_
      refine lv_aload_n X.ex X.co dL_law_997 rfl (lv_at hl 5 rfl) ?_
      refine lv_iconst (v := 4) X.ex X.co dL_law_998 (by decide) ?_
      refine k_ml X g0.1 W0.2.2.2 4 (by omega) (mR_4 σ) dL_law_999 ?_
      refine n_cmp_ne X (x := p_2) (y := nCr σ) (tgt := 1009) (by omega) (by omega) dL_law_1000 (by decide) (fun c_9 => ?_) (fun c_9 => ?_)
      · refine lv_sipush (v := (-2004)) X.ex X.co dL_law_1009 (by decide) ?_
        refine lv_icmp_eq (tgt := 1067) X.ex X.co dL_law_1012 (by decide) (fun c_10 => ?_) (fun c_10 => ?_)
        · exact absurd c_10 (by decide)
        · refine lv_iload X.ex X.co dL_law_1015 (lv_at hl 0 rfl) ?_
          refine lv_sipush (v := (-2003)) X.ex X.co dL_law_1017 (by decide) ?_
          refine lv_icmp_ne (tgt := 1044) X.ex X.co dL_law_1020 (by decide) (fun c_11 => ?_) (fun c_11 => ?_)
          · exact absurd (by decide) c_11
          · refine lv_aload_n X.ex X.co dL_law_1023 rfl (lv_at hl 5 rfl) ?_
            refine lv_iconst (v := 5) X.ex X.co dL_law_1024 (by decide) ?_
            refine k_ml X g0.1 W0.2.2.2 5 (by omega) (mR_5 σ) dL_law_1025 ?_
            refine lv_bipush (v := 30) X.ex X.co dL_law_1026 (by decide) ?_
            refine n_cmp_eq X (x := nCe σ) (y := 30) (tgt := 1067) (by omega) (by omega) dL_law_1028 (by decide) (fun c_12 => ?_) (fun c_12 => ?_)
            · refine lv_iconst (v := 1) X.ex X.co dL_law_1067 (by decide) ?_
              refine lv_goto (tgt := 1072) X.ex X.co dL_law_1068 (by decide) ?_
              refine lv_istore (lv' := [(4, .int 1), (12, .int (-2003)), (11, .int (nI p_2)), (10, .int (nI p_1)), (0, .ref sx), (1, .ref b), (2, .ref (oad (0, 0))), (3, .ref (oad (0, 1))), (5, .int (nI k)), (6, .int (nI i)), (7, .int (nI w9)), (8, .int (nI x9)), (9, .int (nI (nAn σ)))]) X.ex X.co dL_law_1072 hl (by decide) rfl (fun ls hl => ?_)
              refine lv_aload_n X.ex X.co dL_law_1074 rfl (lv_at hl 6 rfl) ?_
              refine lv_iconst (v := 5) X.ex X.co dL_law_1075 (by decide) ?_
              refine lv_dup2_11 X.ex X.co dL_law_1076 rfl rfl ?_
              refine k_ml X g0.1 W0.2.2.2 5 (by omega) (mR_5 σ) dL_law_1077 ?_
              refine lv_iload X.ex X.co dL_law_1078 (lv_at hl 1 rfl) ?_
              refine lv_if_lt (tgt := 1087) X.ex X.co dL_law_1080 (by decide) (fun c_13 => ?_) (fun c_13 => ?_)
              · refine lv_iconst (v := 0) X.ex X.co dL_law_1087 (by decide) ?_
                refine n_add X (x := nCe σ) (y := 0) dL_law_1088 ?_
                refine k_ms X g0.1 W0 hdis hS (fun q h => Or.inr h) 5 (by omega) (v := nI ((nCe σ) + 0)) dL_law_1089 (fun H locs W0 hS => ?_)
                rw [mR_s (σ := σ) (τ := τ) (j := 5) (show nI (nCe σ + 0) = mR τ 5 by rw [mR_5, g5, Nat.add_zero]) (Or.inr g1) (Or.inr g2) g3 (Or.inr g4) (Or.inl rfl) (fun _ _ => by rw [g6])] at W0
                refine lv_goto (tgt := 1265) X.ex X.co dL_law_1090 (by decide) ?_
                exact kk d τ H locs ls _ _ W0 (WF_c (by omega) g7 hwf) (by unfold LZ; omega) hS (lv_sub hl [4, 5, 6, 7, 0, 8] rfl) (by omega) (by omega)
              · exact absurd (by decide) c_13
            · exact absurd c_12 (by omega)
      · exact absurd c_9 (by omega)
    · refine k_call (n := 6) X mn_16 m_0 mn_15 ⟨by decide, by decide, by decide +kernel⟩ (by decide) mn_14 (c_L_deed_11 l hst G A hAg b σ W0.1.1.1.1 W0.1.1.1.2 W0.1.1.2 (nI p_1) (nI p_2) 0 0) (g0.step hS hA2) W0 hdis hs9 hL9 hv (by omega) rfl hl.1 rfl (Nat.le_of_ble_eq_true rfl) dL_law_988 (by omega) (by omega) hS (fun q h => Or.inl h) (fun H locs W0 hz hk9 hS => ?_)
      refine lv_istore (lv' := [(12, .int (-2003)), (11, .int (nI p_2)), (10, .int (nI p_1)), (0, .ref sx), (1, .ref b), (2, .ref (oad (0, 0))), (3, .ref (oad (0, 1))), (5, .int (nI k)), (6, .int (nI i)), (7, .int (nI w9)), (8, .int (nI x9)), (9, .int (nI (nAn σ)))]) X.ex X.co dL_law_991 hl (by decide) rfl (fun ls hl => ?_)
      refine lv_iload X.ex X.co dL_law_993 (lv_at hl 0 rfl) ?_
      refine lv_iload X.ex X.co dL_law_995 (lv_at hl 1 rfl) ?_
      refine lv_aload_n X.ex X.co dL_law_997 rfl (lv_at hl 5 rfl) ?_
      refine lv_iconst (v := 4) X.ex X.co dL_law_998 (by decide) ?_
      refine k_ml X g0.1 W0.2.2.2 4 (by omega) (mR_4 σ) dL_law_999 ?_
      refine n_cmp_ne X (x := p_2) (y := nCr σ) (tgt := 1009) (by omega) (by omega) dL_law_1000 (by decide) (fun c_14 => ?_) (fun c_14 => ?_)
      · refine lv_sipush (v := (-2004)) X.ex X.co dL_law_1009 (by decide) ?_
        refine lv_icmp_eq (tgt := 1067) X.ex X.co dL_law_1012 (by decide) (fun c_15 => ?_) (fun c_15 => ?_)
        · exact absurd c_15 (by decide)
        · refine lv_iload X.ex X.co dL_law_1015 (lv_at hl 0 rfl) ?_
          refine lv_sipush (v := (-2003)) X.ex X.co dL_law_1017 (by decide) ?_
          refine lv_icmp_ne (tgt := 1044) X.ex X.co dL_law_1020 (by decide) (fun c_16 => ?_) (fun c_16 => ?_)
          · exact absurd (by decide) c_16
          · refine lv_aload_n X.ex X.co dL_law_1023 rfl (lv_at hl 5 rfl) ?_
            refine lv_iconst (v := 5) X.ex X.co dL_law_1024 (by decide) ?_
            refine k_ml X g0.1 W0.2.2.2 5 (by omega) (mR_5 σ) dL_law_1025 ?_
            refine lv_bipush (v := 30) X.ex X.co dL_law_1026 (by decide) ?_
            refine n_cmp_eq X (x := nCe σ) (y := 30) (tgt := 1067) (by omega) (by omega) dL_law_1028 (by decide) (fun c_17 => ?_) (fun c_17 => ?_)
            · refine lv_iconst (v := 1) X.ex X.co dL_law_1067 (by decide) ?_
              refine lv_goto (tgt := 1072) X.ex X.co dL_law_1068 (by decide) ?_
              refine lv_istore (lv' := [(4, .int 1), (12, .int (-2003)), (11, .int (nI p_2)), (10, .int (nI p_1)), (0, .ref sx), (1, .ref b), (2, .ref (oad (0, 0))), (3, .ref (oad (0, 1))), (5, .int (nI k)), (6, .int (nI i)), (7, .int (nI w9)), (8, .int (nI x9)), (9, .int (nI (nAn σ)))]) X.ex X.co dL_law_1072 hl (by decide) rfl (fun ls hl => ?_)
              refine lv_aload_n X.ex X.co dL_law_1074 rfl (lv_at hl 6 rfl) ?_
              refine lv_iconst (v := 5) X.ex X.co dL_law_1075 (by decide) ?_
              refine lv_dup2_11 X.ex X.co dL_law_1076 rfl rfl ?_
              refine k_ml X g0.1 W0.2.2.2 5 (by omega) (mR_5 σ) dL_law_1077 ?_
              refine lv_iload X.ex X.co dL_law_1078 (lv_at hl 1 rfl) ?_
              refine lv_if_lt (tgt := 1087) X.ex X.co dL_law_1080 (by decide) (fun c_18 => ?_) (fun c_18 => ?_)
              · refine lv_iconst (v := 0) X.ex X.co dL_law_1087 (by decide) ?_
                refine n_add X (x := nCe σ) (y := 0) dL_law_1088 ?_
                refine k_ms X g0.1 W0 hdis hS (fun q h => Or.inr h) 5 (by omega) (v := nI ((nCe σ) + 0)) dL_law_1089 (fun H locs W0 hS => ?_)
                rw [mR_s (σ := σ) (τ := τ) (j := 5) (show nI (nCe σ + 0) = mR τ 5 by rw [mR_5, g5, Nat.add_zero]) (Or.inr g1) (Or.inr g2) g3 (Or.inr g4) (Or.inl rfl) (fun _ _ => by rw [g6])] at W0
                refine lv_goto (tgt := 1265) X.ex X.co dL_law_1090 (by decide) ?_
                exact kk d τ H locs ls _ _ W0 (WF_c (by omega) g7 hwf) (by unfold LZ; omega) hS (lv_sub hl [4, 5, 6, 7, 0, 8] rfl) (by omega) (by omega)
              · exact absurd (by decide) c_18
            · refine lv_aload_n X.ex X.co dL_law_1031 rfl (lv_at hl 4 rfl) ?_
              refine lv_bipush (v := 14) X.ex X.co dL_law_1032 (by decide) ?_
              refine lv_iload X.ex X.co dL_law_1034 (lv_at hl 2 rfl) ?_
              refine lv_iload X.ex X.co dL_law_1036 (lv_at hl 1 rfl) ?_
              refine k_call (n := 4) X mn_40 m_0 mn_39 ⟨by decide, by decide, by decide +kernel⟩ (by decide) mn_38 (c_L_ask_14 l hst G A hAg b τ W0.1.1.1.1 W0.1.1.1.2 W0.1.1.2 (nI p_1) (nI p_2)) (g0.step hS hA2) W0 hdis (lsq_ce W0.1.1.2 _ _) W0.1 hce (by omega) rfl hl.1 rfl (Nat.le_of_ble_eq_true rfl) dL_law_1038 (by omega) (by omega) hS (fun q h => Or.inl h) (fun H locs W0 hz hk9 hS => ?_)
              refine n_if_ge X (x := z) (tgt := 1067) (by omega) dL_law_1041 (by decide) (fun c_19 => ?_) (fun c_19 => ?_)
              · refine lv_iconst (v := 1) X.ex X.co dL_law_1067 (by decide) ?_
                refine lv_goto (tgt := 1072) X.ex X.co dL_law_1068 (by decide) ?_
                refine lv_istore (lv' := [(4, .int 1), (12, .int (-2003)), (11, .int (nI p_2)), (10, .int (nI p_1)), (0, .ref sx), (1, .ref b), (2, .ref (oad (0, 0))), (3, .ref (oad (0, 1))), (5, .int (nI k)), (6, .int (nI i)), (7, .int (nI w9)), (8, .int (nI x9)), (9, .int (nI (nAn σ)))]) X.ex X.co dL_law_1072 hl (by decide) rfl (fun ls hl => ?_)
                refine lv_aload_n X.ex X.co dL_law_1074 rfl (lv_at hl 6 rfl) ?_
                refine lv_iconst (v := 5) X.ex X.co dL_law_1075 (by decide) ?_
                refine lv_dup2_11 X.ex X.co dL_law_1076 rfl rfl ?_
                refine k_ml X g0.1 W0.2.2.2 5 (by omega) (mR_5 σ) dL_law_1077 ?_
                refine lv_iload X.ex X.co dL_law_1078 (lv_at hl 1 rfl) ?_
                refine lv_if_lt (tgt := 1087) X.ex X.co dL_law_1080 (by decide) (fun c_20 => ?_) (fun c_20 => ?_)
                · refine lv_iconst (v := 0) X.ex X.co dL_law_1087 (by decide) ?_
                  refine n_add X (x := nCe σ) (y := 0) dL_law_1088 ?_
                  refine k_ms X g0.1 W0 hdis hS (fun q h => Or.inr h) 5 (by omega) (v := nI ((nCe σ) + 0)) dL_law_1089 (fun H locs W0 hS => ?_)
                  rw [mR_s (σ := σ) (τ := τ) (j := 5) (show nI (nCe σ + 0) = mR τ 5 by rw [mR_5, g5, Nat.add_zero]) (Or.inr g1) (Or.inr g2) g3 (Or.inr g4) (Or.inl rfl) (fun _ _ => by rw [g6])] at W0
                  refine lv_goto (tgt := 1265) X.ex X.co dL_law_1090 (by decide) ?_
                  exact kk d τ H locs ls _ _ W0 (WF_c (by omega) g7 hwf) (by unfold LZ; omega) hS (lv_sub hl [4, 5, 6, 7, 0, 8] rfl) (by omega) (by omega)
                · exact absurd (by decide) c_20
              · exact c_19.elim
      · exact absurd c_14 (by omega)
  · refine k_call (n := 6) X mn_16 m_0 mn_15 ⟨by decide, by decide, by decide +kernel⟩ (by decide) mn_14 (c_L_deed_11 l hst G A hAg b σ W0.1.1.1.1 W0.1.1.1.2 W0.1.1.2 (nI p_1) (nI p_2) 0 0) (g0.step hS hA2) W0 hdis hs9 hL9 hv (by omega) rfl hl.1 rfl (Nat.le_of_ble_eq_true rfl) dL_law_988 (by omega) (by omega) hS (fun q h => Or.inl h) (fun H locs W0 hz hk9 hS => ?_)
    refine lv_istore (lv' := [(12, .int (nI (nCe σ))), (11, .int (nI p_2)), (10, .int (nI p_1)), (0, .ref sx), (1, .ref b), (2, .ref (oad (0, 0))), (3, .ref (oad (0, 1))), (5, .int (nI k)), (6, .int (nI i)), (7, .int (nI w9)), (8, .int (nI x9)), (9, .int (nI (nAn σ)))]) X.ex X.co dL_law_991 hl (by decide) rfl (fun ls hl => ?_)
    refine lv_iload X.ex X.co dL_law_993 (lv_at hl 0 rfl) ?_
    refine lv_iload X.ex X.co dL_law_995 (lv_at hl 1 rfl) ?_
    refine lv_aload_n X.ex X.co dL_law_997 rfl (lv_at hl 5 rfl) ?_
    refine lv_iconst (v := 4) X.ex X.co dL_law_998 (by decide) ?_
    refine k_ml X g0.1 W0.2.2.2 4 (by omega) (mR_4 σ) dL_law_999 ?_
    refine n_cmp_ne X (x := p_2) (y := nCr σ) (tgt := 1009) (by omega) (by omega) dL_law_1000 (by decide) (fun c_21 => ?_) (fun c_21 => ?_)
    · refine lv_sipush (v := (-2004)) X.ex X.co dL_law_1009 (by decide) ?_
      refine lv_icmp_eq (tgt := 1067) X.ex X.co dL_law_1012 (by decide) (fun c_22 => ?_) (fun c_22 => ?_)
      · exact absurd c_22 (nI_ne4 (by omega))
      · refine lv_iload X.ex X.co dL_law_1015 (lv_at hl 0 rfl) ?_
        refine lv_sipush (v := (-2003)) X.ex X.co dL_law_1017 (by decide) ?_
        refine lv_icmp_ne (tgt := 1044) X.ex X.co dL_law_1020 (by decide) (fun c_23 => ?_) (fun c_23 => ?_)
        · refine lv_iload X.ex X.co dL_law_1044 (lv_at hl 0 rfl) ?_
          refine lv_aload_n X.ex X.co dL_law_1046 rfl (lv_at hl 5 rfl) ?_
          refine lv_iconst (v := 5) X.ex X.co dL_law_1047 (by decide) ?_
          refine k_ml X g0.1 W0.2.2.2 5 (by omega) (mR_5 σ) dL_law_1048 ?_
          refine n_cmp_ne X (x := nCe σ) (y := nCe σ) (tgt := 1071) (by omega) (by omega) dL_law_1049 (by decide) (fun c_24 => ?_) (fun c_24 => ?_)
          · exact absurd rfl c_24
          · refine lv_aload_n X.ex X.co dL_law_1052 rfl (lv_at hl 4 rfl) ?_
            refine lv_bipush (v := 14) X.ex X.co dL_law_1053 (by decide) ?_
            refine lv_iload X.ex X.co dL_law_1055 (lv_at hl 2 rfl) ?_
            refine lv_iload X.ex X.co dL_law_1057 (lv_at hl 1 rfl) ?_
            refine k_call (n := 4) X mn_40 m_0 mn_39 ⟨by decide, by decide, by decide +kernel⟩ (by decide) mn_38 (c_L_ask_14 l hst G A hAg b τ W0.1.1.1.1 W0.1.1.1.2 W0.1.1.2 (nI p_1) (nI p_2)) (g0.step hS hA2) W0 hdis (lsq_ce W0.1.1.2 _ _) W0.1 hce (by omega) rfl hl.1 rfl (Nat.le_of_ble_eq_true rfl) dL_law_1059 (by omega) (by omega) hS (fun q h => Or.inl h) (fun H locs W0 hz hk9 hS => ?_)
            refine lv_iload X.ex X.co dL_law_1062 (lv_at hl 0 rfl) ?_
            refine n_cmp_ne X (x := nCe σ) (y := nCe σ) (tgt := 1071) (by omega) (by omega) dL_law_1064 (by decide) (fun c_25 => ?_) (fun c_25 => ?_)
            · exact absurd rfl c_25
            · refine lv_iconst (v := 1) X.ex X.co dL_law_1067 (by decide) ?_
              refine lv_goto (tgt := 1072) X.ex X.co dL_law_1068 (by decide) ?_
              refine lv_istore (lv' := [(4, .int 1), (12, .int (nI (nCe σ))), (11, .int (nI p_2)), (10, .int (nI p_1)), (0, .ref sx), (1, .ref b), (2, .ref (oad (0, 0))), (3, .ref (oad (0, 1))), (5, .int (nI k)), (6, .int (nI i)), (7, .int (nI w9)), (8, .int (nI x9)), (9, .int (nI (nAn σ)))]) X.ex X.co dL_law_1072 hl (by decide) rfl (fun ls hl => ?_)
              refine lv_aload_n X.ex X.co dL_law_1074 rfl (lv_at hl 6 rfl) ?_
              refine lv_iconst (v := 5) X.ex X.co dL_law_1075 (by decide) ?_
              refine lv_dup2_11 X.ex X.co dL_law_1076 rfl rfl ?_
              refine k_ml X g0.1 W0.2.2.2 5 (by omega) (mR_5 σ) dL_law_1077 ?_
              refine lv_iload X.ex X.co dL_law_1078 (lv_at hl 1 rfl) ?_
              refine n_if_lt X (x := nCe σ) (tgt := 1087) (by omega) dL_law_1080 (by decide) (fun c_26 => ?_) (fun c_26 => ?_)
              · exact c_26.elim
              · refine lv_iconst (v := 1) X.ex X.co dL_law_1083 (by decide) ?_
                refine lv_goto (tgt := 1088) X.ex X.co dL_law_1084 (by decide) ?_
                refine n_add X (x := nCe σ) (y := 1) dL_law_1088 ?_
                refine k_ms X g0.1 W0 hdis hS (fun q h => Or.inr h) 5 (by omega) (v := nI ((nCe σ) + 1)) dL_law_1089 (fun H locs W0 hS => ?_)
                rw [mR_s (σ := σ) (τ := τ) (j := 5) (show nI (nCe σ + 1) = mR τ 5 by rw [mR_5, g5]) (Or.inr g1) (Or.inr g2) g3 (Or.inr g4) (Or.inl rfl) (fun _ _ => by rw [g6])] at W0
                refine lv_goto (tgt := 1265) X.ex X.co dL_law_1090 (by decide) ?_
                exact kk d τ H locs ls _ _ W0 (WF_c (by omega) g7 hwf) (by unfold LZ; omega) hS (lv_sub hl [4, 5, 6, 7, 0, 8] rfl) (by omega) (by omega)
        · exact absurd c_23 (nI_ne3 (by omega))
    · exact absurd c_21 (by omega)
set_option maxHeartbeats 4000000 in
set_option maxRecDepth 100000 in
theorem lb_13 (hst : l.stackTraces = false) (hAg : ∀ q, A q → gA G q) (hA2 : ∀ q, (fun q => A q ∨ AO q) q → gA G q) (hdis : ∀ q, A q → ¬ AO q) (X : CF p s m args meth c cL_law 13 "CourseForgeLaw" (some .boolean)) (g0 : GG G s s.heap) (hX : va_X sx L xs s s.heap) (hxl : sx < s.heap.size) (hxA : ¬ (fun q => A q ∨ AO q) sx) (hL : L ≤ 2560) (hR9 : 20 ≤ hR) (hk80 : k < 80) (hi : i ≤ 700) (hz : LZ k d σ) (hk : 7 ≤ k) (hx9 : 7 ≤ k → x9 < nEx σ) (W0 : LW G A AO b d σ oad (mR σ) wf H) (hwf : WF σ wf) (hS : va_S (fun q => A q ∨ AO q) s.heap H locs) (hl : lv_has ls 13 [(0, .ref sx), (1, .ref b), (2, .ref (oad (0, 0))), (3, .ref (oad (0, 1))), (5, .int (nI k)), (6, .int (nI i)), (7, .int (nI w9)), (8, .int (nI x9)), (9, .int (nI (nAn σ)))]) (hrc : cells + 700 ≤ rc) (hrs : slots + 6000 ≤ rs) (kk : ∀ (d2 : Nat) (τ : Sg) (H : Heap) (locs : List Loc) (ls : Array Slot) (cells1 slots1 : Nat), LW G A AO b d2 τ oad (mR τ) wf H → WF τ wf → LZ (k + 1) d2 τ → va_S (fun q => A q ∨ AO q) s.heap H locs → lv_has ls 13 [(0, .ref sx), (1, .ref b), (2, .ref (oad (0, 0))), (3, .ref (oad (0, 1))), (4, .int 1), (5, .int (nI k))] → cells1 ≤ cells + 700 → slots1 ≤ slots + 6000 → W p l e (RM hR rc rs) s m args below meth c H locs cells1 slots1 Q (F0 m 1265 ls [])) :
    W p l e (RM hR rc rs) s m args below meth c H locs cells slots Q (F0 m 1100 ls []) := by
  have hb := W0.1.1.1.1.1.1
  have hapb := W0.1.1.1.1.2.1
  obtain ⟨z1, z2, z3, z4, z5⟩ := hz
  have hp2 := Nat.two_pow_pos (nLe σ)
  have hp3 : 2 ^ nLe σ ≤ 2 ^ 8 := Nat.pow_le_pow_right (by decide) hb.2.2.1
  refine lv_aload_n X.ex X.co dL_law_1100 rfl (lv_at hl 1 rfl) ?_
  refine lv_aload_n X.ex X.co dL_law_1101 rfl (lv_at hl 2 rfl) ?_
  refine lv_iconst (v := 1) X.ex X.co dL_law_1102 (by decide) ?_
  refine lv_aload_n X.ex X.co dL_law_1103 rfl (lv_at hl 0 rfl) ?_
  refine lv_iload X.ex X.co dL_law_1104 (lv_at hl 5 rfl) ?_
  refine lv_iconst (v := 2) X.ex X.co dL_law_1106 (by decide) ?_
  refine n_add X (x := i) (y := 2) dL_law_1107 ?_
  refine lv_iconst (v := 4) X.ex X.co dL_law_1108 (by decide) ?_
  refine k_pick X hX hxl hxA g0 hA2 hS hL (i := i + 2) (by omega) (k := 4) (by omega) (by omega) (by omega) hl.1 (Nat.le_of_ble_eq_true rfl) dL_law_1109 (by omega) (by omega) (fun p_1 hp_1 => ?_)
  refine n_add X (x := 1) (y := p_1) dL_law_1112 ?_
  refine q_cS X ce_L_isDay mn_81 (c_L_isDay l hst G A AO hAg hdis b d σ oad wf (1 + p_1) (by omega) (by omega)) (g0.step hS hA2) W0 (by omega) rfl hl.1 rfl (Nat.le_of_ble_eq_true rfl) dL_law_1113 (by omega) (by omega) hS (fun q h => Or.inl h) (fun v0 H locs hB hz9 hk9 hS => ?_)
  obtain ⟨rfl, τ, W0, hq9⟩ := hB
  obtain ⟨q1, q2, q3, -, -, -, -⟩ := id hq9
  refine lv_istore (lv' := [(4, .int 1), (0, .ref sx), (1, .ref b), (2, .ref (oad (0, 0))), (3, .ref (oad (0, 1))), (5, .int (nI k)), (6, .int (nI i)), (7, .int (nI w9)), (8, .int (nI x9)), (9, .int (nI (nAn σ)))]) X.ex X.co dL_law_1116 hl (by decide) rfl (fun ls hl => ?_)
  refine lv_goto (tgt := 1265) X.ex X.co dL_law_1118 (by decide) ?_
  rw [← hq9.mr] at W0
  exact kk (d + (1 + p_1)) τ H locs ls _ _ W0 (hq9.wf hwf) (by unfold LZ; omega) hS (lv_sub hl [1, 2, 3, 4, 0, 5] rfl) (by omega) (by omega)
set_option maxHeartbeats 4000000 in
set_option maxRecDepth 100000 in
theorem lb_15 (hst : l.stackTraces = false) (hAg : ∀ q, A q → gA G q) (hA2 : ∀ q, (fun q => A q ∨ AO q) q → gA G q) (hdis : ∀ q, A q → ¬ AO q) (X : CF p s m args meth c cL_law 13 "CourseForgeLaw" (some .boolean)) (g0 : GG G s s.heap) (hX : va_X sx L xs s s.heap) (hxl : sx < s.heap.size) (hxA : ¬ (fun q => A q ∨ AO q) sx) (hL : L ≤ 2560) (hR9 : 20 ≤ hR) (hk80 : k < 80) (hi : i ≤ 700) (hz : LZ k d σ) (hk : 7 ≤ k) (hx9 : 7 ≤ k → x9 < nEx σ) (W0 : LW G A AO b d σ oad (mR σ) wf H) (hwf : WF σ wf) (hS : va_S (fun q => A q ∨ AO q) s.heap H locs) (hl : lv_has ls 13 [(0, .ref sx), (1, .ref b), (2, .ref (oad (0, 0))), (3, .ref (oad (0, 1))), (5, .int (nI k)), (6, .int (nI i)), (7, .int (nI w9)), (8, .int (nI x9)), (9, .int (nI (nAn σ)))]) (hrc : cells + 700 ≤ rc) (hrs : slots + 6000 ≤ rs) (kk : ∀ (d2 : Nat) (τ : Sg) (H : Heap) (locs : List Loc) (ls : Array Slot) (cells1 slots1 : Nat), LW G A AO b d2 τ oad (mR τ) wf H → WF τ wf → LZ (k + 1) d2 τ → va_S (fun q => A q ∨ AO q) s.heap H locs → lv_has ls 13 [(0, .ref sx), (1, .ref b), (2, .ref (oad (0, 0))), (3, .ref (oad (0, 1))), (4, .int 1), (5, .int (nI k))] → cells1 ≤ cells + 700 → slots1 ≤ slots + 6000 → W p l e (RM hR rc rs) s m args below meth c H locs cells1 slots1 Q (F0 m 1265 ls [])) :
    W p l e (RM hR rc rs) s m args below meth c H locs cells slots Q (F0 m 1121 ls []) := by
  have hb := W0.1.1.1.1.1.1
  have hapb := W0.1.1.1.1.2.1
  obtain ⟨z1, z2, z3, z4, z5⟩ := hz
  have hp2 := Nat.two_pow_pos (nLe σ)
  have hp3 : 2 ^ nLe σ ≤ 2 ^ 8 := Nat.pow_le_pow_right (by decide) hb.2.2.1
  refine lv_aload_n X.ex X.co dL_law_1121 rfl (lv_at hl 0 rfl) ?_
  refine lv_iload X.ex X.co dL_law_1122 (lv_at hl 5 rfl) ?_
  refine lv_iconst (v := 2) X.ex X.co dL_law_1124 (by decide) ?_
  refine n_add X (x := i) (y := 2) dL_law_1125 ?_
  refine lv_aload_n X.ex X.co dL_law_1126 rfl (lv_at hl 2 rfl) ?_
  refine lv_iconst (v := 1) X.ex X.co dL_law_1127 (by decide) ?_
  refine k_ml X g0.1 W0.2.2.2 1 (by omega) (mR_1 σ) dL_law_1128 ?_
  refine k_pick X hX hxl hxA g0 hA2 hS hL (i := i + 2) (by omega) (k := nSt σ) (by omega) (by omega) (by omega) hl.1 (Nat.le_of_ble_eq_true rfl) dL_law_1129 (by omega) (by omega) (fun p_1 hp_1 => ?_)
  refine lv_istore (lv' := [(10, .int (nI p_1)), (0, .ref sx), (1, .ref b), (2, .ref (oad (0, 0))), (3, .ref (oad (0, 1))), (5, .int (nI k)), (6, .int (nI i)), (7, .int (nI w9)), (8, .int (nI x9)), (9, .int (nI (nAn σ)))]) X.ex X.co dL_law_1132 hl (by decide) rfl (fun ls hl => ?_)
  refine lv_aload_n X.ex X.co dL_law_1134 rfl (lv_at hl 2 rfl) ?_
  refine lv_iconst (v := 2) X.ex X.co dL_law_1135 (by decide) ?_
  refine lv_iload X.ex X.co dL_law_1136 (lv_at hl 0 rfl) ?_
  refine lv_iload X.ex X.co dL_law_1138 (lv_at hl 8 rfl) ?_
  refine k_call (n := 4) X mn_40 m_0 mn_39 ⟨by decide, by decide, by decide +kernel⟩ (by decide) mn_38 (c_L_ask_2 l hst G A hAg b σ W0.1.1.1.1 W0.1.1.1.2 W0.1.1.2 (nI p_1) (nI x9)) (g0.step hS hA2) W0 hdis (lsq_re W0.1.1.2 _ _) W0.1 (q_re W0.1 hp_1 (hx9 (by omega))) (by omega) rfl hl.1 rfl (Nat.le_of_ble_eq_true rfl) dL_law_1140 (by omega) (by omega) hS (fun q h => Or.inl h) (fun H locs W0 hz hk9 hS => ?_)
  refine lv_istore (lv' := [(11, .int (whyS σ p_1 x9)), (10, .int (nI p_1)), (0, .ref sx), (1, .ref b), (2, .ref (oad (0, 0))), (3, .ref (oad (0, 1))), (5, .int (nI k)), (6, .int (nI i)), (7, .int (nI w9)), (8, .int (nI x9)), (9, .int (nI (nAn σ)))]) X.ex X.co dL_law_1143 hl (by decide) rfl (fun ls hl => ?_)
  refine lv_aload_n X.ex X.co dL_law_1145 rfl (lv_at hl 3 rfl) ?_
  refine lv_iconst (v := 5) X.ex X.co dL_law_1146 (by decide) ?_
  refine lv_iload X.ex X.co dL_law_1147 (lv_at hl 1 rfl) ?_
  refine lv_iload X.ex X.co dL_law_1149 (lv_at hl 9 rfl) ?_
  refine lv_aload_n X.ex X.co dL_law_1151 rfl (lv_at hl 2 rfl) ?_
  refine lv_iload X.ex X.co dL_law_1152 (lv_at hl 7 rfl) ?_
  refine lv_iconst (v := 3) X.ex X.co dL_law_1154 (by decide) ?_
  refine n_add X (x := i) (y := 3) dL_law_1155 ?_
  refine lv_iconst (v := 5) X.ex X.co dL_law_1156 (by decide) ?_
  refine k_pick X hX hxl hxA g0 hA2 hS hL (i := i + 3) (by omega) (k := 5) (by omega) (by omega) (by omega) hl.1 (Nat.le_of_ble_eq_true rfl) dL_law_1157 (by omega) (by omega) (fun p_2 hp_2 => ?_)
  refine lv_iconst (v := 2) X.ex X.co dL_law_1160 (by decide) ?_
  refine lv_isub X.ex X.co dL_law_1161 ?_
  refine lv_aload_n X.ex X.co dL_law_1162 rfl (lv_at hl 2 rfl) ?_
  refine lv_iload X.ex X.co dL_law_1163 (lv_at hl 7 rfl) ?_
  refine lv_iconst (v := 4) X.ex X.co dL_law_1165 (by decide) ?_
  refine n_add X (x := i) (y := 4) dL_law_1166 ?_
  refine lv_bipush (v := 9) X.ex X.co dL_law_1167 (by decide) ?_
  refine k_pick X hX hxl hxA g0 hA2 hS hL (i := i + 4) (by omega) (k := 9) (by omega) (by omega) (by omega) hl.1 (Nat.le_of_ble_eq_true rfl) dL_law_1169 (by omega) (by omega) (fun p_3 hp_3 => ?_)
  rcases s_answer W0.1 hp_1 (hx9 (by omega)) hp_2 hp_3 with ⟨hw, hv, hs9⟩ | ⟨hw, h100, hv, hs9⟩ | ⟨hw, h100, hv, τ, hs9, hL9, g1, g2, g3, g4, g5, g6, g7, g8, hst9, h24, z, hbest⟩
  · refine k_call (n := 6) X mn_16 m_0 mn_15 ⟨by decide, by decide, by decide +kernel⟩ (by decide) mn_14 (c_L_deed_5 l hst G A hAg b σ W0.1.1.1.1 W0.1.1.1.2 W0.1.1.2 (nI p_1) (nI x9) (nI p_2 - 2) (nI p_3)) (g0.step hS hA2) W0 hdis hs9 W0.1 hv (by omega) rfl hl.1 rfl (Nat.le_of_ble_eq_true rfl) dL_law_1172 (by omega) (by omega) hS (fun q h => Or.inl h) (fun H locs W0 hz hk9 hS => ?_)
    refine lv_istore (lv' := [(12, .int (-2004)), (11, .int (whyS σ p_1 x9)), (10, .int (nI p_1)), (0, .ref sx), (1, .ref b), (2, .ref (oad (0, 0))), (3, .ref (oad (0, 1))), (5, .int (nI k)), (6, .int (nI i)), (7, .int (nI w9)), (8, .int (nI x9)), (9, .int (nI (nAn σ)))]) X.ex X.co dL_law_1175 hl (by decide) rfl (fun ls hl => ?_)
    refine lv_iload X.ex X.co dL_law_1177 (lv_at hl 0 rfl) ?_
    refine lv_iload X.ex X.co dL_law_1179 (lv_at hl 1 rfl) ?_
    refine lv_bipush (v := 45) X.ex X.co dL_law_1181 (by decide) ?_
    refine lv_icmp_eq (tgt := 1192) X.ex X.co dL_law_1183 (by decide) (fun c_4 => ?_) (fun c_4 => ?_)
    · exact absurd c_4 hw
    · refine lv_sipush (v := (-2004)) X.ex X.co dL_law_1186 (by decide) ?_
      refine lv_goto (tgt := 1207) X.ex X.co dL_law_1189 (by decide) ?_
      refine lv_icmp_ne (tgt := 1262) X.ex X.co dL_law_1207 (by decide) (fun c_5 => ?_) (fun c_5 => ?_)
      · exact absurd (by decide) c_5
      · refine lv_iload X.ex X.co dL_law_1210 (lv_at hl 0 rfl) ?_
        refine lv_if_lt (tgt := 1258) X.ex X.co dL_law_1212 (by decide) (fun c_6 => ?_) (fun c_6 => ?_)
        · refine lv_iconst (v := 1) X.ex X.co dL_law_1258 (by decide) ?_
          refine lv_goto (tgt := 1263) X.ex X.co dL_law_1259 (by decide) ?_
          refine lv_istore (lv' := [(4, .int 1), (12, .int (-2004)), (11, .int (whyS σ p_1 x9)), (10, .int (nI p_1)), (0, .ref sx), (1, .ref b), (2, .ref (oad (0, 0))), (3, .ref (oad (0, 1))), (5, .int (nI k)), (6, .int (nI i)), (7, .int (nI w9)), (8, .int (nI x9)), (9, .int (nI (nAn σ)))]) X.ex X.co dL_law_1263 hl (by decide) rfl (fun ls hl => ?_)
          exact kk d σ H locs ls _ _ W0 hwf (by unfold LZ; omega) hS (lv_sub hl [4, 5, 6, 7, 0, 8] rfl) (by omega) (by omega)
        · exact absurd (by decide) c_6
  · refine k_call (n := 6) X mn_16 m_0 mn_15 ⟨by decide, by decide, by decide +kernel⟩ (by decide) mn_14 (c_L_deed_5 l hst G A hAg b σ W0.1.1.1.1 W0.1.1.1.2 W0.1.1.2 (nI p_1) (nI x9) (nI p_2 - 2) (nI p_3)) (g0.step hS hA2) W0 hdis hs9 W0.1 hv (by omega) rfl hl.1 rfl (Nat.le_of_ble_eq_true rfl) dL_law_1172 (by omega) (by omega) hS (fun q h => Or.inl h) (fun H locs W0 hz hk9 hS => ?_)
    refine lv_istore (lv' := [(12, .int (-2003)), (11, .int (whyS σ p_1 x9)), (10, .int (nI p_1)), (0, .ref sx), (1, .ref b), (2, .ref (oad (0, 0))), (3, .ref (oad (0, 1))), (5, .int (nI k)), (6, .int (nI i)), (7, .int (nI w9)), (8, .int (nI x9)), (9, .int (nI (nAn σ)))]) X.ex X.co dL_law_1175 hl (by decide) rfl (fun ls hl => ?_)
    refine lv_iload X.ex X.co dL_law_1177 (lv_at hl 0 rfl) ?_
    refine lv_iload X.ex X.co dL_law_1179 (lv_at hl 1 rfl) ?_
    refine lv_bipush (v := 45) X.ex X.co dL_law_1181 (by decide) ?_
    refine lv_icmp_eq (tgt := 1192) X.ex X.co dL_law_1183 (by decide) (fun c_7 => ?_) (fun c_7 => ?_)
    · refine lv_iload X.ex X.co dL_law_1192 (lv_at hl 11 rfl) ?_
      refine lv_bipush (v := 100) X.ex X.co dL_law_1194 (by decide) ?_
      refine n_cmp_ne X (x := nAn σ) (y := 100) (tgt := 1205) (by omega) (by omega) dL_law_1196 (by decide) (fun c_8 => ?_) (fun c_8 => ?_)
      · exact absurd c_8 (by omega)
      · refine lv_sipush (v := (-2003)) X.ex X.co dL_law_1199 (by decide) ?_
        refine lv_goto (tgt := 1207) X.ex X.co dL_law_1202 (by decide) ?_
        refine lv_icmp_ne (tgt := 1262) X.ex X.co dL_law_1207 (by decide) (fun c_9 => ?_) (fun c_9 => ?_)
        · exact absurd (by decide) c_9
        · refine lv_iload X.ex X.co dL_law_1210 (lv_at hl 0 rfl) ?_
          refine lv_if_lt (tgt := 1258) X.ex X.co dL_law_1212 (by decide) (fun c_10 => ?_) (fun c_10 => ?_)
          · refine lv_iconst (v := 1) X.ex X.co dL_law_1258 (by decide) ?_
            refine lv_goto (tgt := 1263) X.ex X.co dL_law_1259 (by decide) ?_
            refine lv_istore (lv' := [(4, .int 1), (12, .int (-2003)), (11, .int (whyS σ p_1 x9)), (10, .int (nI p_1)), (0, .ref sx), (1, .ref b), (2, .ref (oad (0, 0))), (3, .ref (oad (0, 1))), (5, .int (nI k)), (6, .int (nI i)), (7, .int (nI w9)), (8, .int (nI x9)), (9, .int (nI (nAn σ)))]) X.ex X.co dL_law_1263 hl (by decide) rfl (fun ls hl => ?_)
            exact kk d σ H locs ls _ _ W0 hwf (by unfold LZ; omega) hS (lv_sub hl [4, 5, 6, 7, 0, 8] rfl) (by omega) (by omega)
          · exact absurd (by decide) c_10
    · exact absurd hw c_7
  · have hq9 : cEq τ σ := ⟨g1, g2, g3, g4, g5, g6, fun z _ h => by rw [g7]; exact h⟩
    obtain ⟨q1, q2, q3, -, -, -, -⟩ := id hq9
    have hz9 := bestS_b hbest
    refine k_call (n := 6) X mn_16 m_0 mn_15 ⟨by decide, by decide, by decide +kernel⟩ (by decide) mn_14 (c_L_deed_5 l hst G A hAg b σ W0.1.1.1.1 W0.1.1.1.2 W0.1.1.2 (nI p_1) (nI x9) (nI p_2 - 2) (nI p_3)) (g0.step hS hA2) W0 hdis hs9 hL9 hv (by omega) rfl hl.1 rfl (Nat.le_of_ble_eq_true rfl) dL_law_1172 (by omega) (by omega) hS (fun q h => Or.inl h) (fun H locs W0 hz hk9 hS => ?_)
    refine lv_istore (lv' := [(12, .int (nI (nAn σ))), (11, .int (whyS σ p_1 x9)), (10, .int (nI p_1)), (0, .ref sx), (1, .ref b), (2, .ref (oad (0, 0))), (3, .ref (oad (0, 1))), (5, .int (nI k)), (6, .int (nI i)), (7, .int (nI w9)), (8, .int (nI x9)), (9, .int (nI (nAn σ)))]) X.ex X.co dL_law_1175 hl (by decide) rfl (fun ls hl => ?_)
    refine lv_iload X.ex X.co dL_law_1177 (lv_at hl 0 rfl) ?_
    refine lv_iload X.ex X.co dL_law_1179 (lv_at hl 1 rfl) ?_
    refine lv_bipush (v := 45) X.ex X.co dL_law_1181 (by decide) ?_
    refine lv_icmp_eq (tgt := 1192) X.ex X.co dL_law_1183 (by decide) (fun c_11 => ?_) (fun c_11 => ?_)
    · refine lv_iload X.ex X.co dL_law_1192 (lv_at hl 11 rfl) ?_
      refine lv_bipush (v := 100) X.ex X.co dL_law_1194 (by decide) ?_
      refine n_cmp_ne X (x := nAn σ) (y := 100) (tgt := 1205) (by omega) (by omega) dL_law_1196 (by decide) (fun c_12 => ?_) (fun c_12 => ?_)
      · refine lv_iload X.ex X.co dL_law_1205 (lv_at hl 11 rfl) ?_
        refine n_cmp_ne X (x := nAn σ) (y := nAn σ) (tgt := 1262) (by omega) (by omega) dL_law_1207 (by decide) (fun c_13 => ?_) (fun c_13 => ?_)
        · exact absurd rfl c_13
        · refine lv_iload X.ex X.co dL_law_1210 (lv_at hl 0 rfl) ?_
          refine n_if_lt X (x := nAn σ) (tgt := 1258) (by omega) dL_law_1212 (by decide) (fun c_14 => ?_) (fun c_14 => ?_)
          · exact c_14.elim
          · refine lv_aload_n X.ex X.co dL_law_1215 rfl (lv_at hl 4 rfl) ?_
            refine lv_bipush (v := 6) X.ex X.co dL_law_1216 (by decide) ?_
            refine lv_iload X.ex X.co dL_law_1218 (lv_at hl 11 rfl) ?_
            refine lv_iconst (v := 0) X.ex X.co dL_law_1220 (by decide) ?_
            refine k_call (n := 4) X mn_40 m_0 mn_39 ⟨by decide, by decide, by decide +kernel⟩ (by decide) mn_38 (c_L_ask_6 l hst G A hAg b τ W0.1.1.1.1 W0.1.1.1.2 W0.1.1.2 (nI (nAn σ)) 0) (g0.step hS hA2) W0 hdis (lsq_st W0.1.1.2 _) W0.1 ((q_st W0.1 (show nAn σ < nAn τ by omega)).trans (by rw [hst9])) (by omega) rfl hl.1 rfl (Nat.le_of_ble_eq_true rfl) dL_law_1221 (by omega) (by omega) hS (fun q h => Or.inl h) (fun H locs W0 hz hk9 hS => ?_)
            refine lv_iload X.ex X.co dL_law_1224 (lv_at hl 2 rfl) ?_
            refine n_cmp_ne X (x := p_1) (y := p_1) (tgt := 1262) (by omega) (by omega) dL_law_1226 (by decide) (fun c_15 => ?_) (fun c_15 => ?_)
            · exact absurd rfl c_15
            · refine lv_aload_n X.ex X.co dL_law_1229 rfl (lv_at hl 4 rfl) ?_
              refine lv_bipush (v := 7) X.ex X.co dL_law_1230 (by decide) ?_
              refine lv_iload X.ex X.co dL_law_1232 (lv_at hl 11 rfl) ?_
              refine lv_iconst (v := 0) X.ex X.co dL_law_1234 (by decide) ?_
              refine k_call (n := 4) X mn_40 m_0 mn_39 ⟨by decide, by decide, by decide +kernel⟩ (by decide) mn_38 (c_L_ask_7 l hst G A hAg b τ W0.1.1.1.1 W0.1.1.1.2 W0.1.1.2 (nI (nAn σ)) 0) (g0.step hS hA2) W0 hdis (lsq_da W0.1.1.2 _) W0.1 (((q_da W0.1 (show nAn σ < nAn τ by omega)).trans h24).trans W0.1.2.2.1) (by omega) rfl hl.1 rfl (Nat.le_of_ble_eq_true rfl) dL_law_1235 (by omega) (by omega) hS (fun q h => Or.inl h) (fun H locs W0 hz hk9 hS => ?_)
              refine lv_aload_n X.ex X.co dL_law_1238 rfl (lv_at hl 4 rfl) ?_
              refine k_cnt X ce_X9_today mn_4 (c_X9_today l G A hAg b τ W0.1.1.1.1 W0.1.1.1.2 W0.1.1.2) (g0.step hS hA2) W0 hdis (r := fToday τ) rfl (v := nI d) W0.1.2.2.1 rfl (by omega) rfl hl.1 rfl (Nat.le_of_ble_eq_true rfl) dL_law_1239 (by omega) (by omega) hS (fun q h => Or.inl h) (fun H locs W0 hz hk9 hS => ?_)
              refine n_cmp_ne X (x := d) (y := d) (tgt := 1262) (by omega) (by omega) dL_law_1242 (by decide) (fun c_16 => ?_) (fun c_16 => ?_)
              · exact absurd rfl c_16
              · refine lv_aload_n X.ex X.co dL_law_1245 rfl (lv_at hl 4 rfl) ?_
                refine lv_bipush (v := 8) X.ex X.co dL_law_1246 (by decide) ?_
                refine lv_iload X.ex X.co dL_law_1248 (lv_at hl 2 rfl) ?_
                refine lv_iload X.ex X.co dL_law_1250 (lv_at hl 10 rfl) ?_
                refine k_call (n := 4) X mn_40 m_0 mn_39 ⟨by decide, by decide, by decide +kernel⟩ (by decide) mn_38 (c_L_ask_8 l hst G A hAg b τ W0.1.1.1.1 W0.1.1.1.2 W0.1.1.2 (nI p_1) (nI x9)) (g0.step hS hA2) W0 hdis (lsq_be W0.1.1.2 _ _) W0.1 (q_be1 W0.1 (show p_1 < nSt τ by omega) (show x9 < nEx τ by have := hx9 (by omega); omega) hbest) (by omega) rfl hl.1 rfl (Nat.le_of_ble_eq_true rfl) dL_law_1252 (by omega) (by omega) hS (fun q h => Or.inl h) (fun H locs W0 hz hk9 hS => ?_)
                refine n_if_lt X (x := z) (tgt := 1262) (by omega) dL_law_1255 (by decide) (fun c_17 => ?_) (fun c_17 => ?_)
                · exact c_17.elim
                · refine lv_iconst (v := 1) X.ex X.co dL_law_1258 (by decide) ?_
                  refine lv_goto (tgt := 1263) X.ex X.co dL_law_1259 (by decide) ?_
                  refine lv_istore (lv' := [(4, .int 1), (12, .int (nI (nAn σ))), (11, .int (whyS σ p_1 x9)), (10, .int (nI p_1)), (0, .ref sx), (1, .ref b), (2, .ref (oad (0, 0))), (3, .ref (oad (0, 1))), (5, .int (nI k)), (6, .int (nI i)), (7, .int (nI w9)), (8, .int (nI x9)), (9, .int (nI (nAn σ)))]) X.ex X.co dL_law_1263 hl (by decide) rfl (fun ls hl => ?_)
                  rw [← hq9.mr] at W0
                  exact kk d τ H locs ls _ _ W0 (hq9.wf hwf) (by unfold LZ; omega) hS (lv_sub hl [4, 5, 6, 7, 0, 8] rfl) (by omega) (by omega)
      · exact absurd c_12 (by omega)
    · exact absurd hw c_11
end BRANCHES
