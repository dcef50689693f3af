/-! ===== the law's loop ===== -/
section LOOP
variable {p : Program} {l : Launch} {e : Env} {hR rc rs : Nat} {s : State} {m : MethodId} {args : Array Value} {below : List Frame} {meth : Method} {c : Code} {H : Heap} {locs : List Loc} {cells slots : Nat} {Q : State → Prop}
variable {G : GT} {A AO : Nat → Prop} {b d : Nat} {σ : Sg} {oad : I2 → Nat} {wf : Nat → Int32} {ls : Array Slot}
variable {sx L k i x9 w9 : Nat} {xs : Nat → Int32}
set_option maxHeartbeats 4000000 in
set_option maxRecDepth 100000 in
theorem law_loop (hst : l.stackTraces = false) (hAg : ∀ q, A q → gA G q) (hA2 : ∀ q, (fun q => A q ∨ AO q) q → gA G q) (hdis : ∀ q, A q → ¬ AO q) (X : CF p s m args meth c cL_law 13 "CourseForgeLaw" (some .boolean)) (g0 : GG G s s.heap) (hX : va_X sx L xs s s.heap) (hxl : sx < s.heap.size) (hxA : ¬ (fun q => A q ∨ AO q) sx) (hL : L ≤ 2560) (hR9 : 20 ≤ hR) (c0 s0 : Nat) (hrc : c0 + 100000 ≤ rc) (hrs : s0 + 2700000 ≤ rs) (kend : ∀ (d : Nat) (σ : Sg) (wf : Nat → Int32) (H : Heap) (locs : List Loc) (ls : Array Slot) (cells slots : Nat), LW G A AO b d σ oad (mR σ) wf H → va_S (fun q => A q ∨ AO q) s.heap H locs → lv_has ls 13 [(0, .ref sx), (1, .ref b), (2, .ref (oad (0, 0))), (3, .ref (oad (0, 1))), (4, .int 1)] → cells ≤ c0 + 100000 → slots ≤ s0 + 2700000 → W p l e (RM hR rc rs) s m args below meth c H locs cells slots Q (F0 m 1318 ls [])) :
    ∀ (n k : Nat), k + n = 80 → ∀ (d : Nat) (σ : Sg) (wf : Nat → Int32) (H : Heap) (locs : List Loc) (ls : Array Slot) (cells slots : Nat), LW G A AO b d σ oad (mR σ) wf H → WF σ wf → LZ k d σ → va_S (fun q => A q ∨ AO q) s.heap H locs → lv_has ls 13 [(0, .ref sx), (1, .ref b), (2, .ref (oad (0, 0))), (3, .ref (oad (0, 1))), (4, .int 1), (5, .int (nI k))] → cells ≤ c0 + 700 * k + 4800 * (k / 9) → slots ≤ s0 + 6000 * k + 246000 * (k / 9) → W p l e (RM hR rc rs) s m args below meth c H locs cells slots Q (F0 m 138 ls []) := by
  intro n
  induction n with
  | zero =>
    intro k ha d σ wf H locs ls cells slots W0 hwf hz hS hl hc hs
    refine lv_iload X.ex X.co dL_law_138 (lv_at hl 5 rfl) ?_
    refine lv_bipush (v := 80) X.ex X.co dL_law_140 (by decide) ?_
    refine n_cmp_ge X (x := k) (y := 80) (tgt := 1318) (by omega) (by omega) dL_law_142 (by decide) (fun c_1 => ?_) (fun c_1 => ?_)
    · exact kend d σ wf H locs ls _ _ W0 hS (lv_sub hl [0, 1, 2, 3, 4] rfl) (by omega) (by omega)
    · exact absurd c_1 (by omega)
  | succ n ih =>
    intro k ha d σ wf H locs ls cells slots W0 hwf hz hS hl hc hs
    have KK : ∀ (d2 : Nat) (τ : Sg) (H : Heap) (locs : List Loc) (ls : Array Slot) (cells1 slots1 : Nat), LW G A AO b d2 τ oad (mR τ) wf H → WF τ wf → LZ (k + 1) d2 τ → va_S (fun q => A q ∨ AO q) s.heap H locs → lv_has ls 13 [(0, .ref sx), (1, .ref b), (2, .ref (oad (0, 0))), (3, .ref (oad (0, 1))), (4, .int 1), (5, .int (nI k))] → cells1 ≤ cells + 700 → slots1 ≤ slots + 6000 → W p l e (RM hR rc rs) s m args below meth c H locs cells1 slots1 Q (F0 m 1265 ls []) := by
      intro d2 τ H locs ls cells1 slots1 W0 hwf hz hS hl hc1 hs1
      have hd2 := hz.2.2.1
      refine lv_iload X.ex X.co dL_law_1265 (lv_at hl 4 rfl) ?_
      refine lv_if_eq (tgt := 1309) X.ex X.co dL_law_1267 (by decide) (fun c_1 => ?_) (fun c_1 => ?_)
      · exact absurd c_1 (by decide)
      · refine lv_iload X.ex X.co dL_law_1270 (lv_at hl 5 rfl) ?_
        refine lv_bipush (v := 9) X.ex X.co dL_law_1272 (by decide) ?_
        refine n_rem X (x := k) (y := 9) (by omega) (by omega) (by omega) dL_law_1274 ?_
        refine lv_bipush (v := 8) X.ex X.co dL_law_1275 (by decide) ?_
        refine n_cmp_ne X (x := k % 9) (y := 8) (tgt := 1305) (by omega) (by omega) dL_law_1277 (by decide) (fun c_2 => ?_) (fun c_2 => ?_)
        · refine lv_iconst (v := 1) X.ex X.co dL_law_1305 (by decide) ?_
          refine lv_goto (tgt := 1310) X.ex X.co dL_law_1306 (by decide) ?_
          refine lv_istore (lv' := [(4, .int 1), (0, .ref sx), (1, .ref b), (2, .ref (oad (0, 0))), (3, .ref (oad (0, 1))), (5, .int (nI k))]) X.ex X.co dL_law_1310 hl (by decide) rfl (fun ls hl => ?_)
          refine lv_iinc (v := nI (k + 1)) (lv' := [(5, .int (nI (k + 1))), (4, .int 1), (0, .ref sx), (1, .ref b), (2, .ref (oad (0, 0))), (3, .ref (oad (0, 1)))]) X.ex X.co dL_law_1312 hl (k := 5) rfl (n_inc _) (by decide) rfl (fun ls hl => ?_)
          refine lv_goto (tgt := 138) X.ex X.co dL_law_1315 (by decide) ?_
          exact ih (k + 1) (by omega) d2 τ wf H locs ls _ _ W0 hwf hz hS (lv_sub hl [2, 3, 4, 5, 1, 0] rfl) (by omega) (by omega)
        · refine lv_aload_n X.ex X.co dL_law_1280 rfl (lv_at hl 1 rfl) ?_
          refine lv_aload_n X.ex X.co dL_law_1281 rfl (lv_at hl 2 rfl) ?_
          refine q_cS X ce_L_areGrades mn_64 (c_L_areGrades l hst G A AO hAg hdis b d2 τ oad wf (by omega)) (g0.step hS hA2) W0 (by omega) rfl hl.1 rfl (Nat.le_of_ble_eq_true rfl) dL_law_1282 (by omega) (by omega) hS (fun q h => Or.inl h) (fun v0 H locs hB hz9 hk9 hS => ?_)
          obtain ⟨rfl, τ1, hq1, W0⟩ := hB
          rw [← hq1.mr] at W0
          have hwf : WF τ1 wf := fun c hc => by
            obtain ⟨q1, q2⟩ := hwf c hc
            exact ⟨by rw [show nCe τ1 = nCe τ from hq1.c (by decide)]; exact q1, by rw [hq1.2 41 (by decide)]; exact q2⟩
          have hz : LZ (k + 1) d2 τ1 := by
            unfold LZ
            rw [show nSt τ1 = nSt τ from hq1.c (by decide), show nLe τ1 = nLe τ from hq1.c (by decide), show nEx τ1 = nEx τ from hq1.c (by decide)]
            exact hz
          refine lv_if_eq (tgt := 1309) X.ex X.co dL_law_1285 (by decide) (fun c_3 => ?_) (fun c_3 => ?_)
          · exact absurd c_3 (by decide)
          · refine lv_aload_n X.ex X.co dL_law_1288 rfl (lv_at hl 1 rfl) ?_
            refine lv_aload_n X.ex X.co dL_law_1289 rfl (lv_at hl 2 rfl) ?_
            refine q_cS X ce_L_areMasteries mn_68 (c_L_areMasteries l hst G A AO hAg hdis b d2 τ1 oad wf (by omega)) (g0.step hS hA2) W0 (by omega) rfl hl.1 rfl (Nat.le_of_ble_eq_true rfl) dL_law_1290 (by omega) (by omega) hS (fun q h => Or.inl h) (fun v0 H locs hB hz9 hk9 hS => ?_)
            obtain ⟨rfl, W0⟩ := hB
            refine lv_if_eq (tgt := 1309) X.ex X.co dL_law_1293 (by decide) (fun c_4 => ?_) (fun c_4 => ?_)
            · exact absurd c_4 (by decide)
            · refine lv_aload_n X.ex X.co dL_law_1296 rfl (lv_at hl 1 rfl) ?_
              refine lv_aload_n X.ex X.co dL_law_1297 rfl (lv_at hl 2 rfl) ?_
              refine lv_aload_n X.ex X.co dL_law_1298 rfl (lv_at hl 3 rfl) ?_
              refine q_cS X ce_L_areCertificates mn_71 (c_L_areCertificates l hst G A AO hAg hA2 hdis b d2 τ1 oad wf (by omega)) (g0.step hS hA2) ⟨W0, hwf⟩ (by omega) rfl hl.1 rfl (Nat.le_of_ble_eq_true rfl) dL_law_1299 (by omega) (by omega) hS (fun q h => h) (fun v0 H locs hB hz9 hk9 hS => ?_)
              obtain ⟨rfl, wf, W0, hwf⟩ := hB
              refine lv_if_eq (tgt := 1309) X.ex X.co dL_law_1302 (by decide) (fun c_5 => ?_) (fun c_5 => ?_)
              · exact absurd c_5 (by decide)
              · refine lv_iconst (v := 1) X.ex X.co dL_law_1305 (by decide) ?_
                refine lv_goto (tgt := 1310) X.ex X.co dL_law_1306 (by decide) ?_
                refine lv_istore (lv' := [(4, .int 1), (0, .ref sx), (1, .ref b), (2, .ref (oad (0, 0))), (3, .ref (oad (0, 1))), (5, .int (nI k))]) X.ex X.co dL_law_1310 hl (by decide) rfl (fun ls hl => ?_)
                refine lv_iinc (v := nI (k + 1)) (lv' := [(5, .int (nI (k + 1))), (4, .int 1), (0, .ref sx), (1, .ref b), (2, .ref (oad (0, 0))), (3, .ref (oad (0, 1)))]) X.ex X.co dL_law_1312 hl (k := 5) rfl (n_inc _) (by decide) rfl (fun ls hl => ?_)
                refine lv_goto (tgt := 138) X.ex X.co dL_law_1315 (by decide) ?_
                exact ih (k + 1) (by omega) d2 τ1 wf H locs ls _ _ W0 hwf hz hS (lv_sub hl [2, 3, 4, 5, 1, 0] rfl) (by omega) (by omega)
    have hb := W0.1.1.1.1.1.1
    have hz0 := hz
    obtain ⟨z1, z2, z3, z4, z5⟩ := hz
    refine lv_iload X.ex X.co dL_law_138 (lv_at hl 5 rfl) ?_
    refine lv_bipush (v := 80) X.ex X.co dL_law_140 (by decide) ?_
    refine n_cmp_ge X (x := k) (y := 80) (tgt := 1318) (by omega) (by omega) dL_law_142 (by decide) (fun c_1 => ?_) (fun c_1 => ?_)
    · exact absurd c_1 (by omega)
    · refine lv_iload X.ex X.co dL_law_145 (lv_at hl 4 rfl) ?_
      refine lv_if_eq (tgt := 1318) X.ex X.co dL_law_147 (by decide) (fun c_2 => ?_) (fun c_2 => ?_)
      · exact absurd c_2 (by decide)
      · refine lv_bipush (v := 20) X.ex X.co dL_law_150 (by decide) ?_
        refine lv_bipush (v := 8) X.ex X.co dL_law_152 (by decide) ?_
        refine lv_iload X.ex X.co dL_law_154 (lv_at hl 5 rfl) ?_
        refine n_mul X (x := 8) (y := k) dL_law_156 ?_
        refine n_add X (x := 20) (y := 8 * k) dL_law_157 ?_
        refine lv_istore (lv' := [(6, .int (nI (20 + (8 * k)))), (0, .ref sx), (1, .ref b), (2, .ref (oad (0, 0))), (3, .ref (oad (0, 1))), (4, .int 1), (5, .int (nI k))]) X.ex X.co dL_law_158 hl (by decide) rfl (fun ls hl => ?_)
        have hph : k < 3 ∨ (3 ≤ k ∧ k < 7) ∨ (7 ≤ k ∧ k < 14) ∨ 14 ≤ k := by omega
        rcases hph with hph | hph | hph | hph
        · refine lv_iload X.ex X.co dL_law_160 (lv_at hl 6 rfl) ?_
          refine lv_iconst (v := 3) X.ex X.co dL_law_162 (by decide) ?_
          refine n_cmp_ge X (x := k) (y := 3) (tgt := 170) (by omega) (by omega) dL_law_163 (by decide) (fun c_3 => ?_) (fun c_3 => ?_)
          · exact absurd c_3 (by omega)
          · refine lv_iconst (v := 2) X.ex X.co dL_law_166 (by decide) ?_
            refine lv_goto (tgt := 200) X.ex X.co dL_law_167 (by decide) ?_
            refine lv_istore (lv' := [(7, .int 2), (6, .int (nI (20 + (8 * k)))), (0, .ref sx), (1, .ref b), (2, .ref (oad (0, 0))), (3, .ref (oad (0, 1))), (4, .int 1), (5, .int (nI k))]) X.ex X.co dL_law_200 hl (by decide) rfl (fun ls hl => ?_)
            refine lv_aload_n X.ex X.co dL_law_202 rfl (lv_at hl 4 rfl) ?_
            refine lv_iconst (v := 3) X.ex X.co dL_law_203 (by decide) ?_
            refine k_ml X g0.1 W0.2.2.2 3 (by omega) (mR_3 σ) dL_law_204 ?_
            refine n_if_ne X (x := nEx σ) (tgt := 212) (by omega) dL_law_205 (by decide) (fun c_4 => ?_) (fun c_4 => ?_)
            · refine lv_aload_n X.ex X.co dL_law_212 rfl (lv_at hl 2 rfl) ?_
              refine lv_iload X.ex X.co dL_law_213 (lv_at hl 1 rfl) ?_
              refine lv_iconst (v := 1) X.ex X.co dL_law_215 (by decide) ?_
              refine n_add X (x := 20 + (8 * k)) (y := 1) dL_law_216 ?_
              refine lv_aload_n X.ex X.co dL_law_217 rfl (lv_at hl 4 rfl) ?_
              refine lv_iconst (v := 3) X.ex X.co dL_law_218 (by decide) ?_
              refine k_ml X g0.1 W0.2.2.2 3 (by omega) (mR_3 σ) dL_law_219 ?_
              refine k_pick X hX hxl hxA g0 hA2 hS hL (i := (20 + (8 * k)) + 1) (by omega) (k := nEx σ) (by omega) (by omega) (by omega) hl.1 (Nat.le_of_ble_eq_true rfl) dL_law_220 (by omega) (by omega) (fun p_5 hp_5 => ?_)
              refine lv_istore (lv' := [(8, .int (nI p_5)), (7, .int 2), (6, .int (nI (20 + (8 * k)))), (0, .ref sx), (1, .ref b), (2, .ref (oad (0, 0))), (3, .ref (oad (0, 1))), (4, .int 1), (5, .int (nI k))]) X.ex X.co dL_law_223 hl (by decide) rfl (fun ls hl => ?_)
              refine lv_aload_n X.ex X.co dL_law_225 rfl (lv_at hl 4 rfl) ?_
              refine k_cnt X ce_X9_answerCount mn_2 (c_X9_answerCount l G A hAg b σ W0.1.1.1.1 W0.1.1.1.2 W0.1.1.2) (g0.step hS hA2) W0 hdis (r := fAnswerCount σ) rfl (v := nI (nAn σ)) rfl rfl (by omega) rfl hl.1 rfl (Nat.le_of_ble_eq_true rfl) dL_law_226 (by omega) (by omega) hS (fun q h => Or.inl h) (fun H locs W0 hz hk9 hS => ?_)
              refine lv_istore (lv' := [(9, .int (nI (nAn σ))), (8, .int (nI p_5)), (7, .int 2), (6, .int (nI (20 + (8 * k)))), (0, .ref sx), (1, .ref b), (2, .ref (oad (0, 0))), (3, .ref (oad (0, 1))), (4, .int 1), (5, .int (nI k))]) X.ex X.co dL_law_229 hl (by decide) rfl (fun ls hl => ?_)
              refine lv_iload X.ex X.co dL_law_231 (lv_at hl 2 rfl) ?_
              refine lv_iconst (v := 2) X.ex X.co dL_law_233 (by decide) ?_
              refine lv_icmp_ne (tgt := 309) X.ex X.co dL_law_234 (by decide) (fun c_6 => ?_) (fun c_6 => ?_)
              · exact absurd (by decide) c_6
              · exact lb_2 (w9 := 2) (x9 := p_5) (i := 20 + (8 * k)) hst hAg hA2 hdis X g0 hX hxl hxA hL hR9 (by omega) (by omega) hz0 (by omega) (fun h7 => by omega) W0 hwf hS (lv_sub hl [4, 5, 6, 7, 9, 3, 2, 1, 0] rfl) (by omega) (by omega) (fun d2 τ H locs ls c1 s1 a1 a2 a3 a4 a5 a6 a7 => KK d2 τ H locs ls c1 s1 a1 a2 a3 a4 a5 (by omega) (by omega))
            · refine lv_iconst (v := 0) X.ex X.co dL_law_208 (by decide) ?_
              refine lv_goto (tgt := 223) X.ex X.co dL_law_209 (by decide) ?_
              refine lv_istore (lv' := [(8, .int 0), (7, .int 2), (6, .int (nI (20 + (8 * k)))), (0, .ref sx), (1, .ref b), (2, .ref (oad (0, 0))), (3, .ref (oad (0, 1))), (4, .int 1), (5, .int (nI k))]) X.ex X.co dL_law_223 hl (by decide) rfl (fun ls hl => ?_)
              refine lv_aload_n X.ex X.co dL_law_225 rfl (lv_at hl 4 rfl) ?_
              refine k_cnt X ce_X9_answerCount mn_2 (c_X9_answerCount l G A hAg b σ W0.1.1.1.1 W0.1.1.1.2 W0.1.1.2) (g0.step hS hA2) W0 hdis (r := fAnswerCount σ) rfl (v := nI (nAn σ)) rfl rfl (by omega) rfl hl.1 rfl (Nat.le_of_ble_eq_true rfl) dL_law_226 (by omega) (by omega) hS (fun q h => Or.inl h) (fun H locs W0 hz hk9 hS => ?_)
              refine lv_istore (lv' := [(9, .int (nI (nAn σ))), (8, .int 0), (7, .int 2), (6, .int (nI (20 + (8 * k)))), (0, .ref sx), (1, .ref b), (2, .ref (oad (0, 0))), (3, .ref (oad (0, 1))), (4, .int 1), (5, .int (nI k))]) X.ex X.co dL_law_229 hl (by decide) rfl (fun ls hl => ?_)
              refine lv_iload X.ex X.co dL_law_231 (lv_at hl 2 rfl) ?_
              refine lv_iconst (v := 2) X.ex X.co dL_law_233 (by decide) ?_
              refine lv_icmp_ne (tgt := 309) X.ex X.co dL_law_234 (by decide) (fun c_7 => ?_) (fun c_7 => ?_)
              · exact absurd (by decide) c_7
              · exact lb_2 (w9 := 2) (x9 := 0) (i := 20 + (8 * k)) hst hAg hA2 hdis X g0 hX hxl hxA hL hR9 (by omega) (by omega) hz0 (by omega) (fun h7 => by omega) W0 hwf hS (lv_sub hl [4, 5, 6, 7, 9, 3, 2, 1, 0] rfl) (by omega) (by omega) (fun d2 τ H locs ls c1 s1 a1 a2 a3 a4 a5 a6 a7 => KK d2 τ H locs ls c1 s1 a1 a2 a3 a4 a5 (by omega) (by omega))
        · refine lv_iload X.ex X.co dL_law_160 (lv_at hl 6 rfl) ?_
          refine lv_iconst (v := 3) X.ex X.co dL_law_162 (by decide) ?_
          refine n_cmp_ge X (x := k) (y := 3) (tgt := 170) (by omega) (by omega) dL_law_163 (by decide) (fun c_8 => ?_) (fun c_8 => ?_)
          · refine lv_iload X.ex X.co dL_law_170 (lv_at hl 6 rfl) ?_
            refine lv_bipush (v := 7) X.ex X.co dL_law_172 (by decide) ?_
            refine n_cmp_ge X (x := k) (y := 7) (tgt := 181) (by omega) (by omega) dL_law_174 (by decide) (fun c_9 => ?_) (fun c_9 => ?_)
            · exact absurd c_9 (by omega)
            · refine lv_iconst (v := 3) X.ex X.co dL_law_177 (by decide) ?_
              refine lv_goto (tgt := 200) X.ex X.co dL_law_178 (by decide) ?_
              refine lv_istore (lv' := [(7, .int 3), (6, .int (nI (20 + (8 * k)))), (0, .ref sx), (1, .ref b), (2, .ref (oad (0, 0))), (3, .ref (oad (0, 1))), (4, .int 1), (5, .int (nI k))]) X.ex X.co dL_law_200 hl (by decide) rfl (fun ls hl => ?_)
              refine lv_aload_n X.ex X.co dL_law_202 rfl (lv_at hl 4 rfl) ?_
              refine lv_iconst (v := 3) X.ex X.co dL_law_203 (by decide) ?_
              refine k_ml X g0.1 W0.2.2.2 3 (by omega) (mR_3 σ) dL_law_204 ?_
              refine n_if_ne X (x := nEx σ) (tgt := 212) (by omega) dL_law_205 (by decide) (fun c_10 => ?_) (fun c_10 => ?_)
              · refine lv_aload_n X.ex X.co dL_law_212 rfl (lv_at hl 2 rfl) ?_
                refine lv_iload X.ex X.co dL_law_213 (lv_at hl 1 rfl) ?_
                refine lv_iconst (v := 1) X.ex X.co dL_law_215 (by decide) ?_
                refine n_add X (x := 20 + (8 * k)) (y := 1) dL_law_216 ?_
                refine lv_aload_n X.ex X.co dL_law_217 rfl (lv_at hl 4 rfl) ?_
                refine lv_iconst (v := 3) X.ex X.co dL_law_218 (by decide) ?_
                refine k_ml X g0.1 W0.2.2.2 3 (by omega) (mR_3 σ) dL_law_219 ?_
                refine k_pick X hX hxl hxA g0 hA2 hS hL (i := (20 + (8 * k)) + 1) (by omega) (k := nEx σ) (by omega) (by omega) (by omega) hl.1 (Nat.le_of_ble_eq_true rfl) dL_law_220 (by omega) (by omega) (fun p_11 hp_11 => ?_)
                refine lv_istore (lv' := [(8, .int (nI p_11)), (7, .int 3), (6, .int (nI (20 + (8 * k)))), (0, .ref sx), (1, .ref b), (2, .ref (oad (0, 0))), (3, .ref (oad (0, 1))), (4, .int 1), (5, .int (nI k))]) X.ex X.co dL_law_223 hl (by decide) rfl (fun ls hl => ?_)
                refine lv_aload_n X.ex X.co dL_law_225 rfl (lv_at hl 4 rfl) ?_
                refine k_cnt X ce_X9_answerCount mn_2 (c_X9_answerCount l G A hAg b σ W0.1.1.1.1 W0.1.1.1.2 W0.1.1.2) (g0.step hS hA2) W0 hdis (r := fAnswerCount σ) rfl (v := nI (nAn σ)) rfl rfl (by omega) rfl hl.1 rfl (Nat.le_of_ble_eq_true rfl) dL_law_226 (by omega) (by omega) hS (fun q h => Or.inl h) (fun H locs W0 hz hk9 hS => ?_)
                refine lv_istore (lv' := [(9, .int (nI (nAn σ))), (8, .int (nI p_11)), (7, .int 3), (6, .int (nI (20 + (8 * k)))), (0, .ref sx), (1, .ref b), (2, .ref (oad (0, 0))), (3, .ref (oad (0, 1))), (4, .int 1), (5, .int (nI k))]) X.ex X.co dL_law_229 hl (by decide) rfl (fun ls hl => ?_)
                refine lv_iload X.ex X.co dL_law_231 (lv_at hl 2 rfl) ?_
                refine lv_iconst (v := 2) X.ex X.co dL_law_233 (by decide) ?_
                refine lv_icmp_ne (tgt := 309) X.ex X.co dL_law_234 (by decide) (fun c_12 => ?_) (fun c_12 => ?_)
                · refine lv_iload X.ex X.co dL_law_309 (lv_at hl 2 rfl) ?_
                  refine lv_iconst (v := 3) X.ex X.co dL_law_311 (by decide) ?_
                  refine lv_icmp_ne (tgt := 420) X.ex X.co dL_law_312 (by decide) (fun c_13 => ?_) (fun c_13 => ?_)
                  · exact absurd (by decide) c_13
                  · exact lb_3 (w9 := 3) (x9 := p_11) (i := 20 + (8 * k)) hst hAg hA2 hdis X g0 hX hxl hxA hL hR9 (by omega) (by omega) hz0 (by omega) (fun h7 => by omega) W0 hwf hS (lv_sub hl [4, 5, 6, 7, 9, 3, 2, 1, 0] rfl) (by omega) (by omega) (fun d2 τ H locs ls c1 s1 a1 a2 a3 a4 a5 a6 a7 => KK d2 τ H locs ls c1 s1 a1 a2 a3 a4 a5 (by omega) (by omega))
                · exact absurd c_12 (by decide)
              · refine lv_iconst (v := 0) X.ex X.co dL_law_208 (by decide) ?_
                refine lv_goto (tgt := 223) X.ex X.co dL_law_209 (by decide) ?_
                refine lv_istore (lv' := [(8, .int 0), (7, .int 3), (6, .int (nI (20 + (8 * k)))), (0, .ref sx), (1, .ref b), (2, .ref (oad (0, 0))), (3, .ref (oad (0, 1))), (4, .int 1), (5, .int (nI k))]) X.ex X.co dL_law_223 hl (by decide) rfl (fun ls hl => ?_)
                refine lv_aload_n X.ex X.co dL_law_225 rfl (lv_at hl 4 rfl) ?_
                refine k_cnt X ce_X9_answerCount mn_2 (c_X9_answerCount l G A hAg b σ W0.1.1.1.1 W0.1.1.1.2 W0.1.1.2) (g0.step hS hA2) W0 hdis (r := fAnswerCount σ) rfl (v := nI (nAn σ)) rfl rfl (by omega) rfl hl.1 rfl (Nat.le_of_ble_eq_true rfl) dL_law_226 (by omega) (by omega) hS (fun q h => Or.inl h) (fun H locs W0 hz hk9 hS => ?_)
                refine lv_istore (lv' := [(9, .int (nI (nAn σ))), (8, .int 0), (7, .int 3), (6, .int (nI (20 + (8 * k)))), (0, .ref sx), (1, .ref b), (2, .ref (oad (0, 0))), (3, .ref (oad (0, 1))), (4, .int 1), (5, .int (nI k))]) X.ex X.co dL_law_229 hl (by decide) rfl (fun ls hl => ?_)
                refine lv_iload X.ex X.co dL_law_231 (lv_at hl 2 rfl) ?_
                refine lv_iconst (v := 2) X.ex X.co dL_law_233 (by decide) ?_
                refine lv_icmp_ne (tgt := 309) X.ex X.co dL_law_234 (by decide) (fun c_14 => ?_) (fun c_14 => ?_)
                · refine lv_iload X.ex X.co dL_law_309 (lv_at hl 2 rfl) ?_
                  refine lv_iconst (v := 3) X.ex X.co dL_law_311 (by decide) ?_
                  refine lv_icmp_ne (tgt := 420) X.ex X.co dL_law_312 (by decide) (fun c_15 => ?_) (fun c_15 => ?_)
                  · exact absurd (by decide) c_15
                  · exact lb_3 (w9 := 3) (x9 := 0) (i := 20 + (8 * k)) hst hAg hA2 hdis X g0 hX hxl hxA hL hR9 (by omega) (by omega) hz0 (by omega) (fun h7 => by omega) W0 hwf hS (lv_sub hl [4, 5, 6, 7, 9, 3, 2, 1, 0] rfl) (by omega) (by omega) (fun d2 τ H locs ls c1 s1 a1 a2 a3 a4 a5 a6 a7 => KK d2 τ H locs ls c1 s1 a1 a2 a3 a4 a5 (by omega) (by omega))
                · exact absurd c_14 (by decide)
          · exact absurd c_8 (by omega)
        · refine lv_iload X.ex X.co dL_law_160 (lv_at hl 6 rfl) ?_
          refine lv_iconst (v := 3) X.ex X.co dL_law_162 (by decide) ?_
          refine n_cmp_ge X (x := k) (y := 3) (tgt := 170) (by omega) (by omega) dL_law_163 (by decide) (fun c_16 => ?_) (fun c_16 => ?_)
          · refine lv_iload X.ex X.co dL_law_170 (lv_at hl 6 rfl) ?_
            refine lv_bipush (v := 7) X.ex X.co dL_law_172 (by decide) ?_
            refine n_cmp_ge X (x := k) (y := 7) (tgt := 181) (by omega) (by omega) dL_law_174 (by decide) (fun c_17 => ?_) (fun c_17 => ?_)
            · refine lv_iload X.ex X.co dL_law_181 (lv_at hl 6 rfl) ?_
              refine lv_bipush (v := 14) X.ex X.co dL_law_183 (by decide) ?_
              refine n_cmp_ge X (x := k) (y := 14) (tgt := 192) (by omega) (by omega) dL_law_185 (by decide) (fun c_18 => ?_) (fun c_18 => ?_)
              · exact absurd c_18 (by omega)
              · refine lv_iconst (v := 4) X.ex X.co dL_law_188 (by decide) ?_
                refine lv_goto (tgt := 200) X.ex X.co dL_law_189 (by decide) ?_
                refine lv_istore (lv' := [(7, .int 4), (6, .int (nI (20 + (8 * k)))), (0, .ref sx), (1, .ref b), (2, .ref (oad (0, 0))), (3, .ref (oad (0, 1))), (4, .int 1), (5, .int (nI k))]) X.ex X.co dL_law_200 hl (by decide) rfl (fun ls hl => ?_)
                refine lv_aload_n X.ex X.co dL_law_202 rfl (lv_at hl 4 rfl) ?_
                refine lv_iconst (v := 3) X.ex X.co dL_law_203 (by decide) ?_
                refine k_ml X g0.1 W0.2.2.2 3 (by omega) (mR_3 σ) dL_law_204 ?_
                refine n_if_ne X (x := nEx σ) (tgt := 212) (by omega) dL_law_205 (by decide) (fun c_19 => ?_) (fun c_19 => ?_)
                · refine lv_aload_n X.ex X.co dL_law_212 rfl (lv_at hl 2 rfl) ?_
                  refine lv_iload X.ex X.co dL_law_213 (lv_at hl 1 rfl) ?_
                  refine lv_iconst (v := 1) X.ex X.co dL_law_215 (by decide) ?_
                  refine n_add X (x := 20 + (8 * k)) (y := 1) dL_law_216 ?_
                  refine lv_aload_n X.ex X.co dL_law_217 rfl (lv_at hl 4 rfl) ?_
                  refine lv_iconst (v := 3) X.ex X.co dL_law_218 (by decide) ?_
                  refine k_ml X g0.1 W0.2.2.2 3 (by omega) (mR_3 σ) dL_law_219 ?_
                  refine k_pick X hX hxl hxA g0 hA2 hS hL (i := (20 + (8 * k)) + 1) (by omega) (k := nEx σ) (by omega) (by omega) (by omega) hl.1 (Nat.le_of_ble_eq_true rfl) dL_law_220 (by omega) (by omega) (fun p_20 hp_20 => ?_)
                  refine lv_istore (lv' := [(8, .int (nI p_20)), (7, .int 4), (6, .int (nI (20 + (8 * k)))), (0, .ref sx), (1, .ref b), (2, .ref (oad (0, 0))), (3, .ref (oad (0, 1))), (4, .int 1), (5, .int (nI k))]) X.ex X.co dL_law_223 hl (by decide) rfl (fun ls hl => ?_)
                  refine lv_aload_n X.ex X.co dL_law_225 rfl (lv_at hl 4 rfl) ?_
                  refine k_cnt X ce_X9_answerCount mn_2 (c_X9_answerCount l G A hAg b σ W0.1.1.1.1 W0.1.1.1.2 W0.1.1.2) (g0.step hS hA2) W0 hdis (r := fAnswerCount σ) rfl (v := nI (nAn σ)) rfl rfl (by omega) rfl hl.1 rfl (Nat.le_of_ble_eq_true rfl) dL_law_226 (by omega) (by omega) hS (fun q h => Or.inl h) (fun H locs W0 hz hk9 hS => ?_)
                  refine lv_istore (lv' := [(9, .int (nI (nAn σ))), (8, .int (nI p_20)), (7, .int 4), (6, .int (nI (20 + (8 * k)))), (0, .ref sx), (1, .ref b), (2, .ref (oad (0, 0))), (3, .ref (oad (0, 1))), (4, .int 1), (5, .int (nI k))]) X.ex X.co dL_law_229 hl (by decide) rfl (fun ls hl => ?_)
                  refine lv_iload X.ex X.co dL_law_231 (lv_at hl 2 rfl) ?_
                  refine lv_iconst (v := 2) X.ex X.co dL_law_233 (by decide) ?_
                  refine lv_icmp_ne (tgt := 309) X.ex X.co dL_law_234 (by decide) (fun c_21 => ?_) (fun c_21 => ?_)
                  · refine lv_iload X.ex X.co dL_law_309 (lv_at hl 2 rfl) ?_
                    refine lv_iconst (v := 3) X.ex X.co dL_law_311 (by decide) ?_
                    refine lv_icmp_ne (tgt := 420) X.ex X.co dL_law_312 (by decide) (fun c_22 => ?_) (fun c_22 => ?_)
                    · refine lv_iload X.ex X.co dL_law_420 (lv_at hl 2 rfl) ?_
                      refine lv_iconst (v := 4) X.ex X.co dL_law_422 (by decide) ?_
                      refine lv_icmp_ne (tgt := 489) X.ex X.co dL_law_423 (by decide) (fun c_23 => ?_) (fun c_23 => ?_)
                      · exact absurd (by decide) c_23
                      · exact lb_4 (w9 := 4) (x9 := p_20) (i := 20 + (8 * k)) hst hAg hA2 hdis X g0 hX hxl hxA hL hR9 (by omega) (by omega) hz0 (by omega) (fun h7 => by omega) W0 hwf hS (lv_sub hl [4, 5, 6, 7, 9, 3, 2, 1, 0] rfl) (by omega) (by omega) (fun d2 τ H locs ls c1 s1 a1 a2 a3 a4 a5 a6 a7 => KK d2 τ H locs ls c1 s1 a1 a2 a3 a4 a5 (by omega) (by omega))
                    · exact absurd c_22 (by decide)
                  · exact absurd c_21 (by decide)
                · exact absurd c_19 (by omega)
            · exact absurd c_17 (by omega)
          · exact absurd c_16 (by omega)
        · refine lv_iload X.ex X.co dL_law_160 (lv_at hl 6 rfl) ?_
          refine lv_iconst (v := 3) X.ex X.co dL_law_162 (by decide) ?_
          refine n_cmp_ge X (x := k) (y := 3) (tgt := 170) (by omega) (by omega) dL_law_163 (by decide) (fun c_24 => ?_) (fun c_24 => ?_)
          · refine lv_iload X.ex X.co dL_law_170 (lv_at hl 6 rfl) ?_
            refine lv_bipush (v := 7) X.ex X.co dL_law_172 (by decide) ?_
            refine n_cmp_ge X (x := k) (y := 7) (tgt := 181) (by omega) (by omega) dL_law_174 (by decide) (fun c_25 => ?_) (fun c_25 => ?_)
            · refine lv_iload X.ex X.co dL_law_181 (lv_at hl 6 rfl) ?_
              refine lv_bipush (v := 14) X.ex X.co dL_law_183 (by decide) ?_
              refine n_cmp_ge X (x := k) (y := 14) (tgt := 192) (by omega) (by omega) dL_law_185 (by decide) (fun c_26 => ?_) (fun c_26 => ?_)
              · refine lv_aload_n X.ex X.co dL_law_192 rfl (lv_at hl 1 rfl) ?_
                refine lv_iload X.ex X.co dL_law_193 (lv_at hl 0 rfl) ?_
                refine lv_bipush (v := 20) X.ex X.co dL_law_195 (by decide) ?_
                refine k_pick X hX hxl hxA g0 hA2 hS hL (i := 20 + (8 * k)) (by omega) (k := 20) (by omega) (by omega) (by omega) hl.1 (Nat.le_of_ble_eq_true rfl) dL_law_197 (by omega) (by omega) (fun p_27 hp_27 => ?_)
                refine lv_istore (lv' := [(7, .int (nI p_27)), (6, .int (nI (20 + (8 * k)))), (0, .ref sx), (1, .ref b), (2, .ref (oad (0, 0))), (3, .ref (oad (0, 1))), (4, .int 1), (5, .int (nI k))]) X.ex X.co dL_law_200 hl (by decide) rfl (fun ls hl => ?_)
                refine lv_aload_n X.ex X.co dL_law_202 rfl (lv_at hl 4 rfl) ?_
                refine lv_iconst (v := 3) X.ex X.co dL_law_203 (by decide) ?_
                refine k_ml X g0.1 W0.2.2.2 3 (by omega) (mR_3 σ) dL_law_204 ?_
                refine n_if_ne X (x := nEx σ) (tgt := 212) (by omega) dL_law_205 (by decide) (fun c_28 => ?_) (fun c_28 => ?_)
                · refine lv_aload_n X.ex X.co dL_law_212 rfl (lv_at hl 2 rfl) ?_
                  refine lv_iload X.ex X.co dL_law_213 (lv_at hl 1 rfl) ?_
                  refine lv_iconst (v := 1) X.ex X.co dL_law_215 (by decide) ?_
                  refine n_add X (x := 20 + (8 * k)) (y := 1) dL_law_216 ?_
                  refine lv_aload_n X.ex X.co dL_law_217 rfl (lv_at hl 4 rfl) ?_
                  refine lv_iconst (v := 3) X.ex X.co dL_law_218 (by decide) ?_
                  refine k_ml X g0.1 W0.2.2.2 3 (by omega) (mR_3 σ) dL_law_219 ?_
                  refine k_pick X hX hxl hxA g0 hA2 hS hL (i := (20 + (8 * k)) + 1) (by omega) (k := nEx σ) (by omega) (by omega) (by omega) hl.1 (Nat.le_of_ble_eq_true rfl) dL_law_220 (by omega) (by omega) (fun p_29 hp_29 => ?_)
                  refine lv_istore (lv' := [(8, .int (nI p_29)), (7, .int (nI p_27)), (6, .int (nI (20 + (8 * k)))), (0, .ref sx), (1, .ref b), (2, .ref (oad (0, 0))), (3, .ref (oad (0, 1))), (4, .int 1), (5, .int (nI k))]) X.ex X.co dL_law_223 hl (by decide) rfl (fun ls hl => ?_)
                  refine lv_aload_n X.ex X.co dL_law_225 rfl (lv_at hl 4 rfl) ?_
                  refine k_cnt X ce_X9_answerCount mn_2 (c_X9_answerCount l G A hAg b σ W0.1.1.1.1 W0.1.1.1.2 W0.1.1.2) (g0.step hS hA2) W0 hdis (r := fAnswerCount σ) rfl (v := nI (nAn σ)) rfl rfl (by omega) rfl hl.1 rfl (Nat.le_of_ble_eq_true rfl) dL_law_226 (by omega) (by omega) hS (fun q h => Or.inl h) (fun H locs W0 hz hk9 hS => ?_)
                  refine lv_istore (lv' := [(9, .int (nI (nAn σ))), (8, .int (nI p_29)), (7, .int (nI p_27)), (6, .int (nI (20 + (8 * k)))), (0, .ref sx), (1, .ref b), (2, .ref (oad (0, 0))), (3, .ref (oad (0, 1))), (4, .int 1), (5, .int (nI k))]) X.ex X.co dL_law_229 hl (by decide) rfl (fun ls hl => ?_)
                  refine lv_iload X.ex X.co dL_law_231 (lv_at hl 2 rfl) ?_
                  refine lv_iconst (v := 2) X.ex X.co dL_law_233 (by decide) ?_
                  refine n_cmp_ne X (x := p_27) (y := 2) (tgt := 309) (by omega) (by omega) dL_law_234 (by decide) (fun c_30 => ?_) (fun c_30 => ?_)
                  · refine lv_iload X.ex X.co dL_law_309 (lv_at hl 2 rfl) ?_
                    refine lv_iconst (v := 3) X.ex X.co dL_law_311 (by decide) ?_
                    refine n_cmp_ne X (x := p_27) (y := 3) (tgt := 420) (by omega) (by omega) dL_law_312 (by decide) (fun c_31 => ?_) (fun c_31 => ?_)
                    · refine lv_iload X.ex X.co dL_law_420 (lv_at hl 2 rfl) ?_
                      refine lv_iconst (v := 4) X.ex X.co dL_law_422 (by decide) ?_
                      refine n_cmp_ne X (x := p_27) (y := 4) (tgt := 489) (by omega) (by omega) dL_law_423 (by decide) (fun c_32 => ?_) (fun c_32 => ?_)
                      · refine lv_iload X.ex X.co dL_law_489 (lv_at hl 2 rfl) ?_
                        refine lv_iconst (v := 5) X.ex X.co dL_law_491 (by decide) ?_
                        refine n_cmp_ne X (x := p_27) (y := 5) (tgt := 599) (by omega) (by omega) dL_law_492 (by decide) (fun c_33 => ?_) (fun c_33 => ?_)
                        · refine lv_iload X.ex X.co dL_law_599 (lv_at hl 2 rfl) ?_
                          refine lv_bipush (v := 6) X.ex X.co dL_law_601 (by decide) ?_
                          refine n_cmp_ne X (x := p_27) (y := 6) (tgt := 727) (by omega) (by omega) dL_law_603 (by decide) (fun c_34 => ?_) (fun c_34 => ?_)
                          · refine lv_iload X.ex X.co dL_law_727 (lv_at hl 2 rfl) ?_
                            refine lv_bipush (v := 7) X.ex X.co dL_law_729 (by decide) ?_
                            refine n_cmp_ne X (x := p_27) (y := 7) (tgt := 807) (by omega) (by omega) dL_law_731 (by decide) (fun c_35 => ?_) (fun c_35 => ?_)
                            · refine lv_iload X.ex X.co dL_law_807 (lv_at hl 2 rfl) ?_
                              refine lv_bipush (v := 10) X.ex X.co dL_law_809 (by decide) ?_
                              refine n_cmp_ge X (x := p_27) (y := 10) (tgt := 847) (by omega) (by omega) dL_law_811 (by decide) (fun c_36 => ?_) (fun c_36 => ?_)
                              · refine lv_iload X.ex X.co dL_law_847 (lv_at hl 2 rfl) ?_
                                refine lv_bipush (v := 10) X.ex X.co dL_law_849 (by decide) ?_
                                refine n_cmp_ne X (x := p_27) (y := 10) (tgt := 944) (by omega) (by omega) dL_law_851 (by decide) (fun c_37 => ?_) (fun c_37 => ?_)
                                · refine lv_iload X.ex X.co dL_law_944 (lv_at hl 2 rfl) ?_
                                  refine lv_bipush (v := 13) X.ex X.co dL_law_946 (by decide) ?_
                                  refine n_cmp_ge X (x := p_27) (y := 13) (tgt := 1093) (by omega) (by omega) dL_law_948 (by decide) (fun c_38 => ?_) (fun c_38 => ?_)
                                  · refine lv_iload X.ex X.co dL_law_1093 (lv_at hl 2 rfl) ?_
                                    refine lv_bipush (v := 15) X.ex X.co dL_law_1095 (by decide) ?_
                                    refine n_cmp_ge X (x := p_27) (y := 15) (tgt := 1121) (by omega) (by omega) dL_law_1097 (by decide) (fun c_39 => ?_) (fun c_39 => ?_)
                                    · exact lb_15 (w9 := p_27) (x9 := p_29) (i := 20 + (8 * k)) hst hAg hA2 hdis X g0 hX hxl hxA hL hR9 (by omega) (by omega) hz0 (by omega) (fun h7 => by omega) W0 hwf hS (lv_sub hl [4, 5, 6, 7, 9, 3, 2, 1, 0] rfl) (by omega) (by omega) (fun d2 τ H locs ls c1 s1 a1 a2 a3 a4 a5 a6 a7 => KK d2 τ H locs ls c1 s1 a1 a2 a3 a4 a5 (by omega) (by omega))
                                    · exact lb_13 (w9 := p_27) (x9 := p_29) (i := 20 + (8 * k)) hst hAg hA2 hdis X g0 hX hxl hxA hL hR9 (by omega) (by omega) hz0 (by omega) (fun h7 => by omega) W0 hwf hS (lv_sub hl [4, 5, 6, 7, 9, 3, 2, 1, 0] rfl) (by omega) (by omega) (fun d2 τ H locs ls c1 s1 a1 a2 a3 a4 a5 a6 a7 => KK d2 τ H locs ls c1 s1 a1 a2 a3 a4 a5 (by omega) (by omega))
                                  · exact lb_11 (w9 := p_27) (x9 := p_29) (i := 20 + (8 * k)) hst hAg hA2 hdis X g0 hX hxl hxA hL hR9 (by omega) (by omega) hz0 (by omega) (fun h7 => by omega) W0 hwf hS (lv_sub hl [4, 5, 6, 7, 9, 3, 2, 1, 0] rfl) (by omega) (by omega) (fun d2 τ H locs ls c1 s1 a1 a2 a3 a4 a5 a6 a7 => KK d2 τ H locs ls c1 s1 a1 a2 a3 a4 a5 (by omega) (by omega))
                                · exact lb_10 (w9 := p_27) (x9 := p_29) (i := 20 + (8 * k)) hst hAg hA2 hdis X g0 hX hxl hxA hL hR9 (by omega) (by omega) hz0 (by omega) (fun h7 => by omega) W0 hwf hS (lv_sub hl [4, 5, 6, 7, 9, 3, 2, 1, 0] rfl) (by omega) (by omega) (fun d2 τ H locs ls c1 s1 a1 a2 a3 a4 a5 a6 a7 => KK d2 τ H locs ls c1 s1 a1 a2 a3 a4 a5 (by omega) (by omega))
                              · exact lb_8 (w9 := p_27) (x9 := p_29) (i := 20 + (8 * k)) hst hAg hA2 hdis X g0 hX hxl hxA hL hR9 (by omega) (by omega) hz0 (by omega) (fun h7 => by omega) W0 hwf hS (lv_sub hl [4, 5, 6, 7, 9, 3, 2, 1, 0] rfl) (by omega) (by omega) (fun d2 τ H locs ls c1 s1 a1 a2 a3 a4 a5 a6 a7 => KK d2 τ H locs ls c1 s1 a1 a2 a3 a4 a5 (by omega) (by omega))
                            · exact lb_7 (w9 := p_27) (x9 := p_29) (i := 20 + (8 * k)) hst hAg hA2 hdis X g0 hX hxl hxA hL hR9 (by omega) (by omega) hz0 (by omega) (fun h7 => by omega) W0 hwf hS (lv_sub hl [4, 5, 6, 7, 9, 3, 2, 1, 0] rfl) (by omega) (by omega) (fun d2 τ H locs ls c1 s1 a1 a2 a3 a4 a5 a6 a7 => KK d2 τ H locs ls c1 s1 a1 a2 a3 a4 a5 (by omega) (by omega))
                          · exact lb_6 (w9 := p_27) (x9 := p_29) (i := 20 + (8 * k)) hst hAg hA2 hdis X g0 hX hxl hxA hL hR9 (by omega) (by omega) hz0 (by omega) (fun h7 => by omega) W0 hwf hS (lv_sub hl [4, 5, 6, 7, 9, 3, 2, 1, 0] rfl) (by omega) (by omega) (fun d2 τ H locs ls c1 s1 a1 a2 a3 a4 a5 a6 a7 => KK d2 τ H locs ls c1 s1 a1 a2 a3 a4 a5 (by omega) (by omega))
                        · exact lb_5 (w9 := p_27) (x9 := p_29) (i := 20 + (8 * k)) hst hAg hA2 hdis X g0 hX hxl hxA hL hR9 (by omega) (by omega) hz0 (by omega) (fun h7 => by omega) W0 hwf hS (lv_sub hl [4, 5, 6, 7, 9, 3, 2, 1, 0] rfl) (by omega) (by omega) (fun d2 τ H locs ls c1 s1 a1 a2 a3 a4 a5 a6 a7 => KK d2 τ H locs ls c1 s1 a1 a2 a3 a4 a5 (by omega) (by omega))
                      · exact lb_4 (w9 := p_27) (x9 := p_29) (i := 20 + (8 * k)) hst hAg hA2 hdis X g0 hX hxl hxA hL hR9 (by omega) (by omega) hz0 (by omega) (fun h7 => by omega) W0 hwf hS (lv_sub hl [4, 5, 6, 7, 9, 3, 2, 1, 0] rfl) (by omega) (by omega) (fun d2 τ H locs ls c1 s1 a1 a2 a3 a4 a5 a6 a7 => KK d2 τ H locs ls c1 s1 a1 a2 a3 a4 a5 (by omega) (by omega))
                    · exact lb_3 (w9 := p_27) (x9 := p_29) (i := 20 + (8 * k)) hst hAg hA2 hdis X g0 hX hxl hxA hL hR9 (by omega) (by omega) hz0 (by omega) (fun h7 => by omega) W0 hwf hS (lv_sub hl [4, 5, 6, 7, 9, 3, 2, 1, 0] rfl) (by omega) (by omega) (fun d2 τ H locs ls c1 s1 a1 a2 a3 a4 a5 a6 a7 => KK d2 τ H locs ls c1 s1 a1 a2 a3 a4 a5 (by omega) (by omega))
                  · exact lb_2 (w9 := p_27) (x9 := p_29) (i := 20 + (8 * k)) hst hAg hA2 hdis X g0 hX hxl hxA hL hR9 (by omega) (by omega) hz0 (by omega) (fun h7 => by omega) W0 hwf hS (lv_sub hl [4, 5, 6, 7, 9, 3, 2, 1, 0] rfl) (by omega) (by omega) (fun d2 τ H locs ls c1 s1 a1 a2 a3 a4 a5 a6 a7 => KK d2 τ H locs ls c1 s1 a1 a2 a3 a4 a5 (by omega) (by omega))
                · exact absurd c_28 (by omega)
              · exact absurd c_26 (by omega)
            · exact absurd c_25 (by omega)
          · exact absurd c_24 (by omega)
end LOOP
