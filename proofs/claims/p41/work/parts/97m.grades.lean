/-! ===== areGrades ===== -/
section GRADES
variable {p : Program} {l : Launch} {e : Env} {hR rc rs : Nat} {s : State} {m : MethodId} {args : Array Value} {below : List Frame} {meth : Method} {c : Code} {H : Heap} {locs : List Loc} {cells slots : Nat} {Q : State → Prop}
variable {G : GT} {A AO : Nat → Prop} {b d : Nat} {σ : Sg} {oad : I2 → Nat} {wf : Nat → Int32} {ls : Array Slot}
set_option maxHeartbeats 4000000 in
set_option maxRecDepth 100000 in
theorem ag_loop (hst : l.stackTraces = false) (hAg : ∀ q, A q → gA G q) (hdis : ∀ q, A q → ¬ AO q) (X : CF p s m args meth c cL_areGrades 8 "CourseForgeLaw" (some .boolean)) (g0 : GG G s s.heap) (hR9 : 13 ≤ hR) (hd9 : d ≤ 1000) (c0 s0 : Nat) (hrc : c0 + 20 * 100 ≤ rc) (hrs : s0 + 2300 * 100 ≤ rs) (h100 : nAn σ ≤ 100) (kend : ∀ (τ : Sg) (H : Heap) (locs : List Loc) (ls : Array Slot) (cells slots : Nat), eqL τ σ → LW G A AO b d τ oad (mR σ) wf H → va_S A s.heap H locs → lv_has ls 8 [(0, .ref b), (1, .ref (oad (0, 0))), (2, .int (nI (nAn σ))), (3, .int (graSum σ (nAn σ))), (4, .int 1), (5, .int (nI (nAn σ)))] → cells ≤ c0 + 20 * 100 → slots ≤ s0 + 2300 * 100 → W p l e (RM hR rc rs) s m args below meth c H locs cells slots Q (F0 m 213 ls [])) :
    ∀ (n a : Nat), a + n = nAn σ → ∀ (τ : Sg) (H : Heap) (locs : List Loc) (ls : Array Slot) (cells slots : Nat), eqL τ σ → LW G A AO b d τ oad (mR σ) wf H → va_S A s.heap H locs → lv_has ls 8 [(0, .ref b), (1, .ref (oad (0, 0))), (2, .int (nI (nAn σ))), (3, .int (graSum σ a)), (4, .int 1), (5, .int (nI a))] → cells ≤ c0 + 20 * a → slots ≤ s0 + 2300 * a → W p l e (RM hR rc rs) s m args below meth c H locs cells slots Q (F0 m 57 ls []) := by
  intro n
  induction n with
  | zero =>
    intro a ha τ H locs ls cells slots hq W0 hS hl hc hs
    have hn : nAn τ = nAn σ := hq.c (by decide)
    have hns : nSt τ = nSt σ := hq.c (by decide)
    have hb := W0.1.1.1.1.1.1
    refine lv_iload X.ex X.co dL_areGrades_57 (lv_at hl 5 rfl) ?_
    refine lv_iload_n X.ex X.co dL_areGrades_59 rfl (lv_at hl 2 rfl) ?_
    refine n_cmp_ge X (x := a) (y := nAn σ) (tgt := 213) (by omega) (by omega) dL_areGrades_60 (by decide) (fun c_1 => ?_) (fun c_1 => ?_)
    · rw [show a = nAn σ by omega] at hl
      exact kend τ H locs ls _ _ hq W0 hS hl (by omega) (by omega)
    · exact absurd c_1 (by omega)
  | succ n ih =>
    intro a ha τ H locs ls cells slots hq W0 hS hl hc hs
    have hn : nAn τ = nAn σ := hq.c (by decide)
    have hns : nSt τ = nSt σ := hq.c (by decide)
    have hb := W0.1.1.1.1.1.1
    have hg := (grade_g W0.1.1.1.1 (show a < nAn τ by omega))
    have hg2 := hg.2
    have hsa := (W0.1.1.1.1.1.an (show a < nAn τ by omega)).1
    have hsum : graSum σ a + nI (graN τ a) = graSum σ (a + 1) := by rw [← hg.1, hq.w.g]; rfl
    refine lv_iload X.ex X.co dL_areGrades_57 (lv_at hl 5 rfl) ?_
    refine lv_iload_n X.ex X.co dL_areGrades_59 rfl (lv_at hl 2 rfl) ?_
    refine n_cmp_ge X (x := a) (y := nAn σ) (tgt := 213) (by omega) (by omega) dL_areGrades_60 (by decide) (fun c_1 => ?_) (fun c_1 => ?_)
    · exact absurd c_1 (by omega)
    · refine lv_iload X.ex X.co dL_areGrades_63 (lv_at hl 4 rfl) ?_
      refine lv_if_eq (tgt := 213) X.ex X.co dL_areGrades_65 (by decide) (fun c_2 => ?_) (fun c_2 => ?_)
      · exact absurd c_2 (by decide)
      · refine lv_aload_n X.ex X.co dL_areGrades_68 rfl (lv_at hl 0 rfl) ?_
        refine lv_iconst (v := 3) X.ex X.co dL_areGrades_69 (by decide) ?_
        refine lv_iload X.ex X.co dL_areGrades_70 (lv_at hl 5 rfl) ?_
        refine lv_iconst (v := 0) X.ex X.co dL_areGrades_72 (by decide) ?_
        refine k_call (n := 4) X mn_40 m_0 mn_39 ⟨by decide, by decide, by decide +kernel⟩ (by decide) mn_38 (c_L_ask_3 l hst G A hAg b τ W0.1.1.1.1 W0.1.1.1.2 W0.1.1.2 (nI a) 0) (g0.step hS hAg) W0 hdis (lsq_gr W0.1.1.2 _) W0.1 (q_gr W0.1 (show a < nAn τ by omega)) (by omega) rfl hl.1 rfl (Nat.le_of_ble_eq_true rfl) dL_areGrades_73 (by omega) (by omega) hS (fun q h => h) (fun H locs W0 hz hk9 hS => ?_)
        refine lv_istore (lv' := [(6, .int (nI (graN τ a))), (0, .ref b), (1, .ref (oad (0, 0))), (2, .int (nI (nAn σ))), (3, .int (graSum σ a)), (4, .int 1), (5, .int (nI a))]) X.ex X.co dL_areGrades_76 hl (by decide) rfl (fun ls hl => ?_)
        refine lv_aload_n X.ex X.co dL_areGrades_78 rfl (lv_at hl 1 rfl) ?_
        refine lv_bipush (v := 7) X.ex X.co dL_areGrades_79 (by decide) ?_
        refine lv_iload X.ex X.co dL_areGrades_81 (lv_at hl 6 rfl) ?_
        refine lv_iconst (v := 0) X.ex X.co dL_areGrades_83 (by decide) ?_
        obtain ⟨dq, hdq, edq⟩ := W0.1.2.2.2.1 a (show a < nAn τ by omega)
        refine k_call (n := 4) X mn_40 m_0 mn_39 ⟨by decide, by decide, by decide +kernel⟩ (by decide) mn_38 (c_L_ask_7 l hst G A hAg b τ W0.1.1.1.1 W0.1.1.1.2 W0.1.1.2 (nI a) 0) (g0.step hS hAg) W0 hdis (lsq_da W0.1.1.2 _) W0.1 ((q_da W0.1 (show a < nAn τ by omega)).trans edq) (by omega) rfl hl.1 rfl (Nat.le_of_ble_eq_true rfl) dL_areGrades_84 (by omega) (by omega) hS (fun q h => h) (fun H locs W0 hz hk9 hS => ?_)
        refine lv_istore (lv' := [(7, .int (nI dq)), (6, .int (nI (graN τ a))), (0, .ref b), (1, .ref (oad (0, 0))), (2, .int (nI (nAn σ))), (3, .int (graSum σ a)), (4, .int 1), (5, .int (nI a))]) X.ex X.co dL_areGrades_87 hl (by decide) rfl (fun ls hl => ?_)
        refine lv_iload_n X.ex X.co dL_areGrades_89 rfl (lv_at hl 5 rfl) ?_
        refine lv_iload X.ex X.co dL_areGrades_90 (lv_at hl 1 rfl) ?_
        refine lv_iadd X.ex X.co dL_areGrades_92 ?_
        rw [hsum]
        refine lv_istore_n (lv' := [(3, .int (graSum σ (a + 1))), (7, .int (nI dq)), (6, .int (nI (graN τ a))), (0, .ref b), (1, .ref (oad (0, 0))), (2, .int (nI (nAn σ))), (4, .int 1), (5, .int (nI a))]) X.ex X.co dL_areGrades_93 rfl hl (by decide) rfl (fun ls hl => ?_)
        refine lv_iload X.ex X.co dL_areGrades_94 (lv_at hl 2 rfl) ?_
        refine lv_aload_n X.ex X.co dL_areGrades_96 rfl (lv_at hl 3 rfl) ?_
        refine lv_iconst (v := 4) X.ex X.co dL_areGrades_97 (by decide) ?_
        refine lv_iload X.ex X.co dL_areGrades_98 (lv_at hl 7 rfl) ?_
        refine lv_iconst (v := 0) X.ex X.co dL_areGrades_100 (by decide) ?_
        refine k_call (n := 4) X mn_40 m_0 mn_39 ⟨by decide, by decide, by decide +kernel⟩ (by decide) mn_38 (c_L_ask_4 l hst G A hAg b τ W0.1.1.1.1 W0.1.1.1.2 W0.1.1.2 (nI a) 0) (g0.step hS hAg) W0 hdis (lsq_gr W0.1.1.2 _) W0.1 (q_gr W0.1 (show a < nAn τ by omega)) (by omega) rfl hl.1 rfl (Nat.le_of_ble_eq_true rfl) dL_areGrades_101 (by omega) (by omega) hS (fun q h => h) (fun H locs W0 hz hk9 hS => ?_)
        refine n_cmp_ne X (x := graN τ a) (y := graN τ a) (tgt := 204) (by omega) (by omega) dL_areGrades_104 (by decide) (fun c_3 => ?_) (fun c_3 => ?_)
        · exact absurd rfl c_3
        · refine lv_iload X.ex X.co dL_areGrades_107 (lv_at hl 2 rfl) ?_
          refine n_if_lt X (x := graN τ a) (tgt := 204) (by omega) dL_areGrades_109 (by decide) (fun c_4 => ?_) (fun c_4 => ?_)
          · exact c_4.elim
          · refine lv_iload X.ex X.co dL_areGrades_112 (lv_at hl 2 rfl) ?_
            refine lv_bipush (v := 100) X.ex X.co dL_areGrades_114 (by decide) ?_
            refine n_cmp_gt X (x := graN τ a) (y := 100) (tgt := 204) (by omega) (by omega) dL_areGrades_116 (by decide) (fun c_5 => ?_) (fun c_5 => ?_)
            · exact absurd c_5 (by omega)
            · refine lv_iload X.ex X.co dL_areGrades_119 (lv_at hl 1 rfl) ?_
              refine n_if_lt X (x := dq) (tgt := 204) (by omega) dL_areGrades_121 (by decide) (fun c_6 => ?_) (fun c_6 => ?_)
              · exact c_6.elim
              · refine lv_iload X.ex X.co dL_areGrades_124 (lv_at hl 1 rfl) ?_
                refine lv_aload_n X.ex X.co dL_areGrades_126 rfl (lv_at hl 3 rfl) ?_
                refine k_cnt X ce_X9_today mn_4 (c_X9_today l G A hAg b τ W0.1.1.1.1 W0.1.1.1.2 W0.1.1.2) (g0.step hS hAg) W0 hdis (r := fToday τ) rfl (v := nI d) W0.1.2.2.1 rfl (by omega) rfl hl.1 rfl (Nat.le_of_ble_eq_true rfl) dL_areGrades_127 (by omega) (by omega) hS (fun q h => h) (fun H locs W0 hz hk9 hS => ?_)
                refine n_cmp_gt X (x := dq) (y := d) (tgt := 204) (by omega) (by omega) dL_areGrades_130 (by decide) (fun c_7 => ?_) (fun c_7 => ?_)
                · exact absurd c_7 (by omega)
                · refine lv_aload_n X.ex X.co dL_areGrades_133 rfl (lv_at hl 3 rfl) ?_
                  refine lv_bipush (v := 6) X.ex X.co dL_areGrades_134 (by decide) ?_
                  refine lv_iload X.ex X.co dL_areGrades_136 (lv_at hl 7 rfl) ?_
                  refine lv_iconst (v := 0) X.ex X.co dL_areGrades_138 (by decide) ?_
                  refine k_call (n := 4) X mn_40 m_0 mn_39 ⟨by decide, by decide, by decide +kernel⟩ (by decide) mn_38 (c_L_ask_6 l hst G A hAg b τ W0.1.1.1.1 W0.1.1.1.2 W0.1.1.2 (nI a) 0) (g0.step hS hAg) W0 hdis (lsq_st W0.1.1.2 _) W0.1 (q_st W0.1 (show a < nAn τ by omega)) (by omega) rfl hl.1 rfl (Nat.le_of_ble_eq_true rfl) dL_areGrades_139 (by omega) (by omega) hS (fun q h => h) (fun H locs W0 hz hk9 hS => ?_)
                  refine n_if_lt X (x := stu τ a) (tgt := 204) (by omega) dL_areGrades_142 (by decide) (fun c_8 => ?_) (fun c_8 => ?_)
                  · exact c_8.elim
                  · refine lv_aload_n X.ex X.co dL_areGrades_145 rfl (lv_at hl 3 rfl) ?_
                    refine lv_bipush (v := 6) X.ex X.co dL_areGrades_146 (by decide) ?_
                    refine lv_iload X.ex X.co dL_areGrades_148 (lv_at hl 7 rfl) ?_
                    refine lv_iconst (v := 0) X.ex X.co dL_areGrades_150 (by decide) ?_
                    refine k_call (n := 4) X mn_40 m_0 mn_39 ⟨by decide, by decide, by decide +kernel⟩ (by decide) mn_38 (c_L_ask_6 l hst G A hAg b τ W0.1.1.1.1 W0.1.1.1.2 W0.1.1.2 (nI a) 0) (g0.step hS hAg) W0 hdis (lsq_st W0.1.1.2 _) W0.1 (q_st W0.1 (show a < nAn τ by omega)) (by omega) rfl hl.1 rfl (Nat.le_of_ble_eq_true rfl) dL_areGrades_151 (by omega) (by omega) hS (fun q h => h) (fun H locs W0 hz hk9 hS => ?_)
                    refine lv_aload_n X.ex X.co dL_areGrades_154 rfl (lv_at hl 4 rfl) ?_
                    refine lv_iconst (v := 1) X.ex X.co dL_areGrades_155 (by decide) ?_
                    refine k_ml X g0.1 W0.2.2.2 1 (by omega) (mR_1 σ) dL_areGrades_156 ?_
                    refine n_cmp_ge X (x := stu τ a) (y := nSt σ) (tgt := 204) (by omega) (by omega) dL_areGrades_157 (by decide) (fun c_9 => ?_) (fun c_9 => ?_)
                    · exact absurd c_9 (by omega)
                    · refine lv_aload_n X.ex X.co dL_areGrades_160 rfl (lv_at hl 3 rfl) ?_
                      refine lv_iconst (v := 5) X.ex X.co dL_areGrades_161 (by decide) ?_
                      refine lv_iload X.ex X.co dL_areGrades_162 (lv_at hl 7 rfl) ?_
                      refine lv_iconst (v := 0) X.ex X.co dL_areGrades_164 (by decide) ?_
                      obtain ⟨cq, hcq, ecq⟩ := q_cr0 W0.1 (show a < nAn τ by omega)
                      refine k_call (n := 4) X mn_40 m_0 mn_39 ⟨by decide, by decide, by decide +kernel⟩ (by decide) mn_38 (c_L_ask_5 l hst G A hAg b τ W0.1.1.1.1 W0.1.1.1.2 W0.1.1.2 (nI a) 0) (g0.step hS hAg) W0 hdis (lsq_cr W0.1.1.2 _ _) W0.1 ecq (by omega) rfl hl.1 rfl (Nat.le_of_ble_eq_true rfl) dL_areGrades_165 (by omega) (by omega) hS (fun q h => h) (fun H locs W0 hz hk9 hS => ?_)
                      refine n_if_lt X (x := cq) (tgt := 204) (by omega) dL_areGrades_168 (by decide) (fun c_10 => ?_) (fun c_10 => ?_)
                      · exact c_10.elim
                      · refine lv_aload_n X.ex X.co dL_areGrades_171 rfl (lv_at hl 3 rfl) ?_
                        refine lv_iconst (v := 5) X.ex X.co dL_areGrades_172 (by decide) ?_
                        refine lv_iload X.ex X.co dL_areGrades_173 (lv_at hl 7 rfl) ?_
                        refine lv_bipush (v := 6) X.ex X.co dL_areGrades_175 (by decide) ?_
                        refine k_call (n := 4) X mn_40 m_0 mn_39 ⟨by decide, by decide, by decide +kernel⟩ (by decide) mn_38 (c_L_ask_5 l hst G A hAg b τ W0.1.1.1.1 W0.1.1.1.2 W0.1.1.2 (nI a) 6) (g0.step hS hAg) W0 hdis (lsq_cr W0.1.1.2 _ _) W0.1 (q_cr6 W0.1 (show a < nAn τ by omega)) (by omega) rfl hl.1 rfl (Nat.le_of_ble_eq_true rfl) dL_areGrades_177 (by omega) (by omega) hS (fun q h => h) (fun H locs W0 hz hk9 hS => ?_)
                        refine lv_sipush (v := (-2005)) X.ex X.co dL_areGrades_180 (by decide) ?_
                        refine lv_icmp_ne (tgt := 204) X.ex X.co dL_areGrades_183 (by decide) (fun c_11 => ?_) (fun c_11 => ?_)
                        · exact absurd (by decide) c_11
                        · refine lv_aload_n X.ex X.co dL_areGrades_186 rfl (lv_at hl 3 rfl) ?_
                          refine lv_bipush (v := 15) X.ex X.co dL_areGrades_187 (by decide) ?_
                          refine lv_iload X.ex X.co dL_areGrades_189 (lv_at hl 7 rfl) ?_
                          refine lv_iconst (v := 0) X.ex X.co dL_areGrades_191 (by decide) ?_
                          obtain ⟨wn, hw1, hw2, ew, τ1, hτ1, hL1, hq1⟩ := s_write W0.1 (show a < nAn τ by omega)
                          refine k_call (n := 4) X mn_40 m_0 mn_39 ⟨by decide, by decide, by decide +kernel⟩ (by decide) mn_38 (c_L_ask_15 l hst G A hAg b τ W0.1.1.1.1 W0.1.1.1.2 W0.1.1.2 (nI a) 0) (g0.step hS hAg) W0 hdis hτ1 hL1 ew (by omega) rfl hl.1 rfl (Nat.le_of_ble_eq_true rfl) dL_areGrades_192 (by omega) (by omega) hS (fun q h => h) (fun H locs W0 hz hk9 hS => ?_)
                          refine lv_bipush (v := 15) X.ex X.co dL_areGrades_195 (by decide) ?_
                          refine n_cmp_le X (x := wn) (y := 15) (tgt := 204) (by omega) (by omega) dL_areGrades_197 (by decide) (fun c_12 => ?_) (fun c_12 => ?_)
                          · exact absurd c_12 (by omega)
                          · refine lv_iconst (v := 1) X.ex X.co dL_areGrades_200 (by decide) ?_
                            refine lv_goto (tgt := 205) X.ex X.co dL_areGrades_201 (by decide) ?_
                            refine lv_istore (lv' := [(4, .int 1), (3, .int (graSum σ (a + 1))), (7, .int (nI dq)), (6, .int (nI (graN τ a))), (0, .ref b), (1, .ref (oad (0, 0))), (2, .int (nI (nAn σ))), (5, .int (nI a))]) X.ex X.co dL_areGrades_205 hl (by decide) rfl (fun ls hl => ?_)
                            refine lv_iinc (v := nI (a + 1)) (lv' := [(5, .int (nI (a + 1))), (4, .int 1), (3, .int (graSum σ (a + 1))), (7, .int (nI dq)), (6, .int (nI (graN τ a))), (0, .ref b), (1, .ref (oad (0, 0))), (2, .int (nI (nAn σ)))]) X.ex X.co dL_areGrades_207 hl (k := 7) rfl (n_inc _) (by decide) rfl (fun ls hl => ?_)
                            refine lv_goto (tgt := 57) X.ex X.co dL_areGrades_210 (by decide) ?_
                            exact ih (a + 1) (by omega) τ1 H locs ls _ _ (hq1.tr hq) W0 hS (lv_sub hl [5, 6, 7, 2, 1, 0] rfl) (by omega) (by omega)
set_option maxHeartbeats 4000000 in
set_option maxRecDepth 100000 in
theorem ag_end {τ : Sg} (hst : l.stackTraces = false) (hAg : ∀ q, A q → gA G q) (hdis : ∀ q, A q → ¬ AO q) (X : CF p s m args meth c cL_areGrades 8 "CourseForgeLaw" (some .boolean)) (g0 : GG G s s.heap) (hR9 : 13 ≤ hR) (hd9 : d ≤ 1000) (hl : lv_has ls 8 [(0, .ref b), (1, .ref (oad (0, 0))), (2, .int (nI (nAn σ))), (3, .int (graSum σ (nAn σ))), (4, .int 1), (5, .int (nI (nAn σ)))]) (hq : eqL τ σ) (W0 : LW G A AO b d τ oad (mR σ) wf H) (hS : va_S A s.heap H locs) (h1 : cells + 1 ≤ rc) (h2 : slots + 6 ≤ rs) (mc ms : Nat) (hmc : cells + 1 ≤ mc) (hms : slots + 6 ≤ ms) :
    W p l e (RM hR rc rs) s m args below meth c H locs cells slots (MQ below (cQ (fun v H => v = some (.int 1) ∧ ∃ τ, eqL τ σ ∧ LW G A AO b d τ oad (mR σ) wf H) A) args s mc ms A) (F0 m 213 ls []) := by
  have hn : nAn τ = nAn σ := hq.c (by decide)
  have hb := W0.1.1.1.1.1.1
  refine lv_iload X.ex X.co dL_areGrades_213 (lv_at hl 4 rfl) ?_
  refine lv_if_eq (tgt := 239) X.ex X.co dL_areGrades_215 (by decide) (fun c_1 => ?_) (fun c_1 => ?_)
  · exact absurd c_1 (by decide)
  · refine lv_iload_n X.ex X.co dL_areGrades_218 rfl (lv_at hl 2 rfl) ?_
    refine n_if_eq X (x := nAn σ) (tgt := 235) (by omega) dL_areGrades_219 (by decide) (fun c_2 => ?_) (fun c_2 => ?_)
    · refine lv_iconst (v := 1) X.ex X.co dL_areGrades_235 (by decide) ?_
      refine lv_goto (tgt := 240) X.ex X.co dL_areGrades_236 (by decide) ?_
      exact c_i X hS rfl rfl ⟨rfl, τ, hq, W0⟩ (by omega) (by omega) dL_areGrades_240
    · refine lv_aload_n X.ex X.co dL_areGrades_222 rfl (lv_at hl 0 rfl) ?_
      have hn0 : ¬ nAn τ = 0 := by rw [hn]; omega
      have emg : fMeanGrade τ = (FP.ddiv (FP.i2d (graSum σ (nAn σ))) (FP.i2d (nI (nAn σ))), τ) := by
        have hsg : ∀ k, graSum τ k = graSum σ k := fun k => by
          induction k with
          | zero => rfl
          | succ k ih => simp only [graSum, ih, hq.w.g]
        unfold fMeanGrade
        rw [if_neg hn0, hsg, hn]
      obtain ⟨fsB, hfB⟩ := CB_at W0.2.1
      refine w_V X ce_X9_meanGrade mn_67 (c_X9_meanGrade l hst G A hAg b τ W0.1.1.1.1 W0.1.1.1.2 W0.1.1.2) (g0.step hS hAg) ⟨W0.2.1, W0.2.2.1⟩ hfB rfl (by omega) rfl hl.1 rfl (Nat.le_of_ble_eq_true rfl) dL_areGrades_223 (by omega) (by omega) hS (fun q h => h) (fun E ce q9 H locs hB hz hk9 hS hc1 hc2 hc3 => ?_) (fun v0 H locs hB hz hk9 hS => ?_)
      · obtain ⟨k, -, hk, -⟩ := hB
        rw [emg] at hk
        exact absurd (hk.symm.trans W0.1.1.2) (by omega)
      obtain ⟨rfl, hk0, hCB⟩ := hB
      rw [emg] at hCB ⊢
      have W0 : LW G A AO b d τ oad (mR σ) wf H := ⟨W0.1, hCB, fun q hq => W0.2.2.1 q (Nat.le_trans hz hq), W0.2.2.2.kept hdis hk9⟩
      refine lv_iload_n X.ex X.co dL_areGrades_226 rfl (lv_at hl 3 rfl) ?_
      refine lv_i2d X.ex X.co dL_areGrades_227 ?_
      refine lv_iload_n X.ex X.co dL_areGrades_228 rfl (lv_at hl 2 rfl) ?_
      refine lv_i2d X.ex X.co dL_areGrades_229 ?_
      refine lv_ddiv X.ex X.co dL_areGrades_230 (fp_mean _ (nI_nz (by omega) (by omega))) ?_
      refine w_dcmp X (fp_dout _ (nI_nz (by omega) (by omega))) dL_areGrades_231 ?_
      refine lv_if_ne (tgt := 239) X.ex X.co dL_areGrades_232 (by decide) (fun c_3 => ?_) (fun c_3 => ?_)
      · exact absurd (by decide) c_3
      · refine lv_iconst (v := 1) X.ex X.co dL_areGrades_235 (by decide) ?_
        refine lv_goto (tgt := 240) X.ex X.co dL_areGrades_236 (by decide) ?_
        exact c_i X hS rfl rfl ⟨rfl, τ, hq, W0⟩ (by omega) (by omega) dL_areGrades_240
set_option maxHeartbeats 4000000 in
set_option maxRecDepth 100000 in
theorem c_L_areGrades (l : Launch) (hst : l.stackTraces = false) (G : GT) (A AO : Nat → Prop) (hAg : ∀ q, A q → gA G q) (hdis : ∀ q, A q → ¬ AO q) (b d : Nat) (σ : Sg) (oad : I2 → Nat) (wf : Nat → Int32) (hd9 : d ≤ 1000) : cM l yL_areGrades cL_areGrades 8 (some .boolean) 13 2100 233000 G [.ref b, .ref (oad (0, 0))] (fun H => LW G A AO b d σ oad (mR σ) wf H) (fun v H => v = some (.int 1) ∧ ∃ τ, eqL τ σ ∧ LW G A AO b d τ oad (mR σ) wf H) A := by
  refine mk_m (by decide) (Nat.le_of_ble_eq_true rfl) ?_
  intro p e s m args below meth c X ls hl g0 W0 hnm
  have hS : va_S A s.heap s.heap [] := va_S.rf
  have hb : nAn σ ≤ 100 := W0.1.1.1.1.1.1.2.2.2.2.1
  have hl : lv_has ls 8 [(0, .ref b), (1, .ref (oad (0, 0)))] := hl
  show W p l e (RM 13 2100 233000) s m args below meth c s.heap [] 0 0 (MQ below (cQ (fun v H => v = some (.int 1) ∧ ∃ τ, eqL τ σ ∧ LW G A AO b d τ oad (mR σ) wf H) A) args s 2100 233000 A) (F0 m 0 ls [])
  refine lv_aload_n X.ex X.co dL_areGrades_0 rfl (lv_at hl 0 rfl) ?_
  refine k_cnt X ce_X9_answerCount mn_2 (c_X9_answerCount l G A hAg b σ W0.1.1.1.1 W0.1.1.1.2 W0.1.1.2) (g0.step hS hAg) W0 hdis (r := fAnswerCount σ) rfl (v := nI (nAn σ)) rfl rfl (by omega) rfl hl.1 rfl (Nat.le_of_ble_eq_true rfl) dL_areGrades_1 (by omega) (by omega) hS (fun q h => h) (fun H locs W0 hz hk9 hS => ?_)
  refine lv_istore_n (lv' := [(2, .int (nI (nAn σ))), (0, .ref b), (1, .ref (oad (0, 0)))]) X.ex X.co dL_areGrades_4 rfl hl (by decide) rfl (fun ls hl => ?_)
  refine lv_iconst (v := 0) X.ex X.co dL_areGrades_5 (by decide) ?_
  refine lv_istore_n (lv' := [(3, .int 0), (2, .int (nI (nAn σ))), (0, .ref b), (1, .ref (oad (0, 0)))]) X.ex X.co dL_areGrades_6 rfl hl (by decide) rfl (fun ls hl => ?_)
  refine lv_aload_n X.ex X.co dL_areGrades_7 rfl (lv_at hl 2 rfl) ?_
  refine lv_iconst (v := 3) X.ex X.co dL_areGrades_8 (by decide) ?_
  refine lv_iload_n X.ex X.co dL_areGrades_9 rfl (lv_at hl 1 rfl) ?_
  refine lv_iconst (v := 0) X.ex X.co dL_areGrades_10 (by decide) ?_
  refine k_call (n := 4) X mn_40 m_0 mn_39 ⟨by decide, by decide, by decide +kernel⟩ (by decide) mn_38 (c_L_ask_3 l hst G A hAg b σ W0.1.1.1.1 W0.1.1.1.2 W0.1.1.2 (nI (nAn σ)) 0) (g0.step hS hAg) W0 hdis (lsq_gr W0.1.1.2 _) W0.1 (q_gr9 W0.1) (by omega) rfl hl.1 rfl (Nat.le_of_ble_eq_true rfl) dL_areGrades_11 (by omega) (by omega) hS (fun q h => h) (fun H locs W0 hz hk9 hS => ?_)
  refine lv_sipush (v := (-2001)) X.ex X.co dL_areGrades_14 (by decide) ?_
  refine lv_icmp_ne (tgt := 51) X.ex X.co dL_areGrades_17 (by decide) (fun c_1 => ?_) (fun c_1 => ?_)
  · exact absurd (by decide) c_1
  · refine lv_aload_n X.ex X.co dL_areGrades_20 rfl (lv_at hl 2 rfl) ?_
    refine lv_iconst (v := 5) X.ex X.co dL_areGrades_21 (by decide) ?_
    refine lv_iconst (v := (-1)) X.ex X.co dL_areGrades_22 (by decide) ?_
    refine lv_iconst (v := 0) X.ex X.co dL_areGrades_23 (by decide) ?_
    refine k_call (n := 4) X mn_40 m_0 mn_39 ⟨by decide, by decide, by decide +kernel⟩ (by decide) mn_38 (c_L_ask_5 l hst G A hAg b σ W0.1.1.1.1 W0.1.1.1.2 W0.1.1.2 (-1) 0) (g0.step hS hAg) W0 hdis (lsq_cr W0.1.1.2 _ _) W0.1 (q_crm W0.1) (by omega) rfl hl.1 rfl (Nat.le_of_ble_eq_true rfl) dL_areGrades_24 (by omega) (by omega) hS (fun q h => h) (fun H locs W0 hz hk9 hS => ?_)
    refine lv_sipush (v := (-2001)) X.ex X.co dL_areGrades_27 (by decide) ?_
    refine lv_icmp_ne (tgt := 51) X.ex X.co dL_areGrades_30 (by decide) (fun c_2 => ?_) (fun c_2 => ?_)
    · exact absurd (by decide) c_2
    · refine lv_aload_n X.ex X.co dL_areGrades_33 rfl (lv_at hl 2 rfl) ?_
      refine lv_bipush (v := 15) X.ex X.co dL_areGrades_34 (by decide) ?_
      refine lv_iload_n X.ex X.co dL_areGrades_36 rfl (lv_at hl 1 rfl) ?_
      refine lv_iconst (v := 0) X.ex X.co dL_areGrades_37 (by decide) ?_
      refine k_call (n := 4) X mn_40 m_0 mn_39 ⟨by decide, by decide, by decide +kernel⟩ (by decide) mn_38 (c_L_ask_15 l hst G A hAg b σ W0.1.1.1.1 W0.1.1.1.2 W0.1.1.2 (nI (nAn σ)) 0) (g0.step hS hAg) W0 hdis (s_write9 W0.1).2 W0.1 (s_write9 W0.1).1 (by omega) rfl hl.1 rfl (Nat.le_of_ble_eq_true rfl) dL_areGrades_38 (by omega) (by omega) hS (fun q h => h) (fun H locs W0 hz hk9 hS => ?_)
      refine lv_sipush (v := (-2001)) X.ex X.co dL_areGrades_41 (by decide) ?_
      refine lv_icmp_ne (tgt := 51) X.ex X.co dL_areGrades_44 (by decide) (fun c_3 => ?_) (fun c_3 => ?_)
      · exact absurd (by decide) c_3
      · refine lv_iconst (v := 1) X.ex X.co dL_areGrades_47 (by decide) ?_
        refine lv_goto (tgt := 52) X.ex X.co dL_areGrades_48 (by decide) ?_
        refine lv_istore (lv' := [(4, .int 1), (3, .int (graSum σ 0)), (2, .int (nI (nAn σ))), (0, .ref b), (1, .ref (oad (0, 0)))]) X.ex X.co dL_areGrades_52 hl (by decide) rfl (fun ls hl => ?_)
        refine lv_iconst (v := 0) X.ex X.co dL_areGrades_54 (by decide) ?_
        refine lv_istore (lv' := [(5, .int 0), (4, .int 1), (3, .int (graSum σ 0)), (2, .int (nI (nAn σ))), (0, .ref b), (1, .ref (oad (0, 0)))]) X.ex X.co dL_areGrades_55 hl (by decide) rfl (fun ls hl => ?_)
        exact ag_loop hst hAg hdis X g0 (by omega) hd9 10 2212 (by omega) (by omega) hb (fun τ H locs ls cells slots hq W0 hS hl hc hs => ag_end hst hAg hdis X g0 (by omega) hd9 hl hq W0 hS (by omega) (by omega) 2100 233000 (by omega) (by omega)) (nAn σ) 0 (by omega) σ H locs ls _ _ (eqL.rf σ) W0 hS (lv_sub hl [4, 5, 3, 2, 1, 0] rfl) (by omega) (by omega)
end GRADES
