set_option maxHeartbeats 4000000 in
set_option maxRecDepth 100000 in
theorem c_X10_mend (l : Launch) (G : GT) (mad : I2 → Nat) (A : Nat → Prop) (hAg : ∀ q, A q → gA G q) (τ σ : Sg) (hσ : σ = sN τ 0 0 0) (hI : MI σ) (v w a : Int32) : cM l yX10_mend cX10_mend 7 ((Option.some FieldType.int)) 6 0 0 G [.ref (mad (0, 0)), .int v, .int w, .int a] (mw G mad A τ) (eB (some (.int (fMend σ v w a).1)) (mw G mad A (fMend σ v w a).2)) A := by
  refine mk_m (by decide) (Nat.le_of_ble_eq_true rfl) ?_
  intro p e s m args below meth c X ls hl g0 F hnm
  have hK := g0.1
  have hS : va_S A s.heap s.heap [] := va_S.rf
  have hI0 := hI.1
  obtain ⟨b1, b2, b3, b4, b5, b6, b7⟩ := hI0.1
  obtain ⟨b8, b9, b10⟩ := hI.2.1
  have hapb := hI.apb
  have h0 : σ.1 0 0 = 0 := by rw [hσ]; simp [sN]
  have hl : lv_has ls 7 [(0, .ref (mad (0, 0))), (1, .int v), (2, .int w), (3, .int a)] := hl
  show Wc p l e 6 0 0 s m args below meth c (eB (some (.int (fMend σ v w a).1)) (mw G mad A (fMend σ v w a).2)) A s.heap [] 0 0 0 ls []
  refine lv_aload_n X.ex X.co dX10_mend_0 rfl (lv_at hl 0 rfl) ?_
  refine lv_iconst (v := 0) X.ex X.co dX10_mend_1 (by decide) ?_
  refine m_putN X hK F hS 0 (by decide) rfl rfl (v := 0) m_1351 rfl rfl (by decide) dX10_mend_2 (fun H locs F hS => ?_)
  rw [← hσ] at F
  clear hσ
  refine lv_aload_n X.ex X.co dX10_mend_5 rfl (lv_at hl 0 rfl) ?_
  refine lv_aload_n X.ex X.co dX10_mend_6 rfl (lv_at hl 0 rfl) ?_
  refine lv_iload_n X.ex X.co dX10_mend_7 rfl (lv_at hl 1 rfl) ?_
  refine q_rV X ce_X10_noExercise m_1524 (c_X10_noExercise l G mad A σ hI0 v) (g0.step hS hAg) F (mo F) rfl (by decide) rfl hl.1 rfl (Nat.le_of_ble_eq_true rfl) dX10_mend_8 (by omega) (by omega) ?_
  refine lv_iconst (v := 1) X.ex X.co dX10_mend_11 (by decide) ?_
  rcases hb_1 : !(okP v (nEx σ)) with _ | _
  · have hc_2 : (okP v (nEx σ)) = true := by simpa using hb_1
    have ok_v : okP v (nEx σ) = true := by simpa using hb_1
    obtain ⟨j_v, hj_v, rfl⟩ := (okP_ix (by omega)).mp ok_v
    have ex_v := ix_nI (j := j_v) (by omega)
    refine q_eV X ce_X10_fails m_1497 (c_X10_fails l G mad A hAg σ h0 false 1 (by decide) (by decide)) (g0.step hS hAg) F (mo F) rfl (by decide) rfl hl.1 rfl (Nat.le_of_ble_eq_true rfl) dX10_mend_12 (by omega) (by omega) hS (fun _ h => h) (fun H locs F hz hk hS => ?_)
    have F : mw G mad A σ H := F
    refine lv_if_ne (tgt := 72) X.ex X.co dX10_mend_15 (by decide) (fun c_3 => ?_) (fun c_3 => ?_)
    · exact absurd (by decide) c_3
    · refine lv_aload_n X.ex X.co dX10_mend_18 rfl (lv_at hl 0 rfl) ?_
      refine lv_iload_n X.ex X.co dX10_mend_19 rfl (lv_at hl 2 rfl) ?_
      refine lv_iload_n X.ex X.co dX10_mend_20 rfl (lv_at hl 3 rfl) ?_
      refine q_rS X ce_X10_isRule m_1517 (c_X10_isRule l G w a) (g0.step hS hAg) trivial (by decide) rfl hl.1 rfl (Nat.le_of_ble_eq_true rfl) dX10_mend_21 (by omega) (by omega) ?_
      refine b_if_ne X (x := isR w a) (tgt := 31) dX10_mend_24 (by decide) (fun c_4 => ?_) (fun c_4 => ?_)
      · refine lv_iconst (v := 0) X.ex X.co dX10_mend_31 (by decide) ?_
        refine lv_iconst (v := 2) X.ex X.co dX10_mend_32 (by decide) ?_
        refine q_eV X ce_X10_fails m_1497 (c_X10_fails l G mad A hAg σ h0 false 2 (by decide) (by decide)) (g0.step hS hAg) F (mo F) rfl (by decide) rfl hl.1 rfl (Nat.le_of_ble_eq_true rfl) dX10_mend_33 (by omega) (by omega) hS (fun _ h => h) (fun H locs F hz hk hS => ?_)
        have F : mw G mad A σ H := F
        refine lv_if_ne (tgt := 72) X.ex X.co dX10_mend_36 (by decide) (fun c_5 => ?_) (fun c_5 => ?_)
        · exact absurd (by decide) c_5
        · refine lv_aload_n X.ex X.co dX10_mend_39 rfl (lv_at hl 0 rfl) ?_
          refine lv_aload_n X.ex X.co dX10_mend_40 rfl (lv_at hl 0 rfl) ?_
          refine m_getA X hK F 13 (by decide) rfl m_1364 rfl dX10_mend_41 ?_
          refine lv_iload_n X.ex X.co dX10_mend_44 rfl (lv_at hl 1 rfl) ?_
          refine m_ald X hK F 13 (by decide) rfl rfl j_v (by first | omega | (show _ < 12; omega)) (x := (σ.2 13 j_v)) rfl dX10_mend_45 ?_
          refine lv_iload_n X.ex X.co dX10_mend_46 rfl (lv_at hl 2 rfl) ?_
          refine lv_icmp_ne (tgt := 64) X.ex X.co dX10_mend_47 (by decide) (fun c_6 => ?_) (fun c_6 => ?_)
          · refine lv_iconst (v := 0) X.ex X.co dX10_mend_64 (by decide) ?_
            refine lv_iconst (v := 3) X.ex X.co dX10_mend_65 (by decide) ?_
            refine q_eV X ce_X10_fails m_1497 (c_X10_fails l G mad A hAg σ h0 false 3 (by decide) (by decide)) (g0.step hS hAg) F (mo F) rfl (by decide) rfl hl.1 rfl (Nat.le_of_ble_eq_true rfl) dX10_mend_66 (by omega) (by omega) hS (fun _ h => h) (fun H locs F hz hk hS => ?_)
            have F : mw G mad A σ H := F
            refine lv_if_eq (tgt := 74) X.ex X.co dX10_mend_69 (by decide) (fun c_7 => ?_) (fun c_7 => ?_)
            · have hne : ¬ (σ.2 13 j_v = w ∧ σ.2 14 j_v = a) := fun z => c_6 z.1
              refine lv_iconst (v := 0) X.ex X.co dX10_mend_74 (by decide) ?_
              refine lv_istore (lv' := [(4, .int 0), (0, .ref (mad (0, 0))), (1, .int (nI j_v)), (2, .int w), (3, .int a)]) X.ex X.co dX10_mend_75 hl (by decide) rfl (fun ls hl => ?_)
              have loop_9 : ∀ (fu_8 i : Nat), i ≤ nAn σ → nAn σ < i + fu_8 → ∀ (H : Heap) (locs : List Loc), mw G mad A (befL σ j_v i) H → va_S A s.heap H locs → ∀ ls : Array Slot, lv_has ls 7 [(4, .int (nI i)), (0, .ref (mad (0, 0))), (1, .int (nI j_v)), (2, .int w), (3, .int a)] → Wc p l e 6 0 0 s m args below meth c (eB (some (.int (fMend σ (nI j_v) w a).1)) (mw G mad A (fMend σ (nI j_v) w a).2)) A H locs 0 0 77 ls [] := by
                intro fu_8
                induction fu_8 with
                | zero => intro i h_11 h_12; exact absurd h_12 (by omega)
                | succ fu_8 ih_10 =>
                  intro i h_11 h_12 H locs F hS ls hl
                  have hI0 := (befL_N σ j_v i).mi hI0
                  have e5 : nAn (befL σ j_v i) = nAn σ := congrFun (congrFun (befL_1 σ j_v i) 19) 0
                  refine lv_iload X.ex X.co dX10_mend_77 (lv_at hl 0 rfl) ?_
                  refine lv_aload_n X.ex X.co dX10_mend_79 rfl (lv_at hl 1 rfl) ?_
                  refine m_getN X hK F 19 (by decide) rfl rfl (x := nAn σ) (congrFun (congrFun (befL_1 σ j_v i) 19) 0) m_1370 rfl dX10_mend_80 ?_
                  refine n_cmp_ge X (x := i) (y := nAn σ) (tgt := 120) (by omega) (by omega) dX10_mend_83 (by decide) (fun c_13 => ?_) (fun c_13 => ?_)
                  · have hq_14 : i = nAn σ := by omega
                    rw [hq_14] at hl
                    rw [hq_14] at F
                    have hlj := hI.1.ex hj_v
                    refine lv_aload_n X.ex X.co dX10_mend_120 rfl (lv_at hl 1 rfl) ?_
                    refine m_getA X hK F 13 (by decide) rfl m_1364 rfl dX10_mend_121 ?_
                    refine lv_iload_n X.ex X.co dX10_mend_124 rfl (lv_at hl 2 rfl) ?_
                    refine lv_iload_n X.ex X.co dX10_mend_125 rfl (lv_at hl 3 rfl) ?_
                    refine m_astV X hK F hS 13 (by decide) rfl rfl rfl j_v (v := w) (by first | omega | (show _ < 12; omega)) dX10_mend_126 (fun H locs F hS => ?_)
                    refine lv_aload_n X.ex X.co dX10_mend_127 rfl (lv_at hl 1 rfl) ?_
                    refine m_getA X hK F 14 (by decide) rfl m_1365 rfl dX10_mend_128 ?_
                    refine lv_iload_n X.ex X.co dX10_mend_131 rfl (lv_at hl 2 rfl) ?_
                    refine lv_iload_n X.ex X.co dX10_mend_132 rfl (lv_at hl 4 rfl) ?_
                    refine m_astV X hK F hS 14 (by decide) rfl rfl rfl j_v (v := a) (by first | omega | (show _ < 12; omega)) dX10_mend_133 (fun H locs F hS => ?_)
                    refine lv_aload_n X.ex X.co dX10_mend_134 rfl (lv_at hl 1 rfl) ?_
                    refine m_getA X hK F 10 (by decide) rfl m_1361 rfl dX10_mend_135 ?_
                    refine lv_aload_n X.ex X.co dX10_mend_138 rfl (lv_at hl 1 rfl) ?_
                    refine m_getA X hK F 12 (by decide) rfl m_1363 rfl dX10_mend_139 ?_
                    refine lv_iload_n X.ex X.co dX10_mend_142 rfl (lv_at hl 2 rfl) ?_
                    refine m_ald X hK F 12 (by decide) rfl rfl j_v (by first | omega | (show _ < 12; omega)) (x := nI (les σ j_v)) (congrArg nI (congrFun (congrFun (befL_1 σ j_v (nAn σ)) 12) j_v)) dX10_mend_143 ?_
                    refine lv_dup2_11 X.ex X.co dX10_mend_144 rfl rfl ?_
                    refine m_ald X hK F 10 (by decide) rfl rfl (les σ j_v) (by first | omega | (show _ < 8; omega)) (x := (σ.2 10 (les σ j_v))) (congrFun (befL_V σ j_v (b := 10) (by decide) (nAn σ)) (les σ j_v)) dX10_mend_145 ?_
                    refine lv_iconst (v := 1) X.ex X.co dX10_mend_146 (by decide) ?_
                    refine lv_iadd X.ex X.co dX10_mend_147 ?_
                    refine m_astV X hK F hS 10 (by decide) rfl rfl rfl (les σ j_v) (v := ((σ.2 10 (les σ j_v)) + 1)) (by first | omega | (show _ < 8; omega)) dX10_mend_148 (fun H locs F hS => ?_)
                    refine lv_iconst (v := 0) X.ex X.co dX10_mend_149 (by decide) ?_
                    refine lv_istore (lv' := [(4, .int 0), (0, .ref (mad (0, 0))), (1, .int (nI j_v)), (2, .int w), (3, .int a)]) X.ex X.co dX10_mend_150 hl (by decide) rfl (fun ls hl => ?_)
                    refine lv_aload_n X.ex X.co dX10_mend_152 rfl (lv_at hl 1 rfl) ?_
                    refine lv_iconst (v := 0) X.ex X.co dX10_mend_153 (by decide) ?_
                    refine m_putN X hK F hS 29 (by decide) rfl rfl (v := 0) m_1380 rfl rfl (by decide) dX10_mend_154 (fun H locs F hS => ?_)
                    have F : mw G mad A (men1 σ j_v w a) H := F
                    have hz0 : nHa (men1 σ j_v w a) = 0 := rfl
                    have hap0 : nAp (men1 σ j_v w a) ≤ 100 ∧ ∀ i, i < nAp (men1 σ j_v w a) → app (men1 σ j_v w a) i < nAn σ := (by rw [show nAp (men1 σ j_v w a) = nAp σ from congrFun (congrFun (befL_1 σ j_v (nAn σ)) 27) 0, show app (men1 σ j_v w a) = app σ from congrFun (befL_1 σ j_v (nAn σ)) 28]; exact ⟨by omega, fun i hi => hI.ap hi⟩)
                    have hNμ := men1_N σ j_v w a
                    generalize hm1 : men1 σ j_v w a = μ at F hz0 hap0 hNμ
                    have hI0 := hNμ.mi hI.1
                    obtain ⟨u1, u2, u3, u4, u5, u6, u7⟩ := hI0.1
                    have hIμ := hI0
                    have eAn : nAn μ = nAn σ := congrFun (hNμ.s (k := 19) (by decide)) 0
                    have eCe : nCe μ = nCe σ := congrFun (hNμ.s (k := 35) (by decide)) 0
                    refine lv_iconst (v := 0) X.ex X.co dX10_mend_157 (by decide) ?_
                    refine lv_istore (lv' := [(5, .int 0), (4, .int 0), (0, .ref (mad (0, 0))), (1, .int (nI j_v)), (2, .int w), (3, .int a)]) X.ex X.co dX10_mend_158 hl (by decide) rfl (fun ls hl => ?_)
                    have loop_16 : ∀ (fu_15 i : Nat), i ≤ nAn σ → nAn σ < i + fu_15 → ∀ (H : Heap) (locs : List Loc), mw G mad A ((menL μ j_v i).2) H → va_S A s.heap H locs → ∀ ls : Array Slot, lv_has ls 7 [(5, .int (nI i)), (4, .int (nI ((menL μ j_v i).1))), (0, .ref (mad (0, 0))), (1, .int (nI j_v)), (2, .int w), (3, .int a)] → Wc p l e 6 0 0 s m args below meth c (eB (some (.int (fMend σ (nI j_v) w a).1)) (mw G mad A (fMend σ (nI j_v) w a).2)) A H locs 0 0 160 ls [] := by
                      intro fu_15
                      induction fu_15 with
                      | zero => intro i h_18 h_19; exact absurd h_19 (by omega)
                      | succ fu_15 ih_17 =>
                        intro i h_18 h_19 H locs F hS ls hl
                        have hN2 := menL_N μ j_v i
                        have hM := menL_I μ j_v hz0 i
                        have eAn2 : nAn (menL μ j_v i).2 = nAn μ := congrFun (hN2.s (k := 19) (by decide)) 0
                        have hI0 := hN2.mi hI0
                        obtain ⟨a1, a2, a3, a4, a5, a6, a7⟩ := hI0.1
                        obtain ⟨m1, m2, m3, m4⟩ := hM
                        have hp2 : ∀ q, q < nAp (menL μ j_v i).2 → app (menL μ j_v i).2 q < 2 ^ 31 := fun q hq => (by obtain ⟨j, hj, ej⟩ := m2 q hq; have := hap0.2 j hj; omega)
                        refine lv_iload X.ex X.co dX10_mend_160 (lv_at hl 0 rfl) ?_
                        refine lv_aload_n X.ex X.co dX10_mend_162 rfl (lv_at hl 2 rfl) ?_
                        refine m_getN X hK F 19 (by decide) rfl rfl (x := nAn σ) (eAn2.trans eAn) m_1370 rfl dX10_mend_163 ?_
                        refine n_cmp_ge X (x := i) (y := nAn σ) (tgt := 331) (by omega) (by omega) dX10_mend_166 (by decide) (fun c_20 => ?_) (fun c_20 => ?_)
                        · have hq_21 : i = nAn σ := by omega
                          rw [hq_21] at hl
                          rw [hq_21] at F
                          have hNr := menL_N μ j_v (nAn σ)
                          have hIr := hNr.mi hIμ
                          have eCr : nCe (menL μ j_v (nAn σ)).2 = nCe μ := congrFun (hNr.s (k := 35) (by decide)) 0
                          generalize hm2 : menL μ j_v (nAn σ) = r2 at F hl hNr hIr eCr
                          refine lv_iconst (v := 0) X.ex X.co dX10_mend_331 (by decide) ?_
                          refine lv_istore (lv' := [(5, .int 0), (4, .int (nI r2.1)), (0, .ref (mad (0, 0))), (1, .int (nI j_v)), (2, .int w), (3, .int a)]) X.ex X.co dX10_mend_332 hl (by decide) rfl (fun ls hl => ?_)
                          have loop_23 : ∀ (fu_22 i : Nat), i ≤ nCe σ → nCe σ < i + fu_22 → ∀ (H : Heap) (locs : List Loc), mw G mad A (revL r2.2 i) H → va_S A s.heap H locs → ∀ ls : Array Slot, lv_has ls 7 [(5, .int (nI i)), (4, .int (nI r2.1)), (0, .ref (mad (0, 0))), (1, .int (nI j_v)), (2, .int w), (3, .int a)] → Wc p l e 6 0 0 s m args below meth c (eB (some (.int (fMend σ (nI j_v) w a).1)) (mw G mad A (fMend σ (nI j_v) w a).2)) A H locs 0 0 334 ls [] := by
                            intro fu_22
                            induction fu_22 with
                            | zero => intro i h_25 h_26; exact absurd h_26 (by omega)
                            | succ fu_22 ih_24 =>
                              intro i h_25 h_26 H locs F hS ls hl
                              have hNv := revL_N r2.2 i
                              have hI0 := hNv.mi hIr
                              obtain ⟨a1, a2, a3, a4, a5, a6, a7⟩ := hI0.1
                              have eCv : nCe (revL r2.2 i) = nCe r2.2 := congrFun (hNv.s (k := 35) (by decide)) 0
                              refine lv_iload X.ex X.co dX10_mend_334 (lv_at hl 0 rfl) ?_
                              refine lv_aload_n X.ex X.co dX10_mend_336 rfl (lv_at hl 2 rfl) ?_
                              refine m_getN X hK F 35 (by decide) rfl rfl (x := nCe σ) (eCv.trans (eCr.trans eCe)) m_1386 rfl dX10_mend_337 ?_
                              refine n_cmp_ge X (x := i) (y := nCe σ) (tgt := 380) (by omega) (by omega) dX10_mend_340 (by decide) (fun c_27 => ?_) (fun c_27 => ?_)
                              · have hq_28 : i = nCe σ := by omega
                                rw [hq_28] at hl
                                rw [hq_28] at F
                                refine lv_iload X.ex X.co dX10_mend_380 (lv_at hl 1 rfl) ?_
                                exact c_i X hS rfl rfl (by have q : fMend σ (nI j_v) w a = (nI r2.1, revL r2.2 (nCe σ)) := (by simp only [fMend, ok_v, ex_v, c_4, if_true]; rw [if_neg hne]; simp only [men2]; rw [hm1, hm2]); unfold eB; rw [q]; exact ⟨rfl, F⟩) (by omega) (by omega) dX10_mend_382
                              · refine lv_aload_n X.ex X.co dX10_mend_343 rfl (lv_at hl 2 rfl) ?_
                                refine m_getA X hK F 41 (by decide) rfl m_1392 rfl dX10_mend_344 ?_
                                refine lv_iload X.ex X.co dX10_mend_347 (lv_at hl 0 rfl) ?_
                                refine lv_aload_n X.ex X.co dX10_mend_349 rfl (lv_at hl 2 rfl) ?_
                                refine m_getA X hK F 41 (by decide) rfl m_1392 rfl dX10_mend_350 ?_
                                refine lv_iload X.ex X.co dX10_mend_353 (lv_at hl 0 rfl) ?_
                                refine m_zald X hK F 41 (by decide) rfl rfl i (by first | omega | (show _ < 30; omega)) (x := ((revL r2.2 i).2 41 i)) rfl dX10_mend_355 ?_
                                refine lv_if_ne (tgt := 368) X.ex X.co dX10_mend_356 (by decide) (fun c_29 => ?_) (fun c_29 => ?_)
                                · refine lv_iconst (v := 1) X.ex X.co dX10_mend_368 (by decide) ?_
                                  refine lv_goto (tgt := 373) X.ex X.co dX10_mend_369 (by decide) ?_
                                  refine m_zst X hK F hS 41 (by decide) rfl rfl rfl i (v := 1) (by decide) (by first | omega | (show _ < 30; omega)) dX10_mend_373 (fun H locs F hS => ?_)
                                  refine lv_iinc (v := nI (i + 1)) (lv' := [(5, .int (nI (i + 1))), (4, .int (nI r2.1)), (0, .ref (mad (0, 0))), (1, .int (nI j_v)), (2, .int w), (3, .int a)]) X.ex X.co dX10_mend_374 hl (k := 0) rfl (n_inc _) (by decide) rfl (fun ls hl => ?_)
                                  refine lv_goto (tgt := 334) X.ex X.co dX10_mend_377 (by decide) ?_
                                  have q_30 : (revL r2.2 (i + 1)) = (sV (revL r2.2 i) 41 i 1) := by first | rfl | simp [revL, bI, *]
                                  exact ih_24 (i + 1) (by omega) (by omega) _ _ (q_30 ▸ F) hS ls (lv_sub hl [0, 1, 2, 3, 4, 5] rfl)
                                · have hce := hI0.ce (i := i) (by omega)
                                  refine lv_aload_n X.ex X.co dX10_mend_359 rfl (lv_at hl 2 rfl) ?_
                                  refine lv_iload X.ex X.co dX10_mend_360 (lv_at hl 0 rfl) ?_
                                  refine q_rV X ce_X10_isEnough m_1658 (c_X10_isEnough l G mad A (revL r2.2 i) hI0 i (by omega) (by omega) (by omega) hce.2.2.1 hce.2.2.2) (g0.step hS hAg) F (mo F) rfl (by decide) rfl hl.1 rfl (Nat.le_of_ble_eq_true rfl) dX10_mend_362 (by omega) (by omega) ?_
                                  refine b_if_ne X (x := enoS (revL r2.2 i) i (nLe (revL r2.2 i))) (tgt := 372) dX10_mend_365 (by decide) (fun c_31 => ?_) (fun c_31 => ?_)
                                  · refine lv_iconst (v := 0) X.ex X.co dX10_mend_372 (by decide) ?_
                                    refine m_zst X hK F hS 41 (by decide) rfl rfl rfl i (v := 0) (by decide) (by first | omega | (show _ < 30; omega)) dX10_mend_373 (fun H locs F hS => ?_)
                                    refine lv_iinc (v := nI (i + 1)) (lv' := [(5, .int (nI (i + 1))), (4, .int (nI r2.1)), (0, .ref (mad (0, 0))), (1, .int (nI j_v)), (2, .int w), (3, .int a)]) X.ex X.co dX10_mend_374 hl (k := 0) rfl (n_inc _) (by decide) rfl (fun ls hl => ?_)
                                    refine lv_goto (tgt := 334) X.ex X.co dX10_mend_377 (by decide) ?_
                                    have q_32 : (revL r2.2 (i + 1)) = (sV (revL r2.2 i) 41 i 0) := by first | rfl | simp [revL, bI, *]
                                    exact ih_24 (i + 1) (by omega) (by omega) _ _ (q_32 ▸ F) hS ls (lv_sub hl [0, 1, 2, 3, 4, 5] rfl)
                                  · refine lv_iconst (v := 1) X.ex X.co dX10_mend_368 (by decide) ?_
                                    refine lv_goto (tgt := 373) X.ex X.co dX10_mend_369 (by decide) ?_
                                    refine m_zst X hK F hS 41 (by decide) rfl rfl rfl i (v := 1) (by decide) (by first | omega | (show _ < 30; omega)) dX10_mend_373 (fun H locs F hS => ?_)
                                    refine lv_iinc (v := nI (i + 1)) (lv' := [(5, .int (nI (i + 1))), (4, .int (nI r2.1)), (0, .ref (mad (0, 0))), (1, .int (nI j_v)), (2, .int w), (3, .int a)]) X.ex X.co dX10_mend_374 hl (k := 0) rfl (n_inc _) (by decide) rfl (fun ls hl => ?_)
                                    refine lv_goto (tgt := 334) X.ex X.co dX10_mend_377 (by decide) ?_
                                    have q_33 : (revL r2.2 (i + 1)) = (sV (revL r2.2 i) 41 i 1) := by first | rfl | simp [revL, bI, *]
                                    exact ih_24 (i + 1) (by omega) (by omega) _ _ (q_33 ▸ F) hS ls (lv_sub hl [0, 1, 2, 3, 4, 5] rfl)
                          exact loop_23 (nCe σ + 1) 0 (by omega) (by omega) _ _ F hS ls (lv_sub hl [0, 1, 2, 3, 4, 5] rfl)
                        · refine lv_aload_n X.ex X.co dX10_mend_169 rfl (lv_at hl 2 rfl) ?_
                          refine m_getA X hK F 21 (by decide) rfl m_1372 rfl dX10_mend_170 ?_
                          refine lv_iload X.ex X.co dX10_mend_173 (lv_at hl 0 rfl) ?_
                          have hex := hIμ.an (i := i) (by omega)
                          refine m_ald X hK F 21 (by decide) rfl rfl i (by first | omega | (show _ < 100; omega)) (x := nI (exe μ i)) (congrArg nI (congrFun (hN2.s (k := 21) (by decide)) i)) dX10_mend_175 ?_
                          refine lv_iload_n X.ex X.co dX10_mend_176 rfl (lv_at hl 3 rfl) ?_
                          refine n_cmp_ne X (x := exe μ i) (y := j_v) (tgt := 325) (by omega) (by omega) dX10_mend_177 (by decide) (fun c_34 => ?_) (fun c_34 => ?_)
                          · refine lv_iinc (v := nI (i + 1)) (lv' := [(5, .int (nI (i + 1))), (4, .int (nI ((menL μ j_v i).1))), (0, .ref (mad (0, 0))), (1, .int (nI j_v)), (2, .int w), (3, .int a)]) X.ex X.co dX10_mend_325 hl (k := 0) rfl (n_inc _) (by decide) rfl (fun ls hl => ?_)
                            refine lv_goto (tgt := 160) X.ex X.co dX10_mend_328 (by decide) ?_
                            have q_35 : nI ((menL μ j_v (i + 1)).1) = nI ((menL μ j_v i).1) := by (simp only [menL]; rw [if_neg c_34])
                            have q_36 : (menL μ j_v (i + 1)).2 = (menL μ j_v i).2 := by (simp only [menL]; rw [if_neg c_34])
                            exact ih_17 (i + 1) (by omega) (by omega) _ _ (q_36 ▸ F) hS ls (lv_sub hl [0, 1, 2, 3, 4, 5] (by first | rfl | (rw [q_35] <;> rfl)))
                          · refine lv_aload_n X.ex X.co dX10_mend_180 rfl (lv_at hl 2 rfl) ?_
                            refine lv_iload X.ex X.co dX10_mend_181 (lv_at hl 0 rfl) ?_
                            refine q_vV X ce_X10_drop m_1638 (c_X10_drop l G mad A hAg (menL μ j_v i).2 (by omega) hp2 i (by omega)) (g0.step hS hAg) F (mo F) rfl (by decide) rfl hl.1 rfl (Nat.le_of_ble_eq_true rfl) dX10_mend_183 (by omega) (by omega) hS (fun _ h => h) (fun H locs F hz hk hS => ?_)
                            refine lv_aload_n X.ex X.co dX10_mend_186 rfl (lv_at hl 2 rfl) ?_
                            refine m_getA X hK F 25 (by decide) rfl m_1376 rfl dX10_mend_187 ?_
                            refine lv_iload X.ex X.co dX10_mend_190 (lv_at hl 0 rfl) ?_
                            refine lv_iconst (v := 0) X.ex X.co dX10_mend_192 (by decide) ?_
                            refine m_astV X hK F hS 25 (by decide) rfl rfl rfl i (v := 0) (by first | omega | (show _ < 100; omega)) dX10_mend_193 (fun H locs F hS => ?_)
                            refine lv_aload_n X.ex X.co dX10_mend_194 rfl (lv_at hl 2 rfl) ?_
                            refine m_getA X hK F 26 (by decide) rfl m_1377 rfl dX10_mend_195 ?_
                            refine lv_iload X.ex X.co dX10_mend_198 (lv_at hl 0 rfl) ?_
                            refine lv_iconst (v := 0) X.ex X.co dX10_mend_200 (by decide) ?_
                            refine m_zst X hK F hS 26 (by decide) rfl rfl rfl i (v := 0) (by decide) (by first | omega | (show _ < 100; omega)) dX10_mend_201 (fun H locs F hS => ?_)
                            have F : mw G mad A (menA (menL μ j_v i).2 i) H := F
                            have hN3 := menA_N hN2 i
                            have hI0 := hN3.mi (hNμ.mi hI.1)
                            have eAn3 : nAn (menA (menL μ j_v i).2 i) = nAn μ := congrFun (hN3.s (k := 19) (by decide)) 0
                            have eHa : nHa (menA (menL μ j_v i).2 i) = nHa (menL μ j_v i).2 := congrFun (dropS_1 (menL μ j_v i).2 i (b := 29) (by decide) (by decide)) 0
                            have eHr : har (menA (menL μ j_v i).2 i) = har (menL μ j_v i).2 := dropS_1 (menL μ j_v i).2 i (b := 30) (by decide) (by decide)
                            have h3b : ∀ z, z < nHa (menA (menL μ j_v i).2 i) → har (menA (menL μ j_v i).2 i) z < nAn μ := fun z hz => (by rw [eHa] at hz; rw [eHr]; have := m4 z hz; omega)
                            refine lv_iload X.ex X.co dX10_mend_202 (lv_at hl 1 rfl) ?_
                            refine lv_aload_n X.ex X.co dX10_mend_204 rfl (lv_at hl 2 rfl) ?_
                            refine lv_iload X.ex X.co dX10_mend_205 (lv_at hl 0 rfl) ?_
                            refine q_rV X ce_X10_grade m_1564 (c_X10_grade l G mad A (menA (menL μ j_v i).2 i) hI0 i (by omega)) (g0.step hS hAg) F (mo F) rfl (by decide) rfl hl.1 rfl (Nat.le_of_ble_eq_true rfl) dX10_mend_207 (by omega) (by omega) ?_
                            refine lv_aload_n X.ex X.co dX10_mend_210 rfl (lv_at hl 2 rfl) ?_
                            refine m_getA X hK F 31 (by decide) rfl m_1382 rfl dX10_mend_211 ?_
                            refine lv_iload X.ex X.co dX10_mend_214 (lv_at hl 0 rfl) ?_
                            refine m_ald X hK F 31 (by decide) rfl rfl i (by first | omega | (show _ < 100; omega)) (x := ((menA (menL μ j_v i).2 i).2 31 i)) rfl dX10_mend_216 ?_
                            refine lv_icmp_ne (tgt := 224) X.ex X.co dX10_mend_217 (by decide) (fun c_37 => ?_) (fun c_37 => ?_)
                            · refine lv_iconst (v := 1) X.ex X.co dX10_mend_224 (by decide) ?_
                              refine n_add X (x := (menL μ j_v i).1) (y := 1) dX10_mend_225 ?_
                              refine lv_istore (lv' := [(4, .int (nI (((menL μ j_v i).1) + 1))), (5, .int (nI i)), (0, .ref (mad (0, 0))), (1, .int (nI j_v)), (2, .int w), (3, .int a)]) X.ex X.co dX10_mend_226 hl (by decide) rfl (fun ls hl => ?_)
                              refine lv_aload_n X.ex X.co dX10_mend_228 rfl (lv_at hl 2 rfl) ?_
                              refine m_getN X hK F 29 (by decide) rfl rfl (x := nHa (menA (menL μ j_v i).2 i)) rfl m_1380 rfl dX10_mend_229 ?_
                              refine lv_istore (lv' := [(6, .int (nI (nHa (menA (menL μ j_v i).2 i)))), (4, .int (nI (((menL μ j_v i).1) + 1))), (5, .int (nI i)), (0, .ref (mad (0, 0))), (1, .int (nI j_v)), (2, .int w), (3, .int a)]) X.ex X.co dX10_mend_232 hl (by decide) rfl (fun ls hl => ?_)
                              have lp : ∀ (q : Nat) (υ : Sg), harD υ i q = harD (menA (menL μ j_v i).2 i) i (nHa (menA (menL μ j_v i).2 i)) → eqN υ μ → υ.2 = (menA (menL μ j_v i).2 i).2 → nHa υ = nHa (menA (menL μ j_v i).2 i) → (∀ z, z < nHa (menA (menL μ j_v i).2 i) → har υ z < nAn μ) → q ≤ nHa (menA (menL μ j_v i).2 i) → ∀ (H : Heap) (locs : List Loc), mw G mad A υ H → va_S A s.heap H locs → ∀ ls : Array Slot, lv_has ls 7 [(6, .int (nI q)), (4, .int (nI (((menL μ j_v i).1) + 1))), (5, .int (nI i)), (0, .ref (mad (0, 0))), (1, .int (nI j_v)), (2, .int w), (3, .int a)] → Wc p l e 6 0 0 s m args below meth c (eB (some (.int (fMend σ (nI j_v) w a).1)) (mw G mad A (fMend σ (nI j_v) w a).2)) A H locs 0 0 234 ls [] := by
                                intro q
                                induction q with
                                | zero =>
                                  intro υ hd hNu hVu hHu hbu hqu H locs F hS ls hl
                                  have hI0 := hNu.mi (hNμ.mi hI.1)
                                  have eAnu : nAn υ = nAn μ := congrFun (hNu.s (k := 19) (by decide)) 0
                                  refine lv_iload X.ex X.co dX10_mend_234 (lv_at hl 0 rfl) ?_
                                  refine lv_if_le (tgt := 306) X.ex X.co dX10_mend_236 (by decide) (fun c_38 => ?_) (fun c_38 => ?_)
                                  · have hz5 : harD (menA (menL μ j_v i).2 i) i (nHa (menA (menL μ j_v i).2 i)) = (0, υ) := hd.symm
                                    refine lv_aload_n X.ex X.co dX10_mend_306 rfl (lv_at hl 3 rfl) ?_
                                    refine m_getA X hK F 30 (by decide) rfl m_1381 rfl dX10_mend_307 ?_
                                    refine lv_iload X.ex X.co dX10_mend_310 (lv_at hl 0 rfl) ?_
                                    refine lv_iload X.ex X.co dX10_mend_312 (lv_at hl 2 rfl) ?_
                                    refine m_astN X hK F hS 30 (by decide) rfl rfl rfl 0 i (by first | omega | (show _ < 100; omega)) dX10_mend_314 (fun H locs F hS => ?_)
                                    refine lv_aload_n X.ex X.co dX10_mend_315 rfl (lv_at hl 3 rfl) ?_
                                    refine lv_dup X.ex X.co dX10_mend_316 rfl ?_
                                    refine m_getN X hK F 29 (by decide) rfl rfl (x := nHa (menA (menL μ j_v i).2 i)) hHu m_1380 rfl dX10_mend_317 ?_
                                    refine lv_iconst (v := 1) X.ex X.co dX10_mend_320 (by decide) ?_
                                    refine n_add X (x := nHa (menA (menL μ j_v i).2 i)) (y := 1) dX10_mend_321 ?_
                                    refine m_putN X hK F hS 29 (by decide) rfl rfl (v := (nHa (menA (menL μ j_v i).2 i)) + 1) m_1380 rfl rfl (by decide) dX10_mend_322 (fun H locs F hS => ?_)
                                    refine lv_iinc (v := nI (i + 1)) (lv' := [(5, .int (nI (i + 1))), (6, .int (nI 0)), (4, .int (nI (((menL μ j_v i).1) + 1))), (0, .ref (mad (0, 0))), (1, .int (nI j_v)), (2, .int w), (3, .int a)]) X.ex X.co dX10_mend_325 hl (k := 2) rfl (n_inc _) (by decide) rfl (fun ls hl => ?_)
                                    refine lv_goto (tgt := 160) X.ex X.co dX10_mend_328 (by decide) ?_
                                    have q_39 : nI ((menL μ j_v (i + 1)).1) = nI (((menL μ j_v i).1) + 1) := by (simp only [menL]; rw [if_pos c_34]; simp [c_37])
                                    have q_40 : (menL μ j_v (i + 1)).2 = (sN (sN υ 30 0 i) 29 0 ((nHa (menA (menL μ j_v i).2 i)) + 1)) := by (simp only [menL]; rw [if_pos c_34]; simp only [harP]; rw [hz5])
                                    exact ih_17 (i + 1) (by omega) (by omega) _ _ (q_40 ▸ F) hS ls (lv_sub hl [0, 2, 3, 4, 5, 6] (by first | rfl | (rw [q_39] <;> rfl)))
                                  · exact absurd (by decide) c_38
                                | succ q ihq =>
                                  intro υ hd hNu hVu hHu hbu hqu H locs F hS ls hl
                                  have hI0 := hNu.mi (hNμ.mi hI.1)
                                  have eAnu : nAn υ = nAn μ := congrFun (hNu.s (k := 19) (by decide)) 0
                                  have hh1 := hbu q (by omega)
                                  refine lv_iload X.ex X.co dX10_mend_234 (lv_at hl 0 rfl) ?_
                                  refine n_if_le X (x := q + 1) (tgt := 306) (by omega) dX10_mend_236 (by decide) (fun c_41 => ?_) (fun c_41 => ?_)
                                  · exact absurd c_41 (by omega)
                                  · refine lv_aload_n X.ex X.co dX10_mend_239 rfl (lv_at hl 3 rfl) ?_
                                    refine lv_iload X.ex X.co dX10_mend_240 (lv_at hl 2 rfl) ?_
                                    refine q_rV X ce_X10_grade m_1564 (c_X10_grade l G mad A υ hI0 i (by omega)) (g0.step hS hAg) F (mo F) rfl (by decide) rfl hl.1 rfl (Nat.le_of_ble_eq_true rfl) dX10_mend_242 (by omega) (by omega) ?_
                                    refine lv_aload_n X.ex X.co dX10_mend_245 rfl (lv_at hl 3 rfl) ?_
                                    refine m_getA X hK F 31 (by decide) rfl m_1382 rfl dX10_mend_246 ?_
                                    refine lv_iload X.ex X.co dX10_mend_249 (lv_at hl 2 rfl) ?_
                                    refine m_ald X hK F 31 (by decide) rfl rfl i (by first | omega | (show _ < 100; omega)) (x := (υ.2 31 i)) rfl dX10_mend_251 ?_
                                    refine lv_isub X.ex X.co dX10_mend_252 ?_
                                    refine lv_aload_n X.ex X.co dX10_mend_253 rfl (lv_at hl 3 rfl) ?_
                                    refine lv_aload_n X.ex X.co dX10_mend_254 rfl (lv_at hl 3 rfl) ?_
                                    refine m_getA X hK F 30 (by decide) rfl m_1381 rfl dX10_mend_255 ?_
                                    refine lv_iload X.ex X.co dX10_mend_258 (lv_at hl 0 rfl) ?_
                                    refine lv_iconst (v := 1) X.ex X.co dX10_mend_260 (by decide) ?_
                                    refine n_sub X (x := q + 1) (y := 1) (by omega) dX10_mend_261 (top_eq (y := nI q) rfl ?_)
                                    refine m_ald X hK F 30 (by decide) rfl rfl q (by first | omega | (show _ < 100; omega)) (x := nI (har υ q)) rfl dX10_mend_262 ?_
                                    refine q_rV X ce_X10_grade m_1564 (c_X10_grade l G mad A υ hI0 (har υ q) (by omega)) (g0.step hS hAg) F (mo F) rfl (by decide) rfl hl.1 rfl (Nat.le_of_ble_eq_true rfl) dX10_mend_263 (by omega) (by omega) ?_
                                    refine lv_aload_n X.ex X.co dX10_mend_266 rfl (lv_at hl 3 rfl) ?_
                                    refine m_getA X hK F 31 (by decide) rfl m_1382 rfl dX10_mend_267 ?_
                                    refine lv_aload_n X.ex X.co dX10_mend_270 rfl (lv_at hl 3 rfl) ?_
                                    refine m_getA X hK F 30 (by decide) rfl m_1381 rfl dX10_mend_271 ?_
                                    refine lv_iload X.ex X.co dX10_mend_274 (lv_at hl 0 rfl) ?_
                                    refine lv_iconst (v := 1) X.ex X.co dX10_mend_276 (by decide) ?_
                                    refine n_sub X (x := q + 1) (y := 1) (by omega) dX10_mend_277 (top_eq (y := nI q) rfl ?_)
                                    refine m_ald X hK F 30 (by decide) rfl rfl q (by first | omega | (show _ < 100; omega)) (x := nI (har υ q)) rfl dX10_mend_278 ?_
                                    refine m_ald X hK F 31 (by decide) rfl rfl (har υ q) (by first | omega | (show _ < 100; omega)) (x := (υ.2 31 (har υ q))) rfl dX10_mend_279 ?_
                                    refine lv_isub X.ex X.co dX10_mend_280 ?_
                                    refine lv_icmp_ge (tgt := 306) X.ex X.co dX10_mend_281 (by decide) (fun c_42 => ?_) (fun c_42 => ?_)
                                    · have hz5 : harD (menA (menL μ j_v i).2 i) i (nHa (menA (menL μ j_v i).2 i)) = ((q + 1), υ) := hd.symm.trans (harD_g c_42)
                                      refine lv_aload_n X.ex X.co dX10_mend_306 rfl (lv_at hl 3 rfl) ?_
                                      refine m_getA X hK F 30 (by decide) rfl m_1381 rfl dX10_mend_307 ?_
                                      refine lv_iload X.ex X.co dX10_mend_310 (lv_at hl 0 rfl) ?_
                                      refine lv_iload X.ex X.co dX10_mend_312 (lv_at hl 2 rfl) ?_
                                      refine m_astN X hK F hS 30 (by decide) rfl rfl rfl (q + 1) i (by first | omega | (show _ < 100; omega)) dX10_mend_314 (fun H locs F hS => ?_)
                                      refine lv_aload_n X.ex X.co dX10_mend_315 rfl (lv_at hl 3 rfl) ?_
                                      refine lv_dup X.ex X.co dX10_mend_316 rfl ?_
                                      refine m_getN X hK F 29 (by decide) rfl rfl (x := nHa (menA (menL μ j_v i).2 i)) hHu m_1380 rfl dX10_mend_317 ?_
                                      refine lv_iconst (v := 1) X.ex X.co dX10_mend_320 (by decide) ?_
                                      refine n_add X (x := nHa (menA (menL μ j_v i).2 i)) (y := 1) dX10_mend_321 ?_
                                      refine m_putN X hK F hS 29 (by decide) rfl rfl (v := (nHa (menA (menL μ j_v i).2 i)) + 1) m_1380 rfl rfl (by decide) dX10_mend_322 (fun H locs F hS => ?_)
                                      refine lv_iinc (v := nI (i + 1)) (lv' := [(5, .int (nI (i + 1))), (6, .int (nI (q + 1))), (4, .int (nI (((menL μ j_v i).1) + 1))), (0, .ref (mad (0, 0))), (1, .int (nI j_v)), (2, .int w), (3, .int a)]) X.ex X.co dX10_mend_325 hl (k := 2) rfl (n_inc _) (by decide) rfl (fun ls hl => ?_)
                                      refine lv_goto (tgt := 160) X.ex X.co dX10_mend_328 (by decide) ?_
                                      have q_43 : nI ((menL μ j_v (i + 1)).1) = nI (((menL μ j_v i).1) + 1) := by (simp only [menL]; rw [if_pos c_34]; simp [c_37])
                                      have q_44 : (menL μ j_v (i + 1)).2 = (sN (sN υ 30 (q + 1) i) 29 0 ((nHa (menA (menL μ j_v i).2 i)) + 1)) := by (simp only [menL]; rw [if_pos c_34]; simp only [harP]; rw [hz5])
                                      exact ih_17 (i + 1) (by omega) (by omega) _ _ (q_44 ▸ F) hS ls (lv_sub hl [0, 2, 3, 4, 5, 6] (by first | rfl | (rw [q_43] <;> rfl)))
                                    · refine lv_aload_n X.ex X.co dX10_mend_284 rfl (lv_at hl 3 rfl) ?_
                                      refine m_getA X hK F 30 (by decide) rfl m_1381 rfl dX10_mend_285 ?_
                                      refine lv_iload X.ex X.co dX10_mend_288 (lv_at hl 0 rfl) ?_
                                      refine lv_aload_n X.ex X.co dX10_mend_290 rfl (lv_at hl 3 rfl) ?_
                                      refine m_getA X hK F 30 (by decide) rfl m_1381 rfl dX10_mend_291 ?_
                                      refine lv_iload X.ex X.co dX10_mend_294 (lv_at hl 0 rfl) ?_
                                      refine lv_iconst (v := 1) X.ex X.co dX10_mend_296 (by decide) ?_
                                      refine n_sub X (x := q + 1) (y := 1) (by omega) dX10_mend_297 (top_eq (y := nI q) rfl ?_)
                                      refine m_ald X hK F 30 (by decide) rfl rfl q (by first | omega | (show _ < 100; omega)) (x := nI (har υ q)) rfl dX10_mend_298 ?_
                                      refine m_astN X hK F hS 30 (by decide) rfl rfl rfl (q + 1) (har υ q) (by first | omega | (show _ < 100; omega)) dX10_mend_299 (fun H locs F hS => ?_)
                                      refine lv_iinc (v := nI ((q + 1) - 1)) (lv' := [(6, .int (nI ((q + 1) - 1))), (4, .int (nI (((menL μ j_v i).1) + 1))), (5, .int (nI i)), (0, .ref (mad (0, 0))), (1, .int (nI j_v)), (2, .int w), (3, .int a)]) X.ex X.co dX10_mend_300 hl (k := 0) rfl (n_dec (by omega)) (by decide) rfl (fun ls hl => ?_)
                                      refine lv_goto (tgt := 234) X.ex X.co dX10_mend_303 (by decide) ?_
                                      exact ihq (sN υ 30 (q + 1) (har υ q)) ((harD_s c_42).symm.trans hd) (hNu.n (by decide) _ _) hVu hHu (fun z hz => (by show (if (30 : Nat) = 30 ∧ z = q + 1 then har υ q else har υ z) < nAn μ; split; exact hh1; exact hbu z hz)) (by omega) H locs F hS ls (lv_sub hl [0, 1, 2, 3, 4, 5, 6] rfl)
                              exact lp (nHa (menA (menL μ j_v i).2 i)) (menA (menL μ j_v i).2 i) rfl hN3 rfl rfl h3b (Nat.le_refl _) H locs F hS ls (lv_sub hl [0, 1, 2, 3, 4, 5, 6] rfl)
                            · refine lv_iconst (v := 0) X.ex X.co dX10_mend_220 (by decide) ?_
                              refine lv_goto (tgt := 225) X.ex X.co dX10_mend_221 (by decide) ?_
                              refine n_add X (x := (menL μ j_v i).1) (y := 0) dX10_mend_225 ?_
                              refine lv_istore (lv' := [(4, .int (nI (((menL μ j_v i).1) + 0))), (5, .int (nI i)), (0, .ref (mad (0, 0))), (1, .int (nI j_v)), (2, .int w), (3, .int a)]) X.ex X.co dX10_mend_226 hl (by decide) rfl (fun ls hl => ?_)
                              refine lv_aload_n X.ex X.co dX10_mend_228 rfl (lv_at hl 2 rfl) ?_
                              refine m_getN X hK F 29 (by decide) rfl rfl (x := nHa (menA (menL μ j_v i).2 i)) rfl m_1380 rfl dX10_mend_229 ?_
                              refine lv_istore (lv' := [(6, .int (nI (nHa (menA (menL μ j_v i).2 i)))), (4, .int (nI (((menL μ j_v i).1) + 0))), (5, .int (nI i)), (0, .ref (mad (0, 0))), (1, .int (nI j_v)), (2, .int w), (3, .int a)]) X.ex X.co dX10_mend_232 hl (by decide) rfl (fun ls hl => ?_)
                              have lp : ∀ (q : Nat) (υ : Sg), harD υ i q = harD (menA (menL μ j_v i).2 i) i (nHa (menA (menL μ j_v i).2 i)) → eqN υ μ → υ.2 = (menA (menL μ j_v i).2 i).2 → nHa υ = nHa (menA (menL μ j_v i).2 i) → (∀ z, z < nHa (menA (menL μ j_v i).2 i) → har υ z < nAn μ) → q ≤ nHa (menA (menL μ j_v i).2 i) → ∀ (H : Heap) (locs : List Loc), mw G mad A υ H → va_S A s.heap H locs → ∀ ls : Array Slot, lv_has ls 7 [(6, .int (nI q)), (4, .int (nI (((menL μ j_v i).1) + 0))), (5, .int (nI i)), (0, .ref (mad (0, 0))), (1, .int (nI j_v)), (2, .int w), (3, .int a)] → Wc p l e 6 0 0 s m args below meth c (eB (some (.int (fMend σ (nI j_v) w a).1)) (mw G mad A (fMend σ (nI j_v) w a).2)) A H locs 0 0 234 ls [] := by
                                intro q
                                induction q with
                                | zero =>
                                  intro υ hd hNu hVu hHu hbu hqu H locs F hS ls hl
                                  have hI0 := hNu.mi (hNμ.mi hI.1)
                                  have eAnu : nAn υ = nAn μ := congrFun (hNu.s (k := 19) (by decide)) 0
                                  refine lv_iload X.ex X.co dX10_mend_234 (lv_at hl 0 rfl) ?_
                                  refine lv_if_le (tgt := 306) X.ex X.co dX10_mend_236 (by decide) (fun c_45 => ?_) (fun c_45 => ?_)
                                  · have hz5 : harD (menA (menL μ j_v i).2 i) i (nHa (menA (menL μ j_v i).2 i)) = (0, υ) := hd.symm
                                    refine lv_aload_n X.ex X.co dX10_mend_306 rfl (lv_at hl 3 rfl) ?_
                                    refine m_getA X hK F 30 (by decide) rfl m_1381 rfl dX10_mend_307 ?_
                                    refine lv_iload X.ex X.co dX10_mend_310 (lv_at hl 0 rfl) ?_
                                    refine lv_iload X.ex X.co dX10_mend_312 (lv_at hl 2 rfl) ?_
                                    refine m_astN X hK F hS 30 (by decide) rfl rfl rfl 0 i (by first | omega | (show _ < 100; omega)) dX10_mend_314 (fun H locs F hS => ?_)
                                    refine lv_aload_n X.ex X.co dX10_mend_315 rfl (lv_at hl 3 rfl) ?_
                                    refine lv_dup X.ex X.co dX10_mend_316 rfl ?_
                                    refine m_getN X hK F 29 (by decide) rfl rfl (x := nHa (menA (menL μ j_v i).2 i)) hHu m_1380 rfl dX10_mend_317 ?_
                                    refine lv_iconst (v := 1) X.ex X.co dX10_mend_320 (by decide) ?_
                                    refine n_add X (x := nHa (menA (menL μ j_v i).2 i)) (y := 1) dX10_mend_321 ?_
                                    refine m_putN X hK F hS 29 (by decide) rfl rfl (v := (nHa (menA (menL μ j_v i).2 i)) + 1) m_1380 rfl rfl (by decide) dX10_mend_322 (fun H locs F hS => ?_)
                                    refine lv_iinc (v := nI (i + 1)) (lv' := [(5, .int (nI (i + 1))), (6, .int (nI 0)), (4, .int (nI (((menL μ j_v i).1) + 0))), (0, .ref (mad (0, 0))), (1, .int (nI j_v)), (2, .int w), (3, .int a)]) X.ex X.co dX10_mend_325 hl (k := 2) rfl (n_inc _) (by decide) rfl (fun ls hl => ?_)
                                    refine lv_goto (tgt := 160) X.ex X.co dX10_mend_328 (by decide) ?_
                                    have q_46 : nI ((menL μ j_v (i + 1)).1) = nI (((menL μ j_v i).1) + 0) := by (simp only [menL]; rw [if_pos c_34]; simp [c_37])
                                    have q_47 : (menL μ j_v (i + 1)).2 = (sN (sN υ 30 0 i) 29 0 ((nHa (menA (menL μ j_v i).2 i)) + 1)) := by (simp only [menL]; rw [if_pos c_34]; simp only [harP]; rw [hz5])
                                    exact ih_17 (i + 1) (by omega) (by omega) _ _ (q_47 ▸ F) hS ls (lv_sub hl [0, 2, 3, 4, 5, 6] (by first | rfl | (rw [q_46] <;> rfl)))
                                  · exact absurd (by decide) c_45
                                | succ q ihq =>
                                  intro υ hd hNu hVu hHu hbu hqu H locs F hS ls hl
                                  have hI0 := hNu.mi (hNμ.mi hI.1)
                                  have eAnu : nAn υ = nAn μ := congrFun (hNu.s (k := 19) (by decide)) 0
                                  have hh1 := hbu q (by omega)
                                  refine lv_iload X.ex X.co dX10_mend_234 (lv_at hl 0 rfl) ?_
                                  refine n_if_le X (x := q + 1) (tgt := 306) (by omega) dX10_mend_236 (by decide) (fun c_48 => ?_) (fun c_48 => ?_)
                                  · exact absurd c_48 (by omega)
                                  · refine lv_aload_n X.ex X.co dX10_mend_239 rfl (lv_at hl 3 rfl) ?_
                                    refine lv_iload X.ex X.co dX10_mend_240 (lv_at hl 2 rfl) ?_
                                    refine q_rV X ce_X10_grade m_1564 (c_X10_grade l G mad A υ hI0 i (by omega)) (g0.step hS hAg) F (mo F) rfl (by decide) rfl hl.1 rfl (Nat.le_of_ble_eq_true rfl) dX10_mend_242 (by omega) (by omega) ?_
                                    refine lv_aload_n X.ex X.co dX10_mend_245 rfl (lv_at hl 3 rfl) ?_
                                    refine m_getA X hK F 31 (by decide) rfl m_1382 rfl dX10_mend_246 ?_
                                    refine lv_iload X.ex X.co dX10_mend_249 (lv_at hl 2 rfl) ?_
                                    refine m_ald X hK F 31 (by decide) rfl rfl i (by first | omega | (show _ < 100; omega)) (x := (υ.2 31 i)) rfl dX10_mend_251 ?_
                                    refine lv_isub X.ex X.co dX10_mend_252 ?_
                                    refine lv_aload_n X.ex X.co dX10_mend_253 rfl (lv_at hl 3 rfl) ?_
                                    refine lv_aload_n X.ex X.co dX10_mend_254 rfl (lv_at hl 3 rfl) ?_
                                    refine m_getA X hK F 30 (by decide) rfl m_1381 rfl dX10_mend_255 ?_
                                    refine lv_iload X.ex X.co dX10_mend_258 (lv_at hl 0 rfl) ?_
                                    refine lv_iconst (v := 1) X.ex X.co dX10_mend_260 (by decide) ?_
                                    refine n_sub X (x := q + 1) (y := 1) (by omega) dX10_mend_261 (top_eq (y := nI q) rfl ?_)
                                    refine m_ald X hK F 30 (by decide) rfl rfl q (by first | omega | (show _ < 100; omega)) (x := nI (har υ q)) rfl dX10_mend_262 ?_
                                    refine q_rV X ce_X10_grade m_1564 (c_X10_grade l G mad A υ hI0 (har υ q) (by omega)) (g0.step hS hAg) F (mo F) rfl (by decide) rfl hl.1 rfl (Nat.le_of_ble_eq_true rfl) dX10_mend_263 (by omega) (by omega) ?_
                                    refine lv_aload_n X.ex X.co dX10_mend_266 rfl (lv_at hl 3 rfl) ?_
                                    refine m_getA X hK F 31 (by decide) rfl m_1382 rfl dX10_mend_267 ?_
                                    refine lv_aload_n X.ex X.co dX10_mend_270 rfl (lv_at hl 3 rfl) ?_
                                    refine m_getA X hK F 30 (by decide) rfl m_1381 rfl dX10_mend_271 ?_
                                    refine lv_iload X.ex X.co dX10_mend_274 (lv_at hl 0 rfl) ?_
                                    refine lv_iconst (v := 1) X.ex X.co dX10_mend_276 (by decide) ?_
                                    refine n_sub X (x := q + 1) (y := 1) (by omega) dX10_mend_277 (top_eq (y := nI q) rfl ?_)
                                    refine m_ald X hK F 30 (by decide) rfl rfl q (by first | omega | (show _ < 100; omega)) (x := nI (har υ q)) rfl dX10_mend_278 ?_
                                    refine m_ald X hK F 31 (by decide) rfl rfl (har υ q) (by first | omega | (show _ < 100; omega)) (x := (υ.2 31 (har υ q))) rfl dX10_mend_279 ?_
                                    refine lv_isub X.ex X.co dX10_mend_280 ?_
                                    refine lv_icmp_ge (tgt := 306) X.ex X.co dX10_mend_281 (by decide) (fun c_49 => ?_) (fun c_49 => ?_)
                                    · have hz5 : harD (menA (menL μ j_v i).2 i) i (nHa (menA (menL μ j_v i).2 i)) = ((q + 1), υ) := hd.symm.trans (harD_g c_49)
                                      refine lv_aload_n X.ex X.co dX10_mend_306 rfl (lv_at hl 3 rfl) ?_
                                      refine m_getA X hK F 30 (by decide) rfl m_1381 rfl dX10_mend_307 ?_
                                      refine lv_iload X.ex X.co dX10_mend_310 (lv_at hl 0 rfl) ?_
                                      refine lv_iload X.ex X.co dX10_mend_312 (lv_at hl 2 rfl) ?_
                                      refine m_astN X hK F hS 30 (by decide) rfl rfl rfl (q + 1) i (by first | omega | (show _ < 100; omega)) dX10_mend_314 (fun H locs F hS => ?_)
                                      refine lv_aload_n X.ex X.co dX10_mend_315 rfl (lv_at hl 3 rfl) ?_
                                      refine lv_dup X.ex X.co dX10_mend_316 rfl ?_
                                      refine m_getN X hK F 29 (by decide) rfl rfl (x := nHa (menA (menL μ j_v i).2 i)) hHu m_1380 rfl dX10_mend_317 ?_
                                      refine lv_iconst (v := 1) X.ex X.co dX10_mend_320 (by decide) ?_
                                      refine n_add X (x := nHa (menA (menL μ j_v i).2 i)) (y := 1) dX10_mend_321 ?_
                                      refine m_putN X hK F hS 29 (by decide) rfl rfl (v := (nHa (menA (menL μ j_v i).2 i)) + 1) m_1380 rfl rfl (by decide) dX10_mend_322 (fun H locs F hS => ?_)
                                      refine lv_iinc (v := nI (i + 1)) (lv' := [(5, .int (nI (i + 1))), (6, .int (nI (q + 1))), (4, .int (nI (((menL μ j_v i).1) + 0))), (0, .ref (mad (0, 0))), (1, .int (nI j_v)), (2, .int w), (3, .int a)]) X.ex X.co dX10_mend_325 hl (k := 2) rfl (n_inc _) (by decide) rfl (fun ls hl => ?_)
                                      refine lv_goto (tgt := 160) X.ex X.co dX10_mend_328 (by decide) ?_
                                      have q_50 : nI ((menL μ j_v (i + 1)).1) = nI (((menL μ j_v i).1) + 0) := by (simp only [menL]; rw [if_pos c_34]; simp [c_37])
                                      have q_51 : (menL μ j_v (i + 1)).2 = (sN (sN υ 30 (q + 1) i) 29 0 ((nHa (menA (menL μ j_v i).2 i)) + 1)) := by (simp only [menL]; rw [if_pos c_34]; simp only [harP]; rw [hz5])
                                      exact ih_17 (i + 1) (by omega) (by omega) _ _ (q_51 ▸ F) hS ls (lv_sub hl [0, 2, 3, 4, 5, 6] (by first | rfl | (rw [q_50] <;> rfl)))
                                    · refine lv_aload_n X.ex X.co dX10_mend_284 rfl (lv_at hl 3 rfl) ?_
                                      refine m_getA X hK F 30 (by decide) rfl m_1381 rfl dX10_mend_285 ?_
                                      refine lv_iload X.ex X.co dX10_mend_288 (lv_at hl 0 rfl) ?_
                                      refine lv_aload_n X.ex X.co dX10_mend_290 rfl (lv_at hl 3 rfl) ?_
                                      refine m_getA X hK F 30 (by decide) rfl m_1381 rfl dX10_mend_291 ?_
                                      refine lv_iload X.ex X.co dX10_mend_294 (lv_at hl 0 rfl) ?_
                                      refine lv_iconst (v := 1) X.ex X.co dX10_mend_296 (by decide) ?_
                                      refine n_sub X (x := q + 1) (y := 1) (by omega) dX10_mend_297 (top_eq (y := nI q) rfl ?_)
                                      refine m_ald X hK F 30 (by decide) rfl rfl q (by first | omega | (show _ < 100; omega)) (x := nI (har υ q)) rfl dX10_mend_298 ?_
                                      refine m_astN X hK F hS 30 (by decide) rfl rfl rfl (q + 1) (har υ q) (by first | omega | (show _ < 100; omega)) dX10_mend_299 (fun H locs F hS => ?_)
                                      refine lv_iinc (v := nI ((q + 1) - 1)) (lv' := [(6, .int (nI ((q + 1) - 1))), (4, .int (nI (((menL μ j_v i).1) + 0))), (5, .int (nI i)), (0, .ref (mad (0, 0))), (1, .int (nI j_v)), (2, .int w), (3, .int a)]) X.ex X.co dX10_mend_300 hl (k := 0) rfl (n_dec (by omega)) (by decide) rfl (fun ls hl => ?_)
                                      refine lv_goto (tgt := 234) X.ex X.co dX10_mend_303 (by decide) ?_
                                      exact ihq (sN υ 30 (q + 1) (har υ q)) ((harD_s c_49).symm.trans hd) (hNu.n (by decide) _ _) hVu hHu (fun z hz => (by show (if (30 : Nat) = 30 ∧ z = q + 1 then har υ q else har υ z) < nAn μ; split; exact hh1; exact hbu z hz)) (by omega) H locs F hS ls (lv_sub hl [0, 1, 2, 3, 4, 5, 6] rfl)
                              exact lp (nHa (menA (menL μ j_v i).2 i)) (menA (menL μ j_v i).2 i) rfl hN3 rfl rfl h3b (Nat.le_refl _) H locs F hS ls (lv_sub hl [0, 1, 2, 3, 4, 5, 6] rfl)
                    exact loop_16 (nAn σ + 1) 0 (by omega) (by omega) _ _ F hS ls (lv_sub hl [0, 1, 2, 3, 4, 5] rfl)
                  · refine lv_aload_n X.ex X.co dX10_mend_86 rfl (lv_at hl 1 rfl) ?_
                    refine m_getA X hK F 31 (by decide) rfl m_1382 rfl dX10_mend_87 ?_
                    refine lv_iload X.ex X.co dX10_mend_90 (lv_at hl 0 rfl) ?_
                    refine lv_aload_n X.ex X.co dX10_mend_92 rfl (lv_at hl 1 rfl) ?_
                    refine m_getA X hK F 21 (by decide) rfl m_1372 rfl dX10_mend_93 ?_
                    refine lv_iload X.ex X.co dX10_mend_96 (lv_at hl 0 rfl) ?_
                    have hex := hI.1.an (i := i) (by omega)
                    refine m_ald X hK F 21 (by decide) rfl rfl i (by first | omega | (show _ < 100; omega)) (x := nI (exe σ i)) (congrArg nI (congrFun (congrFun (befL_1 σ j_v i) 21) i)) dX10_mend_98 ?_
                    refine lv_iload_n X.ex X.co dX10_mend_99 rfl (lv_at hl 2 rfl) ?_
                    refine n_cmp_ne X (x := exe σ i) (y := j_v) (tgt := 112) (by omega) (by omega) dX10_mend_100 (by decide) (fun c_52 => ?_) (fun c_52 => ?_)
                    · refine lv_iconst (v := 0) X.ex X.co dX10_mend_112 (by decide) ?_
                      refine m_astV X hK F hS 31 (by decide) rfl rfl rfl i (v := 0) (by first | omega | (show _ < 100; omega)) dX10_mend_113 (fun H locs F hS => ?_)
                      refine lv_iinc (v := nI (i + 1)) (lv' := [(4, .int (nI (i + 1))), (0, .ref (mad (0, 0))), (1, .int (nI j_v)), (2, .int w), (3, .int a)]) X.ex X.co dX10_mend_114 hl (k := 0) rfl (n_inc _) (by decide) rfl (fun ls hl => ?_)
                      refine lv_goto (tgt := 77) X.ex X.co dX10_mend_117 (by decide) ?_
                      have q_53 : (befL σ j_v (i + 1)) = (sV (befL σ j_v i) 31 i 0) := by first | rfl | simp [befL, *]
                      exact ih_10 (i + 1) (by omega) (by omega) _ _ (q_53 ▸ F) hS ls (lv_sub hl [0, 1, 2, 3, 4] rfl)
                    · refine lv_aload_n X.ex X.co dX10_mend_103 rfl (lv_at hl 1 rfl) ?_
                      refine lv_iload X.ex X.co dX10_mend_104 (lv_at hl 0 rfl) ?_
                      refine q_rV X ce_X10_grade m_1564 (c_X10_grade l G mad A (befL σ j_v i) hI0 i (by omega)) (g0.step hS hAg) F (mo F) rfl (by decide) rfl hl.1 rfl (Nat.le_of_ble_eq_true rfl) dX10_mend_106 (by omega) (by omega) ?_
                      refine lv_goto (tgt := 113) X.ex X.co dX10_mend_109 (by decide) ?_
                      refine m_astV X hK F hS 31 (by decide) rfl rfl rfl i (v := (grade (befL σ j_v i) i)) (by first | omega | (show _ < 100; omega)) dX10_mend_113 (fun H locs F hS => ?_)
                      refine lv_iinc (v := nI (i + 1)) (lv' := [(4, .int (nI (i + 1))), (0, .ref (mad (0, 0))), (1, .int (nI j_v)), (2, .int w), (3, .int a)]) X.ex X.co dX10_mend_114 hl (k := 0) rfl (n_inc _) (by decide) rfl (fun ls hl => ?_)
                      refine lv_goto (tgt := 77) X.ex X.co dX10_mend_117 (by decide) ?_
                      have q_54 : (befL σ j_v (i + 1)) = (sV (befL σ j_v i) 31 i (grade (befL σ j_v i) i)) := by first | rfl | simp [befL, *]
                      exact ih_10 (i + 1) (by omega) (by omega) _ _ (q_54 ▸ F) hS ls (lv_sub hl [0, 1, 2, 3, 4] rfl)
              exact loop_9 (nAn σ + 1) 0 (by omega) (by omega) _ _ F hS ls (lv_sub hl [0, 1, 2, 3, 4] rfl)
            · exact absurd (by decide) c_7
          · refine lv_aload_n X.ex X.co dX10_mend_50 rfl (lv_at hl 0 rfl) ?_
            refine m_getA X hK F 14 (by decide) rfl m_1365 rfl dX10_mend_51 ?_
            refine lv_iload_n X.ex X.co dX10_mend_54 rfl (lv_at hl 1 rfl) ?_
            refine m_ald X hK F 14 (by decide) rfl rfl j_v (by first | omega | (show _ < 12; omega)) (x := (σ.2 14 j_v)) rfl dX10_mend_55 ?_
            refine lv_iload_n X.ex X.co dX10_mend_56 rfl (lv_at hl 3 rfl) ?_
            refine lv_icmp_ne (tgt := 64) X.ex X.co dX10_mend_57 (by decide) (fun c_55 => ?_) (fun c_55 => ?_)
            · refine lv_iconst (v := 0) X.ex X.co dX10_mend_64 (by decide) ?_
              refine lv_iconst (v := 3) X.ex X.co dX10_mend_65 (by decide) ?_
              refine q_eV X ce_X10_fails m_1497 (c_X10_fails l G mad A hAg σ h0 false 3 (by decide) (by decide)) (g0.step hS hAg) F (mo F) rfl (by decide) rfl hl.1 rfl (Nat.le_of_ble_eq_true rfl) dX10_mend_66 (by omega) (by omega) hS (fun _ h => h) (fun H locs F hz hk hS => ?_)
              have F : mw G mad A σ H := F
              refine lv_if_eq (tgt := 74) X.ex X.co dX10_mend_69 (by decide) (fun c_56 => ?_) (fun c_56 => ?_)
              · have hne : ¬ (σ.2 13 j_v = w ∧ σ.2 14 j_v = a) := fun z => c_55 z.2
                refine lv_iconst (v := 0) X.ex X.co dX10_mend_74 (by decide) ?_
                refine lv_istore (lv' := [(4, .int 0), (0, .ref (mad (0, 0))), (1, .int (nI j_v)), (2, .int w), (3, .int a)]) X.ex X.co dX10_mend_75 hl (by decide) rfl (fun ls hl => ?_)
                have loop_58 : ∀ (fu_57 i : Nat), i ≤ nAn σ → nAn σ < i + fu_57 → ∀ (H : Heap) (locs : List Loc), mw G mad A (befL σ j_v i) H → va_S A s.heap H locs → ∀ ls : Array Slot, lv_has ls 7 [(4, .int (nI i)), (0, .ref (mad (0, 0))), (1, .int (nI j_v)), (2, .int w), (3, .int a)] → Wc p l e 6 0 0 s m args below meth c (eB (some (.int (fMend σ (nI j_v) w a).1)) (mw G mad A (fMend σ (nI j_v) w a).2)) A H locs 0 0 77 ls [] := by
                  intro fu_57
                  induction fu_57 with
                  | zero => intro i h_60 h_61; exact absurd h_61 (by omega)
                  | succ fu_57 ih_59 =>
                    intro i h_60 h_61 H locs F hS ls hl
                    have hI0 := (befL_N σ j_v i).mi hI0
                    have e5 : nAn (befL σ j_v i) = nAn σ := congrFun (congrFun (befL_1 σ j_v i) 19) 0
                    refine lv_iload X.ex X.co dX10_mend_77 (lv_at hl 0 rfl) ?_
                    refine lv_aload_n X.ex X.co dX10_mend_79 rfl (lv_at hl 1 rfl) ?_
                    refine m_getN X hK F 19 (by decide) rfl rfl (x := nAn σ) (congrFun (congrFun (befL_1 σ j_v i) 19) 0) m_1370 rfl dX10_mend_80 ?_
                    refine n_cmp_ge X (x := i) (y := nAn σ) (tgt := 120) (by omega) (by omega) dX10_mend_83 (by decide) (fun c_62 => ?_) (fun c_62 => ?_)
                    · have hq_63 : i = nAn σ := by omega
                      rw [hq_63] at hl
                      rw [hq_63] at F
                      have hlj := hI.1.ex hj_v
                      refine lv_aload_n X.ex X.co dX10_mend_120 rfl (lv_at hl 1 rfl) ?_
                      refine m_getA X hK F 13 (by decide) rfl m_1364 rfl dX10_mend_121 ?_
                      refine lv_iload_n X.ex X.co dX10_mend_124 rfl (lv_at hl 2 rfl) ?_
                      refine lv_iload_n X.ex X.co dX10_mend_125 rfl (lv_at hl 3 rfl) ?_
                      refine m_astV X hK F hS 13 (by decide) rfl rfl rfl j_v (v := w) (by first | omega | (show _ < 12; omega)) dX10_mend_126 (fun H locs F hS => ?_)
                      refine lv_aload_n X.ex X.co dX10_mend_127 rfl (lv_at hl 1 rfl) ?_
                      refine m_getA X hK F 14 (by decide) rfl m_1365 rfl dX10_mend_128 ?_
                      refine lv_iload_n X.ex X.co dX10_mend_131 rfl (lv_at hl 2 rfl) ?_
                      refine lv_iload_n X.ex X.co dX10_mend_132 rfl (lv_at hl 4 rfl) ?_
                      refine m_astV X hK F hS 14 (by decide) rfl rfl rfl j_v (v := a) (by first | omega | (show _ < 12; omega)) dX10_mend_133 (fun H locs F hS => ?_)
                      refine lv_aload_n X.ex X.co dX10_mend_134 rfl (lv_at hl 1 rfl) ?_
                      refine m_getA X hK F 10 (by decide) rfl m_1361 rfl dX10_mend_135 ?_
                      refine lv_aload_n X.ex X.co dX10_mend_138 rfl (lv_at hl 1 rfl) ?_
                      refine m_getA X hK F 12 (by decide) rfl m_1363 rfl dX10_mend_139 ?_
                      refine lv_iload_n X.ex X.co dX10_mend_142 rfl (lv_at hl 2 rfl) ?_
                      refine m_ald X hK F 12 (by decide) rfl rfl j_v (by first | omega | (show _ < 12; omega)) (x := nI (les σ j_v)) (congrArg nI (congrFun (congrFun (befL_1 σ j_v (nAn σ)) 12) j_v)) dX10_mend_143 ?_
                      refine lv_dup2_11 X.ex X.co dX10_mend_144 rfl rfl ?_
                      refine m_ald X hK F 10 (by decide) rfl rfl (les σ j_v) (by first | omega | (show _ < 8; omega)) (x := (σ.2 10 (les σ j_v))) (congrFun (befL_V σ j_v (b := 10) (by decide) (nAn σ)) (les σ j_v)) dX10_mend_145 ?_
                      refine lv_iconst (v := 1) X.ex X.co dX10_mend_146 (by decide) ?_
                      refine lv_iadd X.ex X.co dX10_mend_147 ?_
                      refine m_astV X hK F hS 10 (by decide) rfl rfl rfl (les σ j_v) (v := ((σ.2 10 (les σ j_v)) + 1)) (by first | omega | (show _ < 8; omega)) dX10_mend_148 (fun H locs F hS => ?_)
                      refine lv_iconst (v := 0) X.ex X.co dX10_mend_149 (by decide) ?_
                      refine lv_istore (lv' := [(4, .int 0), (0, .ref (mad (0, 0))), (1, .int (nI j_v)), (2, .int w), (3, .int a)]) X.ex X.co dX10_mend_150 hl (by decide) rfl (fun ls hl => ?_)
                      refine lv_aload_n X.ex X.co dX10_mend_152 rfl (lv_at hl 1 rfl) ?_
                      refine lv_iconst (v := 0) X.ex X.co dX10_mend_153 (by decide) ?_
                      refine m_putN X hK F hS 29 (by decide) rfl rfl (v := 0) m_1380 rfl rfl (by decide) dX10_mend_154 (fun H locs F hS => ?_)
                      have F : mw G mad A (men1 σ j_v w a) H := F
                      have hz0 : nHa (men1 σ j_v w a) = 0 := rfl
                      have hap0 : nAp (men1 σ j_v w a) ≤ 100 ∧ ∀ i, i < nAp (men1 σ j_v w a) → app (men1 σ j_v w a) i < nAn σ := (by rw [show nAp (men1 σ j_v w a) = nAp σ from congrFun (congrFun (befL_1 σ j_v (nAn σ)) 27) 0, show app (men1 σ j_v w a) = app σ from congrFun (befL_1 σ j_v (nAn σ)) 28]; exact ⟨by omega, fun i hi => hI.ap hi⟩)
                      have hNμ := men1_N σ j_v w a
                      generalize hm1 : men1 σ j_v w a = μ at F hz0 hap0 hNμ
                      have hI0 := hNμ.mi hI.1
                      obtain ⟨u1, u2, u3, u4, u5, u6, u7⟩ := hI0.1
                      have hIμ := hI0
                      have eAn : nAn μ = nAn σ := congrFun (hNμ.s (k := 19) (by decide)) 0
                      have eCe : nCe μ = nCe σ := congrFun (hNμ.s (k := 35) (by decide)) 0
                      refine lv_iconst (v := 0) X.ex X.co dX10_mend_157 (by decide) ?_
                      refine lv_istore (lv' := [(5, .int 0), (4, .int 0), (0, .ref (mad (0, 0))), (1, .int (nI j_v)), (2, .int w), (3, .int a)]) X.ex X.co dX10_mend_158 hl (by decide) rfl (fun ls hl => ?_)
                      have loop_65 : ∀ (fu_64 i : Nat), i ≤ nAn σ → nAn σ < i + fu_64 → ∀ (H : Heap) (locs : List Loc), mw G mad A ((menL μ j_v i).2) H → va_S A s.heap H locs → ∀ ls : Array Slot, lv_has ls 7 [(5, .int (nI i)), (4, .int (nI ((menL μ j_v i).1))), (0, .ref (mad (0, 0))), (1, .int (nI j_v)), (2, .int w), (3, .int a)] → Wc p l e 6 0 0 s m args below meth c (eB (some (.int (fMend σ (nI j_v) w a).1)) (mw G mad A (fMend σ (nI j_v) w a).2)) A H locs 0 0 160 ls [] := by
                        intro fu_64
                        induction fu_64 with
                        | zero => intro i h_67 h_68; exact absurd h_68 (by omega)
                        | succ fu_64 ih_66 =>
                          intro i h_67 h_68 H locs F hS ls hl
                          have hN2 := menL_N μ j_v i
                          have hM := menL_I μ j_v hz0 i
                          have eAn2 : nAn (menL μ j_v i).2 = nAn μ := congrFun (hN2.s (k := 19) (by decide)) 0
                          have hI0 := hN2.mi hI0
                          obtain ⟨a1, a2, a3, a4, a5, a6, a7⟩ := hI0.1
                          obtain ⟨m1, m2, m3, m4⟩ := hM
                          have hp2 : ∀ q, q < nAp (menL μ j_v i).2 → app (menL μ j_v i).2 q < 2 ^ 31 := fun q hq => (by obtain ⟨j, hj, ej⟩ := m2 q hq; have := hap0.2 j hj; omega)
                          refine lv_iload X.ex X.co dX10_mend_160 (lv_at hl 0 rfl) ?_
                          refine lv_aload_n X.ex X.co dX10_mend_162 rfl (lv_at hl 2 rfl) ?_
                          refine m_getN X hK F 19 (by decide) rfl rfl (x := nAn σ) (eAn2.trans eAn) m_1370 rfl dX10_mend_163 ?_
                          refine n_cmp_ge X (x := i) (y := nAn σ) (tgt := 331) (by omega) (by omega) dX10_mend_166 (by decide) (fun c_69 => ?_) (fun c_69 => ?_)
                          · have hq_70 : i = nAn σ := by omega
                            rw [hq_70] at hl
                            rw [hq_70] at F
                            have hNr := menL_N μ j_v (nAn σ)
                            have hIr := hNr.mi hIμ
                            have eCr : nCe (menL μ j_v (nAn σ)).2 = nCe μ := congrFun (hNr.s (k := 35) (by decide)) 0
                            generalize hm2 : menL μ j_v (nAn σ) = r2 at F hl hNr hIr eCr
                            refine lv_iconst (v := 0) X.ex X.co dX10_mend_331 (by decide) ?_
                            refine lv_istore (lv' := [(5, .int 0), (4, .int (nI r2.1)), (0, .ref (mad (0, 0))), (1, .int (nI j_v)), (2, .int w), (3, .int a)]) X.ex X.co dX10_mend_332 hl (by decide) rfl (fun ls hl => ?_)
                            have loop_72 : ∀ (fu_71 i : Nat), i ≤ nCe σ → nCe σ < i + fu_71 → ∀ (H : Heap) (locs : List Loc), mw G mad A (revL r2.2 i) H → va_S A s.heap H locs → ∀ ls : Array Slot, lv_has ls 7 [(5, .int (nI i)), (4, .int (nI r2.1)), (0, .ref (mad (0, 0))), (1, .int (nI j_v)), (2, .int w), (3, .int a)] → Wc p l e 6 0 0 s m args below meth c (eB (some (.int (fMend σ (nI j_v) w a).1)) (mw G mad A (fMend σ (nI j_v) w a).2)) A H locs 0 0 334 ls [] := by
                              intro fu_71
                              induction fu_71 with
                              | zero => intro i h_74 h_75; exact absurd h_75 (by omega)
                              | succ fu_71 ih_73 =>
                                intro i h_74 h_75 H locs F hS ls hl
                                have hNv := revL_N r2.2 i
                                have hI0 := hNv.mi hIr
                                obtain ⟨a1, a2, a3, a4, a5, a6, a7⟩ := hI0.1
                                have eCv : nCe (revL r2.2 i) = nCe r2.2 := congrFun (hNv.s (k := 35) (by decide)) 0
                                refine lv_iload X.ex X.co dX10_mend_334 (lv_at hl 0 rfl) ?_
                                refine lv_aload_n X.ex X.co dX10_mend_336 rfl (lv_at hl 2 rfl) ?_
                                refine m_getN X hK F 35 (by decide) rfl rfl (x := nCe σ) (eCv.trans (eCr.trans eCe)) m_1386 rfl dX10_mend_337 ?_
                                refine n_cmp_ge X (x := i) (y := nCe σ) (tgt := 380) (by omega) (by omega) dX10_mend_340 (by decide) (fun c_76 => ?_) (fun c_76 => ?_)
                                · have hq_77 : i = nCe σ := by omega
                                  rw [hq_77] at hl
                                  rw [hq_77] at F
                                  refine lv_iload X.ex X.co dX10_mend_380 (lv_at hl 1 rfl) ?_
                                  exact c_i X hS rfl rfl (by have q : fMend σ (nI j_v) w a = (nI r2.1, revL r2.2 (nCe σ)) := (by simp only [fMend, ok_v, ex_v, c_4, if_true]; rw [if_neg hne]; simp only [men2]; rw [hm1, hm2]); unfold eB; rw [q]; exact ⟨rfl, F⟩) (by omega) (by omega) dX10_mend_382
                                · refine lv_aload_n X.ex X.co dX10_mend_343 rfl (lv_at hl 2 rfl) ?_
                                  refine m_getA X hK F 41 (by decide) rfl m_1392 rfl dX10_mend_344 ?_
                                  refine lv_iload X.ex X.co dX10_mend_347 (lv_at hl 0 rfl) ?_
                                  refine lv_aload_n X.ex X.co dX10_mend_349 rfl (lv_at hl 2 rfl) ?_
                                  refine m_getA X hK F 41 (by decide) rfl m_1392 rfl dX10_mend_350 ?_
                                  refine lv_iload X.ex X.co dX10_mend_353 (lv_at hl 0 rfl) ?_
                                  refine m_zald X hK F 41 (by decide) rfl rfl i (by first | omega | (show _ < 30; omega)) (x := ((revL r2.2 i).2 41 i)) rfl dX10_mend_355 ?_
                                  refine lv_if_ne (tgt := 368) X.ex X.co dX10_mend_356 (by decide) (fun c_78 => ?_) (fun c_78 => ?_)
                                  · refine lv_iconst (v := 1) X.ex X.co dX10_mend_368 (by decide) ?_
                                    refine lv_goto (tgt := 373) X.ex X.co dX10_mend_369 (by decide) ?_
                                    refine m_zst X hK F hS 41 (by decide) rfl rfl rfl i (v := 1) (by decide) (by first | omega | (show _ < 30; omega)) dX10_mend_373 (fun H locs F hS => ?_)
                                    refine lv_iinc (v := nI (i + 1)) (lv' := [(5, .int (nI (i + 1))), (4, .int (nI r2.1)), (0, .ref (mad (0, 0))), (1, .int (nI j_v)), (2, .int w), (3, .int a)]) X.ex X.co dX10_mend_374 hl (k := 0) rfl (n_inc _) (by decide) rfl (fun ls hl => ?_)
                                    refine lv_goto (tgt := 334) X.ex X.co dX10_mend_377 (by decide) ?_
                                    have q_79 : (revL r2.2 (i + 1)) = (sV (revL r2.2 i) 41 i 1) := by first | rfl | simp [revL, bI, *]
                                    exact ih_73 (i + 1) (by omega) (by omega) _ _ (q_79 ▸ F) hS ls (lv_sub hl [0, 1, 2, 3, 4, 5] rfl)
                                  · have hce := hI0.ce (i := i) (by omega)
                                    refine lv_aload_n X.ex X.co dX10_mend_359 rfl (lv_at hl 2 rfl) ?_
                                    refine lv_iload X.ex X.co dX10_mend_360 (lv_at hl 0 rfl) ?_
                                    refine q_rV X ce_X10_isEnough m_1658 (c_X10_isEnough l G mad A (revL r2.2 i) hI0 i (by omega) (by omega) (by omega) hce.2.2.1 hce.2.2.2) (g0.step hS hAg) F (mo F) rfl (by decide) rfl hl.1 rfl (Nat.le_of_ble_eq_true rfl) dX10_mend_362 (by omega) (by omega) ?_
                                    refine b_if_ne X (x := enoS (revL r2.2 i) i (nLe (revL r2.2 i))) (tgt := 372) dX10_mend_365 (by decide) (fun c_80 => ?_) (fun c_80 => ?_)
                                    · refine lv_iconst (v := 0) X.ex X.co dX10_mend_372 (by decide) ?_
                                      refine m_zst X hK F hS 41 (by decide) rfl rfl rfl i (v := 0) (by decide) (by first | omega | (show _ < 30; omega)) dX10_mend_373 (fun H locs F hS => ?_)
                                      refine lv_iinc (v := nI (i + 1)) (lv' := [(5, .int (nI (i + 1))), (4, .int (nI r2.1)), (0, .ref (mad (0, 0))), (1, .int (nI j_v)), (2, .int w), (3, .int a)]) X.ex X.co dX10_mend_374 hl (k := 0) rfl (n_inc _) (by decide) rfl (fun ls hl => ?_)
                                      refine lv_goto (tgt := 334) X.ex X.co dX10_mend_377 (by decide) ?_
                                      have q_81 : (revL r2.2 (i + 1)) = (sV (revL r2.2 i) 41 i 0) := by first | rfl | simp [revL, bI, *]
                                      exact ih_73 (i + 1) (by omega) (by omega) _ _ (q_81 ▸ F) hS ls (lv_sub hl [0, 1, 2, 3, 4, 5] rfl)
                                    · refine lv_iconst (v := 1) X.ex X.co dX10_mend_368 (by decide) ?_
                                      refine lv_goto (tgt := 373) X.ex X.co dX10_mend_369 (by decide) ?_
                                      refine m_zst X hK F hS 41 (by decide) rfl rfl rfl i (v := 1) (by decide) (by first | omega | (show _ < 30; omega)) dX10_mend_373 (fun H locs F hS => ?_)
                                      refine lv_iinc (v := nI (i + 1)) (lv' := [(5, .int (nI (i + 1))), (4, .int (nI r2.1)), (0, .ref (mad (0, 0))), (1, .int (nI j_v)), (2, .int w), (3, .int a)]) X.ex X.co dX10_mend_374 hl (k := 0) rfl (n_inc _) (by decide) rfl (fun ls hl => ?_)
                                      refine lv_goto (tgt := 334) X.ex X.co dX10_mend_377 (by decide) ?_
                                      have q_82 : (revL r2.2 (i + 1)) = (sV (revL r2.2 i) 41 i 1) := by first | rfl | simp [revL, bI, *]
                                      exact ih_73 (i + 1) (by omega) (by omega) _ _ (q_82 ▸ F) hS ls (lv_sub hl [0, 1, 2, 3, 4, 5] rfl)
                            exact loop_72 (nCe σ + 1) 0 (by omega) (by omega) _ _ F hS ls (lv_sub hl [0, 1, 2, 3, 4, 5] rfl)
                          · refine lv_aload_n X.ex X.co dX10_mend_169 rfl (lv_at hl 2 rfl) ?_
                            refine m_getA X hK F 21 (by decide) rfl m_1372 rfl dX10_mend_170 ?_
                            refine lv_iload X.ex X.co dX10_mend_173 (lv_at hl 0 rfl) ?_
                            have hex := hIμ.an (i := i) (by omega)
                            refine m_ald X hK F 21 (by decide) rfl rfl i (by first | omega | (show _ < 100; omega)) (x := nI (exe μ i)) (congrArg nI (congrFun (hN2.s (k := 21) (by decide)) i)) dX10_mend_175 ?_
                            refine lv_iload_n X.ex X.co dX10_mend_176 rfl (lv_at hl 3 rfl) ?_
                            refine n_cmp_ne X (x := exe μ i) (y := j_v) (tgt := 325) (by omega) (by omega) dX10_mend_177 (by decide) (fun c_83 => ?_) (fun c_83 => ?_)
                            · refine lv_iinc (v := nI (i + 1)) (lv' := [(5, .int (nI (i + 1))), (4, .int (nI ((menL μ j_v i).1))), (0, .ref (mad (0, 0))), (1, .int (nI j_v)), (2, .int w), (3, .int a)]) X.ex X.co dX10_mend_325 hl (k := 0) rfl (n_inc _) (by decide) rfl (fun ls hl => ?_)
                              refine lv_goto (tgt := 160) X.ex X.co dX10_mend_328 (by decide) ?_
                              have q_84 : nI ((menL μ j_v (i + 1)).1) = nI ((menL μ j_v i).1) := by (simp only [menL]; rw [if_neg c_83])
                              have q_85 : (menL μ j_v (i + 1)).2 = (menL μ j_v i).2 := by (simp only [menL]; rw [if_neg c_83])
                              exact ih_66 (i + 1) (by omega) (by omega) _ _ (q_85 ▸ F) hS ls (lv_sub hl [0, 1, 2, 3, 4, 5] (by first | rfl | (rw [q_84] <;> rfl)))
                            · refine lv_aload_n X.ex X.co dX10_mend_180 rfl (lv_at hl 2 rfl) ?_
                              refine lv_iload X.ex X.co dX10_mend_181 (lv_at hl 0 rfl) ?_
                              refine q_vV X ce_X10_drop m_1638 (c_X10_drop l G mad A hAg (menL μ j_v i).2 (by omega) hp2 i (by omega)) (g0.step hS hAg) F (mo F) rfl (by decide) rfl hl.1 rfl (Nat.le_of_ble_eq_true rfl) dX10_mend_183 (by omega) (by omega) hS (fun _ h => h) (fun H locs F hz hk hS => ?_)
                              refine lv_aload_n X.ex X.co dX10_mend_186 rfl (lv_at hl 2 rfl) ?_
                              refine m_getA X hK F 25 (by decide) rfl m_1376 rfl dX10_mend_187 ?_
                              refine lv_iload X.ex X.co dX10_mend_190 (lv_at hl 0 rfl) ?_
                              refine lv_iconst (v := 0) X.ex X.co dX10_mend_192 (by decide) ?_
                              refine m_astV X hK F hS 25 (by decide) rfl rfl rfl i (v := 0) (by first | omega | (show _ < 100; omega)) dX10_mend_193 (fun H locs F hS => ?_)
                              refine lv_aload_n X.ex X.co dX10_mend_194 rfl (lv_at hl 2 rfl) ?_
                              refine m_getA X hK F 26 (by decide) rfl m_1377 rfl dX10_mend_195 ?_
                              refine lv_iload X.ex X.co dX10_mend_198 (lv_at hl 0 rfl) ?_
                              refine lv_iconst (v := 0) X.ex X.co dX10_mend_200 (by decide) ?_
                              refine m_zst X hK F hS 26 (by decide) rfl rfl rfl i (v := 0) (by decide) (by first | omega | (show _ < 100; omega)) dX10_mend_201 (fun H locs F hS => ?_)
                              have F : mw G mad A (menA (menL μ j_v i).2 i) H := F
                              have hN3 := menA_N hN2 i
                              have hI0 := hN3.mi (hNμ.mi hI.1)
                              have eAn3 : nAn (menA (menL μ j_v i).2 i) = nAn μ := congrFun (hN3.s (k := 19) (by decide)) 0
                              have eHa : nHa (menA (menL μ j_v i).2 i) = nHa (menL μ j_v i).2 := congrFun (dropS_1 (menL μ j_v i).2 i (b := 29) (by decide) (by decide)) 0
                              have eHr : har (menA (menL μ j_v i).2 i) = har (menL μ j_v i).2 := dropS_1 (menL μ j_v i).2 i (b := 30) (by decide) (by decide)
                              have h3b : ∀ z, z < nHa (menA (menL μ j_v i).2 i) → har (menA (menL μ j_v i).2 i) z < nAn μ := fun z hz => (by rw [eHa] at hz; rw [eHr]; have := m4 z hz; omega)
                              refine lv_iload X.ex X.co dX10_mend_202 (lv_at hl 1 rfl) ?_
                              refine lv_aload_n X.ex X.co dX10_mend_204 rfl (lv_at hl 2 rfl) ?_
                              refine lv_iload X.ex X.co dX10_mend_205 (lv_at hl 0 rfl) ?_
                              refine q_rV X ce_X10_grade m_1564 (c_X10_grade l G mad A (menA (menL μ j_v i).2 i) hI0 i (by omega)) (g0.step hS hAg) F (mo F) rfl (by decide) rfl hl.1 rfl (Nat.le_of_ble_eq_true rfl) dX10_mend_207 (by omega) (by omega) ?_
                              refine lv_aload_n X.ex X.co dX10_mend_210 rfl (lv_at hl 2 rfl) ?_
                              refine m_getA X hK F 31 (by decide) rfl m_1382 rfl dX10_mend_211 ?_
                              refine lv_iload X.ex X.co dX10_mend_214 (lv_at hl 0 rfl) ?_
                              refine m_ald X hK F 31 (by decide) rfl rfl i (by first | omega | (show _ < 100; omega)) (x := ((menA (menL μ j_v i).2 i).2 31 i)) rfl dX10_mend_216 ?_
                              refine lv_icmp_ne (tgt := 224) X.ex X.co dX10_mend_217 (by decide) (fun c_86 => ?_) (fun c_86 => ?_)
                              · refine lv_iconst (v := 1) X.ex X.co dX10_mend_224 (by decide) ?_
                                refine n_add X (x := (menL μ j_v i).1) (y := 1) dX10_mend_225 ?_
                                refine lv_istore (lv' := [(4, .int (nI (((menL μ j_v i).1) + 1))), (5, .int (nI i)), (0, .ref (mad (0, 0))), (1, .int (nI j_v)), (2, .int w), (3, .int a)]) X.ex X.co dX10_mend_226 hl (by decide) rfl (fun ls hl => ?_)
                                refine lv_aload_n X.ex X.co dX10_mend_228 rfl (lv_at hl 2 rfl) ?_
                                refine m_getN X hK F 29 (by decide) rfl rfl (x := nHa (menA (menL μ j_v i).2 i)) rfl m_1380 rfl dX10_mend_229 ?_
                                refine lv_istore (lv' := [(6, .int (nI (nHa (menA (menL μ j_v i).2 i)))), (4, .int (nI (((menL μ j_v i).1) + 1))), (5, .int (nI i)), (0, .ref (mad (0, 0))), (1, .int (nI j_v)), (2, .int w), (3, .int a)]) X.ex X.co dX10_mend_232 hl (by decide) rfl (fun ls hl => ?_)
                                have lp : ∀ (q : Nat) (υ : Sg), harD υ i q = harD (menA (menL μ j_v i).2 i) i (nHa (menA (menL μ j_v i).2 i)) → eqN υ μ → υ.2 = (menA (menL μ j_v i).2 i).2 → nHa υ = nHa (menA (menL μ j_v i).2 i) → (∀ z, z < nHa (menA (menL μ j_v i).2 i) → har υ z < nAn μ) → q ≤ nHa (menA (menL μ j_v i).2 i) → ∀ (H : Heap) (locs : List Loc), mw G mad A υ H → va_S A s.heap H locs → ∀ ls : Array Slot, lv_has ls 7 [(6, .int (nI q)), (4, .int (nI (((menL μ j_v i).1) + 1))), (5, .int (nI i)), (0, .ref (mad (0, 0))), (1, .int (nI j_v)), (2, .int w), (3, .int a)] → Wc p l e 6 0 0 s m args below meth c (eB (some (.int (fMend σ (nI j_v) w a).1)) (mw G mad A (fMend σ (nI j_v) w a).2)) A H locs 0 0 234 ls [] := by
                                  intro q
                                  induction q with
                                  | zero =>
                                    intro υ hd hNu hVu hHu hbu hqu H locs F hS ls hl
                                    have hI0 := hNu.mi (hNμ.mi hI.1)
                                    have eAnu : nAn υ = nAn μ := congrFun (hNu.s (k := 19) (by decide)) 0
                                    refine lv_iload X.ex X.co dX10_mend_234 (lv_at hl 0 rfl) ?_
                                    refine lv_if_le (tgt := 306) X.ex X.co dX10_mend_236 (by decide) (fun c_87 => ?_) (fun c_87 => ?_)
                                    · have hz5 : harD (menA (menL μ j_v i).2 i) i (nHa (menA (menL μ j_v i).2 i)) = (0, υ) := hd.symm
                                      refine lv_aload_n X.ex X.co dX10_mend_306 rfl (lv_at hl 3 rfl) ?_
                                      refine m_getA X hK F 30 (by decide) rfl m_1381 rfl dX10_mend_307 ?_
                                      refine lv_iload X.ex X.co dX10_mend_310 (lv_at hl 0 rfl) ?_
                                      refine lv_iload X.ex X.co dX10_mend_312 (lv_at hl 2 rfl) ?_
                                      refine m_astN X hK F hS 30 (by decide) rfl rfl rfl 0 i (by first | omega | (show _ < 100; omega)) dX10_mend_314 (fun H locs F hS => ?_)
                                      refine lv_aload_n X.ex X.co dX10_mend_315 rfl (lv_at hl 3 rfl) ?_
                                      refine lv_dup X.ex X.co dX10_mend_316 rfl ?_
                                      refine m_getN X hK F 29 (by decide) rfl rfl (x := nHa (menA (menL μ j_v i).2 i)) hHu m_1380 rfl dX10_mend_317 ?_
                                      refine lv_iconst (v := 1) X.ex X.co dX10_mend_320 (by decide) ?_
                                      refine n_add X (x := nHa (menA (menL μ j_v i).2 i)) (y := 1) dX10_mend_321 ?_
                                      refine m_putN X hK F hS 29 (by decide) rfl rfl (v := (nHa (menA (menL μ j_v i).2 i)) + 1) m_1380 rfl rfl (by decide) dX10_mend_322 (fun H locs F hS => ?_)
                                      refine lv_iinc (v := nI (i + 1)) (lv' := [(5, .int (nI (i + 1))), (6, .int (nI 0)), (4, .int (nI (((menL μ j_v i).1) + 1))), (0, .ref (mad (0, 0))), (1, .int (nI j_v)), (2, .int w), (3, .int a)]) X.ex X.co dX10_mend_325 hl (k := 2) rfl (n_inc _) (by decide) rfl (fun ls hl => ?_)
                                      refine lv_goto (tgt := 160) X.ex X.co dX10_mend_328 (by decide) ?_
                                      have q_88 : nI ((menL μ j_v (i + 1)).1) = nI (((menL μ j_v i).1) + 1) := by (simp only [menL]; rw [if_pos c_83]; simp [c_86])
                                      have q_89 : (menL μ j_v (i + 1)).2 = (sN (sN υ 30 0 i) 29 0 ((nHa (menA (menL μ j_v i).2 i)) + 1)) := by (simp only [menL]; rw [if_pos c_83]; simp only [harP]; rw [hz5])
                                      exact ih_66 (i + 1) (by omega) (by omega) _ _ (q_89 ▸ F) hS ls (lv_sub hl [0, 2, 3, 4, 5, 6] (by first | rfl | (rw [q_88] <;> rfl)))
                                    · exact absurd (by decide) c_87
                                  | succ q ihq =>
                                    intro υ hd hNu hVu hHu hbu hqu H locs F hS ls hl
                                    have hI0 := hNu.mi (hNμ.mi hI.1)
                                    have eAnu : nAn υ = nAn μ := congrFun (hNu.s (k := 19) (by decide)) 0
                                    have hh1 := hbu q (by omega)
                                    refine lv_iload X.ex X.co dX10_mend_234 (lv_at hl 0 rfl) ?_
                                    refine n_if_le X (x := q + 1) (tgt := 306) (by omega) dX10_mend_236 (by decide) (fun c_90 => ?_) (fun c_90 => ?_)
                                    · exact absurd c_90 (by omega)
                                    · refine lv_aload_n X.ex X.co dX10_mend_239 rfl (lv_at hl 3 rfl) ?_
                                      refine lv_iload X.ex X.co dX10_mend_240 (lv_at hl 2 rfl) ?_
                                      refine q_rV X ce_X10_grade m_1564 (c_X10_grade l G mad A υ hI0 i (by omega)) (g0.step hS hAg) F (mo F) rfl (by decide) rfl hl.1 rfl (Nat.le_of_ble_eq_true rfl) dX10_mend_242 (by omega) (by omega) ?_
                                      refine lv_aload_n X.ex X.co dX10_mend_245 rfl (lv_at hl 3 rfl) ?_
                                      refine m_getA X hK F 31 (by decide) rfl m_1382 rfl dX10_mend_246 ?_
                                      refine lv_iload X.ex X.co dX10_mend_249 (lv_at hl 2 rfl) ?_
                                      refine m_ald X hK F 31 (by decide) rfl rfl i (by first | omega | (show _ < 100; omega)) (x := (υ.2 31 i)) rfl dX10_mend_251 ?_
                                      refine lv_isub X.ex X.co dX10_mend_252 ?_
                                      refine lv_aload_n X.ex X.co dX10_mend_253 rfl (lv_at hl 3 rfl) ?_
                                      refine lv_aload_n X.ex X.co dX10_mend_254 rfl (lv_at hl 3 rfl) ?_
                                      refine m_getA X hK F 30 (by decide) rfl m_1381 rfl dX10_mend_255 ?_
                                      refine lv_iload X.ex X.co dX10_mend_258 (lv_at hl 0 rfl) ?_
                                      refine lv_iconst (v := 1) X.ex X.co dX10_mend_260 (by decide) ?_
                                      refine n_sub X (x := q + 1) (y := 1) (by omega) dX10_mend_261 (top_eq (y := nI q) rfl ?_)
                                      refine m_ald X hK F 30 (by decide) rfl rfl q (by first | omega | (show _ < 100; omega)) (x := nI (har υ q)) rfl dX10_mend_262 ?_
                                      refine q_rV X ce_X10_grade m_1564 (c_X10_grade l G mad A υ hI0 (har υ q) (by omega)) (g0.step hS hAg) F (mo F) rfl (by decide) rfl hl.1 rfl (Nat.le_of_ble_eq_true rfl) dX10_mend_263 (by omega) (by omega) ?_
                                      refine lv_aload_n X.ex X.co dX10_mend_266 rfl (lv_at hl 3 rfl) ?_
                                      refine m_getA X hK F 31 (by decide) rfl m_1382 rfl dX10_mend_267 ?_
                                      refine lv_aload_n X.ex X.co dX10_mend_270 rfl (lv_at hl 3 rfl) ?_
                                      refine m_getA X hK F 30 (by decide) rfl m_1381 rfl dX10_mend_271 ?_
                                      refine lv_iload X.ex X.co dX10_mend_274 (lv_at hl 0 rfl) ?_
                                      refine lv_iconst (v := 1) X.ex X.co dX10_mend_276 (by decide) ?_
                                      refine n_sub X (x := q + 1) (y := 1) (by omega) dX10_mend_277 (top_eq (y := nI q) rfl ?_)
                                      refine m_ald X hK F 30 (by decide) rfl rfl q (by first | omega | (show _ < 100; omega)) (x := nI (har υ q)) rfl dX10_mend_278 ?_
                                      refine m_ald X hK F 31 (by decide) rfl rfl (har υ q) (by first | omega | (show _ < 100; omega)) (x := (υ.2 31 (har υ q))) rfl dX10_mend_279 ?_
                                      refine lv_isub X.ex X.co dX10_mend_280 ?_
                                      refine lv_icmp_ge (tgt := 306) X.ex X.co dX10_mend_281 (by decide) (fun c_91 => ?_) (fun c_91 => ?_)
                                      · have hz5 : harD (menA (menL μ j_v i).2 i) i (nHa (menA (menL μ j_v i).2 i)) = ((q + 1), υ) := hd.symm.trans (harD_g c_91)
                                        refine lv_aload_n X.ex X.co dX10_mend_306 rfl (lv_at hl 3 rfl) ?_
                                        refine m_getA X hK F 30 (by decide) rfl m_1381 rfl dX10_mend_307 ?_
                                        refine lv_iload X.ex X.co dX10_mend_310 (lv_at hl 0 rfl) ?_
                                        refine lv_iload X.ex X.co dX10_mend_312 (lv_at hl 2 rfl) ?_
                                        refine m_astN X hK F hS 30 (by decide) rfl rfl rfl (q + 1) i (by first | omega | (show _ < 100; omega)) dX10_mend_314 (fun H locs F hS => ?_)
                                        refine lv_aload_n X.ex X.co dX10_mend_315 rfl (lv_at hl 3 rfl) ?_
                                        refine lv_dup X.ex X.co dX10_mend_316 rfl ?_
                                        refine m_getN X hK F 29 (by decide) rfl rfl (x := nHa (menA (menL μ j_v i).2 i)) hHu m_1380 rfl dX10_mend_317 ?_
                                        refine lv_iconst (v := 1) X.ex X.co dX10_mend_320 (by decide) ?_
                                        refine n_add X (x := nHa (menA (menL μ j_v i).2 i)) (y := 1) dX10_mend_321 ?_
                                        refine m_putN X hK F hS 29 (by decide) rfl rfl (v := (nHa (menA (menL μ j_v i).2 i)) + 1) m_1380 rfl rfl (by decide) dX10_mend_322 (fun H locs F hS => ?_)
                                        refine lv_iinc (v := nI (i + 1)) (lv' := [(5, .int (nI (i + 1))), (6, .int (nI (q + 1))), (4, .int (nI (((menL μ j_v i).1) + 1))), (0, .ref (mad (0, 0))), (1, .int (nI j_v)), (2, .int w), (3, .int a)]) X.ex X.co dX10_mend_325 hl (k := 2) rfl (n_inc _) (by decide) rfl (fun ls hl => ?_)
                                        refine lv_goto (tgt := 160) X.ex X.co dX10_mend_328 (by decide) ?_
                                        have q_92 : nI ((menL μ j_v (i + 1)).1) = nI (((menL μ j_v i).1) + 1) := by (simp only [menL]; rw [if_pos c_83]; simp [c_86])
                                        have q_93 : (menL μ j_v (i + 1)).2 = (sN (sN υ 30 (q + 1) i) 29 0 ((nHa (menA (menL μ j_v i).2 i)) + 1)) := by (simp only [menL]; rw [if_pos c_83]; simp only [harP]; rw [hz5])
                                        exact ih_66 (i + 1) (by omega) (by omega) _ _ (q_93 ▸ F) hS ls (lv_sub hl [0, 2, 3, 4, 5, 6] (by first | rfl | (rw [q_92] <;> rfl)))
                                      · refine lv_aload_n X.ex X.co dX10_mend_284 rfl (lv_at hl 3 rfl) ?_
                                        refine m_getA X hK F 30 (by decide) rfl m_1381 rfl dX10_mend_285 ?_
                                        refine lv_iload X.ex X.co dX10_mend_288 (lv_at hl 0 rfl) ?_
                                        refine lv_aload_n X.ex X.co dX10_mend_290 rfl (lv_at hl 3 rfl) ?_
                                        refine m_getA X hK F 30 (by decide) rfl m_1381 rfl dX10_mend_291 ?_
                                        refine lv_iload X.ex X.co dX10_mend_294 (lv_at hl 0 rfl) ?_
                                        refine lv_iconst (v := 1) X.ex X.co dX10_mend_296 (by decide) ?_
                                        refine n_sub X (x := q + 1) (y := 1) (by omega) dX10_mend_297 (top_eq (y := nI q) rfl ?_)
                                        refine m_ald X hK F 30 (by decide) rfl rfl q (by first | omega | (show _ < 100; omega)) (x := nI (har υ q)) rfl dX10_mend_298 ?_
                                        refine m_astN X hK F hS 30 (by decide) rfl rfl rfl (q + 1) (har υ q) (by first | omega | (show _ < 100; omega)) dX10_mend_299 (fun H locs F hS => ?_)
                                        refine lv_iinc (v := nI ((q + 1) - 1)) (lv' := [(6, .int (nI ((q + 1) - 1))), (4, .int (nI (((menL μ j_v i).1) + 1))), (5, .int (nI i)), (0, .ref (mad (0, 0))), (1, .int (nI j_v)), (2, .int w), (3, .int a)]) X.ex X.co dX10_mend_300 hl (k := 0) rfl (n_dec (by omega)) (by decide) rfl (fun ls hl => ?_)
                                        refine lv_goto (tgt := 234) X.ex X.co dX10_mend_303 (by decide) ?_
                                        exact ihq (sN υ 30 (q + 1) (har υ q)) ((harD_s c_91).symm.trans hd) (hNu.n (by decide) _ _) hVu hHu (fun z hz => (by show (if (30 : Nat) = 30 ∧ z = q + 1 then har υ q else har υ z) < nAn μ; split; exact hh1; exact hbu z hz)) (by omega) H locs F hS ls (lv_sub hl [0, 1, 2, 3, 4, 5, 6] rfl)
                                exact lp (nHa (menA (menL μ j_v i).2 i)) (menA (menL μ j_v i).2 i) rfl hN3 rfl rfl h3b (Nat.le_refl _) H locs F hS ls (lv_sub hl [0, 1, 2, 3, 4, 5, 6] rfl)
                              · refine lv_iconst (v := 0) X.ex X.co dX10_mend_220 (by decide) ?_
                                refine lv_goto (tgt := 225) X.ex X.co dX10_mend_221 (by decide) ?_
                                refine n_add X (x := (menL μ j_v i).1) (y := 0) dX10_mend_225 ?_
                                refine lv_istore (lv' := [(4, .int (nI (((menL μ j_v i).1) + 0))), (5, .int (nI i)), (0, .ref (mad (0, 0))), (1, .int (nI j_v)), (2, .int w), (3, .int a)]) X.ex X.co dX10_mend_226 hl (by decide) rfl (fun ls hl => ?_)
                                refine lv_aload_n X.ex X.co dX10_mend_228 rfl (lv_at hl 2 rfl) ?_
                                refine m_getN X hK F 29 (by decide) rfl rfl (x := nHa (menA (menL μ j_v i).2 i)) rfl m_1380 rfl dX10_mend_229 ?_
                                refine lv_istore (lv' := [(6, .int (nI (nHa (menA (menL μ j_v i).2 i)))), (4, .int (nI (((menL μ j_v i).1) + 0))), (5, .int (nI i)), (0, .ref (mad (0, 0))), (1, .int (nI j_v)), (2, .int w), (3, .int a)]) X.ex X.co dX10_mend_232 hl (by decide) rfl (fun ls hl => ?_)
                                have lp : ∀ (q : Nat) (υ : Sg), harD υ i q = harD (menA (menL μ j_v i).2 i) i (nHa (menA (menL μ j_v i).2 i)) → eqN υ μ → υ.2 = (menA (menL μ j_v i).2 i).2 → nHa υ = nHa (menA (menL μ j_v i).2 i) → (∀ z, z < nHa (menA (menL μ j_v i).2 i) → har υ z < nAn μ) → q ≤ nHa (menA (menL μ j_v i).2 i) → ∀ (H : Heap) (locs : List Loc), mw G mad A υ H → va_S A s.heap H locs → ∀ ls : Array Slot, lv_has ls 7 [(6, .int (nI q)), (4, .int (nI (((menL μ j_v i).1) + 0))), (5, .int (nI i)), (0, .ref (mad (0, 0))), (1, .int (nI j_v)), (2, .int w), (3, .int a)] → Wc p l e 6 0 0 s m args below meth c (eB (some (.int (fMend σ (nI j_v) w a).1)) (mw G mad A (fMend σ (nI j_v) w a).2)) A H locs 0 0 234 ls [] := by
                                  intro q
                                  induction q with
                                  | zero =>
                                    intro υ hd hNu hVu hHu hbu hqu H locs F hS ls hl
                                    have hI0 := hNu.mi (hNμ.mi hI.1)
                                    have eAnu : nAn υ = nAn μ := congrFun (hNu.s (k := 19) (by decide)) 0
                                    refine lv_iload X.ex X.co dX10_mend_234 (lv_at hl 0 rfl) ?_
                                    refine lv_if_le (tgt := 306) X.ex X.co dX10_mend_236 (by decide) (fun c_94 => ?_) (fun c_94 => ?_)
                                    · have hz5 : harD (menA (menL μ j_v i).2 i) i (nHa (menA (menL μ j_v i).2 i)) = (0, υ) := hd.symm
                                      refine lv_aload_n X.ex X.co dX10_mend_306 rfl (lv_at hl 3 rfl) ?_
                                      refine m_getA X hK F 30 (by decide) rfl m_1381 rfl dX10_mend_307 ?_
                                      refine lv_iload X.ex X.co dX10_mend_310 (lv_at hl 0 rfl) ?_
                                      refine lv_iload X.ex X.co dX10_mend_312 (lv_at hl 2 rfl) ?_
                                      refine m_astN X hK F hS 30 (by decide) rfl rfl rfl 0 i (by first | omega | (show _ < 100; omega)) dX10_mend_314 (fun H locs F hS => ?_)
                                      refine lv_aload_n X.ex X.co dX10_mend_315 rfl (lv_at hl 3 rfl) ?_
                                      refine lv_dup X.ex X.co dX10_mend_316 rfl ?_
                                      refine m_getN X hK F 29 (by decide) rfl rfl (x := nHa (menA (menL μ j_v i).2 i)) hHu m_1380 rfl dX10_mend_317 ?_
                                      refine lv_iconst (v := 1) X.ex X.co dX10_mend_320 (by decide) ?_
                                      refine n_add X (x := nHa (menA (menL μ j_v i).2 i)) (y := 1) dX10_mend_321 ?_
                                      refine m_putN X hK F hS 29 (by decide) rfl rfl (v := (nHa (menA (menL μ j_v i).2 i)) + 1) m_1380 rfl rfl (by decide) dX10_mend_322 (fun H locs F hS => ?_)
                                      refine lv_iinc (v := nI (i + 1)) (lv' := [(5, .int (nI (i + 1))), (6, .int (nI 0)), (4, .int (nI (((menL μ j_v i).1) + 0))), (0, .ref (mad (0, 0))), (1, .int (nI j_v)), (2, .int w), (3, .int a)]) X.ex X.co dX10_mend_325 hl (k := 2) rfl (n_inc _) (by decide) rfl (fun ls hl => ?_)
                                      refine lv_goto (tgt := 160) X.ex X.co dX10_mend_328 (by decide) ?_
                                      have q_95 : nI ((menL μ j_v (i + 1)).1) = nI (((menL μ j_v i).1) + 0) := by (simp only [menL]; rw [if_pos c_83]; simp [c_86])
                                      have q_96 : (menL μ j_v (i + 1)).2 = (sN (sN υ 30 0 i) 29 0 ((nHa (menA (menL μ j_v i).2 i)) + 1)) := by (simp only [menL]; rw [if_pos c_83]; simp only [harP]; rw [hz5])
                                      exact ih_66 (i + 1) (by omega) (by omega) _ _ (q_96 ▸ F) hS ls (lv_sub hl [0, 2, 3, 4, 5, 6] (by first | rfl | (rw [q_95] <;> rfl)))
                                    · exact absurd (by decide) c_94
                                  | succ q ihq =>
                                    intro υ hd hNu hVu hHu hbu hqu H locs F hS ls hl
                                    have hI0 := hNu.mi (hNμ.mi hI.1)
                                    have eAnu : nAn υ = nAn μ := congrFun (hNu.s (k := 19) (by decide)) 0
                                    have hh1 := hbu q (by omega)
                                    refine lv_iload X.ex X.co dX10_mend_234 (lv_at hl 0 rfl) ?_
                                    refine n_if_le X (x := q + 1) (tgt := 306) (by omega) dX10_mend_236 (by decide) (fun c_97 => ?_) (fun c_97 => ?_)
                                    · exact absurd c_97 (by omega)
                                    · refine lv_aload_n X.ex X.co dX10_mend_239 rfl (lv_at hl 3 rfl) ?_
                                      refine lv_iload X.ex X.co dX10_mend_240 (lv_at hl 2 rfl) ?_
                                      refine q_rV X ce_X10_grade m_1564 (c_X10_grade l G mad A υ hI0 i (by omega)) (g0.step hS hAg) F (mo F) rfl (by decide) rfl hl.1 rfl (Nat.le_of_ble_eq_true rfl) dX10_mend_242 (by omega) (by omega) ?_
                                      refine lv_aload_n X.ex X.co dX10_mend_245 rfl (lv_at hl 3 rfl) ?_
                                      refine m_getA X hK F 31 (by decide) rfl m_1382 rfl dX10_mend_246 ?_
                                      refine lv_iload X.ex X.co dX10_mend_249 (lv_at hl 2 rfl) ?_
                                      refine m_ald X hK F 31 (by decide) rfl rfl i (by first | omega | (show _ < 100; omega)) (x := (υ.2 31 i)) rfl dX10_mend_251 ?_
                                      refine lv_isub X.ex X.co dX10_mend_252 ?_
                                      refine lv_aload_n X.ex X.co dX10_mend_253 rfl (lv_at hl 3 rfl) ?_
                                      refine lv_aload_n X.ex X.co dX10_mend_254 rfl (lv_at hl 3 rfl) ?_
                                      refine m_getA X hK F 30 (by decide) rfl m_1381 rfl dX10_mend_255 ?_
                                      refine lv_iload X.ex X.co dX10_mend_258 (lv_at hl 0 rfl) ?_
                                      refine lv_iconst (v := 1) X.ex X.co dX10_mend_260 (by decide) ?_
                                      refine n_sub X (x := q + 1) (y := 1) (by omega) dX10_mend_261 (top_eq (y := nI q) rfl ?_)
                                      refine m_ald X hK F 30 (by decide) rfl rfl q (by first | omega | (show _ < 100; omega)) (x := nI (har υ q)) rfl dX10_mend_262 ?_
                                      refine q_rV X ce_X10_grade m_1564 (c_X10_grade l G mad A υ hI0 (har υ q) (by omega)) (g0.step hS hAg) F (mo F) rfl (by decide) rfl hl.1 rfl (Nat.le_of_ble_eq_true rfl) dX10_mend_263 (by omega) (by omega) ?_
                                      refine lv_aload_n X.ex X.co dX10_mend_266 rfl (lv_at hl 3 rfl) ?_
                                      refine m_getA X hK F 31 (by decide) rfl m_1382 rfl dX10_mend_267 ?_
                                      refine lv_aload_n X.ex X.co dX10_mend_270 rfl (lv_at hl 3 rfl) ?_
                                      refine m_getA X hK F 30 (by decide) rfl m_1381 rfl dX10_mend_271 ?_
                                      refine lv_iload X.ex X.co dX10_mend_274 (lv_at hl 0 rfl) ?_
                                      refine lv_iconst (v := 1) X.ex X.co dX10_mend_276 (by decide) ?_
                                      refine n_sub X (x := q + 1) (y := 1) (by omega) dX10_mend_277 (top_eq (y := nI q) rfl ?_)
                                      refine m_ald X hK F 30 (by decide) rfl rfl q (by first | omega | (show _ < 100; omega)) (x := nI (har υ q)) rfl dX10_mend_278 ?_
                                      refine m_ald X hK F 31 (by decide) rfl rfl (har υ q) (by first | omega | (show _ < 100; omega)) (x := (υ.2 31 (har υ q))) rfl dX10_mend_279 ?_
                                      refine lv_isub X.ex X.co dX10_mend_280 ?_
                                      refine lv_icmp_ge (tgt := 306) X.ex X.co dX10_mend_281 (by decide) (fun c_98 => ?_) (fun c_98 => ?_)
                                      · have hz5 : harD (menA (menL μ j_v i).2 i) i (nHa (menA (menL μ j_v i).2 i)) = ((q + 1), υ) := hd.symm.trans (harD_g c_98)
                                        refine lv_aload_n X.ex X.co dX10_mend_306 rfl (lv_at hl 3 rfl) ?_
                                        refine m_getA X hK F 30 (by decide) rfl m_1381 rfl dX10_mend_307 ?_
                                        refine lv_iload X.ex X.co dX10_mend_310 (lv_at hl 0 rfl) ?_
                                        refine lv_iload X.ex X.co dX10_mend_312 (lv_at hl 2 rfl) ?_
                                        refine m_astN X hK F hS 30 (by decide) rfl rfl rfl (q + 1) i (by first | omega | (show _ < 100; omega)) dX10_mend_314 (fun H locs F hS => ?_)
                                        refine lv_aload_n X.ex X.co dX10_mend_315 rfl (lv_at hl 3 rfl) ?_
                                        refine lv_dup X.ex X.co dX10_mend_316 rfl ?_
                                        refine m_getN X hK F 29 (by decide) rfl rfl (x := nHa (menA (menL μ j_v i).2 i)) hHu m_1380 rfl dX10_mend_317 ?_
                                        refine lv_iconst (v := 1) X.ex X.co dX10_mend_320 (by decide) ?_
                                        refine n_add X (x := nHa (menA (menL μ j_v i).2 i)) (y := 1) dX10_mend_321 ?_
                                        refine m_putN X hK F hS 29 (by decide) rfl rfl (v := (nHa (menA (menL μ j_v i).2 i)) + 1) m_1380 rfl rfl (by decide) dX10_mend_322 (fun H locs F hS => ?_)
                                        refine lv_iinc (v := nI (i + 1)) (lv' := [(5, .int (nI (i + 1))), (6, .int (nI (q + 1))), (4, .int (nI (((menL μ j_v i).1) + 0))), (0, .ref (mad (0, 0))), (1, .int (nI j_v)), (2, .int w), (3, .int a)]) X.ex X.co dX10_mend_325 hl (k := 2) rfl (n_inc _) (by decide) rfl (fun ls hl => ?_)
                                        refine lv_goto (tgt := 160) X.ex X.co dX10_mend_328 (by decide) ?_
                                        have q_99 : nI ((menL μ j_v (i + 1)).1) = nI (((menL μ j_v i).1) + 0) := by (simp only [menL]; rw [if_pos c_83]; simp [c_86])
                                        have q_100 : (menL μ j_v (i + 1)).2 = (sN (sN υ 30 (q + 1) i) 29 0 ((nHa (menA (menL μ j_v i).2 i)) + 1)) := by (simp only [menL]; rw [if_pos c_83]; simp only [harP]; rw [hz5])
                                        exact ih_66 (i + 1) (by omega) (by omega) _ _ (q_100 ▸ F) hS ls (lv_sub hl [0, 2, 3, 4, 5, 6] (by first | rfl | (rw [q_99] <;> rfl)))
                                      · refine lv_aload_n X.ex X.co dX10_mend_284 rfl (lv_at hl 3 rfl) ?_
                                        refine m_getA X hK F 30 (by decide) rfl m_1381 rfl dX10_mend_285 ?_
                                        refine lv_iload X.ex X.co dX10_mend_288 (lv_at hl 0 rfl) ?_
                                        refine lv_aload_n X.ex X.co dX10_mend_290 rfl (lv_at hl 3 rfl) ?_
                                        refine m_getA X hK F 30 (by decide) rfl m_1381 rfl dX10_mend_291 ?_
                                        refine lv_iload X.ex X.co dX10_mend_294 (lv_at hl 0 rfl) ?_
                                        refine lv_iconst (v := 1) X.ex X.co dX10_mend_296 (by decide) ?_
                                        refine n_sub X (x := q + 1) (y := 1) (by omega) dX10_mend_297 (top_eq (y := nI q) rfl ?_)
                                        refine m_ald X hK F 30 (by decide) rfl rfl q (by first | omega | (show _ < 100; omega)) (x := nI (har υ q)) rfl dX10_mend_298 ?_
                                        refine m_astN X hK F hS 30 (by decide) rfl rfl rfl (q + 1) (har υ q) (by first | omega | (show _ < 100; omega)) dX10_mend_299 (fun H locs F hS => ?_)
                                        refine lv_iinc (v := nI ((q + 1) - 1)) (lv' := [(6, .int (nI ((q + 1) - 1))), (4, .int (nI (((menL μ j_v i).1) + 0))), (5, .int (nI i)), (0, .ref (mad (0, 0))), (1, .int (nI j_v)), (2, .int w), (3, .int a)]) X.ex X.co dX10_mend_300 hl (k := 0) rfl (n_dec (by omega)) (by decide) rfl (fun ls hl => ?_)
                                        refine lv_goto (tgt := 234) X.ex X.co dX10_mend_303 (by decide) ?_
                                        exact ihq (sN υ 30 (q + 1) (har υ q)) ((harD_s c_98).symm.trans hd) (hNu.n (by decide) _ _) hVu hHu (fun z hz => (by show (if (30 : Nat) = 30 ∧ z = q + 1 then har υ q else har υ z) < nAn μ; split; exact hh1; exact hbu z hz)) (by omega) H locs F hS ls (lv_sub hl [0, 1, 2, 3, 4, 5, 6] rfl)
                                exact lp (nHa (menA (menL μ j_v i).2 i)) (menA (menL μ j_v i).2 i) rfl hN3 rfl rfl h3b (Nat.le_refl _) H locs F hS ls (lv_sub hl [0, 1, 2, 3, 4, 5, 6] rfl)
                      exact loop_65 (nAn σ + 1) 0 (by omega) (by omega) _ _ F hS ls (lv_sub hl [0, 1, 2, 3, 4, 5] rfl)
                    · refine lv_aload_n X.ex X.co dX10_mend_86 rfl (lv_at hl 1 rfl) ?_
                      refine m_getA X hK F 31 (by decide) rfl m_1382 rfl dX10_mend_87 ?_
                      refine lv_iload X.ex X.co dX10_mend_90 (lv_at hl 0 rfl) ?_
                      refine lv_aload_n X.ex X.co dX10_mend_92 rfl (lv_at hl 1 rfl) ?_
                      refine m_getA X hK F 21 (by decide) rfl m_1372 rfl dX10_mend_93 ?_
                      refine lv_iload X.ex X.co dX10_mend_96 (lv_at hl 0 rfl) ?_
                      have hex := hI.1.an (i := i) (by omega)
                      refine m_ald X hK F 21 (by decide) rfl rfl i (by first | omega | (show _ < 100; omega)) (x := nI (exe σ i)) (congrArg nI (congrFun (congrFun (befL_1 σ j_v i) 21) i)) dX10_mend_98 ?_
                      refine lv_iload_n X.ex X.co dX10_mend_99 rfl (lv_at hl 2 rfl) ?_
                      refine n_cmp_ne X (x := exe σ i) (y := j_v) (tgt := 112) (by omega) (by omega) dX10_mend_100 (by decide) (fun c_101 => ?_) (fun c_101 => ?_)
                      · refine lv_iconst (v := 0) X.ex X.co dX10_mend_112 (by decide) ?_
                        refine m_astV X hK F hS 31 (by decide) rfl rfl rfl i (v := 0) (by first | omega | (show _ < 100; omega)) dX10_mend_113 (fun H locs F hS => ?_)
                        refine lv_iinc (v := nI (i + 1)) (lv' := [(4, .int (nI (i + 1))), (0, .ref (mad (0, 0))), (1, .int (nI j_v)), (2, .int w), (3, .int a)]) X.ex X.co dX10_mend_114 hl (k := 0) rfl (n_inc _) (by decide) rfl (fun ls hl => ?_)
                        refine lv_goto (tgt := 77) X.ex X.co dX10_mend_117 (by decide) ?_
                        have q_102 : (befL σ j_v (i + 1)) = (sV (befL σ j_v i) 31 i 0) := by first | rfl | simp [befL, *]
                        exact ih_59 (i + 1) (by omega) (by omega) _ _ (q_102 ▸ F) hS ls (lv_sub hl [0, 1, 2, 3, 4] rfl)
                      · refine lv_aload_n X.ex X.co dX10_mend_103 rfl (lv_at hl 1 rfl) ?_
                        refine lv_iload X.ex X.co dX10_mend_104 (lv_at hl 0 rfl) ?_
                        refine q_rV X ce_X10_grade m_1564 (c_X10_grade l G mad A (befL σ j_v i) hI0 i (by omega)) (g0.step hS hAg) F (mo F) rfl (by decide) rfl hl.1 rfl (Nat.le_of_ble_eq_true rfl) dX10_mend_106 (by omega) (by omega) ?_
                        refine lv_goto (tgt := 113) X.ex X.co dX10_mend_109 (by decide) ?_
                        refine m_astV X hK F hS 31 (by decide) rfl rfl rfl i (v := (grade (befL σ j_v i) i)) (by first | omega | (show _ < 100; omega)) dX10_mend_113 (fun H locs F hS => ?_)
                        refine lv_iinc (v := nI (i + 1)) (lv' := [(4, .int (nI (i + 1))), (0, .ref (mad (0, 0))), (1, .int (nI j_v)), (2, .int w), (3, .int a)]) X.ex X.co dX10_mend_114 hl (k := 0) rfl (n_inc _) (by decide) rfl (fun ls hl => ?_)
                        refine lv_goto (tgt := 77) X.ex X.co dX10_mend_117 (by decide) ?_
                        have q_103 : (befL σ j_v (i + 1)) = (sV (befL σ j_v i) 31 i (grade (befL σ j_v i) i)) := by first | rfl | simp [befL, *]
                        exact ih_59 (i + 1) (by omega) (by omega) _ _ (q_103 ▸ F) hS ls (lv_sub hl [0, 1, 2, 3, 4] rfl)
                exact loop_58 (nAn σ + 1) 0 (by omega) (by omega) _ _ F hS ls (lv_sub hl [0, 1, 2, 3, 4] rfl)
              · exact absurd (by decide) c_56
            · refine lv_iconst (v := 1) X.ex X.co dX10_mend_60 (by decide) ?_
              refine lv_goto (tgt := 65) X.ex X.co dX10_mend_61 (by decide) ?_
              refine lv_iconst (v := 3) X.ex X.co dX10_mend_65 (by decide) ?_
              refine q_eV X ce_X10_fails m_1497 (c_X10_fails l G mad A hAg σ h0 true 3 (by decide) (by decide)) (g0.step hS hAg) F (mo F) rfl (by decide) rfl hl.1 rfl (Nat.le_of_ble_eq_true rfl) dX10_mend_66 (by omega) (by omega) hS (fun _ h => h) (fun H locs F hz hk hS => ?_)
              have F : mw G mad A (sN σ 0 0 3) H := F
              refine lv_if_eq (tgt := 74) X.ex X.co dX10_mend_69 (by decide) (fun c_104 => ?_) (fun c_104 => ?_)
              · exact absurd c_104 (by decide)
              · refine lv_iconst (v := 0) X.ex X.co dX10_mend_72 (by decide) ?_
                exact c_i X hS rfl rfl (by have q : fMend σ (nI j_v) w a = (0, (sN σ 0 0 3)) := (by simp only [fMend, hc_2, c_4, ok_v]; simp [err, *]); unfold eB; rw [q]; exact ⟨rfl, F⟩) (by omega) (by omega) dX10_mend_73
      · refine lv_iconst (v := 1) X.ex X.co dX10_mend_27 (by decide) ?_
        refine lv_goto (tgt := 32) X.ex X.co dX10_mend_28 (by decide) ?_
        refine lv_iconst (v := 2) X.ex X.co dX10_mend_32 (by decide) ?_
        refine q_eV X ce_X10_fails m_1497 (c_X10_fails l G mad A hAg σ h0 true 2 (by decide) (by decide)) (g0.step hS hAg) F (mo F) rfl (by decide) rfl hl.1 rfl (Nat.le_of_ble_eq_true rfl) dX10_mend_33 (by omega) (by omega) hS (fun _ h => h) (fun H locs F hz hk hS => ?_)
        have F : mw G mad A (sN σ 0 0 2) H := F
        refine lv_if_ne (tgt := 72) X.ex X.co dX10_mend_36 (by decide) (fun c_105 => ?_) (fun c_105 => ?_)
        · refine lv_iconst (v := 0) X.ex X.co dX10_mend_72 (by decide) ?_
          exact c_i X hS rfl rfl (by have q : fMend σ (nI j_v) w a = (0, (sN σ 0 0 2)) := (by simp only [fMend, hc_2, c_4, ok_v]; simp [err, *]); unfold eB; rw [q]; exact ⟨rfl, F⟩) (by omega) (by omega) dX10_mend_73
        · exact absurd c_105 (by decide)
  · have hc_106 : (okP v (nEx σ)) = false := by simpa using hb_1
    refine q_eV X ce_X10_fails m_1497 (c_X10_fails l G mad A hAg σ h0 true 1 (by decide) (by decide)) (g0.step hS hAg) F (mo F) rfl (by decide) rfl hl.1 rfl (Nat.le_of_ble_eq_true rfl) dX10_mend_12 (by omega) (by omega) hS (fun _ h => h) (fun H locs F hz hk hS => ?_)
    have F : mw G mad A (sN σ 0 0 1) H := F
    refine lv_if_ne (tgt := 72) X.ex X.co dX10_mend_15 (by decide) (fun c_107 => ?_) (fun c_107 => ?_)
    · refine lv_iconst (v := 0) X.ex X.co dX10_mend_72 (by decide) ?_
      exact c_i X hS rfl rfl (by have q : fMend σ v w a = (0, (sN σ 0 0 1)) := (by simp only [fMend, hc_106]; simp [err, *]); unfold eB; rw [q]; exact ⟨rfl, F⟩) (by omega) (by omega) dX10_mend_73
    · exact absurd c_107 (by decide)
