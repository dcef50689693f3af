set_option maxHeartbeats 4000000 in
set_option maxRecDepth 100000 in
theorem c_X10_thrown (l : Launch) (G : GT) (mad : I2 → Nat) (A : Nat → Prop) (σ : Sg) : rM l yX10_thrown cX10_thrown 1 ((Option.some FieldType.int)) 0 G [.ref (mad (0, 0))] (mw G mad A σ) (some (.int (nI (σ.1 0 0)))) := by
  refine mk_m (by decide) (Nat.le_of_ble_eq_true rfl) ?_
  intro p e s m args below meth c X ls hl g0 F hnm
  have hK := g0.1
  have hl : lv_has ls 1 [(0, .ref (mad (0, 0)))] := hl
  show Wr p l e 0 s m args below meth c (some (.int (nI (σ.1 0 0)))) 0 ls []
  refine lv_aload_n X.ex X.co dX10_thrown_0 rfl (lv_at hl 0 rfl) ?_
  refine m_getN X hK F 0 (by decide) rfl rfl (x := σ.1 0 0) rfl m_1351 rfl dX10_thrown_1 ?_
  exact r_i X rfl rfl rfl dX10_thrown_4
set_option maxHeartbeats 4000000 in
set_option maxRecDepth 100000 in
theorem c_X10_addCase (l : Launch) (G : GT) (mad : I2 → Nat) (A : Nat → Prop) (hAg : ∀ q, A q → gA G q) (τ σ : Sg) (hσ : σ = sN τ 0 0 0) (hI : MI σ) (v a w : Int32) : cM l yX10_addCase cX10_addCase 4 ((Option.some FieldType.int)) 2 0 0 G [.ref (mad (0, 0)), .int v, .int a, .int w] (mw G mad A τ) (eB (some (.int (fAddCase σ v a w).1)) (mw G mad A (fAddCase σ v a w).2)) A := by
  refine mk_m (by decide) (Nat.le_of_ble_eq_true rfl) ?_
  intro p e s m args below meth c X ls hl g0 F hnm
  have hK := g0.1
  have hS : va_S A s.heap s.heap [] := va_S.rf
  have hI0 := hI.1
  obtain ⟨b1, b2, b3, b4, b5, b6, b7⟩ := hI0.1
  obtain ⟨b8, b9, b10⟩ := hI.2.1
  have hapb := hI.apb
  have h0 : σ.1 0 0 = 0 := by rw [hσ]; simp [sN]
  have hl : lv_has ls 4 [(0, .ref (mad (0, 0))), (1, .int v), (2, .int a), (3, .int w)] := hl
  show Wc p l e 2 0 0 s m args below meth c (eB (some (.int (fAddCase σ v a w).1)) (mw G mad A (fAddCase σ v a w).2)) A s.heap [] 0 0 0 ls []
  refine lv_aload_n X.ex X.co dX10_addCase_0 rfl (lv_at hl 0 rfl) ?_
  refine lv_iconst (v := 0) X.ex X.co dX10_addCase_1 (by decide) ?_
  refine m_putN X hK F hS 0 (by decide) rfl rfl (v := 0) m_1351 rfl rfl (by decide) dX10_addCase_2 (fun H locs F hS => ?_)
  rw [← hσ] at F
  clear hσ
  refine lv_aload_n X.ex X.co dX10_addCase_5 rfl (lv_at hl 0 rfl) ?_
  refine lv_aload_n X.ex X.co dX10_addCase_6 rfl (lv_at hl 0 rfl) ?_
  refine lv_iload_n X.ex X.co dX10_addCase_7 rfl (lv_at hl 1 rfl) ?_
  refine q_rV X ce_X10_noExercise m_1524 (c_X10_noExercise l G mad A σ hI0 v) (g0.step hS hAg) F (mo F) rfl (by decide) rfl hl.1 rfl (Nat.le_of_ble_eq_true rfl) dX10_addCase_8 (by omega) (by omega) ?_
  refine lv_iconst (v := 1) X.ex X.co dX10_addCase_11 (by decide) ?_
  rcases hb_1 : !(okP v (nEx σ)) with _ | _
  · have hc_2 : (okP v (nEx σ)) = true := by simpa using hb_1
    have ok_v : okP v (nEx σ) = true := by simpa using hb_1
    obtain ⟨j_v, hj_v, rfl⟩ := (okP_ix (by omega)).mp ok_v
    have ex_v := ix_nI (j := j_v) (by omega)
    refine q_eV X ce_X10_fails m_1497 (c_X10_fails l G mad A hAg σ h0 false 1 (by decide) (by decide)) (g0.step hS hAg) F (mo F) rfl (by decide) rfl hl.1 rfl (Nat.le_of_ble_eq_true rfl) dX10_addCase_12 (by omega) (by omega) hS (fun _ h => h) (fun H locs F hz hk hS => ?_)
    have F : mw G mad A σ H := F
    refine lv_if_ne (tgt := 83) X.ex X.co dX10_addCase_15 (by decide) (fun c_3 => ?_) (fun c_3 => ?_)
    · exact absurd (by decide) c_3
    · refine lv_aload_n X.ex X.co dX10_addCase_18 rfl (lv_at hl 0 rfl) ?_
      refine lv_iload_n X.ex X.co dX10_addCase_19 rfl (lv_at hl 2 rfl) ?_
      refine lv_iconst (v := 0) X.ex X.co dX10_addCase_20 (by decide) ?_
      refine lv_bipush (v := 99) X.ex X.co dX10_addCase_21 (by decide) ?_
      refine q_rS X ce_X10_in m_1494 (c_X10_in l G a 0 99) (g0.step hS hAg) trivial (by decide) rfl hl.1 rfl (Nat.le_of_ble_eq_true rfl) dX10_addCase_23 (by omega) (by omega) ?_
      refine b_if_eq X (x := inB a 0 99) (tgt := 39) dX10_addCase_26 (by decide) (fun c_4 => ?_) (fun c_4 => ?_)
      · refine lv_iconst (v := 1) X.ex X.co dX10_addCase_39 (by decide) ?_
        refine lv_goto (tgt := 44) X.ex X.co dX10_addCase_40 (by decide) ?_
        refine lv_iconst (v := 2) X.ex X.co dX10_addCase_44 (by decide) ?_
        refine q_eV X ce_X10_fails m_1497 (c_X10_fails l G mad A hAg σ h0 true 2 (by decide) (by decide)) (g0.step hS hAg) F (mo F) rfl (by decide) rfl hl.1 rfl (Nat.le_of_ble_eq_true rfl) dX10_addCase_45 (by omega) (by omega) hS (fun _ h => h) (fun H locs F hz hk hS => ?_)
        have F : mw G mad A (sN σ 0 0 2) H := F
        refine lv_if_ne (tgt := 83) X.ex X.co dX10_addCase_48 (by decide) (fun c_5 => ?_) (fun c_5 => ?_)
        · refine lv_iconst (v := 0) X.ex X.co dX10_addCase_83 (by decide) ?_
          exact c_i X hS rfl rfl (by have q : fAddCase σ (nI j_v) a w = (0, (sN σ 0 0 2)) := (by simp only [fAddCase, hc_2, c_4, ok_v]; simp [err, *]); unfold eB; rw [q]; exact ⟨rfl, F⟩) (by omega) (by omega) dX10_addCase_84
        · exact absurd c_5 (by decide)
      · refine lv_iload_n X.ex X.co dX10_addCase_29 rfl (lv_at hl 3 rfl) ?_
        refine lv_iconst (v := 1) X.ex X.co dX10_addCase_30 (by decide) ?_
        refine lv_bipush (v := 9) X.ex X.co dX10_addCase_31 (by decide) ?_
        refine q_rS X ce_X10_in m_1494 (c_X10_in l G w 1 9) (g0.step hS hAg) trivial (by decide) rfl hl.1 rfl (Nat.le_of_ble_eq_true rfl) dX10_addCase_33 (by omega) (by omega) ?_
        refine b_if_ne X (x := inB w 1 9) (tgt := 43) dX10_addCase_36 (by decide) (fun c_6 => ?_) (fun c_6 => ?_)
        · obtain ⟨j_w, hw1, hw2, rfl⟩ := inB_w c_6
          have ok_w := c_6
          have ex_w := ix_nI (j := j_w) (by omega)
          refine lv_iconst (v := 0) X.ex X.co dX10_addCase_43 (by decide) ?_
          refine lv_iconst (v := 2) X.ex X.co dX10_addCase_44 (by decide) ?_
          refine q_eV X ce_X10_fails m_1497 (c_X10_fails l G mad A hAg σ h0 false 2 (by decide) (by decide)) (g0.step hS hAg) F (mo F) rfl (by decide) rfl hl.1 rfl (Nat.le_of_ble_eq_true rfl) dX10_addCase_45 (by omega) (by omega) hS (fun _ h => h) (fun H locs F hz hk hS => ?_)
          have F : mw G mad A σ H := F
          refine lv_if_ne (tgt := 83) X.ex X.co dX10_addCase_48 (by decide) (fun c_7 => ?_) (fun c_7 => ?_)
          · exact absurd (by decide) c_7
          · refine lv_aload_n X.ex X.co dX10_addCase_51 rfl (lv_at hl 0 rfl) ?_
            refine lv_aload_n X.ex X.co dX10_addCase_52 rfl (lv_at hl 0 rfl) ?_
            refine m_getA X hK F 16 (by decide) rfl m_1367 rfl dX10_addCase_53 ?_
            refine lv_iload_n X.ex X.co dX10_addCase_56 rfl (lv_at hl 1 rfl) ?_
            refine m_ald X hK F 16 (by decide) rfl rfl j_v (by first | omega | (show _ < 12; omega)) (x := nI (cas σ j_v)) rfl dX10_addCase_57 ?_
            have hf := hI0.ex (i := j_v) (by omega)
            refine lv_bipush (v := 6) X.ex X.co dX10_addCase_58 (by decide) ?_
            refine n_cmp_eq X (x := cas σ j_v) (y := 6) (tgt := 71) (by omega) (by omega) dX10_addCase_60 (by decide) (fun c_8 => ?_) (fun c_8 => ?_)
            · refine lv_iconst (v := 1) X.ex X.co dX10_addCase_71 (by decide) ?_
              refine lv_goto (tgt := 76) X.ex X.co dX10_addCase_72 (by decide) ?_
              refine lv_iconst (v := 3) X.ex X.co dX10_addCase_76 (by decide) ?_
              refine q_eV X ce_X10_fails m_1497 (c_X10_fails l G mad A hAg σ h0 true 3 (by decide) (by decide)) (g0.step hS hAg) F (mo F) rfl (by decide) rfl hl.1 rfl (Nat.le_of_ble_eq_true rfl) dX10_addCase_77 (by omega) (by omega) hS (fun _ h => h) (fun H locs F hz hk hS => ?_)
              have F : mw G mad A (sN σ 0 0 3) H := F
              refine lv_if_eq (tgt := 85) X.ex X.co dX10_addCase_80 (by decide) (fun c_9 => ?_) (fun c_9 => ?_)
              · exact absurd c_9 (by decide)
              · refine lv_iconst (v := 0) X.ex X.co dX10_addCase_83 (by decide) ?_
                exact c_i X hS rfl rfl (by have q : fAddCase σ (nI j_v) a (nI j_w) = (0, (sN σ 0 0 3)) := (by simp only [fAddCase, hc_2, c_4, c_6, ok_v, ok_w]; simp [err, *]); unfold eB; rw [q]; exact ⟨rfl, F⟩) (by omega) (by omega) dX10_addCase_84
            · refine lv_aload_n X.ex X.co dX10_addCase_63 rfl (lv_at hl 0 rfl) ?_
              refine lv_iload_n X.ex X.co dX10_addCase_64 rfl (lv_at hl 1 rfl) ?_
              refine q_rV X ce_X10_isAnswered m_1528 (c_X10_isAnswered l G mad A σ hI0 j_v (by omega)) (g0.step hS hAg) F (mo F) rfl (by decide) rfl hl.1 rfl (Nat.le_of_ble_eq_true rfl) dX10_addCase_65 (by omega) (by omega) ?_
              refine b_if_eq X (x := ansS σ j_v (nAn σ)) (tgt := 75) dX10_addCase_68 (by decide) (fun c_10 => ?_) (fun c_10 => ?_)
              · refine lv_iconst (v := 0) X.ex X.co dX10_addCase_75 (by decide) ?_
                refine lv_iconst (v := 3) X.ex X.co dX10_addCase_76 (by decide) ?_
                refine q_eV X ce_X10_fails m_1497 (c_X10_fails l G mad A hAg σ h0 false 3 (by decide) (by decide)) (g0.step hS hAg) F (mo F) rfl (by decide) rfl hl.1 rfl (Nat.le_of_ble_eq_true rfl) dX10_addCase_77 (by omega) (by omega) hS (fun _ h => h) (fun H locs F hz hk hS => ?_)
                have F : mw G mad A σ H := F
                refine lv_if_eq (tgt := 85) X.ex X.co dX10_addCase_80 (by decide) (fun c_11 => ?_) (fun c_11 => ?_)
                · refine lv_aload_n X.ex X.co dX10_addCase_85 rfl (lv_at hl 0 rfl) ?_
                  refine m_getA X hK F 17 (by decide) rfl m_1368 rfl dX10_addCase_86 ?_
                  refine lv_bipush (v := 6) X.ex X.co dX10_addCase_89 (by decide) ?_
                  refine lv_iload_n X.ex X.co dX10_addCase_91 rfl (lv_at hl 1 rfl) ?_
                  refine n_mul X (x := 6) (y := j_v) dX10_addCase_92 ?_
                  refine lv_aload_n X.ex X.co dX10_addCase_93 rfl (lv_at hl 0 rfl) ?_
                  refine m_getA X hK F 16 (by decide) rfl m_1367 rfl dX10_addCase_94 ?_
                  refine lv_iload_n X.ex X.co dX10_addCase_97 rfl (lv_at hl 1 rfl) ?_
                  refine m_ald X hK F 16 (by decide) rfl rfl j_v (by first | omega | (show _ < 12; omega)) (x := nI (cas σ j_v)) rfl dX10_addCase_98 ?_
                  have hf := hI0.ex (i := j_v) (by omega)
                  refine n_add X (x := 6 * j_v) (y := cas σ j_v) dX10_addCase_99 ?_
                  refine lv_iload_n X.ex X.co dX10_addCase_100 rfl (lv_at hl 2 rfl) ?_
                  refine m_astV X hK F hS 17 (by decide) rfl rfl rfl ((6 * j_v) + (cas σ j_v)) (v := a) (by first | omega | (show _ < 72; omega)) dX10_addCase_101 (fun H locs F hS => ?_)
                  refine lv_aload_n X.ex X.co dX10_addCase_102 rfl (lv_at hl 0 rfl) ?_
                  refine m_getA X hK F 18 (by decide) rfl m_1369 rfl dX10_addCase_103 ?_
                  refine lv_bipush (v := 6) X.ex X.co dX10_addCase_106 (by decide) ?_
                  refine lv_iload_n X.ex X.co dX10_addCase_108 rfl (lv_at hl 1 rfl) ?_
                  refine n_mul X (x := 6) (y := j_v) dX10_addCase_109 ?_
                  refine lv_aload_n X.ex X.co dX10_addCase_110 rfl (lv_at hl 0 rfl) ?_
                  refine m_getA X hK F 16 (by decide) rfl m_1367 rfl dX10_addCase_111 ?_
                  refine lv_iload_n X.ex X.co dX10_addCase_114 rfl (lv_at hl 1 rfl) ?_
                  refine m_ald X hK F 16 (by decide) rfl rfl j_v (by first | omega | (show _ < 12; omega)) (x := nI (cas σ j_v)) rfl dX10_addCase_115 ?_
                  have hf := hI0.ex (i := j_v) (by omega)
                  refine n_add X (x := 6 * j_v) (y := cas σ j_v) dX10_addCase_116 ?_
                  refine lv_iload_n X.ex X.co dX10_addCase_117 rfl (lv_at hl 3 rfl) ?_
                  refine m_astN X hK F hS 18 (by decide) rfl rfl rfl ((6 * j_v) + (cas σ j_v)) j_w (by first | omega | (show _ < 72; omega)) dX10_addCase_118 (fun H locs F hS => ?_)
                  refine lv_aload_n X.ex X.co dX10_addCase_119 rfl (lv_at hl 0 rfl) ?_
                  refine m_getA X hK F 16 (by decide) rfl m_1367 rfl dX10_addCase_120 ?_
                  refine lv_iload_n X.ex X.co dX10_addCase_123 rfl (lv_at hl 1 rfl) ?_
                  refine lv_dup2_11 X.ex X.co dX10_addCase_124 rfl rfl ?_
                  refine m_ald X hK F 16 (by decide) rfl rfl j_v (by first | omega | (show _ < 12; omega)) (x := nI (cas σ j_v)) rfl dX10_addCase_125 ?_
                  have hf := hI0.ex (i := j_v) (by omega)
                  refine lv_iconst (v := 1) X.ex X.co dX10_addCase_126 (by decide) ?_
                  refine n_add X (x := cas σ j_v) (y := 1) dX10_addCase_127 ?_
                  refine m_astN X hK F hS 16 (by decide) rfl rfl rfl j_v ((cas σ j_v) + 1) (by first | omega | (show _ < 12; omega)) dX10_addCase_128 (fun H locs F hS => ?_)
                  refine lv_aload_n X.ex X.co dX10_addCase_129 rfl (lv_at hl 0 rfl) ?_
                  refine m_getA X hK F 16 (by decide) rfl m_1367 rfl dX10_addCase_130 ?_
                  refine lv_iload_n X.ex X.co dX10_addCase_133 rfl (lv_at hl 1 rfl) ?_
                  refine m_ald X hK F 16 (by decide) rfl rfl j_v (by first | omega | (show _ < 12; omega)) (x := nI ((cas σ j_v) + 1)) (by simp [mRow, mIsN, sN, sV]) dX10_addCase_134 ?_
                  have hf := hI0.ex (i := j_v) (by omega)
                  exact c_i X hS rfl rfl (by have q : fAddCase σ (nI j_v) a (nI j_w) = (nI ((cas σ j_v) + 1), (sN (sN (sV σ 17 ((6 * j_v) + (cas σ j_v)) a) 18 ((6 * j_v) + (cas σ j_v)) j_w) 16 j_v ((cas σ j_v) + 1))) := (by simp only [fAddCase, hc_2, c_4, c_6, c_10, ok_v, ok_w]; simp [err, *]); unfold eB; rw [q]; exact ⟨rfl, F⟩) (by omega) (by omega) dX10_addCase_135
                · exact absurd (by decide) c_11
              · refine lv_iconst (v := 1) X.ex X.co dX10_addCase_71 (by decide) ?_
                refine lv_goto (tgt := 76) X.ex X.co dX10_addCase_72 (by decide) ?_
                refine lv_iconst (v := 3) X.ex X.co dX10_addCase_76 (by decide) ?_
                refine q_eV X ce_X10_fails m_1497 (c_X10_fails l G mad A hAg σ h0 true 3 (by decide) (by decide)) (g0.step hS hAg) F (mo F) rfl (by decide) rfl hl.1 rfl (Nat.le_of_ble_eq_true rfl) dX10_addCase_77 (by omega) (by omega) hS (fun _ h => h) (fun H locs F hz hk hS => ?_)
                have F : mw G mad A (sN σ 0 0 3) H := F
                refine lv_if_eq (tgt := 85) X.ex X.co dX10_addCase_80 (by decide) (fun c_12 => ?_) (fun c_12 => ?_)
                · exact absurd c_12 (by decide)
                · refine lv_iconst (v := 0) X.ex X.co dX10_addCase_83 (by decide) ?_
                  exact c_i X hS rfl rfl (by have q : fAddCase σ (nI j_v) a (nI j_w) = (0, (sN σ 0 0 3)) := (by simp only [fAddCase, hc_2, c_4, c_6, c_10, ok_v, ok_w]; simp [err, *]); unfold eB; rw [q]; exact ⟨rfl, F⟩) (by omega) (by omega) dX10_addCase_84
        · refine lv_iconst (v := 1) X.ex X.co dX10_addCase_39 (by decide) ?_
          refine lv_goto (tgt := 44) X.ex X.co dX10_addCase_40 (by decide) ?_
          refine lv_iconst (v := 2) X.ex X.co dX10_addCase_44 (by decide) ?_
          refine q_eV X ce_X10_fails m_1497 (c_X10_fails l G mad A hAg σ h0 true 2 (by decide) (by decide)) (g0.step hS hAg) F (mo F) rfl (by decide) rfl hl.1 rfl (Nat.le_of_ble_eq_true rfl) dX10_addCase_45 (by omega) (by omega) hS (fun _ h => h) (fun H locs F hz hk hS => ?_)
          have F : mw G mad A (sN σ 0 0 2) H := F
          refine lv_if_ne (tgt := 83) X.ex X.co dX10_addCase_48 (by decide) (fun c_13 => ?_) (fun c_13 => ?_)
          · refine lv_iconst (v := 0) X.ex X.co dX10_addCase_83 (by decide) ?_
            exact c_i X hS rfl rfl (by have q : fAddCase σ (nI j_v) a w = (0, (sN σ 0 0 2)) := (by simp only [fAddCase, hc_2, c_4, c_6, ok_v]; simp [err, *]); unfold eB; rw [q]; exact ⟨rfl, F⟩) (by omega) (by omega) dX10_addCase_84
          · exact absurd c_13 (by decide)
  · have hc_14 : (okP v (nEx σ)) = false := by simpa using hb_1
    refine q_eV X ce_X10_fails m_1497 (c_X10_fails l G mad A hAg σ h0 true 1 (by decide) (by decide)) (g0.step hS hAg) F (mo F) rfl (by decide) rfl hl.1 rfl (Nat.le_of_ble_eq_true rfl) dX10_addCase_12 (by omega) (by omega) hS (fun _ h => h) (fun H locs F hz hk hS => ?_)
    have F : mw G mad A (sN σ 0 0 1) H := F
    refine lv_if_ne (tgt := 83) X.ex X.co dX10_addCase_15 (by decide) (fun c_15 => ?_) (fun c_15 => ?_)
    · refine lv_iconst (v := 0) X.ex X.co dX10_addCase_83 (by decide) ?_
      exact c_i X hS rfl rfl (by have q : fAddCase σ v a w = (0, (sN σ 0 0 1)) := (by simp only [fAddCase, hc_14]; simp [err, *]); unfold eB; rw [q]; exact ⟨rfl, F⟩) (by omega) (by omega) dX10_addCase_84
    · exact absurd c_15 (by decide)
set_option maxHeartbeats 4000000 in
set_option maxRecDepth 100000 in
theorem c_X10_bestAnswer (l : Launch) (G : GT) (mad : I2 → Nat) (A : Nat → Prop) (hAg : ∀ q, A q → gA G q) (τ σ : Sg) (hσ : σ = sN τ 0 0 0) (hI : MI σ) (v w : Int32) : cM l yX10_bestAnswer cX10_bestAnswer 4 ((Option.some FieldType.int)) 4 0 0 G [.ref (mad (0, 0)), .int v, .int w] (mw G mad A τ) (eB (some (.int (fBestAnswer σ v w).1)) (mw G mad A (fBestAnswer σ v w).2)) A := by
  refine mk_m (by decide) (Nat.le_of_ble_eq_true rfl) ?_
  intro p e s m args below meth c X ls hl g0 F hnm
  have hK := g0.1
  have hS : va_S A s.heap s.heap [] := va_S.rf
  have hI0 := hI.1
  obtain ⟨b1, b2, b3, b4, b5, b6, b7⟩ := hI0.1
  obtain ⟨b8, b9, b10⟩ := hI.2.1
  have hapb := hI.apb
  have h0 : σ.1 0 0 = 0 := by rw [hσ]; simp [sN]
  have hl : lv_has ls 4 [(0, .ref (mad (0, 0))), (1, .int v), (2, .int w)] := hl
  show Wc p l e 4 0 0 s m args below meth c (eB (some (.int (fBestAnswer σ v w).1)) (mw G mad A (fBestAnswer σ v w).2)) A s.heap [] 0 0 0 ls []
  refine lv_aload_n X.ex X.co dX10_bestAnswer_0 rfl (lv_at hl 0 rfl) ?_
  refine lv_iconst (v := 0) X.ex X.co dX10_bestAnswer_1 (by decide) ?_
  refine m_putN X hK F hS 0 (by decide) rfl rfl (v := 0) m_1351 rfl rfl (by decide) dX10_bestAnswer_2 (fun H locs F hS => ?_)
  rw [← hσ] at F
  clear hσ
  refine lv_aload_n X.ex X.co dX10_bestAnswer_5 rfl (lv_at hl 0 rfl) ?_
  refine lv_aload_n X.ex X.co dX10_bestAnswer_6 rfl (lv_at hl 0 rfl) ?_
  refine lv_iload_n X.ex X.co dX10_bestAnswer_7 rfl (lv_at hl 1 rfl) ?_
  refine q_rV X ce_X10_noStudent m_1540 (c_X10_noStudent l G mad A σ hI0 v) (g0.step hS hAg) F (mo F) rfl (by decide) rfl hl.1 rfl (Nat.le_of_ble_eq_true rfl) dX10_bestAnswer_8 (by omega) (by omega) ?_
  refine b_if_ne X (x := !(okP v (nSt σ))) (tgt := 22) dX10_bestAnswer_11 (by decide) (fun c_1 => ?_) (fun c_1 => ?_)
  · have hc_2 : (okP v (nSt σ)) = false := by simpa using c_1
    refine lv_iconst (v := 1) X.ex X.co dX10_bestAnswer_22 (by decide) ?_
    refine lv_goto (tgt := 27) X.ex X.co dX10_bestAnswer_23 (by decide) ?_
    refine lv_iconst (v := 1) X.ex X.co dX10_bestAnswer_27 (by decide) ?_
    refine q_eV X ce_X10_fails m_1497 (c_X10_fails l G mad A hAg σ h0 true 1 (by decide) (by decide)) (g0.step hS hAg) F (mo F) rfl (by decide) rfl hl.1 rfl (Nat.le_of_ble_eq_true rfl) dX10_bestAnswer_28 (by omega) (by omega) hS (fun _ h => h) (fun H locs F hz hk hS => ?_)
    have F : mw G mad A (sN σ 0 0 1) H := F
    refine lv_if_eq (tgt := 36) X.ex X.co dX10_bestAnswer_31 (by decide) (fun c_3 => ?_) (fun c_3 => ?_)
    · exact absurd c_3 (by decide)
    · refine lv_iconst (v := 0) X.ex X.co dX10_bestAnswer_34 (by decide) ?_
      exact c_i X hS rfl rfl (by have q : fBestAnswer σ v w = (0, (sN σ 0 0 1)) := (by simp only [fBestAnswer, hc_2]; simp [err, *]); unfold eB; rw [q]; exact ⟨rfl, F⟩) (by omega) (by omega) dX10_bestAnswer_35
  · have hc_4 : (okP v (nSt σ)) = true := by simpa using c_1
    refine lv_aload_n X.ex X.co dX10_bestAnswer_14 rfl (lv_at hl 0 rfl) ?_
    refine lv_iload_n X.ex X.co dX10_bestAnswer_15 rfl (lv_at hl 2 rfl) ?_
    refine q_rV X ce_X10_noExercise m_1524 (c_X10_noExercise l G mad A σ hI0 w) (g0.step hS hAg) F (mo F) rfl (by decide) rfl hl.1 rfl (Nat.le_of_ble_eq_true rfl) dX10_bestAnswer_16 (by omega) (by omega) ?_
    refine b_if_eq X (x := !(okP w (nEx σ))) (tgt := 26) dX10_bestAnswer_19 (by decide) (fun c_5 => ?_) (fun c_5 => ?_)
    · have hc_6 : (okP w (nEx σ)) = true := by simpa using c_5
      have ok_v : okP v (nSt σ) = true := by simpa using c_1
      obtain ⟨j_v, hj_v, rfl⟩ := (okP_ix (by omega)).mp ok_v
      have ex_v := ix_nI (j := j_v) (by omega)
      have ok_w : okP w (nEx σ) = true := by simpa using c_5
      obtain ⟨j_w, hj_w, rfl⟩ := (okP_ix (by omega)).mp ok_w
      have ex_w := ix_nI (j := j_w) (by omega)
      refine lv_iconst (v := 0) X.ex X.co dX10_bestAnswer_26 (by decide) ?_
      refine lv_iconst (v := 1) X.ex X.co dX10_bestAnswer_27 (by decide) ?_
      refine q_eV X ce_X10_fails m_1497 (c_X10_fails l G mad A hAg σ h0 false 1 (by decide) (by decide)) (g0.step hS hAg) F (mo F) rfl (by decide) rfl hl.1 rfl (Nat.le_of_ble_eq_true rfl) dX10_bestAnswer_28 (by omega) (by omega) hS (fun _ h => h) (fun H locs F hz hk hS => ?_)
      have F : mw G mad A σ H := F
      refine lv_if_eq (tgt := 36) X.ex X.co dX10_bestAnswer_31 (by decide) (fun c_7 => ?_) (fun c_7 => ?_)
      · refine lv_aload_n X.ex X.co dX10_bestAnswer_36 rfl (lv_at hl 0 rfl) ?_
        refine lv_iload_n X.ex X.co dX10_bestAnswer_37 rfl (lv_at hl 1 rfl) ?_
        refine lv_iload_n X.ex X.co dX10_bestAnswer_38 rfl (lv_at hl 2 rfl) ?_
        refine lv_aload_n X.ex X.co dX10_bestAnswer_39 rfl (lv_at hl 0 rfl) ?_
        refine m_getV X hK F 1 (by decide) rfl rfl (x := dayV σ) rfl m_1352 rfl dX10_bestAnswer_40 ?_
        refine lv_aload_n X.ex X.co dX10_bestAnswer_43 rfl (lv_at hl 0 rfl) ?_
        refine m_getN X hK F 19 (by decide) rfl rfl (x := nAn σ) rfl m_1370 rfl dX10_bestAnswer_44 ?_
        refine q_rV X ce_X10_best m_1556 (c_X10_best l G mad A σ hI0 j_v j_w (dayV σ) (nAn σ) (by omega) (by omega) (by omega)) (g0.step hS hAg) F (mo F) rfl (by decide) rfl hl.1 rfl (Nat.le_of_ble_eq_true rfl) dX10_bestAnswer_47 (by omega) (by omega) ?_
        rcases hb_8 : bestS σ j_v j_w (dayV σ) (nAn σ) with _ | b_9
        · refine lv_istore_n (lv' := [(3, .int (-1)), (0, .ref (mad (0, 0))), (1, .int (nI j_v)), (2, .int (nI j_w))]) X.ex X.co dX10_bestAnswer_50 rfl hl (by decide) rfl (fun ls hl => ?_)
          refine lv_aload_n X.ex X.co dX10_bestAnswer_51 rfl (lv_at hl 1 rfl) ?_
          refine lv_iload_n X.ex X.co dX10_bestAnswer_52 rfl (lv_at hl 0 rfl) ?_
          refine lv_iconst (v := (-1)) X.ex X.co dX10_bestAnswer_53 (by decide) ?_
          refine lv_icmp_ne (tgt := 61) X.ex X.co dX10_bestAnswer_54 (by decide) (fun c_10 => ?_) (fun c_10 => ?_)
          · exact absurd (by decide) c_10
          · refine lv_iconst (v := 1) X.ex X.co dX10_bestAnswer_57 (by decide) ?_
            refine lv_goto (tgt := 62) X.ex X.co dX10_bestAnswer_58 (by decide) ?_
            refine lv_iconst (v := 2) X.ex X.co dX10_bestAnswer_62 (by decide) ?_
            refine q_eV X ce_X10_fails m_1497 (c_X10_fails l G mad A hAg σ h0 true 2 (by decide) (by decide)) (g0.step hS hAg) F (mo F) rfl (by decide) rfl hl.1 rfl (Nat.le_of_ble_eq_true rfl) dX10_bestAnswer_63 (by omega) (by omega) hS (fun _ h => h) (fun H locs F hz hk hS => ?_)
            have F : mw G mad A (sN σ 0 0 2) H := F
            refine lv_if_eq (tgt := 73) X.ex X.co dX10_bestAnswer_66 (by decide) (fun c_11 => ?_) (fun c_11 => ?_)
            · exact absurd c_11 (by decide)
            · refine lv_iconst (v := 0) X.ex X.co dX10_bestAnswer_69 (by decide) ?_
              refine lv_goto (tgt := 74) X.ex X.co dX10_bestAnswer_70 (by decide) ?_
              exact c_i X hS rfl rfl (by have q : fBestAnswer σ (nI j_v) (nI j_w) = (0, (sN σ 0 0 2)) := (by simp only [fBestAnswer, hc_4, hc_6, ok_v, ok_w]; simp [err, *]); unfold eB; rw [q]; exact ⟨rfl, F⟩) (by omega) (by omega) dX10_bestAnswer_74
        · have hb_8_b := bestS_b hb_8
          refine lv_istore_n (lv' := [(3, .int (nI b_9)), (0, .ref (mad (0, 0))), (1, .int (nI j_v)), (2, .int (nI j_w))]) X.ex X.co dX10_bestAnswer_50 rfl hl (by decide) rfl (fun ls hl => ?_)
          refine lv_aload_n X.ex X.co dX10_bestAnswer_51 rfl (lv_at hl 1 rfl) ?_
          refine lv_iload_n X.ex X.co dX10_bestAnswer_52 rfl (lv_at hl 0 rfl) ?_
          refine lv_iconst (v := (-1)) X.ex X.co dX10_bestAnswer_53 (by decide) ?_
          refine lv_icmp_ne (tgt := 61) X.ex X.co dX10_bestAnswer_54 (by decide) (fun c_12 => ?_) (fun c_12 => ?_)
          · refine lv_iconst (v := 0) X.ex X.co dX10_bestAnswer_61 (by decide) ?_
            refine lv_iconst (v := 2) X.ex X.co dX10_bestAnswer_62 (by decide) ?_
            refine q_eV X ce_X10_fails m_1497 (c_X10_fails l G mad A hAg σ h0 false 2 (by decide) (by decide)) (g0.step hS hAg) F (mo F) rfl (by decide) rfl hl.1 rfl (Nat.le_of_ble_eq_true rfl) dX10_bestAnswer_63 (by omega) (by omega) hS (fun _ h => h) (fun H locs F hz hk hS => ?_)
            have F : mw G mad A σ H := F
            refine lv_if_eq (tgt := 73) X.ex X.co dX10_bestAnswer_66 (by decide) (fun c_13 => ?_) (fun c_13 => ?_)
            · refine lv_iload_n X.ex X.co dX10_bestAnswer_73 rfl (lv_at hl 0 rfl) ?_
              exact c_i X hS rfl rfl (by have q : fBestAnswer σ (nI j_v) (nI j_w) = (nI b_9, σ) := (by simp only [fBestAnswer, hc_4, hc_6, ok_v, ok_w]; simp [err, *]); unfold eB; rw [q]; exact ⟨rfl, F⟩) (by omega) (by omega) dX10_bestAnswer_74
            · exact absurd (by decide) c_13
          · exact absurd c_12 (nI_m1 (by omega))
      · exact absurd (by decide) c_7
    · have hc_14 : (okP w (nEx σ)) = false := by simpa using c_5
      refine lv_iconst (v := 1) X.ex X.co dX10_bestAnswer_22 (by decide) ?_
      refine lv_goto (tgt := 27) X.ex X.co dX10_bestAnswer_23 (by decide) ?_
      refine lv_iconst (v := 1) X.ex X.co dX10_bestAnswer_27 (by decide) ?_
      refine q_eV X ce_X10_fails m_1497 (c_X10_fails l G mad A hAg σ h0 true 1 (by decide) (by decide)) (g0.step hS hAg) F (mo F) rfl (by decide) rfl hl.1 rfl (Nat.le_of_ble_eq_true rfl) dX10_bestAnswer_28 (by omega) (by omega) hS (fun _ h => h) (fun H locs F hz hk hS => ?_)
      have F : mw G mad A (sN σ 0 0 1) H := F
      refine lv_if_eq (tgt := 36) X.ex X.co dX10_bestAnswer_31 (by decide) (fun c_15 => ?_) (fun c_15 => ?_)
      · exact absurd c_15 (by decide)
      · refine lv_iconst (v := 0) X.ex X.co dX10_bestAnswer_34 (by decide) ?_
        exact c_i X hS rfl rfl (by have q : fBestAnswer σ v w = (0, (sN σ 0 0 1)) := (by simp only [fBestAnswer, hc_4, hc_14]; simp [err, *]); unfold eB; rw [q]; exact ⟨rfl, F⟩) (by omega) (by omega) dX10_bestAnswer_35
set_option maxHeartbeats 4000000 in
set_option maxRecDepth 100000 in
theorem c_X10_certificateOf (l : Launch) (G : GT) (mad : I2 → Nat) (A : Nat → Prop) (hAg : ∀ q, A q → gA G q) (τ σ : Sg) (hσ : σ = sN τ 0 0 0) (hI : MI σ) (v w : Int32) : cM l yX10_certificateOf cX10_certificateOf 4 ((Option.some FieldType.int)) 2 0 0 G [.ref (mad (0, 0)), .int v, .int w] (mw G mad A τ) (eB (some (.int (fCertificateOf σ v w).1)) (mw G mad A (fCertificateOf σ v w).2)) A := by
  refine mk_m (by decide) (Nat.le_of_ble_eq_true rfl) ?_
  intro p e s m args below meth c X ls hl g0 F hnm
  have hK := g0.1
  have hS : va_S A s.heap s.heap [] := va_S.rf
  have hI0 := hI.1
  obtain ⟨b1, b2, b3, b4, b5, b6, b7⟩ := hI0.1
  obtain ⟨b8, b9, b10⟩ := hI.2.1
  have hapb := hI.apb
  have h0 : σ.1 0 0 = 0 := by rw [hσ]; simp [sN]
  have hl : lv_has ls 4 [(0, .ref (mad (0, 0))), (1, .int v), (2, .int w)] := hl
  show Wc p l e 2 0 0 s m args below meth c (eB (some (.int (fCertificateOf σ v w).1)) (mw G mad A (fCertificateOf σ v w).2)) A s.heap [] 0 0 0 ls []
  refine lv_aload_n X.ex X.co dX10_certificateOf_0 rfl (lv_at hl 0 rfl) ?_
  refine lv_iconst (v := 0) X.ex X.co dX10_certificateOf_1 (by decide) ?_
  refine m_putN X hK F hS 0 (by decide) rfl rfl (v := 0) m_1351 rfl rfl (by decide) dX10_certificateOf_2 (fun H locs F hS => ?_)
  rw [← hσ] at F
  clear hσ
  refine lv_aload_n X.ex X.co dX10_certificateOf_5 rfl (lv_at hl 0 rfl) ?_
  refine lv_aload_n X.ex X.co dX10_certificateOf_6 rfl (lv_at hl 0 rfl) ?_
  refine lv_iload_n X.ex X.co dX10_certificateOf_7 rfl (lv_at hl 1 rfl) ?_
  refine q_rV X ce_X10_noStudent m_1540 (c_X10_noStudent l G mad A σ hI0 v) (g0.step hS hAg) F (mo F) rfl (by decide) rfl hl.1 rfl (Nat.le_of_ble_eq_true rfl) dX10_certificateOf_8 (by omega) (by omega) ?_
  refine b_if_ne X (x := !(okP v (nSt σ))) (tgt := 22) dX10_certificateOf_11 (by decide) (fun c_1 => ?_) (fun c_1 => ?_)
  · have hc_2 : (okP v (nSt σ)) = false := by simpa using c_1
    refine lv_iconst (v := 1) X.ex X.co dX10_certificateOf_22 (by decide) ?_
    refine lv_goto (tgt := 27) X.ex X.co dX10_certificateOf_23 (by decide) ?_
    refine lv_iconst (v := 1) X.ex X.co dX10_certificateOf_27 (by decide) ?_
    refine q_eV X ce_X10_fails m_1497 (c_X10_fails l G mad A hAg σ h0 true 1 (by decide) (by decide)) (g0.step hS hAg) F (mo F) rfl (by decide) rfl hl.1 rfl (Nat.le_of_ble_eq_true rfl) dX10_certificateOf_28 (by omega) (by omega) hS (fun _ h => h) (fun H locs F hz hk hS => ?_)
    have F : mw G mad A (sN σ 0 0 1) H := F
    refine lv_if_eq (tgt := 36) X.ex X.co dX10_certificateOf_31 (by decide) (fun c_3 => ?_) (fun c_3 => ?_)
    · exact absurd c_3 (by decide)
    · refine lv_iconst (v := 0) X.ex X.co dX10_certificateOf_34 (by decide) ?_
      exact c_i X hS rfl rfl (by have q : fCertificateOf σ v w = (0, (sN σ 0 0 1)) := (by simp only [fCertificateOf, hc_2]; simp [err, *]); unfold eB; rw [q]; exact ⟨rfl, F⟩) (by omega) (by omega) dX10_certificateOf_35
  · have hc_4 : (okP v (nSt σ)) = true := by simpa using c_1
    refine lv_aload_n X.ex X.co dX10_certificateOf_14 rfl (lv_at hl 0 rfl) ?_
    refine lv_iload_n X.ex X.co dX10_certificateOf_15 rfl (lv_at hl 2 rfl) ?_
    refine q_rV X ce_X10_noCourse m_1678 (c_X10_noCourse l G mad A σ hI0 w) (g0.step hS hAg) F (mo F) rfl (by decide) rfl hl.1 rfl (Nat.le_of_ble_eq_true rfl) dX10_certificateOf_16 (by omega) (by omega) ?_
    refine b_if_eq X (x := !(okP w (nCr σ))) (tgt := 26) dX10_certificateOf_19 (by decide) (fun c_5 => ?_) (fun c_5 => ?_)
    · have hc_6 : (okP w (nCr σ)) = true := by simpa using c_5
      have ok_v : okP v (nSt σ) = true := by simpa using c_1
      obtain ⟨j_v, hj_v, rfl⟩ := (okP_ix (by omega)).mp ok_v
      have ex_v := ix_nI (j := j_v) (by omega)
      have ok_w : okP w (nCr σ) = true := by simpa using c_5
      obtain ⟨j_w, hj_w, rfl⟩ := (okP_ix (by omega)).mp ok_w
      have ex_w := ix_nI (j := j_w) (by omega)
      refine lv_iconst (v := 0) X.ex X.co dX10_certificateOf_26 (by decide) ?_
      refine lv_iconst (v := 1) X.ex X.co dX10_certificateOf_27 (by decide) ?_
      refine q_eV X ce_X10_fails m_1497 (c_X10_fails l G mad A hAg σ h0 false 1 (by decide) (by decide)) (g0.step hS hAg) F (mo F) rfl (by decide) rfl hl.1 rfl (Nat.le_of_ble_eq_true rfl) dX10_certificateOf_28 (by omega) (by omega) hS (fun _ h => h) (fun H locs F hz hk hS => ?_)
      have F : mw G mad A σ H := F
      refine lv_if_eq (tgt := 36) X.ex X.co dX10_certificateOf_31 (by decide) (fun c_7 => ?_) (fun c_7 => ?_)
      · refine lv_aload_n X.ex X.co dX10_certificateOf_36 rfl (lv_at hl 0 rfl) ?_
        refine lv_iload_n X.ex X.co dX10_certificateOf_37 rfl (lv_at hl 1 rfl) ?_
        refine lv_iload_n X.ex X.co dX10_certificateOf_38 rfl (lv_at hl 2 rfl) ?_
        refine q_rV X ce_X10_standing m_1682 (c_X10_standing l G mad A σ hI0 j_v j_w (by omega) (by omega)) (g0.step hS hAg) F (mo F) rfl (by decide) rfl hl.1 rfl (Nat.le_of_ble_eq_true rfl) dX10_certificateOf_39 (by omega) (by omega) ?_
        rcases hb_8 : stdS σ j_v j_w (nCe σ) with _ | b_9
        · refine lv_istore_n (lv' := [(3, .int (-1)), (0, .ref (mad (0, 0))), (1, .int (nI j_v)), (2, .int (nI j_w))]) X.ex X.co dX10_certificateOf_42 rfl hl (by decide) rfl (fun ls hl => ?_)
          refine lv_aload_n X.ex X.co dX10_certificateOf_43 rfl (lv_at hl 1 rfl) ?_
          refine lv_iload_n X.ex X.co dX10_certificateOf_44 rfl (lv_at hl 0 rfl) ?_
          refine lv_iconst (v := (-1)) X.ex X.co dX10_certificateOf_45 (by decide) ?_
          refine lv_icmp_ne (tgt := 53) X.ex X.co dX10_certificateOf_46 (by decide) (fun c_10 => ?_) (fun c_10 => ?_)
          · exact absurd (by decide) c_10
          · refine lv_iconst (v := 1) X.ex X.co dX10_certificateOf_49 (by decide) ?_
            refine lv_goto (tgt := 54) X.ex X.co dX10_certificateOf_50 (by decide) ?_
            refine lv_iconst (v := 2) X.ex X.co dX10_certificateOf_54 (by decide) ?_
            refine q_eV X ce_X10_fails m_1497 (c_X10_fails l G mad A hAg σ h0 true 2 (by decide) (by decide)) (g0.step hS hAg) F (mo F) rfl (by decide) rfl hl.1 rfl (Nat.le_of_ble_eq_true rfl) dX10_certificateOf_55 (by omega) (by omega) hS (fun _ h => h) (fun H locs F hz hk hS => ?_)
            have F : mw G mad A (sN σ 0 0 2) H := F
            refine lv_if_eq (tgt := 65) X.ex X.co dX10_certificateOf_58 (by decide) (fun c_11 => ?_) (fun c_11 => ?_)
            · exact absurd c_11 (by decide)
            · refine lv_iconst (v := 0) X.ex X.co dX10_certificateOf_61 (by decide) ?_
              refine lv_goto (tgt := 66) X.ex X.co dX10_certificateOf_62 (by decide) ?_
              exact c_i X hS rfl rfl (by have q : fCertificateOf σ (nI j_v) (nI j_w) = (0, (sN σ 0 0 2)) := (by simp only [fCertificateOf, hc_4, hc_6, ok_v, ok_w]; simp [err, *]); unfold eB; rw [q]; exact ⟨rfl, F⟩) (by omega) (by omega) dX10_certificateOf_66
        · have hb_8_b := stdS_b hb_8
          refine lv_istore_n (lv' := [(3, .int (nI b_9)), (0, .ref (mad (0, 0))), (1, .int (nI j_v)), (2, .int (nI j_w))]) X.ex X.co dX10_certificateOf_42 rfl hl (by decide) rfl (fun ls hl => ?_)
          refine lv_aload_n X.ex X.co dX10_certificateOf_43 rfl (lv_at hl 1 rfl) ?_
          refine lv_iload_n X.ex X.co dX10_certificateOf_44 rfl (lv_at hl 0 rfl) ?_
          refine lv_iconst (v := (-1)) X.ex X.co dX10_certificateOf_45 (by decide) ?_
          refine lv_icmp_ne (tgt := 53) X.ex X.co dX10_certificateOf_46 (by decide) (fun c_12 => ?_) (fun c_12 => ?_)
          · refine lv_iconst (v := 0) X.ex X.co dX10_certificateOf_53 (by decide) ?_
            refine lv_iconst (v := 2) X.ex X.co dX10_certificateOf_54 (by decide) ?_
            refine q_eV X ce_X10_fails m_1497 (c_X10_fails l G mad A hAg σ h0 false 2 (by decide) (by decide)) (g0.step hS hAg) F (mo F) rfl (by decide) rfl hl.1 rfl (Nat.le_of_ble_eq_true rfl) dX10_certificateOf_55 (by omega) (by omega) hS (fun _ h => h) (fun H locs F hz hk hS => ?_)
            have F : mw G mad A σ H := F
            refine lv_if_eq (tgt := 65) X.ex X.co dX10_certificateOf_58 (by decide) (fun c_13 => ?_) (fun c_13 => ?_)
            · refine lv_iload_n X.ex X.co dX10_certificateOf_65 rfl (lv_at hl 0 rfl) ?_
              exact c_i X hS rfl rfl (by have q : fCertificateOf σ (nI j_v) (nI j_w) = (nI b_9, σ) := (by simp only [fCertificateOf, hc_4, hc_6, ok_v, ok_w]; simp [err, *]); unfold eB; rw [q]; exact ⟨rfl, F⟩) (by omega) (by omega) dX10_certificateOf_66
            · exact absurd (by decide) c_13
          · exact absurd c_12 (nI_m1 (by omega))
      · exact absurd (by decide) c_7
    · have hc_14 : (okP w (nCr σ)) = false := by simpa using c_5
      refine lv_iconst (v := 1) X.ex X.co dX10_certificateOf_22 (by decide) ?_
      refine lv_goto (tgt := 27) X.ex X.co dX10_certificateOf_23 (by decide) ?_
      refine lv_iconst (v := 1) X.ex X.co dX10_certificateOf_27 (by decide) ?_
      refine q_eV X ce_X10_fails m_1497 (c_X10_fails l G mad A hAg σ h0 true 1 (by decide) (by decide)) (g0.step hS hAg) F (mo F) rfl (by decide) rfl hl.1 rfl (Nat.le_of_ble_eq_true rfl) dX10_certificateOf_28 (by omega) (by omega) hS (fun _ h => h) (fun H locs F hz hk hS => ?_)
      have F : mw G mad A (sN σ 0 0 1) H := F
      refine lv_if_eq (tgt := 36) X.ex X.co dX10_certificateOf_31 (by decide) (fun c_15 => ?_) (fun c_15 => ?_)
      · exact absurd c_15 (by decide)
      · refine lv_iconst (v := 0) X.ex X.co dX10_certificateOf_34 (by decide) ?_
        exact c_i X hS rfl rfl (by have q : fCertificateOf σ v w = (0, (sN σ 0 0 1)) := (by simp only [fCertificateOf, hc_4, hc_14]; simp [err, *]); unfold eB; rw [q]; exact ⟨rfl, F⟩) (by omega) (by omega) dX10_certificateOf_35
set_option maxHeartbeats 4000000 in
set_option maxRecDepth 100000 in
theorem c_X10_appeal (l : Launch) (G : GT) (mad : I2 → Nat) (A : Nat → Prop) (hAg : ∀ q, A q → gA G q) (τ σ : Sg) (hσ : σ = sN τ 0 0 0) (hI : MI σ) (v : Int32) : cM l yX10_appeal cX10_appeal 2 ((Option.some FieldType.int)) 2 0 0 G [.ref (mad (0, 0)), .int v] (mw G mad A τ) (eB (some (.int (fAppeal σ v).1)) (mw G mad A (fAppeal σ v).2)) A := by
  refine mk_m (by decide) (Nat.le_of_ble_eq_true rfl) ?_
  intro p e s m args below meth c X ls hl g0 F hnm
  have hK := g0.1
  have hS : va_S A s.heap s.heap [] := va_S.rf
  have hI0 := hI.1
  obtain ⟨b1, b2, b3, b4, b5, b6, b7⟩ := hI0.1
  obtain ⟨b8, b9, b10⟩ := hI.2.1
  have hapb := hI.apb
  have h0 : σ.1 0 0 = 0 := by rw [hσ]; simp [sN]
  have hl : lv_has ls 2 [(0, .ref (mad (0, 0))), (1, .int v)] := hl
  show Wc p l e 2 0 0 s m args below meth c (eB (some (.int (fAppeal σ v).1)) (mw G mad A (fAppeal σ v).2)) A s.heap [] 0 0 0 ls []
  refine lv_aload_n X.ex X.co dX10_appeal_0 rfl (lv_at hl 0 rfl) ?_
  refine lv_iconst (v := 0) X.ex X.co dX10_appeal_1 (by decide) ?_
  refine m_putN X hK F hS 0 (by decide) rfl rfl (v := 0) m_1351 rfl rfl (by decide) dX10_appeal_2 (fun H locs F hS => ?_)
  rw [← hσ] at F
  clear hσ
  refine lv_aload_n X.ex X.co dX10_appeal_5 rfl (lv_at hl 0 rfl) ?_
  refine lv_aload_n X.ex X.co dX10_appeal_6 rfl (lv_at hl 0 rfl) ?_
  refine lv_iload_n X.ex X.co dX10_appeal_7 rfl (lv_at hl 1 rfl) ?_
  refine q_rV X ce_X10_noAnswer m_1592 (c_X10_noAnswer l G mad A σ hI0 v) (g0.step hS hAg) F (mo F) rfl (by decide) rfl hl.1 rfl (Nat.le_of_ble_eq_true rfl) dX10_appeal_8 (by omega) (by omega) ?_
  refine lv_iconst (v := 1) X.ex X.co dX10_appeal_11 (by decide) ?_
  rcases hb_1 : !(okP v (nAn σ)) with _ | _
  · have hc_2 : (okP v (nAn σ)) = true := by simpa using hb_1
    have ok_v : okP v (nAn σ) = true := by simpa using hb_1
    obtain ⟨j_v, hj_v, rfl⟩ := (okP_ix (by omega)).mp ok_v
    have ex_v := ix_nI (j := j_v) (by omega)
    refine q_eV X ce_X10_fails m_1497 (c_X10_fails l G mad A hAg σ h0 false 1 (by decide) (by decide)) (g0.step hS hAg) F (mo F) rfl (by decide) rfl hl.1 rfl (Nat.le_of_ble_eq_true rfl) dX10_appeal_12 (by omega) (by omega) hS (fun _ h => h) (fun H locs F hz hk hS => ?_)
    have F : mw G mad A σ H := F
    refine lv_if_ne (tgt := 48) X.ex X.co dX10_appeal_15 (by decide) (fun c_3 => ?_) (fun c_3 => ?_)
    · exact absurd (by decide) c_3
    · refine lv_aload_n X.ex X.co dX10_appeal_18 rfl (lv_at hl 0 rfl) ?_
      refine lv_aload_n X.ex X.co dX10_appeal_19 rfl (lv_at hl 0 rfl) ?_
      refine lv_iload_n X.ex X.co dX10_appeal_20 rfl (lv_at hl 1 rfl) ?_
      refine q_rV X ce_X10_isWaiting m_1630 (c_X10_isWaiting l G mad A σ hI0 j_v (by omega) (by omega) hapb) (g0.step hS hAg) F (mo F) rfl (by decide) rfl hl.1 rfl (Nat.le_of_ble_eq_true rfl) dX10_appeal_21 (by omega) (by omega) ?_
      refine b_if_ne X (x := waitS σ j_v (nAp σ)) (tgt := 36) dX10_appeal_24 (by decide) (fun c_4 => ?_) (fun c_4 => ?_)
      · refine lv_iconst (v := 1) X.ex X.co dX10_appeal_36 (by decide) ?_
        refine lv_goto (tgt := 41) X.ex X.co dX10_appeal_37 (by decide) ?_
        refine lv_iconst (v := 2) X.ex X.co dX10_appeal_41 (by decide) ?_
        refine q_eV X ce_X10_fails m_1497 (c_X10_fails l G mad A hAg σ h0 true 2 (by decide) (by decide)) (g0.step hS hAg) F (mo F) rfl (by decide) rfl hl.1 rfl (Nat.le_of_ble_eq_true rfl) dX10_appeal_42 (by omega) (by omega) hS (fun _ h => h) (fun H locs F hz hk hS => ?_)
        have F : mw G mad A (sN σ 0 0 2) H := F
        refine lv_if_eq (tgt := 50) X.ex X.co dX10_appeal_45 (by decide) (fun c_5 => ?_) (fun c_5 => ?_)
        · exact absurd c_5 (by decide)
        · refine lv_iconst (v := 0) X.ex X.co dX10_appeal_48 (by decide) ?_
          exact c_i X hS rfl rfl (by have q : fAppeal σ (nI j_v) = (0, (sN σ 0 0 2)) := (by simp only [fAppeal, hc_2, c_4, ok_v]; simp [err, *]); unfold eB; rw [q]; exact ⟨rfl, F⟩) (by omega) (by omega) dX10_appeal_49
      · refine lv_aload_n X.ex X.co dX10_appeal_27 rfl (lv_at hl 0 rfl) ?_
        refine m_getA X hK F 26 (by decide) rfl m_1377 rfl dX10_appeal_28 ?_
        refine lv_iload_n X.ex X.co dX10_appeal_31 rfl (lv_at hl 1 rfl) ?_
        refine m_zald X hK F 26 (by decide) rfl rfl j_v (by first | omega | (show _ < 100; omega)) (x := (σ.2 26 j_v)) rfl dX10_appeal_32 ?_
        refine lv_if_eq (tgt := 40) X.ex X.co dX10_appeal_33 (by decide) (fun c_6 => ?_) (fun c_6 => ?_)
        · refine lv_iconst (v := 0) X.ex X.co dX10_appeal_40 (by decide) ?_
          refine lv_iconst (v := 2) X.ex X.co dX10_appeal_41 (by decide) ?_
          refine q_eV X ce_X10_fails m_1497 (c_X10_fails l G mad A hAg σ h0 false 2 (by decide) (by decide)) (g0.step hS hAg) F (mo F) rfl (by decide) rfl hl.1 rfl (Nat.le_of_ble_eq_true rfl) dX10_appeal_42 (by omega) (by omega) hS (fun _ h => h) (fun H locs F hz hk hS => ?_)
          have F : mw G mad A σ H := F
          refine lv_if_eq (tgt := 50) X.ex X.co dX10_appeal_45 (by decide) (fun c_7 => ?_) (fun c_7 => ?_)
          · have hroom := app_room hI hj_v c_4
            refine lv_aload_n X.ex X.co dX10_appeal_50 rfl (lv_at hl 0 rfl) ?_
            refine m_getA X hK F 28 (by decide) rfl m_1379 rfl dX10_appeal_51 ?_
            refine lv_aload_n X.ex X.co dX10_appeal_54 rfl (lv_at hl 0 rfl) ?_
            refine m_getN X hK F 27 (by decide) rfl rfl (x := nAp σ) rfl m_1378 rfl dX10_appeal_55 ?_
            refine lv_iload_n X.ex X.co dX10_appeal_58 rfl (lv_at hl 1 rfl) ?_
            refine m_astN X hK F hS 28 (by decide) rfl rfl rfl (nAp σ) j_v (by first | omega | (show _ < 100; omega)) dX10_appeal_59 (fun H locs F hS => ?_)
            refine lv_aload_n X.ex X.co dX10_appeal_60 rfl (lv_at hl 0 rfl) ?_
            refine lv_dup X.ex X.co dX10_appeal_61 rfl ?_
            refine m_getN X hK F 27 (by decide) rfl rfl (x := nAp σ) rfl m_1378 rfl dX10_appeal_62 ?_
            refine lv_iconst (v := 1) X.ex X.co dX10_appeal_65 (by decide) ?_
            refine n_add X (x := nAp σ) (y := 1) dX10_appeal_66 ?_
            refine m_putN X hK F hS 27 (by decide) rfl rfl (v := (nAp σ) + 1) m_1378 rfl rfl (by decide) dX10_appeal_67 (fun H locs F hS => ?_)
            refine lv_aload_n X.ex X.co dX10_appeal_70 rfl (lv_at hl 0 rfl) ?_
            refine m_getN X hK F 27 (by decide) rfl rfl (x := (nAp σ) + 1) rfl m_1378 rfl dX10_appeal_71 ?_
            exact c_i X hS rfl rfl (by have q : fAppeal σ (nI j_v) = (nI ((nAp σ) + 1), (sN (sN σ 28 (nAp σ) j_v) 27 0 ((nAp σ) + 1))) := (by simp only [fAppeal, hc_2, c_4, ok_v]; simp [err, *]); unfold eB; rw [q]; exact ⟨rfl, F⟩) (by omega) (by omega) dX10_appeal_74
          · exact absurd (by decide) c_7
        · refine lv_iconst (v := 1) X.ex X.co dX10_appeal_36 (by decide) ?_
          refine lv_goto (tgt := 41) X.ex X.co dX10_appeal_37 (by decide) ?_
          refine lv_iconst (v := 2) X.ex X.co dX10_appeal_41 (by decide) ?_
          refine q_eV X ce_X10_fails m_1497 (c_X10_fails l G mad A hAg σ h0 true 2 (by decide) (by decide)) (g0.step hS hAg) F (mo F) rfl (by decide) rfl hl.1 rfl (Nat.le_of_ble_eq_true rfl) dX10_appeal_42 (by omega) (by omega) hS (fun _ h => h) (fun H locs F hz hk hS => ?_)
          have F : mw G mad A (sN σ 0 0 2) H := F
          refine lv_if_eq (tgt := 50) X.ex X.co dX10_appeal_45 (by decide) (fun c_8 => ?_) (fun c_8 => ?_)
          · exact absurd c_8 (by decide)
          · refine lv_iconst (v := 0) X.ex X.co dX10_appeal_48 (by decide) ?_
            exact c_i X hS rfl rfl (by have q : fAppeal σ (nI j_v) = (0, (sN σ 0 0 2)) := (by simp only [fAppeal, hc_2, c_4, ok_v]; simp [err, *]); unfold eB; rw [q]; exact ⟨rfl, F⟩) (by omega) (by omega) dX10_appeal_49
  · have hc_9 : (okP v (nAn σ)) = false := by simpa using hb_1
    refine q_eV X ce_X10_fails m_1497 (c_X10_fails l G mad A hAg σ h0 true 1 (by decide) (by decide)) (g0.step hS hAg) F (mo F) rfl (by decide) rfl hl.1 rfl (Nat.le_of_ble_eq_true rfl) dX10_appeal_12 (by omega) (by omega) hS (fun _ h => h) (fun H locs F hz hk hS => ?_)
    have F : mw G mad A (sN σ 0 0 1) H := F
    refine lv_if_ne (tgt := 48) X.ex X.co dX10_appeal_15 (by decide) (fun c_10 => ?_) (fun c_10 => ?_)
    · refine lv_iconst (v := 0) X.ex X.co dX10_appeal_48 (by decide) ?_
      exact c_i X hS rfl rfl (by have q : fAppeal σ v = (0, (sN σ 0 0 1)) := (by simp only [fAppeal, hc_9]; simp [err, *]); unfold eB; rw [q]; exact ⟨rfl, F⟩) (by omega) (by omega) dX10_appeal_49
    · exact absurd c_10 (by decide)
set_option maxHeartbeats 4000000 in
set_option maxRecDepth 100000 in
theorem c_X10_decide (l : Launch) (G : GT) (mad : I2 → Nat) (A : Nat → Prop) (hAg : ∀ q, A q → gA G q) (τ σ : Sg) (hσ : σ = sN τ 0 0 0) (hI : MI σ) (v : Int32) : cM l yX10_decide cX10_decide 3 ((Option.some FieldType.int)) 1 0 0 G [.ref (mad (0, 0)), .int v] (mw G mad A τ) (eB (some (.int (fDecide σ v).1)) (mw G mad A (fDecide σ v).2)) A := by
  refine mk_m (by decide) (Nat.le_of_ble_eq_true rfl) ?_
  intro p e s m args below meth c X ls hl g0 F hnm
  have hK := g0.1
  have hS : va_S A s.heap s.heap [] := va_S.rf
  have hI0 := hI.1
  obtain ⟨b1, b2, b3, b4, b5, b6, b7⟩ := hI0.1
  obtain ⟨b8, b9, b10⟩ := hI.2.1
  have hapb := hI.apb
  have h0 : σ.1 0 0 = 0 := by rw [hσ]; simp [sN]
  have hl : lv_has ls 3 [(0, .ref (mad (0, 0))), (1, .int v)] := hl
  show Wc p l e 1 0 0 s m args below meth c (eB (some (.int (fDecide σ v).1)) (mw G mad A (fDecide σ v).2)) A s.heap [] 0 0 0 ls []
  refine lv_aload_n X.ex X.co dX10_decide_0 rfl (lv_at hl 0 rfl) ?_
  refine lv_iconst (v := 0) X.ex X.co dX10_decide_1 (by decide) ?_
  refine m_putN X hK F hS 0 (by decide) rfl rfl (v := 0) m_1351 rfl rfl (by decide) dX10_decide_2 (fun H locs F hS => ?_)
  rw [← hσ] at F
  clear hσ
  refine lv_aload_n X.ex X.co dX10_decide_5 rfl (lv_at hl 0 rfl) ?_
  refine lv_iload_n X.ex X.co dX10_decide_6 rfl (lv_at hl 1 rfl) ?_
  refine lv_iconst (v := 0) X.ex X.co dX10_decide_7 (by decide) ?_
  refine lv_bipush (v := 100) X.ex X.co dX10_decide_8 (by decide) ?_
  refine q_rS X ce_X10_in m_1494 (c_X10_in l G v 0 100) (g0.step hS hAg) trivial (by decide) rfl hl.1 rfl (Nat.le_of_ble_eq_true rfl) dX10_decide_10 (by omega) (by omega) ?_
  refine b_if_ne X (x := inB v 0 100) (tgt := 20) dX10_decide_13 (by decide) (fun c_1 => ?_) (fun c_1 => ?_)
  · refine lv_iconst (v := 0) X.ex X.co dX10_decide_20 (by decide) ?_
    refine lv_iconst (v := 1) X.ex X.co dX10_decide_21 (by decide) ?_
    refine q_eV X ce_X10_fails m_1497 (c_X10_fails l G mad A hAg σ h0 false 1 (by decide) (by decide)) (g0.step hS hAg) F (mo F) rfl (by decide) rfl hl.1 rfl (Nat.le_of_ble_eq_true rfl) dX10_decide_22 (by omega) (by omega) hS (fun _ h => h) (fun H locs F hz hk hS => ?_)
    have F : mw G mad A σ H := F
    refine lv_if_ne (tgt := 48) X.ex X.co dX10_decide_25 (by decide) (fun c_2 => ?_) (fun c_2 => ?_)
    · exact absurd (by decide) c_2
    · refine lv_aload_n X.ex X.co dX10_decide_28 rfl (lv_at hl 0 rfl) ?_
      refine lv_aload_n X.ex X.co dX10_decide_29 rfl (lv_at hl 0 rfl) ?_
      refine m_getN X hK F 27 (by decide) rfl rfl (x := nAp σ) rfl m_1378 rfl dX10_decide_30 ?_
      refine n_if_ne X (x := nAp σ) (tgt := 40) (by omega) dX10_decide_33 (by decide) (fun c_3 => ?_) (fun c_3 => ?_)
      · refine lv_iconst (v := 0) X.ex X.co dX10_decide_40 (by decide) ?_
        refine lv_iconst (v := 2) X.ex X.co dX10_decide_41 (by decide) ?_
        refine q_eV X ce_X10_fails m_1497 (c_X10_fails l G mad A hAg σ h0 false 2 (by decide) (by decide)) (g0.step hS hAg) F (mo F) rfl (by decide) rfl hl.1 rfl (Nat.le_of_ble_eq_true rfl) dX10_decide_42 (by omega) (by omega) hS (fun _ h => h) (fun H locs F hz hk hS => ?_)
        have F : mw G mad A σ H := F
        refine lv_if_eq (tgt := 50) X.ex X.co dX10_decide_45 (by decide) (fun c_4 => ?_) (fun c_4 => ?_)
        · have hne : ¬ nAp σ = 0 := by omega
          refine lv_aload_n X.ex X.co dX10_decide_50 rfl (lv_at hl 0 rfl) ?_
          refine m_getA X hK F 28 (by decide) rfl m_1379 rfl dX10_decide_51 ?_
          refine lv_iconst (v := 0) X.ex X.co dX10_decide_54 (by decide) ?_
          refine m_ald X hK F 28 (by decide) rfl rfl 0 (by first | omega | (show _ < 100; omega)) (x := nI (app σ 0)) rfl dX10_decide_55 ?_
          have hf := hI.ap (i := 0) (by omega)
          refine lv_istore_n (lv' := [(2, .int (nI (app σ 0))), (0, .ref (mad (0, 0))), (1, .int v)]) X.ex X.co dX10_decide_56 rfl hl (by decide) rfl (fun ls hl => ?_)
          refine lv_aload_n X.ex X.co dX10_decide_57 rfl (lv_at hl 1 rfl) ?_
          refine lv_iload_n X.ex X.co dX10_decide_58 rfl (lv_at hl 0 rfl) ?_
          refine q_vV X ce_X10_drop m_1638 (c_X10_drop l G mad A hAg σ (by omega) hapb (app σ 0) (by omega)) (g0.step hS hAg) F (mo F) rfl (by decide) rfl hl.1 rfl (Nat.le_of_ble_eq_true rfl) dX10_decide_59 (by omega) (by omega) hS (fun _ h => h) (fun H locs F hz hk hS => ?_)
          refine lv_aload_n X.ex X.co dX10_decide_62 rfl (lv_at hl 1 rfl) ?_
          refine m_getA X hK F 25 (by decide) rfl m_1376 rfl dX10_decide_63 ?_
          refine lv_iload_n X.ex X.co dX10_decide_66 rfl (lv_at hl 0 rfl) ?_
          refine lv_iload_n X.ex X.co dX10_decide_67 rfl (lv_at hl 2 rfl) ?_
          refine m_astV X hK F hS 25 (by decide) rfl rfl rfl (app σ 0) (v := v) (by first | omega | (show _ < 100; omega)) dX10_decide_68 (fun H locs F hS => ?_)
          refine lv_aload_n X.ex X.co dX10_decide_69 rfl (lv_at hl 1 rfl) ?_
          refine m_getA X hK F 26 (by decide) rfl m_1377 rfl dX10_decide_70 ?_
          refine lv_iload_n X.ex X.co dX10_decide_73 rfl (lv_at hl 0 rfl) ?_
          refine lv_iconst (v := 1) X.ex X.co dX10_decide_74 (by decide) ?_
          refine m_zst X hK F hS 26 (by decide) rfl rfl rfl (app σ 0) (v := 1) (by decide) (by first | omega | (show _ < 100; omega)) dX10_decide_75 (fun H locs F hS => ?_)
          refine lv_iload_n X.ex X.co dX10_decide_76 rfl (lv_at hl 0 rfl) ?_
          exact c_i X hS rfl rfl (by have q : fDecide σ v = (nI (app σ 0), (sV (sV (dropS σ (app σ 0)) 25 (app σ 0) v) 26 (app σ 0) 1)) := (by simp only [fDecide, c_1]; simp [err, *]); unfold eB; rw [q]; exact ⟨rfl, F⟩) (by omega) (by omega) dX10_decide_77
        · exact absurd (by decide) c_4
      · refine lv_iconst (v := 1) X.ex X.co dX10_decide_36 (by decide) ?_
        refine lv_goto (tgt := 41) X.ex X.co dX10_decide_37 (by decide) ?_
        refine lv_iconst (v := 2) X.ex X.co dX10_decide_41 (by decide) ?_
        refine q_eV X ce_X10_fails m_1497 (c_X10_fails l G mad A hAg σ h0 true 2 (by decide) (by decide)) (g0.step hS hAg) F (mo F) rfl (by decide) rfl hl.1 rfl (Nat.le_of_ble_eq_true rfl) dX10_decide_42 (by omega) (by omega) hS (fun _ h => h) (fun H locs F hz hk hS => ?_)
        have F : mw G mad A (sN σ 0 0 2) H := F
        refine lv_if_eq (tgt := 50) X.ex X.co dX10_decide_45 (by decide) (fun c_5 => ?_) (fun c_5 => ?_)
        · exact absurd c_5 (by decide)
        · refine lv_iconst (v := 0) X.ex X.co dX10_decide_48 (by decide) ?_
          exact c_i X hS rfl rfl (by have q : fDecide σ v = (0, (sN σ 0 0 2)) := (by simp only [fDecide, c_1]; simp [err, *]); unfold eB; rw [q]; exact ⟨rfl, F⟩) (by omega) (by omega) dX10_decide_49
  · refine lv_iconst (v := 1) X.ex X.co dX10_decide_16 (by decide) ?_
    refine lv_goto (tgt := 21) X.ex X.co dX10_decide_17 (by decide) ?_
    refine lv_iconst (v := 1) X.ex X.co dX10_decide_21 (by decide) ?_
    refine q_eV X ce_X10_fails m_1497 (c_X10_fails l G mad A hAg σ h0 true 1 (by decide) (by decide)) (g0.step hS hAg) F (mo F) rfl (by decide) rfl hl.1 rfl (Nat.le_of_ble_eq_true rfl) dX10_decide_22 (by omega) (by omega) hS (fun _ h => h) (fun H locs F hz hk hS => ?_)
    have F : mw G mad A (sN σ 0 0 1) H := F
    refine lv_if_ne (tgt := 48) X.ex X.co dX10_decide_25 (by decide) (fun c_6 => ?_) (fun c_6 => ?_)
    · refine lv_iconst (v := 0) X.ex X.co dX10_decide_48 (by decide) ?_
      exact c_i X hS rfl rfl (by have q : fDecide σ v = (0, (sN σ 0 0 1)) := (by simp only [fDecide, c_1]; simp [err, *]); unfold eB; rw [q]; exact ⟨rfl, F⟩) (by omega) (by omega) dX10_decide_49
    · exact absurd c_6 (by decide)
set_option maxHeartbeats 4000000 in
set_option maxRecDepth 100000 in
theorem c_X10_lineAt (l : Launch) (G : GT) (mad : I2 → Nat) (A : Nat → Prop) (hAg : ∀ q, A q → gA G q) (τ σ : Sg) (hσ : σ = sN τ 0 0 0) (hI : MI σ) (v : Int32) : cM l yX10_lineAt cX10_lineAt 2 ((Option.some FieldType.char)) 1 0 0 G [.ref (mad (0, 0)), .int v] (mw G mad A τ) (eB (some (.int (fLineAt σ v).1)) (mw G mad A (fLineAt σ v).2)) A := by
  refine mk_m (by decide) (Nat.le_of_ble_eq_true rfl) ?_
  intro p e s m args below meth c X ls hl g0 F hnm
  have hK := g0.1
  have hS : va_S A s.heap s.heap [] := va_S.rf
  have hI0 := hI.1
  obtain ⟨b1, b2, b3, b4, b5, b6, b7⟩ := hI0.1
  obtain ⟨b8, b9, b10⟩ := hI.2.1
  have hapb := hI.apb
  have h0 : σ.1 0 0 = 0 := by rw [hσ]; simp [sN]
  have hl : lv_has ls 2 [(0, .ref (mad (0, 0))), (1, .int v)] := hl
  show Wc p l e 1 0 0 s m args below meth c (eB (some (.int (fLineAt σ v).1)) (mw G mad A (fLineAt σ v).2)) A s.heap [] 0 0 0 ls []
  refine lv_aload_n X.ex X.co dX10_lineAt_0 rfl (lv_at hl 0 rfl) ?_
  refine lv_iconst (v := 0) X.ex X.co dX10_lineAt_1 (by decide) ?_
  refine m_putN X hK F hS 0 (by decide) rfl rfl (v := 0) m_1351 rfl rfl (by decide) dX10_lineAt_2 (fun H locs F hS => ?_)
  rw [← hσ] at F
  clear hσ
  refine lv_aload_n X.ex X.co dX10_lineAt_5 rfl (lv_at hl 0 rfl) ?_
  refine lv_iload_n X.ex X.co dX10_lineAt_6 rfl (lv_at hl 1 rfl) ?_
  refine lv_iconst (v := 0) X.ex X.co dX10_lineAt_7 (by decide) ?_
  refine lv_aload_n X.ex X.co dX10_lineAt_8 rfl (lv_at hl 0 rfl) ?_
  refine m_getN X hK F 43 (by decide) rfl rfl (x := nSz σ) rfl m_1394 rfl dX10_lineAt_9 ?_
  refine lv_iconst (v := 1) X.ex X.co dX10_lineAt_12 (by decide) ?_
  refine lv_isub X.ex X.co dX10_lineAt_13 ?_
  refine q_rS X ce_X10_in m_1494 (c_X10_in l G v 0 (nI (nSz σ) - 1)) (g0.step hS hAg) trivial (by decide) rfl hl.1 rfl (Nat.le_of_ble_eq_true rfl) dX10_lineAt_14 (by omega) (by omega) ?_
  refine b_if_ne X (x := okP v (nSz σ)) (tgt := 24) dX10_lineAt_17 (by decide) (fun c_1 => ?_) (fun c_1 => ?_)
  · have ok_v : okP v (nSz σ) = true := by simpa using c_1
    obtain ⟨j_v, hj_v, rfl⟩ := (okP_ix (by omega)).mp ok_v
    have ex_v := ix_nI (j := j_v) (by omega)
    refine lv_iconst (v := 0) X.ex X.co dX10_lineAt_24 (by decide) ?_
    refine lv_iconst (v := 1) X.ex X.co dX10_lineAt_25 (by decide) ?_
    refine q_eV X ce_X10_fails m_1497 (c_X10_fails l G mad A hAg σ h0 false 1 (by decide) (by decide)) (g0.step hS hAg) F (mo F) rfl (by decide) rfl hl.1 rfl (Nat.le_of_ble_eq_true rfl) dX10_lineAt_26 (by omega) (by omega) hS (fun _ h => h) (fun H locs F hz hk hS => ?_)
    have F : mw G mad A σ H := F
    refine lv_if_eq (tgt := 36) X.ex X.co dX10_lineAt_29 (by decide) (fun c_2 => ?_) (fun c_2 => ?_)
    · refine lv_aload_n X.ex X.co dX10_lineAt_36 rfl (lv_at hl 0 rfl) ?_
      refine m_getA X hK F 42 (by decide) rfl m_1393 rfl dX10_lineAt_37 ?_
      refine lv_iload_n X.ex X.co dX10_lineAt_40 rfl (lv_at hl 1 rfl) ?_
      refine m_cald X hK F 42 (by decide) rfl rfl j_v (by first | omega | (show _ < 60; omega)) (x := (σ.2 42 j_v)) rfl dX10_lineAt_41 ?_
      exact c_i X hS rfl (lin_nar (hI.ln hj_v)) (by have q : fLineAt σ (nI j_v) = ((σ.2 42 j_v), σ) := (by simp only [fLineAt, c_1, ok_v]; simp [err, *]); unfold eB; rw [q]; exact ⟨rfl, F⟩) (by omega) (by omega) dX10_lineAt_42
    · exact absurd (by decide) c_2
  · refine lv_iconst (v := 1) X.ex X.co dX10_lineAt_20 (by decide) ?_
    refine lv_goto (tgt := 25) X.ex X.co dX10_lineAt_21 (by decide) ?_
    refine lv_iconst (v := 1) X.ex X.co dX10_lineAt_25 (by decide) ?_
    refine q_eV X ce_X10_fails m_1497 (c_X10_fails l G mad A hAg σ h0 true 1 (by decide) (by decide)) (g0.step hS hAg) F (mo F) rfl (by decide) rfl hl.1 rfl (Nat.le_of_ble_eq_true rfl) dX10_lineAt_26 (by omega) (by omega) hS (fun _ h => h) (fun H locs F hz hk hS => ?_)
    have F : mw G mad A (sN σ 0 0 1) H := F
    refine lv_if_eq (tgt := 36) X.ex X.co dX10_lineAt_29 (by decide) (fun c_3 => ?_) (fun c_3 => ?_)
    · exact absurd c_3 (by decide)
    · refine lv_iconst (v := 0) X.ex X.co dX10_lineAt_32 (by decide) ?_
      refine lv_goto (tgt := 42) X.ex X.co dX10_lineAt_33 (by decide) ?_
      exact c_i X hS rfl (by decide) (by have q : fLineAt σ v = (0, (sN σ 0 0 1)) := (by simp only [fLineAt, c_1]; simp [err, *]); unfold eB; rw [q]; exact ⟨rfl, F⟩) (by omega) (by omega) dX10_lineAt_42
set_option maxHeartbeats 4000000 in
set_option maxRecDepth 100000 in
theorem c_X10_gradeAnew (l : Launch) (G : GT) (mad : I2 → Nat) (A : Nat → Prop) (hAg : ∀ q, A q → gA G q) (τ σ : Sg) (hσ : σ = sN τ 0 0 0) (hI : MI σ) (v : Int32) : cM l yX10_gradeAnew cX10_gradeAnew 2 ((Option.some FieldType.int)) 3 0 0 G [.ref (mad (0, 0)), .int v] (mw G mad A τ) (eB (some (.int (fGradeOf σ v).1)) (mw G mad A (fGradeOf σ v).2)) A := by
  refine mk_m (by decide) (Nat.le_of_ble_eq_true rfl) ?_
  intro p e s m args below meth c X ls hl g0 F hnm
  have hK := g0.1
  have hS : va_S A s.heap s.heap [] := va_S.rf
  have hI0 := hI.1
  obtain ⟨b1, b2, b3, b4, b5, b6, b7⟩ := hI0.1
  obtain ⟨b8, b9, b10⟩ := hI.2.1
  have hapb := hI.apb
  have h0 : σ.1 0 0 = 0 := by rw [hσ]; simp [sN]
  have hl : lv_has ls 2 [(0, .ref (mad (0, 0))), (1, .int v)] := hl
  show Wc p l e 3 0 0 s m args below meth c (eB (some (.int (fGradeOf σ v).1)) (mw G mad A (fGradeOf σ v).2)) A s.heap [] 0 0 0 ls []
  refine lv_aload_n X.ex X.co dX10_gradeAnew_0 rfl (lv_at hl 0 rfl) ?_
  refine lv_iload_n X.ex X.co dX10_gradeAnew_1 rfl (lv_at hl 1 rfl) ?_
  refine q_eV X ce_X10_gradeOf m_1600 (c_X10_gradeOf l G mad A hAg τ σ hσ hI v) (g0.step hS hAg) F (mo F) rfl (by decide) rfl hl.1 rfl (Nat.le_of_ble_eq_true rfl) dX10_gradeAnew_2 (by omega) (by omega) hS (fun _ h => h) (fun H locs F hz hk hS => ?_)
  exact c_i X hS rfl rfl ⟨rfl, F⟩ (by omega) (by omega) dX10_gradeAnew_5
set_option maxHeartbeats 4000000 in
set_option maxRecDepth 100000 in
theorem c_X10_masteryAnew (l : Launch) (G : GT) (mad : I2 → Nat) (A : Nat → Prop) (hAg : ∀ q, A q → gA G q) (τ σ : Sg) (hσ : σ = sN τ 0 0 0) (hI : MI σ) (v w : Int32) : cM l yX10_masteryAnew cX10_masteryAnew 3 ((Option.some FieldType.int)) 7 0 0 G [.ref (mad (0, 0)), .int v, .int w] (mw G mad A τ) (eB (some (.int (fMastery σ v w).1)) (mw G mad A (fMastery σ v w).2)) A := by
  refine mk_m (by decide) (Nat.le_of_ble_eq_true rfl) ?_
  intro p e s m args below meth c X ls hl g0 F hnm
  have hK := g0.1
  have hS : va_S A s.heap s.heap [] := va_S.rf
  have hI0 := hI.1
  obtain ⟨b1, b2, b3, b4, b5, b6, b7⟩ := hI0.1
  obtain ⟨b8, b9, b10⟩ := hI.2.1
  have hapb := hI.apb
  have h0 : σ.1 0 0 = 0 := by rw [hσ]; simp [sN]
  have hl : lv_has ls 3 [(0, .ref (mad (0, 0))), (1, .int v), (2, .int w)] := hl
  show Wc p l e 7 0 0 s m args below meth c (eB (some (.int (fMastery σ v w).1)) (mw G mad A (fMastery σ v w).2)) A s.heap [] 0 0 0 ls []
  refine lv_aload_n X.ex X.co dX10_masteryAnew_0 rfl (lv_at hl 0 rfl) ?_
  refine lv_iload_n X.ex X.co dX10_masteryAnew_1 rfl (lv_at hl 1 rfl) ?_
  refine lv_iload_n X.ex X.co dX10_masteryAnew_2 rfl (lv_at hl 2 rfl) ?_
  refine q_eV X ce_X10_mastery m_1625 (c_X10_mastery l G mad A hAg τ σ hσ hI v w) (g0.step hS hAg) F (mo F) rfl (by decide) rfl hl.1 rfl (Nat.le_of_ble_eq_true rfl) dX10_masteryAnew_3 (by omega) (by omega) hS (fun _ h => h) (fun H locs F hz hk hS => ?_)
  exact c_i X hS rfl rfl ⟨rfl, F⟩ (by omega) (by omega) dX10_masteryAnew_6
set_option maxHeartbeats 4000000 in
set_option maxRecDepth 100000 in
theorem c_X10_issue (l : Launch) (G : GT) (mad : I2 → Nat) (A : Nat → Prop) (hAg : ∀ q, A q → gA G q) (τ σ : Sg) (hσ : σ = sN τ 0 0 0) (hI : MI σ) (v w : Int32) : cM l yX10_issue cX10_issue 3 ((Option.some FieldType.int)) 7 0 0 G [.ref (mad (0, 0)), .int v, .int w] (mw G mad A τ) (eB (some (.int (fIssue σ v w).1)) (mw G mad A (fIssue σ v w).2)) A := by
  refine mk_m (by decide) (Nat.le_of_ble_eq_true rfl) ?_
  intro p e s m args below meth c X ls hl g0 F hnm
  have hK := g0.1
  have hS : va_S A s.heap s.heap [] := va_S.rf
  have hI0 := hI.1
  obtain ⟨b1, b2, b3, b4, b5, b6, b7⟩ := hI0.1
  obtain ⟨b8, b9, b10⟩ := hI.2.1
  have hapb := hI.apb
  have h0 : σ.1 0 0 = 0 := by rw [hσ]; simp [sN]
  have hl : lv_has ls 3 [(0, .ref (mad (0, 0))), (1, .int v), (2, .int w)] := hl
  show Wc p l e 7 0 0 s m args below meth c (eB (some (.int (fIssue σ v w).1)) (mw G mad A (fIssue σ v w).2)) A s.heap [] 0 0 0 ls []
  refine lv_aload_n X.ex X.co dX10_issue_0 rfl (lv_at hl 0 rfl) ?_
  refine lv_iconst (v := 0) X.ex X.co dX10_issue_1 (by decide) ?_
  refine m_putN X hK F hS 0 (by decide) rfl rfl (v := 0) m_1351 rfl rfl (by decide) dX10_issue_2 (fun H locs F hS => ?_)
  rw [← hσ] at F
  clear hσ
  refine lv_aload_n X.ex X.co dX10_issue_5 rfl (lv_at hl 0 rfl) ?_
  refine lv_aload_n X.ex X.co dX10_issue_6 rfl (lv_at hl 0 rfl) ?_
  refine lv_iload_n X.ex X.co dX10_issue_7 rfl (lv_at hl 1 rfl) ?_
  refine q_rV X ce_X10_noStudent m_1540 (c_X10_noStudent l G mad A σ hI0 v) (g0.step hS hAg) F (mo F) rfl (by decide) rfl hl.1 rfl (Nat.le_of_ble_eq_true rfl) dX10_issue_8 (by omega) (by omega) ?_
  refine b_if_ne X (x := !(okP v (nSt σ))) (tgt := 22) dX10_issue_11 (by decide) (fun c_1 => ?_) (fun c_1 => ?_)
  · have hc_2 : (okP v (nSt σ)) = false := by simpa using c_1
    refine lv_iconst (v := 1) X.ex X.co dX10_issue_22 (by decide) ?_
    refine lv_goto (tgt := 27) X.ex X.co dX10_issue_23 (by decide) ?_
    refine lv_iconst (v := 1) X.ex X.co dX10_issue_27 (by decide) ?_
    refine q_eV X ce_X10_fails m_1497 (c_X10_fails l G mad A hAg σ h0 true 1 (by decide) (by decide)) (g0.step hS hAg) F (mo F) rfl (by decide) rfl hl.1 rfl (Nat.le_of_ble_eq_true rfl) dX10_issue_28 (by omega) (by omega) hS (fun _ h => h) (fun H locs F hz hk hS => ?_)
    have F : mw G mad A (sN σ 0 0 1) H := F
    refine lv_if_ne (tgt := 66) X.ex X.co dX10_issue_31 (by decide) (fun c_3 => ?_) (fun c_3 => ?_)
    · refine lv_iconst (v := 0) X.ex X.co dX10_issue_66 (by decide) ?_
      exact c_i X hS rfl rfl (by have q : fIssue σ v w = (0, (sN σ 0 0 1)) := (by simp only [fIssue, hc_2]; simp [err, *]); unfold eB; rw [q]; exact ⟨rfl, F⟩) (by omega) (by omega) dX10_issue_67
    · exact absurd c_3 (by decide)
  · have hc_4 : (okP v (nSt σ)) = true := by simpa using c_1
    refine lv_aload_n X.ex X.co dX10_issue_14 rfl (lv_at hl 0 rfl) ?_
    refine lv_iload_n X.ex X.co dX10_issue_15 rfl (lv_at hl 2 rfl) ?_
    refine q_rV X ce_X10_noCourse m_1678 (c_X10_noCourse l G mad A σ hI0 w) (g0.step hS hAg) F (mo F) rfl (by decide) rfl hl.1 rfl (Nat.le_of_ble_eq_true rfl) dX10_issue_16 (by omega) (by omega) ?_
    refine b_if_eq X (x := !(okP w (nCr σ))) (tgt := 26) dX10_issue_19 (by decide) (fun c_5 => ?_) (fun c_5 => ?_)
    · have hc_6 : (okP w (nCr σ)) = true := by simpa using c_5
      have ok_v : okP v (nSt σ) = true := by simpa using c_1
      obtain ⟨j_v, hj_v, rfl⟩ := (okP_ix (by omega)).mp ok_v
      have ex_v := ix_nI (j := j_v) (by omega)
      have ok_w : okP w (nCr σ) = true := by simpa using c_5
      obtain ⟨j_w, hj_w, rfl⟩ := (okP_ix (by omega)).mp ok_w
      have ex_w := ix_nI (j := j_w) (by omega)
      refine lv_iconst (v := 0) X.ex X.co dX10_issue_26 (by decide) ?_
      refine lv_iconst (v := 1) X.ex X.co dX10_issue_27 (by decide) ?_
      refine q_eV X ce_X10_fails m_1497 (c_X10_fails l G mad A hAg σ h0 false 1 (by decide) (by decide)) (g0.step hS hAg) F (mo F) rfl (by decide) rfl hl.1 rfl (Nat.le_of_ble_eq_true rfl) dX10_issue_28 (by omega) (by omega) hS (fun _ h => h) (fun H locs F hz hk hS => ?_)
      have F : mw G mad A σ H := F
      refine lv_if_ne (tgt := 66) X.ex X.co dX10_issue_31 (by decide) (fun c_7 => ?_) (fun c_7 => ?_)
      · exact absurd (by decide) c_7
      · refine lv_aload_n X.ex X.co dX10_issue_34 rfl (lv_at hl 0 rfl) ?_
        refine lv_aload_n X.ex X.co dX10_issue_35 rfl (lv_at hl 0 rfl) ?_
        refine lv_iload_n X.ex X.co dX10_issue_36 rfl (lv_at hl 1 rfl) ?_
        refine lv_iload_n X.ex X.co dX10_issue_37 rfl (lv_at hl 2 rfl) ?_
        refine q_rV X ce_X10_standing m_1682 (c_X10_standing l G mad A σ hI0 j_v j_w (by omega) (by omega)) (g0.step hS hAg) F (mo F) rfl (by decide) rfl hl.1 rfl (Nat.le_of_ble_eq_true rfl) dX10_issue_38 (by omega) (by omega) ?_
        rcases hb_8 : stdS σ j_v j_w (nCe σ) with _ | b_9
        · refine lv_iconst (v := (-1)) X.ex X.co dX10_issue_41 (by decide) ?_
          refine lv_icmp_ne (tgt := 54) X.ex X.co dX10_issue_42 (by decide) (fun c_10 => ?_) (fun c_10 => ?_)
          · exact absurd (by decide) c_10
          · refine lv_aload_n X.ex X.co dX10_issue_45 rfl (lv_at hl 0 rfl) ?_
            refine m_getN X hK F 35 (by decide) rfl rfl (x := nCe σ) rfl m_1386 rfl dX10_issue_46 ?_
            refine lv_bipush (v := 30) X.ex X.co dX10_issue_49 (by decide) ?_
            refine n_cmp_ne X (x := nCe σ) (y := 30) (tgt := 58) (by omega) (by omega) dX10_issue_51 (by decide) (fun c_11 => ?_) (fun c_11 => ?_)
            · refine lv_iconst (v := 0) X.ex X.co dX10_issue_58 (by decide) ?_
              refine lv_iconst (v := 2) X.ex X.co dX10_issue_59 (by decide) ?_
              refine q_eV X ce_X10_fails m_1497 (c_X10_fails l G mad A hAg σ h0 false 2 (by decide) (by decide)) (g0.step hS hAg) F (mo F) rfl (by decide) rfl hl.1 rfl (Nat.le_of_ble_eq_true rfl) dX10_issue_60 (by omega) (by omega) hS (fun _ h => h) (fun H locs F hz hk hS => ?_)
              have F : mw G mad A σ H := F
              refine lv_if_eq (tgt := 68) X.ex X.co dX10_issue_63 (by decide) (fun c_12 => ?_) (fun c_12 => ?_)
              · refine lv_aload_n X.ex X.co dX10_issue_68 rfl (lv_at hl 0 rfl) ?_
                refine m_getA X hK F 36 (by decide) rfl m_1387 rfl dX10_issue_69 ?_
                refine lv_aload_n X.ex X.co dX10_issue_72 rfl (lv_at hl 0 rfl) ?_
                refine m_getN X hK F 35 (by decide) rfl rfl (x := nCe σ) rfl m_1386 rfl dX10_issue_73 ?_
                refine lv_iload_n X.ex X.co dX10_issue_76 rfl (lv_at hl 1 rfl) ?_
                refine m_astN X hK F hS 36 (by decide) rfl rfl rfl (nCe σ) j_v (by first | omega | (show _ < 30; omega)) dX10_issue_77 (fun H locs F hS => ?_)
                refine lv_aload_n X.ex X.co dX10_issue_78 rfl (lv_at hl 0 rfl) ?_
                refine m_getA X hK F 37 (by decide) rfl m_1388 rfl dX10_issue_79 ?_
                refine lv_aload_n X.ex X.co dX10_issue_82 rfl (lv_at hl 0 rfl) ?_
                refine m_getN X hK F 35 (by decide) rfl rfl (x := nCe σ) rfl m_1386 rfl dX10_issue_83 ?_
                refine lv_iload_n X.ex X.co dX10_issue_86 rfl (lv_at hl 2 rfl) ?_
                refine m_astN X hK F hS 37 (by decide) rfl rfl rfl (nCe σ) j_w (by first | omega | (show _ < 30; omega)) dX10_issue_87 (fun H locs F hS => ?_)
                refine lv_aload_n X.ex X.co dX10_issue_88 rfl (lv_at hl 0 rfl) ?_
                refine m_getA X hK F 38 (by decide) rfl m_1389 rfl dX10_issue_89 ?_
                refine lv_aload_n X.ex X.co dX10_issue_92 rfl (lv_at hl 0 rfl) ?_
                refine m_getN X hK F 35 (by decide) rfl rfl (x := nCe σ) rfl m_1386 rfl dX10_issue_93 ?_
                refine lv_aload_n X.ex X.co dX10_issue_96 rfl (lv_at hl 0 rfl) ?_
                refine m_getV X hK F 1 (by decide) rfl rfl (x := dayV σ) rfl m_1352 rfl dX10_issue_97 ?_
                refine m_astV X hK F hS 38 (by decide) rfl rfl rfl (nCe σ) (v := (dayV σ)) (by first | omega | (show _ < 30; omega)) dX10_issue_100 (fun H locs F hS => ?_)
                refine lv_aload_n X.ex X.co dX10_issue_101 rfl (lv_at hl 0 rfl) ?_
                refine m_getA X hK F 39 (by decide) rfl m_1390 rfl dX10_issue_102 ?_
                refine lv_aload_n X.ex X.co dX10_issue_105 rfl (lv_at hl 0 rfl) ?_
                refine m_getN X hK F 35 (by decide) rfl rfl (x := nCe σ) rfl m_1386 rfl dX10_issue_106 ?_
                refine lv_aload_n X.ex X.co dX10_issue_109 rfl (lv_at hl 0 rfl) ?_
                refine m_getN X hK F 11 (by decide) rfl rfl (x := nEx σ) rfl m_1362 rfl dX10_issue_110 ?_
                refine m_astN X hK F hS 39 (by decide) rfl rfl rfl (nCe σ) (nEx σ) (by first | omega | (show _ < 30; omega)) dX10_issue_113 (fun H locs F hS => ?_)
                refine lv_aload_n X.ex X.co dX10_issue_114 rfl (lv_at hl 0 rfl) ?_
                refine m_getA X hK F 40 (by decide) rfl m_1391 rfl dX10_issue_115 ?_
                refine lv_aload_n X.ex X.co dX10_issue_118 rfl (lv_at hl 0 rfl) ?_
                refine m_getN X hK F 35 (by decide) rfl rfl (x := nCe σ) rfl m_1386 rfl dX10_issue_119 ?_
                refine lv_aload_n X.ex X.co dX10_issue_122 rfl (lv_at hl 0 rfl) ?_
                refine m_getN X hK F 19 (by decide) rfl rfl (x := nAn σ) rfl m_1370 rfl dX10_issue_123 ?_
                refine m_astN X hK F hS 40 (by decide) rfl rfl rfl (nCe σ) (nAn σ) (by first | omega | (show _ < 30; omega)) dX10_issue_126 (fun H locs F hS => ?_)
                refine lv_aload_n X.ex X.co dX10_issue_127 rfl (lv_at hl 0 rfl) ?_
                refine m_getA X hK F 41 (by decide) rfl m_1392 rfl dX10_issue_128 ?_
                refine lv_aload_n X.ex X.co dX10_issue_131 rfl (lv_at hl 0 rfl) ?_
                refine m_getN X hK F 35 (by decide) rfl rfl (x := nCe σ) rfl m_1386 rfl dX10_issue_132 ?_
                refine lv_iconst (v := 0) X.ex X.co dX10_issue_135 (by decide) ?_
                refine m_zst X hK F hS 41 (by decide) rfl rfl rfl (nCe σ) (v := 0) (by decide) (by first | omega | (show _ < 30; omega)) dX10_issue_136 (fun H locs F hS => ?_)
                have F : mw G mad A (issS σ j_v j_w) H := F
                have hI0 := MI_iss hI0 j_v j_w
                refine lv_aload_n X.ex X.co dX10_issue_137 rfl (lv_at hl 0 rfl) ?_
                refine lv_aload_n X.ex X.co dX10_issue_138 rfl (lv_at hl 0 rfl) ?_
                refine lv_aload_n X.ex X.co dX10_issue_139 rfl (lv_at hl 0 rfl) ?_
                refine m_getN X hK F 35 (by decide) rfl rfl (x := nCe σ) rfl m_1386 rfl dX10_issue_140 ?_
                refine q_rV X ce_X10_isEnough m_1658 (c_X10_isEnough l G mad A (issS σ j_v j_w) hI0 (nCe σ) (by omega) (by simp [cou, issS, sN, sV]; omega) (by simp [hol, issS, sN, sV]; omega) (by simp [eTh, issS, sN, sV, nEx]) (by simp [aTh, issS, sN, sV, nAn])) (g0.step hS hAg) F (mo F) rfl (by decide) rfl hl.1 rfl (Nat.le_of_ble_eq_true rfl) dX10_issue_143 (by omega) (by omega) ?_
                refine b_if_ne X (x := enoS (issS σ j_v j_w) (nCe σ) (nLe (issS σ j_v j_w))) (tgt := 153) dX10_issue_146 (by decide) (fun c_13 => ?_) (fun c_13 => ?_)
                · refine lv_iconst (v := 0) X.ex X.co dX10_issue_153 (by decide) ?_
                  refine lv_iconst (v := 3) X.ex X.co dX10_issue_154 (by decide) ?_
                  refine q_eV X ce_X10_fails m_1497 (c_X10_fails l G mad A hAg (issS σ j_v j_w) h0 false 3 (by decide) (by decide)) (g0.step hS hAg) F (mo F) rfl (by decide) rfl hl.1 rfl (Nat.le_of_ble_eq_true rfl) dX10_issue_155 (by omega) (by omega) hS (fun _ h => h) (fun H locs F hz hk hS => ?_)
                  have F : mw G mad A (issS σ j_v j_w) H := F
                  refine lv_if_eq (tgt := 163) X.ex X.co dX10_issue_158 (by decide) (fun c_14 => ?_) (fun c_14 => ?_)
                  · refine lv_aload_n X.ex X.co dX10_issue_163 rfl (lv_at hl 0 rfl) ?_
                    refine lv_dup X.ex X.co dX10_issue_164 rfl ?_
                    refine m_getN X hK F 35 (by decide) rfl rfl (x := nCe σ) rfl m_1386 rfl dX10_issue_165 ?_
                    refine lv_iconst (v := 1) X.ex X.co dX10_issue_168 (by decide) ?_
                    refine n_add X (x := nCe σ) (y := 1) dX10_issue_169 ?_
                    refine m_putN X hK F hS 35 (by decide) rfl rfl (v := (nCe σ) + 1) m_1386 rfl rfl (by decide) dX10_issue_170 (fun H locs F hS => ?_)
                    refine lv_aload_n X.ex X.co dX10_issue_173 rfl (lv_at hl 0 rfl) ?_
                    refine m_getN X hK F 35 (by decide) rfl rfl (x := (nCe σ) + 1) rfl m_1386 rfl dX10_issue_174 ?_
                    refine lv_iconst (v := 1) X.ex X.co dX10_issue_177 (by decide) ?_
                    refine n_sub X (x := (nCe σ) + 1) (y := 1) (by omega) dX10_issue_178 ?_
                    exact c_i X hS rfl rfl (by have q : fIssue σ (nI j_v) (nI j_w) = (nI (((nCe σ) + 1) - 1), (sN (issS σ j_v j_w) 35 0 ((nCe σ) + 1))) := (by simp only [fIssue, hc_4, hc_6, c_13, ok_v, ok_w]; simp [err, *]); unfold eB; rw [q]; exact ⟨rfl, F⟩) (by omega) (by omega) dX10_issue_179
                  · exact absurd (by decide) c_14
                · refine lv_iconst (v := 1) X.ex X.co dX10_issue_149 (by decide) ?_
                  refine lv_goto (tgt := 154) X.ex X.co dX10_issue_150 (by decide) ?_
                  refine lv_iconst (v := 3) X.ex X.co dX10_issue_154 (by decide) ?_
                  refine q_eV X ce_X10_fails m_1497 (c_X10_fails l G mad A hAg (issS σ j_v j_w) h0 true 3 (by decide) (by decide)) (g0.step hS hAg) F (mo F) rfl (by decide) rfl hl.1 rfl (Nat.le_of_ble_eq_true rfl) dX10_issue_155 (by omega) (by omega) hS (fun _ h => h) (fun H locs F hz hk hS => ?_)
                  have F : mw G mad A (sN (issS σ j_v j_w) 0 0 3) H := F
                  refine lv_if_eq (tgt := 163) X.ex X.co dX10_issue_158 (by decide) (fun c_15 => ?_) (fun c_15 => ?_)
                  · exact absurd c_15 (by decide)
                  · refine lv_iconst (v := 0) X.ex X.co dX10_issue_161 (by decide) ?_
                    exact c_i X hS rfl rfl (by have q : fIssue σ (nI j_v) (nI j_w) = (0, (sN (issS σ j_v j_w) 0 0 3)) := (by simp only [fIssue, hc_4, hc_6, c_13, ok_v, ok_w]; simp [err, *]); unfold eB; rw [q]; exact ⟨rfl, F⟩) (by omega) (by omega) dX10_issue_162
              · exact absurd (by decide) c_12
            · refine lv_iconst (v := 1) X.ex X.co dX10_issue_54 (by decide) ?_
              refine lv_goto (tgt := 59) X.ex X.co dX10_issue_55 (by decide) ?_
              refine lv_iconst (v := 2) X.ex X.co dX10_issue_59 (by decide) ?_
              refine q_eV X ce_X10_fails m_1497 (c_X10_fails l G mad A hAg σ h0 true 2 (by decide) (by decide)) (g0.step hS hAg) F (mo F) rfl (by decide) rfl hl.1 rfl (Nat.le_of_ble_eq_true rfl) dX10_issue_60 (by omega) (by omega) hS (fun _ h => h) (fun H locs F hz hk hS => ?_)
              have F : mw G mad A (sN σ 0 0 2) H := F
              refine lv_if_eq (tgt := 68) X.ex X.co dX10_issue_63 (by decide) (fun c_16 => ?_) (fun c_16 => ?_)
              · exact absurd c_16 (by decide)
              · refine lv_iconst (v := 0) X.ex X.co dX10_issue_66 (by decide) ?_
                exact c_i X hS rfl rfl (by have q : fIssue σ (nI j_v) (nI j_w) = (0, (sN σ 0 0 2)) := (by simp only [fIssue, hc_4, hc_6, ok_v, ok_w]; simp [err, *]); unfold eB; rw [q]; exact ⟨rfl, F⟩) (by omega) (by omega) dX10_issue_67
        · have hb_8_b := stdS_b hb_8
          refine lv_iconst (v := (-1)) X.ex X.co dX10_issue_41 (by decide) ?_
          refine lv_icmp_ne (tgt := 54) X.ex X.co dX10_issue_42 (by decide) (fun c_17 => ?_) (fun c_17 => ?_)
          · refine lv_iconst (v := 1) X.ex X.co dX10_issue_54 (by decide) ?_
            refine lv_goto (tgt := 59) X.ex X.co dX10_issue_55 (by decide) ?_
            refine lv_iconst (v := 2) X.ex X.co dX10_issue_59 (by decide) ?_
            refine q_eV X ce_X10_fails m_1497 (c_X10_fails l G mad A hAg σ h0 true 2 (by decide) (by decide)) (g0.step hS hAg) F (mo F) rfl (by decide) rfl hl.1 rfl (Nat.le_of_ble_eq_true rfl) dX10_issue_60 (by omega) (by omega) hS (fun _ h => h) (fun H locs F hz hk hS => ?_)
            have F : mw G mad A (sN σ 0 0 2) H := F
            refine lv_if_eq (tgt := 68) X.ex X.co dX10_issue_63 (by decide) (fun c_18 => ?_) (fun c_18 => ?_)
            · exact absurd c_18 (by decide)
            · refine lv_iconst (v := 0) X.ex X.co dX10_issue_66 (by decide) ?_
              exact c_i X hS rfl rfl (by have q : fIssue σ (nI j_v) (nI j_w) = (0, (sN σ 0 0 2)) := (by simp only [fIssue, hc_4, hc_6, ok_v, ok_w]; simp [err, *]); unfold eB; rw [q]; exact ⟨rfl, F⟩) (by omega) (by omega) dX10_issue_67
          · exact absurd c_17 (nI_m1 (by omega))
    · have hc_19 : (okP w (nCr σ)) = false := by simpa using c_5
      refine lv_iconst (v := 1) X.ex X.co dX10_issue_22 (by decide) ?_
      refine lv_goto (tgt := 27) X.ex X.co dX10_issue_23 (by decide) ?_
      refine lv_iconst (v := 1) X.ex X.co dX10_issue_27 (by decide) ?_
      refine q_eV X ce_X10_fails m_1497 (c_X10_fails l G mad A hAg σ h0 true 1 (by decide) (by decide)) (g0.step hS hAg) F (mo F) rfl (by decide) rfl hl.1 rfl (Nat.le_of_ble_eq_true rfl) dX10_issue_28 (by omega) (by omega) hS (fun _ h => h) (fun H locs F hz hk hS => ?_)
      have F : mw G mad A (sN σ 0 0 1) H := F
      refine lv_if_ne (tgt := 66) X.ex X.co dX10_issue_31 (by decide) (fun c_20 => ?_) (fun c_20 => ?_)
      · refine lv_iconst (v := 0) X.ex X.co dX10_issue_66 (by decide) ?_
        exact c_i X hS rfl rfl (by have q : fIssue σ v w = (0, (sN σ 0 0 1)) := (by simp only [fIssue, hc_4, hc_19]; simp [err, *]); unfold eB; rw [q]; exact ⟨rfl, F⟩) (by omega) (by omega) dX10_issue_67
      · exact absurd c_20 (by decide)
