set_option maxHeartbeats 4000000 in
set_option maxRecDepth 100000 in
theorem c_X10_writeAnswer (l : Launch) (G : GT) (mad : I2 → Nat) (A : Nat → Prop) (hAg : ∀ q, A q → gA G q) (τ σ : Sg) (hσ : σ = sN τ 0 0 0) (hI : MI σ) (v : Int32) : cM l yX10_writeAnswer cX10_writeAnswer 2 ((Option.some FieldType.int)) 3 0 0 G [.ref (mad (0, 0)), .int v] (mw G mad A τ) (eB (some (.int (fWriteAnswer σ v).1)) (mw G mad A (fWriteAnswer σ v).2)) A := by
  refine mk_m (by decide) (Nat.le_of_ble_eq_true rfl) ?_
  intro p e s m args below meth c X ls hl g0 F hnm
  have hK := g0.1
  have hS : va_S A s.heap s.heap [] := va_S.rf
  have hI0 := hI.1
  obtain ⟨b1, b2, b3, b4, b5, b6, b7⟩ := hI0.1
  obtain ⟨b8, b9, b10⟩ := hI.2.1
  have hapb := hI.apb
  have h0 : σ.1 0 0 = 0 := by rw [hσ]; simp [sN]
  have hl : lv_has ls 2 [(0, .ref (mad (0, 0))), (1, .int v)] := hl
  show Wc p l e 3 0 0 s m args below meth c (eB (some (.int (fWriteAnswer σ v).1)) (mw G mad A (fWriteAnswer σ v).2)) A s.heap [] 0 0 0 ls []
  refine lv_aload_n X.ex X.co dX10_writeAnswer_0 rfl (lv_at hl 0 rfl) ?_
  refine lv_iconst (v := 0) X.ex X.co dX10_writeAnswer_1 (by decide) ?_
  refine m_putN X hK F hS 0 (by decide) rfl rfl (v := 0) m_1351 rfl rfl (by decide) dX10_writeAnswer_2 (fun H locs F hS => ?_)
  rw [← hσ] at F
  clear hσ
  refine lv_aload_n X.ex X.co dX10_writeAnswer_5 rfl (lv_at hl 0 rfl) ?_
  refine lv_aload_n X.ex X.co dX10_writeAnswer_6 rfl (lv_at hl 0 rfl) ?_
  refine lv_iload_n X.ex X.co dX10_writeAnswer_7 rfl (lv_at hl 1 rfl) ?_
  refine q_rV X ce_X10_noAnswer m_1592 (c_X10_noAnswer l G mad A σ hI0 v) (g0.step hS hAg) F (mo F) rfl (by decide) rfl hl.1 rfl (Nat.le_of_ble_eq_true rfl) dX10_writeAnswer_8 (by omega) (by omega) ?_
  refine lv_iconst (v := 1) X.ex X.co dX10_writeAnswer_11 (by decide) ?_
  rcases hb_1 : !(okP v (nAn σ)) with _ | _
  · have hc_2 : (okP v (nAn σ)) = true := by simpa using hb_1
    have ok_v : okP v (nAn σ) = true := by simpa using hb_1
    obtain ⟨j_v, hj_v, rfl⟩ := (okP_ix (by omega)).mp ok_v
    have ex_v := ix_nI (j := j_v) (by omega)
    obtain ⟨hg1, hg2⟩ := grade_g hI hj_v
    obtain ⟨pp, hp1, hp2⟩ := hI.pt hj_v
    have hd1 := decS_len j_v; have hd2 := decS_len (graN σ j_v)
    refine q_eV X ce_X10_fails m_1497 (c_X10_fails l G mad A hAg σ h0 false 1 (by decide) (by decide)) (g0.step hS hAg) F (mo F) rfl (by decide) rfl hl.1 rfl (Nat.le_of_ble_eq_true rfl) dX10_writeAnswer_12 (by omega) (by omega) hS (fun _ h => h) (fun H locs F hz hk hS => ?_)
    have F : mw G mad A σ H := F
    refine lv_if_eq (tgt := 20) X.ex X.co dX10_writeAnswer_15 (by decide) (fun c_3 => ?_) (fun c_3 => ?_)
    · refine lv_aload_n X.ex X.co dX10_writeAnswer_20 rfl (lv_at hl 0 rfl) ?_
      refine lv_iconst (v := 0) X.ex X.co dX10_writeAnswer_21 (by decide) ?_
      refine m_putN X hK F hS 43 (by decide) rfl rfl (v := 0) m_1394 rfl rfl (by decide) dX10_writeAnswer_22 (fun H locs F hS => ?_)
      refine lv_aload_n X.ex X.co dX10_writeAnswer_25 rfl (lv_at hl 0 rfl) ?_
      refine q_vV X ce_X10_putAnswer m_1726 (c_X10_putAnswer l G mad A hAg (sN σ 43 0 0) (by first | omega | (simp only [putS_sz, putL_sz, nSz0, tAns, tPas, tFai, List.length_cons, List.length_nil]; omega))) (g0.step hS hAg) F (mo F) rfl (by decide) rfl hl.1 rfl (Nat.le_of_ble_eq_true rfl) dX10_writeAnswer_26 (by omega) (by omega) hS (fun _ h => h) (fun H locs F hz hk hS => ?_)
      refine lv_aload_n X.ex X.co dX10_writeAnswer_29 rfl (lv_at hl 0 rfl) ?_
      refine lv_iload_n X.ex X.co dX10_writeAnswer_30 rfl (lv_at hl 1 rfl) ?_
      refine q_vV X ce_X10_putNumber m_1734 (c_X10_putNumber l G mad A hAg (putL (sN σ 43 0 0) tAns) j_v (by omega) (by first | omega | (simp only [putS_sz, putL_sz, nSz0, tAns, tPas, tFai, List.length_cons, List.length_nil]; omega))) (g0.step hS hAg) F (mo F) rfl (by decide) rfl hl.1 rfl (Nat.le_of_ble_eq_true rfl) dX10_writeAnswer_31 (by omega) (by omega) hS (fun _ h => h) (fun H locs F hz hk hS => ?_)
      refine lv_aload_n X.ex X.co dX10_writeAnswer_34 rfl (lv_at hl 0 rfl) ?_
      refine lv_bipush (v := 58) X.ex X.co dX10_writeAnswer_35 (by decide) ?_
      refine q_vV X ce_X10_put m_1730 (c_X10_put l G mad A hAg (putL (putL (sN σ 43 0 0) tAns) (decS j_v)) (by first | omega | (simp only [putS_sz, putL_sz, nSz0, tAns, tPas, tFai, List.length_cons, List.length_nil]; omega)) 58 (by decide)) (g0.step hS hAg) F (mo F) rfl (by decide) rfl hl.1 rfl (Nat.le_of_ble_eq_true rfl) dX10_writeAnswer_37 (by omega) (by omega) hS (fun _ h => h) (fun H locs F hz hk hS => ?_)
      refine lv_aload_n X.ex X.co dX10_writeAnswer_40 rfl (lv_at hl 0 rfl) ?_
      refine lv_bipush (v := 32) X.ex X.co dX10_writeAnswer_41 (by decide) ?_
      refine q_vV X ce_X10_put m_1730 (c_X10_put l G mad A hAg (putS (putL (putL (sN σ 43 0 0) tAns) (decS j_v)) 58) (by first | omega | (simp only [putS_sz, putL_sz, nSz0, tAns, tPas, tFai, List.length_cons, List.length_nil]; omega)) 32 (by decide)) (g0.step hS hAg) F (mo F) rfl (by decide) rfl hl.1 rfl (Nat.le_of_ble_eq_true rfl) dX10_writeAnswer_43 (by omega) (by omega) hS (fun _ h => h) (fun H locs F hz hk hS => ?_)
      refine lv_aload_n X.ex X.co dX10_writeAnswer_46 rfl (lv_at hl 0 rfl) ?_
      refine lv_aload_n X.ex X.co dX10_writeAnswer_47 rfl (lv_at hl 0 rfl) ?_
      refine lv_iload_n X.ex X.co dX10_writeAnswer_48 rfl (lv_at hl 1 rfl) ?_
      have lx_4 : eqW (putS (putS (putL (putL (sN σ 43 0 0) tAns) (decS j_v)) 58) 32) σ := (by repeat with_reducible first | exact eqW.rf _ | apply eqW.p | apply eqW.l | apply eqW.z)
      refine q_rV X ce_X10_grade m_1564 (c_X10_grade l G mad A (putS (putS (putL (putL (sN σ 43 0 0) tAns) (decS j_v)) 58) 32) (lx_4.1.mi hI0) j_v (by rw [lx_4.an]; exact hj_v)) (g0.step hS hAg) F (mo F) rfl (by decide) rfl hl.1 rfl (Nat.le_of_ble_eq_true rfl) dX10_writeAnswer_49 (by omega) (by omega) ?_
      refine top_eq ((lx_4.g j_v).trans hg1) ?_
      refine q_vV X ce_X10_putNumber m_1734 (c_X10_putNumber l G mad A hAg (putS (putS (putL (putL (sN σ 43 0 0) tAns) (decS j_v)) 58) 32) (graN σ j_v) (by omega) (by first | omega | (simp only [putS_sz, putL_sz, nSz0, tAns, tPas, tFai, List.length_cons, List.length_nil]; omega))) (g0.step hS hAg) F (mo F) rfl (by decide) rfl hl.1 rfl (Nat.le_of_ble_eq_true rfl) dX10_writeAnswer_52 (by omega) (by omega) hS (fun _ h => h) (fun H locs F hz hk hS => ?_)
      refine lv_aload_n X.ex X.co dX10_writeAnswer_55 rfl (lv_at hl 0 rfl) ?_
      refine lv_aload_n X.ex X.co dX10_writeAnswer_56 rfl (lv_at hl 0 rfl) ?_
      refine lv_iload_n X.ex X.co dX10_writeAnswer_57 rfl (lv_at hl 1 rfl) ?_
      have lx_5 : eqW (putL (putS (putS (putL (putL (sN σ 43 0 0) tAns) (decS j_v)) 58) 32) (decS (graN σ j_v))) σ := (by repeat with_reducible first | exact eqW.rf _ | apply eqW.p | apply eqW.l | apply eqW.z)
      refine q_rV X ce_X10_grade m_1564 (c_X10_grade l G mad A (putL (putS (putS (putL (putL (sN σ 43 0 0) tAns) (decS j_v)) 58) 32) (decS (graN σ j_v))) (lx_5.1.mi hI0) j_v (by rw [lx_5.an]; exact hj_v)) (g0.step hS hAg) F (mo F) rfl (by decide) rfl hl.1 rfl (Nat.le_of_ble_eq_true rfl) dX10_writeAnswer_58 (by omega) (by omega) ?_
      refine top_eq ((lx_5.g j_v).trans hg1) ?_
      refine lv_bipush (v := 50) X.ex X.co dX10_writeAnswer_61 (by decide) ?_
      refine n_cmp_lt X (x := graN σ j_v) (y := 50) (tgt := 70) (by omega) (by omega) dX10_writeAnswer_63 (by decide) (fun c_6 => ?_) (fun c_6 => ?_)
      · refine lv_iconst (v := 0) X.ex X.co dX10_writeAnswer_70 (by decide) ?_
        refine q_vV X ce_X10_putPassed m_1738 (c_X10_putPassed l G mad A hAg (putL (putS (putS (putL (putL (sN σ 43 0 0) tAns) (decS j_v)) 58) 32) (decS (graN σ j_v))) false (by first | omega | (simp only [putS_sz, putL_sz, nSz0, tAns, tPas, tFai, List.length_cons, List.length_nil]; omega))) (g0.step hS hAg) F (mo F) rfl (by decide) rfl hl.1 rfl (Nat.le_of_ble_eq_true rfl) dX10_writeAnswer_71 (by omega) (by omega) hS (fun _ h => h) (fun H locs F hz hk hS => ?_)
        have F : mw G mad A (putL (putL (putS (putS (putL (putL (sN σ 43 0 0) tAns) (decS j_v)) 58) 32) (decS (graN σ j_v))) tFai) H := F
        refine lv_aload_n X.ex X.co dX10_writeAnswer_74 rfl (lv_at hl 0 rfl) ?_
        refine m_getA X hK F 25 (by decide) rfl m_1376 rfl dX10_writeAnswer_75 ?_
        refine lv_iload_n X.ex X.co dX10_writeAnswer_78 rfl (lv_at hl 1 rfl) ?_
        refine m_ald X hK F 25 (by decide) rfl rfl j_v (by first | omega | (show _ < 100; omega)) (x := nI pp) (show ((putL (putL (putS (putS (putL (putL (sN σ 43 0 0) tAns) (decS j_v)) 58) 32) (decS (graN σ j_v))) tFai)).2 25 j_v = _ from (congrFun ((show eqW (putL (putL (putS (putS (putL (putL (sN σ 43 0 0) tAns) (decS j_v)) 58) 32) (decS (graN σ j_v))) tFai) σ from (by repeat with_reducible first | exact eqW.rf _ | apply eqW.p | apply eqW.l | apply eqW.z)).2 25 (by decide)) j_v).trans hp2) dX10_writeAnswer_79 ?_
        refine n_if_le X (x := pp) (tgt := 117) (by omega) dX10_writeAnswer_80 (by decide) (fun c_7 => ?_) (fun c_7 => ?_)
        · refine lv_aload_n X.ex X.co dX10_writeAnswer_117 rfl (lv_at hl 0 rfl) ?_
          refine m_getN X hK F 43 (by decide) rfl rfl (x := nSz (putL (putL (putS (putS (putL (putL (sN σ 43 0 0) tAns) (decS j_v)) 58) 32) (decS (graN σ j_v))) tFai)) rfl m_1394 rfl dX10_writeAnswer_118 ?_
          exact c_i X hS rfl rfl (by have L : lineS σ j_v = tAns ++ decS j_v ++ tCol ++ decS (graN σ j_v) ++ tFai ++ [] := (by unfold lineS; rw [if_pos (by rw [hg1]; exact (show nI (graN σ j_v) < nI 50 from nI_lt (by omega) (by decide))), if_pos (by rw [hp2, show pp = 0 by omega]; decide)]); have q : fWriteAnswer σ (nI j_v) = (nI (lineS σ j_v).length, putL (sN σ 43 0 0) (lineS σ j_v)) := (by simp only [fWriteAnswer, ok_v, ex_v, if_true]); have q2 : putL (sN σ 43 0 0) (lineS σ j_v) = (putL (putL (putS (putS (putL (putL (sN σ 43 0 0) tAns) (decS j_v)) 58) 32) (decS (graN σ j_v))) tFai) := (by rw [L]; simp only [← putL_app, List.append_nil]; rfl); unfold eB; rw [q]; refine ⟨?_, by rw [q2]; exact F⟩; rw [← q2, putL_sz, nSz0, Nat.zero_add]) (by omega) (by omega) dX10_writeAnswer_121
        · refine lv_aload_n X.ex X.co dX10_writeAnswer_83 rfl (lv_at hl 0 rfl) ?_
          refine lv_bipush (v := 32) X.ex X.co dX10_writeAnswer_84 (by decide) ?_
          refine q_vV X ce_X10_put m_1730 (c_X10_put l G mad A hAg (putL (putL (putS (putS (putL (putL (sN σ 43 0 0) tAns) (decS j_v)) 58) 32) (decS (graN σ j_v))) tFai) (by first | omega | (simp only [putS_sz, putL_sz, nSz0, tAns, tPas, tFai, List.length_cons, List.length_nil]; omega)) 32 (by decide)) (g0.step hS hAg) F (mo F) rfl (by decide) rfl hl.1 rfl (Nat.le_of_ble_eq_true rfl) dX10_writeAnswer_86 (by omega) (by omega) hS (fun _ h => h) (fun H locs F hz hk hS => ?_)
          refine lv_aload_n X.ex X.co dX10_writeAnswer_89 rfl (lv_at hl 0 rfl) ?_
          refine lv_bipush (v := 98) X.ex X.co dX10_writeAnswer_90 (by decide) ?_
          refine q_vV X ce_X10_put m_1730 (c_X10_put l G mad A hAg (putS (putL (putL (putS (putS (putL (putL (sN σ 43 0 0) tAns) (decS j_v)) 58) 32) (decS (graN σ j_v))) tFai) 32) (by first | omega | (simp only [putS_sz, putL_sz, nSz0, tAns, tPas, tFai, List.length_cons, List.length_nil]; omega)) 98 (by decide)) (g0.step hS hAg) F (mo F) rfl (by decide) rfl hl.1 rfl (Nat.le_of_ble_eq_true rfl) dX10_writeAnswer_92 (by omega) (by omega) hS (fun _ h => h) (fun H locs F hz hk hS => ?_)
          refine lv_aload_n X.ex X.co dX10_writeAnswer_95 rfl (lv_at hl 0 rfl) ?_
          refine lv_bipush (v := 121) X.ex X.co dX10_writeAnswer_96 (by decide) ?_
          refine q_vV X ce_X10_put m_1730 (c_X10_put l G mad A hAg (putS (putS (putL (putL (putS (putS (putL (putL (sN σ 43 0 0) tAns) (decS j_v)) 58) 32) (decS (graN σ j_v))) tFai) 32) 98) (by first | omega | (simp only [putS_sz, putL_sz, nSz0, tAns, tPas, tFai, List.length_cons, List.length_nil]; omega)) 121 (by decide)) (g0.step hS hAg) F (mo F) rfl (by decide) rfl hl.1 rfl (Nat.le_of_ble_eq_true rfl) dX10_writeAnswer_98 (by omega) (by omega) hS (fun _ h => h) (fun H locs F hz hk hS => ?_)
          refine lv_aload_n X.ex X.co dX10_writeAnswer_101 rfl (lv_at hl 0 rfl) ?_
          refine lv_bipush (v := 32) X.ex X.co dX10_writeAnswer_102 (by decide) ?_
          refine q_vV X ce_X10_put m_1730 (c_X10_put l G mad A hAg (putS (putS (putS (putL (putL (putS (putS (putL (putL (sN σ 43 0 0) tAns) (decS j_v)) 58) 32) (decS (graN σ j_v))) tFai) 32) 98) 121) (by first | omega | (simp only [putS_sz, putL_sz, nSz0, tAns, tPas, tFai, List.length_cons, List.length_nil]; omega)) 32 (by decide)) (g0.step hS hAg) F (mo F) rfl (by decide) rfl hl.1 rfl (Nat.le_of_ble_eq_true rfl) dX10_writeAnswer_104 (by omega) (by omega) hS (fun _ h => h) (fun H locs F hz hk hS => ?_)
          refine lv_aload_n X.ex X.co dX10_writeAnswer_107 rfl (lv_at hl 0 rfl) ?_
          refine lv_aload_n X.ex X.co dX10_writeAnswer_108 rfl (lv_at hl 0 rfl) ?_
          refine m_getA X hK F 25 (by decide) rfl m_1376 rfl dX10_writeAnswer_109 ?_
          refine lv_iload_n X.ex X.co dX10_writeAnswer_112 rfl (lv_at hl 1 rfl) ?_
          refine m_ald X hK F 25 (by decide) rfl rfl j_v (by first | omega | (show _ < 100; omega)) (x := nI pp) (show ((putS (putS (putS (putS (putL (putL (putS (putS (putL (putL (sN σ 43 0 0) tAns) (decS j_v)) 58) 32) (decS (graN σ j_v))) tFai) 32) 98) 121) 32)).2 25 j_v = _ from (congrFun ((show eqW (putS (putS (putS (putS (putL (putL (putS (putS (putL (putL (sN σ 43 0 0) tAns) (decS j_v)) 58) 32) (decS (graN σ j_v))) tFai) 32) 98) 121) 32) σ from (by repeat with_reducible first | exact eqW.rf _ | apply eqW.p | apply eqW.l | apply eqW.z)).2 25 (by decide)) j_v).trans hp2) dX10_writeAnswer_113 ?_
          refine q_vV X ce_X10_putNumber m_1734 (c_X10_putNumber l G mad A hAg (putS (putS (putS (putS (putL (putL (putS (putS (putL (putL (sN σ 43 0 0) tAns) (decS j_v)) 58) 32) (decS (graN σ j_v))) tFai) 32) 98) 121) 32) pp (by omega) (by first | omega | (simp only [putS_sz, putL_sz, nSz0, tAns, tPas, tFai, List.length_cons, List.length_nil]; omega))) (g0.step hS hAg) F (mo F) rfl (by decide) rfl hl.1 rfl (Nat.le_of_ble_eq_true rfl) dX10_writeAnswer_114 (by omega) (by omega) hS (fun _ h => h) (fun H locs F hz hk hS => ?_)
          refine lv_aload_n X.ex X.co dX10_writeAnswer_117 rfl (lv_at hl 0 rfl) ?_
          refine m_getN X hK F 43 (by decide) rfl rfl (x := nSz (putL (putS (putS (putS (putS (putL (putL (putS (putS (putL (putL (sN σ 43 0 0) tAns) (decS j_v)) 58) 32) (decS (graN σ j_v))) tFai) 32) 98) 121) 32) (decS pp))) rfl m_1394 rfl dX10_writeAnswer_118 ?_
          exact c_i X hS rfl rfl (by have L : lineS σ j_v = tAns ++ decS j_v ++ tCol ++ decS (graN σ j_v) ++ tFai ++ (tBy ++ decS pp) := (by unfold lineS; rw [if_pos (by rw [hg1]; exact (show nI (graN σ j_v) < nI 50 from nI_lt (by omega) (by decide))), if_neg (by rw [hp2]; exact nI_nle (by omega) (by omega)), hp2, ix_nI (show pp < 2 ^ 31 by omega)]); have q : fWriteAnswer σ (nI j_v) = (nI (lineS σ j_v).length, putL (sN σ 43 0 0) (lineS σ j_v)) := (by simp only [fWriteAnswer, ok_v, ex_v, if_true]); have q2 : putL (sN σ 43 0 0) (lineS σ j_v) = (putL (putS (putS (putS (putS (putL (putL (putS (putS (putL (putL (sN σ 43 0 0) tAns) (decS j_v)) 58) 32) (decS (graN σ j_v))) tFai) 32) 98) 121) 32) (decS pp)) := (by rw [L]; simp only [← putL_app, List.append_nil]; rfl); unfold eB; rw [q]; refine ⟨?_, by rw [q2]; exact F⟩; rw [← q2, putL_sz, nSz0, Nat.zero_add]) (by omega) (by omega) dX10_writeAnswer_121
      · refine lv_iconst (v := 1) X.ex X.co dX10_writeAnswer_66 (by decide) ?_
        refine lv_goto (tgt := 71) X.ex X.co dX10_writeAnswer_67 (by decide) ?_
        refine q_vV X ce_X10_putPassed m_1738 (c_X10_putPassed l G mad A hAg (putL (putS (putS (putL (putL (sN σ 43 0 0) tAns) (decS j_v)) 58) 32) (decS (graN σ j_v))) true (by first | omega | (simp only [putS_sz, putL_sz, nSz0, tAns, tPas, tFai, List.length_cons, List.length_nil]; omega))) (g0.step hS hAg) F (mo F) rfl (by decide) rfl hl.1 rfl (Nat.le_of_ble_eq_true rfl) dX10_writeAnswer_71 (by omega) (by omega) hS (fun _ h => h) (fun H locs F hz hk hS => ?_)
        have F : mw G mad A (putL (putL (putS (putS (putL (putL (sN σ 43 0 0) tAns) (decS j_v)) 58) 32) (decS (graN σ j_v))) tPas) H := F
        refine lv_aload_n X.ex X.co dX10_writeAnswer_74 rfl (lv_at hl 0 rfl) ?_
        refine m_getA X hK F 25 (by decide) rfl m_1376 rfl dX10_writeAnswer_75 ?_
        refine lv_iload_n X.ex X.co dX10_writeAnswer_78 rfl (lv_at hl 1 rfl) ?_
        refine m_ald X hK F 25 (by decide) rfl rfl j_v (by first | omega | (show _ < 100; omega)) (x := nI pp) (show ((putL (putL (putS (putS (putL (putL (sN σ 43 0 0) tAns) (decS j_v)) 58) 32) (decS (graN σ j_v))) tPas)).2 25 j_v = _ from (congrFun ((show eqW (putL (putL (putS (putS (putL (putL (sN σ 43 0 0) tAns) (decS j_v)) 58) 32) (decS (graN σ j_v))) tPas) σ from (by repeat with_reducible first | exact eqW.rf _ | apply eqW.p | apply eqW.l | apply eqW.z)).2 25 (by decide)) j_v).trans hp2) dX10_writeAnswer_79 ?_
        refine n_if_le X (x := pp) (tgt := 117) (by omega) dX10_writeAnswer_80 (by decide) (fun c_8 => ?_) (fun c_8 => ?_)
        · refine lv_aload_n X.ex X.co dX10_writeAnswer_117 rfl (lv_at hl 0 rfl) ?_
          refine m_getN X hK F 43 (by decide) rfl rfl (x := nSz (putL (putL (putS (putS (putL (putL (sN σ 43 0 0) tAns) (decS j_v)) 58) 32) (decS (graN σ j_v))) tPas)) rfl m_1394 rfl dX10_writeAnswer_118 ?_
          exact c_i X hS rfl rfl (by have L : lineS σ j_v = tAns ++ decS j_v ++ tCol ++ decS (graN σ j_v) ++ tPas ++ [] := (by unfold lineS; rw [if_neg (by rw [hg1]; exact (show ¬ nI (graN σ j_v) < nI 50 from nI_nlt (by omega) (by omega))), if_pos (by rw [hp2, show pp = 0 by omega]; decide)]); have q : fWriteAnswer σ (nI j_v) = (nI (lineS σ j_v).length, putL (sN σ 43 0 0) (lineS σ j_v)) := (by simp only [fWriteAnswer, ok_v, ex_v, if_true]); have q2 : putL (sN σ 43 0 0) (lineS σ j_v) = (putL (putL (putS (putS (putL (putL (sN σ 43 0 0) tAns) (decS j_v)) 58) 32) (decS (graN σ j_v))) tPas) := (by rw [L]; simp only [← putL_app, List.append_nil]; rfl); unfold eB; rw [q]; refine ⟨?_, by rw [q2]; exact F⟩; rw [← q2, putL_sz, nSz0, Nat.zero_add]) (by omega) (by omega) dX10_writeAnswer_121
        · refine lv_aload_n X.ex X.co dX10_writeAnswer_83 rfl (lv_at hl 0 rfl) ?_
          refine lv_bipush (v := 32) X.ex X.co dX10_writeAnswer_84 (by decide) ?_
          refine q_vV X ce_X10_put m_1730 (c_X10_put l G mad A hAg (putL (putL (putS (putS (putL (putL (sN σ 43 0 0) tAns) (decS j_v)) 58) 32) (decS (graN σ j_v))) tPas) (by first | omega | (simp only [putS_sz, putL_sz, nSz0, tAns, tPas, tFai, List.length_cons, List.length_nil]; omega)) 32 (by decide)) (g0.step hS hAg) F (mo F) rfl (by decide) rfl hl.1 rfl (Nat.le_of_ble_eq_true rfl) dX10_writeAnswer_86 (by omega) (by omega) hS (fun _ h => h) (fun H locs F hz hk hS => ?_)
          refine lv_aload_n X.ex X.co dX10_writeAnswer_89 rfl (lv_at hl 0 rfl) ?_
          refine lv_bipush (v := 98) X.ex X.co dX10_writeAnswer_90 (by decide) ?_
          refine q_vV X ce_X10_put m_1730 (c_X10_put l G mad A hAg (putS (putL (putL (putS (putS (putL (putL (sN σ 43 0 0) tAns) (decS j_v)) 58) 32) (decS (graN σ j_v))) tPas) 32) (by first | omega | (simp only [putS_sz, putL_sz, nSz0, tAns, tPas, tFai, List.length_cons, List.length_nil]; omega)) 98 (by decide)) (g0.step hS hAg) F (mo F) rfl (by decide) rfl hl.1 rfl (Nat.le_of_ble_eq_true rfl) dX10_writeAnswer_92 (by omega) (by omega) hS (fun _ h => h) (fun H locs F hz hk hS => ?_)
          refine lv_aload_n X.ex X.co dX10_writeAnswer_95 rfl (lv_at hl 0 rfl) ?_
          refine lv_bipush (v := 121) X.ex X.co dX10_writeAnswer_96 (by decide) ?_
          refine q_vV X ce_X10_put m_1730 (c_X10_put l G mad A hAg (putS (putS (putL (putL (putS (putS (putL (putL (sN σ 43 0 0) tAns) (decS j_v)) 58) 32) (decS (graN σ j_v))) tPas) 32) 98) (by first | omega | (simp only [putS_sz, putL_sz, nSz0, tAns, tPas, tFai, List.length_cons, List.length_nil]; omega)) 121 (by decide)) (g0.step hS hAg) F (mo F) rfl (by decide) rfl hl.1 rfl (Nat.le_of_ble_eq_true rfl) dX10_writeAnswer_98 (by omega) (by omega) hS (fun _ h => h) (fun H locs F hz hk hS => ?_)
          refine lv_aload_n X.ex X.co dX10_writeAnswer_101 rfl (lv_at hl 0 rfl) ?_
          refine lv_bipush (v := 32) X.ex X.co dX10_writeAnswer_102 (by decide) ?_
          refine q_vV X ce_X10_put m_1730 (c_X10_put l G mad A hAg (putS (putS (putS (putL (putL (putS (putS (putL (putL (sN σ 43 0 0) tAns) (decS j_v)) 58) 32) (decS (graN σ j_v))) tPas) 32) 98) 121) (by first | omega | (simp only [putS_sz, putL_sz, nSz0, tAns, tPas, tFai, List.length_cons, List.length_nil]; omega)) 32 (by decide)) (g0.step hS hAg) F (mo F) rfl (by decide) rfl hl.1 rfl (Nat.le_of_ble_eq_true rfl) dX10_writeAnswer_104 (by omega) (by omega) hS (fun _ h => h) (fun H locs F hz hk hS => ?_)
          refine lv_aload_n X.ex X.co dX10_writeAnswer_107 rfl (lv_at hl 0 rfl) ?_
          refine lv_aload_n X.ex X.co dX10_writeAnswer_108 rfl (lv_at hl 0 rfl) ?_
          refine m_getA X hK F 25 (by decide) rfl m_1376 rfl dX10_writeAnswer_109 ?_
          refine lv_iload_n X.ex X.co dX10_writeAnswer_112 rfl (lv_at hl 1 rfl) ?_
          refine m_ald X hK F 25 (by decide) rfl rfl j_v (by first | omega | (show _ < 100; omega)) (x := nI pp) (show ((putS (putS (putS (putS (putL (putL (putS (putS (putL (putL (sN σ 43 0 0) tAns) (decS j_v)) 58) 32) (decS (graN σ j_v))) tPas) 32) 98) 121) 32)).2 25 j_v = _ from (congrFun ((show eqW (putS (putS (putS (putS (putL (putL (putS (putS (putL (putL (sN σ 43 0 0) tAns) (decS j_v)) 58) 32) (decS (graN σ j_v))) tPas) 32) 98) 121) 32) σ from (by repeat with_reducible first | exact eqW.rf _ | apply eqW.p | apply eqW.l | apply eqW.z)).2 25 (by decide)) j_v).trans hp2) dX10_writeAnswer_113 ?_
          refine q_vV X ce_X10_putNumber m_1734 (c_X10_putNumber l G mad A hAg (putS (putS (putS (putS (putL (putL (putS (putS (putL (putL (sN σ 43 0 0) tAns) (decS j_v)) 58) 32) (decS (graN σ j_v))) tPas) 32) 98) 121) 32) pp (by omega) (by first | omega | (simp only [putS_sz, putL_sz, nSz0, tAns, tPas, tFai, List.length_cons, List.length_nil]; omega))) (g0.step hS hAg) F (mo F) rfl (by decide) rfl hl.1 rfl (Nat.le_of_ble_eq_true rfl) dX10_writeAnswer_114 (by omega) (by omega) hS (fun _ h => h) (fun H locs F hz hk hS => ?_)
          refine lv_aload_n X.ex X.co dX10_writeAnswer_117 rfl (lv_at hl 0 rfl) ?_
          refine m_getN X hK F 43 (by decide) rfl rfl (x := nSz (putL (putS (putS (putS (putS (putL (putL (putS (putS (putL (putL (sN σ 43 0 0) tAns) (decS j_v)) 58) 32) (decS (graN σ j_v))) tPas) 32) 98) 121) 32) (decS pp))) rfl m_1394 rfl dX10_writeAnswer_118 ?_
          exact c_i X hS rfl rfl (by have L : lineS σ j_v = tAns ++ decS j_v ++ tCol ++ decS (graN σ j_v) ++ tPas ++ (tBy ++ decS pp) := (by unfold lineS; rw [if_neg (by rw [hg1]; exact (show ¬ nI (graN σ j_v) < nI 50 from nI_nlt (by omega) (by omega))), if_neg (by rw [hp2]; exact nI_nle (by omega) (by omega)), hp2, ix_nI (show pp < 2 ^ 31 by omega)]); have q : fWriteAnswer σ (nI j_v) = (nI (lineS σ j_v).length, putL (sN σ 43 0 0) (lineS σ j_v)) := (by simp only [fWriteAnswer, ok_v, ex_v, if_true]); have q2 : putL (sN σ 43 0 0) (lineS σ j_v) = (putL (putS (putS (putS (putS (putL (putL (putS (putS (putL (putL (sN σ 43 0 0) tAns) (decS j_v)) 58) 32) (decS (graN σ j_v))) tPas) 32) 98) 121) 32) (decS pp)) := (by rw [L]; simp only [← putL_app, List.append_nil]; rfl); unfold eB; rw [q]; refine ⟨?_, by rw [q2]; exact F⟩; rw [← q2, putL_sz, nSz0, Nat.zero_add]) (by omega) (by omega) dX10_writeAnswer_121
    · exact absurd (by decide) c_3
  · have hc_9 : (okP v (nAn σ)) = false := by simpa using hb_1
    refine q_eV X ce_X10_fails m_1497 (c_X10_fails l G mad A hAg σ h0 true 1 (by decide) (by decide)) (g0.step hS hAg) F (mo F) rfl (by decide) rfl hl.1 rfl (Nat.le_of_ble_eq_true rfl) dX10_writeAnswer_12 (by omega) (by omega) hS (fun _ h => h) (fun H locs F hz hk hS => ?_)
    have F : mw G mad A (sN σ 0 0 1) H := F
    refine lv_if_eq (tgt := 20) X.ex X.co dX10_writeAnswer_15 (by decide) (fun c_10 => ?_) (fun c_10 => ?_)
    · exact absurd c_10 (by decide)
    · refine lv_iconst (v := 0) X.ex X.co dX10_writeAnswer_18 (by decide) ?_
      exact c_i X hS rfl rfl (by have q : fWriteAnswer σ v = (0, (sN σ 0 0 1)) := (by simp only [fWriteAnswer, hc_9]; simp [err]); unfold eB; rw [q]; exact ⟨rfl, F⟩) (by omega) (by omega) dX10_writeAnswer_19
