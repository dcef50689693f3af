theorem ce_X9_reasonAgainst : ceV yX9_reasonAgainst cX9_reasonAgainst 3 ((Option.some FieldType.char)) 2 := ⟨m_680, mp_14, m_1, m_681, ⟨by decide, by decide, by decide +kernel⟩, by decide⟩
set_option maxHeartbeats 4000000 in
set_option maxRecDepth 100000 in
theorem c_X9_reasonAgainst (l : Launch) (G : GT) (A : Nat → Prop) (hAg : ∀ q, A q → gA G q) (g : CG) (ad : I2 → Nat) (σ : Sg) (hI0 : MI0 σ) (hJ : MJ σ) (hC : CL g σ) (hgr : ∀ a, a < nAn σ → g.2.2.1 0 a = grade σ a) (st ex : Nat) (hst9 : st < nSt σ) (hx9 : ex < nEx σ) : cM l yX9_reasonAgainst cX9_reasonAgainst 3 ((Option.some FieldType.char)) 7 1 3 G [.ref (ad (0, 0)), .ref (ad (4, st)), .ref (ad (6, ex))] (fun H => cw G g A ad σ H ∧ ∀ q, H.size ≤ q → A q) (eB (some (.int (whyS σ st ex))) (cw G g A ad σ)) A := by
  refine mk_m (by decide) (Nat.le_of_ble_eq_true rfl) ?_
  intro p e s m args below meth c X ls hl g0 F hnm
  have hK := g0.1
  have hS : va_S A s.heap s.heap [] := va_S.rf
  obtain ⟨F, hfr⟩ := F
  obtain ⟨b1, b2, b3, b4, b5, b6, b7⟩ := hI0.1
  have hf0 := hI0.st hst9; have hf9 := hI0.ex hx9
  have hl : lv_has ls 3 [(0, .ref (ad (0, 0))), (1, .ref (ad (4, st))), (2, .ref (ad (6, ex)))] := hl
  show Wc p l e 7 1 3 s m args below meth c (eB (some (.int (whyS σ st ex))) (cw G g A ad σ)) A s.heap [] 0 0 0 ls []
  refine lv_aload_n X.ex X.co dX9_reasonAgainst_0 rfl (lv_at hl 0 rfl) ?_
  refine f_get X hK (cw_be F) okX9 rfl 10 (by decide) m_116 (fun _ h => h) (v := .int (dayV σ)) rfl dX9_reasonAgainst_1 ?_
  refine lv_aload_n X.ex X.co dX9_reasonAgainst_4 rfl (lv_at hl 1 rfl) ?_
  refine f_get X hK (cw_st F (i := st) (by omega)) okX8 rfl 1 (by decide) m_495 (fun _ h => h) (v := .ref (ad (3, coh σ st))) rfl dX9_reasonAgainst_5 ?_
  have hf_f_1 := hI0.st (i := st) (by omega)
  refine f_get X hK (cw_co F (i := coh σ st) (by omega)) okX2 rfl 0 (by decide) m_369 (fun _ h => h) (v := .int (σ.2 3 (coh σ st))) rfl dX9_reasonAgainst_8 ?_
  refine lv_aload_n X.ex X.co dX9_reasonAgainst_11 rfl (lv_at hl 1 rfl) ?_
  refine f_get X hK (cw_st F (i := st) (by omega)) okX8 rfl 1 (by decide) m_495 (fun _ h => h) (v := .ref (ad (3, coh σ st))) rfl dX9_reasonAgainst_12 ?_
  have hf_f_2 := hI0.st (i := st) (by omega)
  refine f_get X hK (cw_co F (i := coh σ st) (by omega)) okX2 rfl 1 (by decide) m_371 (fun _ h => h) (v := .int (σ.2 4 (coh σ st))) rfl dX9_reasonAgainst_15 ?_
  refine q_rS X ce_X9_isWithin m_513 (c_X9_isWithin l G (dayV σ) (σ.2 3 (coh σ st)) (σ.2 4 (coh σ st))) (g0.step hS hAg) trivial (by decide) rfl hl.1 rfl (Nat.le_of_ble_eq_true rfl) dX9_reasonAgainst_18 (by omega) (by omega) ?_
  refine b_if_ne X (x := inB (dayV σ) (σ.2 3 (coh σ st)) (σ.2 4 (coh σ st))) (tgt := 27) dX9_reasonAgainst_21 (by decide) (fun c_3 => ?_) (fun c_3 => ?_)
  · refine lv_aload_n X.ex X.co dX9_reasonAgainst_27 rfl (lv_at hl 2 rfl) ?_
    refine f_get X hK (cw_ex F (i := ex) (by omega)) okX4 rfl 7 (by decide) m_596 (fun _ h => h) (v := .int (nI (cas σ ex))) rfl dX9_reasonAgainst_28 ?_
    refine n_if_ne X (x := cas σ ex) (tgt := 37) (by omega) dX9_reasonAgainst_31 (by decide) (fun c_4 => ?_) (fun c_4 => ?_)
    · refine lv_aload_n X.ex X.co dX9_reasonAgainst_37 rfl (lv_at hl 0 rfl) ?_
      refine lv_aload_n X.ex X.co dX9_reasonAgainst_38 rfl (lv_at hl 2 rfl) ?_
      refine f_get X hK (cw_ex F (i := ex) (by omega)) okX4 rfl 1 (by decide) m_586 (fun _ h => h) (v := .ref (ad (5, les σ ex))) rfl dX9_reasonAgainst_39 ?_
      have hf_f_5 := hI0.ex (i := ex) (by omega)
      refine lv_aload_n X.ex X.co dX9_reasonAgainst_42 rfl (lv_at hl 1 rfl) ?_
      refine lv_aload_n X.ex X.co dX9_reasonAgainst_43 rfl (lv_at hl 0 rfl) ?_
      refine q_xV (w := fun q => .ref q) X ce_X9_now m_206 (c_X9_now l G trivial A hAg g ad σ hI0 hC) (g0.step hS hAg) ⟨F, (fun q hq => hfr q (Nat.le_trans hS.1 hq))⟩ (cw_be F) rfl (by decide) rfl hl.1 rfl (Nat.le_of_ble_eq_true rfl) dX9_reasonAgainst_44 (by show _ ≤ 1; omega) (by show _ ≤ 3; omega) hS (fun _ h => h) (fun q_6 H locs F hz hk9 hS => ?_)
      have hmo : va_at G.1 vwCl (q_6, eMo (dayV σ) (nEx σ) (nAn σ)) H := fw.get F (Or.inr rfl) (iup_s _ _ _) (iup_s _ _ _)
      have Fn := F
      have F : cw G g A ad σ H := cw_drop (t := (10, nCe σ)) (show ¬ nCe σ < nCe σ by omega) F
      refine q_rV X ce_X9_isOpen m_660 (c_X9_isOpen l G A g ad σ hI0 hC hgr (les σ ex) st q_6 (nEx σ) (nAn σ) (dayV σ) (by omega) (by omega) (by omega) (by omega)) (g0.step hS hAg) ⟨F, hmo⟩ (cw_be F) rfl (by decide) rfl hl.1 rfl (Nat.le_of_ble_eq_true rfl) dX9_reasonAgainst_47 (by omega) (by omega) ?_
      refine top_eq (y := bI (openS σ st (les σ ex) (les σ ex))) (by rw [open_has hI0 hJ (by omega)]) ?_
      refine b_if_eq X (x := openS σ st (les σ ex) (les σ ex)) (tgt := 58) dX9_reasonAgainst_50 (by decide) (fun c_7 => ?_) (fun c_7 => ?_)
      · refine lv_bipush (v := 112) X.ex X.co dX9_reasonAgainst_58 (by decide) ?_
        exact c_i X hS rfl (by decide) ⟨(by simp [whyS, *] <;> omega), F⟩ (by omega) (by omega) dX9_reasonAgainst_60
      · refine lv_bipush (v := 45) X.ex X.co dX9_reasonAgainst_53 (by decide) ?_
        refine lv_goto (tgt := 60) X.ex X.co dX9_reasonAgainst_55 (by decide) ?_
        exact c_i X hS rfl (by decide) ⟨(by simp [whyS, *] <;> omega), F⟩ (by omega) (by omega) dX9_reasonAgainst_60
    · refine lv_bipush (v := 99) X.ex X.co dX9_reasonAgainst_34 (by decide) ?_
      exact c_i X hS rfl (by decide) ⟨(by simp [whyS, *] <;> omega), F⟩ (by omega) (by omega) dX9_reasonAgainst_36
  · refine lv_bipush (v := 100) X.ex X.co dX9_reasonAgainst_24 (by decide) ?_
    exact c_i X hS rfl (by decide) ⟨(by simp [whyS, *] <;> omega), F⟩ (by omega) (by omega) dX9_reasonAgainst_26
set_option maxHeartbeats 4000000 in
set_option maxRecDepth 100000 in
theorem c_X9_reason (l : Launch) (hst : l.stackTraces = false) (G : GT) (A : Nat → Prop) (hAg : ∀ q, A q → gA G q) (b : Nat) (σ : Sg) (hI : MI σ) (hJ : MJ σ) (h0 : σ.1 0 0 = 0) (sa xa : Int32) : xM l yX9_reason cX9_reason 3 ((Option.some FieldType.char)) 8 1 6 G [.ref b, .int sa, .int xa] (fun H => CB G A b σ H ∧ ∀ q, H.size ≤ q → A q) (fB G A b (fReason σ sa xa)) (fX ["java/lang/IndexOutOfBoundsException"] G A b (fReason σ sa xa)) A := by
  refine mk_x (by decide) (Nat.le_of_ble_eq_true rfl) ?_
  intro p e s m args below meth c X ls hl g0 F hno
  obtain ⟨⟨g, ad, hb0, ⟨hC, hgr, hwt, hsb⟩, F⟩, hfr⟩ := F
  subst hb0
  have hI0 := hI.1
  obtain ⟨b1, b2, b3, b4, b5, b6, b7⟩ := hI0.1
  obtain ⟨b8, b9, b10⟩ := hI.2.1
  have hone := hJ.2.2.2.2.2
  have hK := g0.1
  have hS : va_S A s.heap s.heap [] := va_S.rf
  have hl : lv_has ls 3 [(0, .ref (ad (0, 0))), (1, .int sa), (2, .int xa)] := hl
  show Wx p l e 8 1 6 s m args below meth c (fB G A (ad (0, 0)) (fReason σ sa xa)) (fX ["java/lang/IndexOutOfBoundsException"] G A (ad (0, 0)) (fReason σ sa xa)) A s.heap [] 0 0 0 ls []
  refine lv_aload_n X.ex X.co dX9_reason_0 rfl (lv_at hl 0 rfl) ?_
  refine lv_aload_n X.ex X.co dX9_reason_1 rfl (lv_at hl 0 rfl) ?_
  refine lv_iload_n X.ex X.co dX9_reason_2 rfl (lv_at hl 1 rfl) ?_
  rcases hok_1 : okP sa (nSt σ) with _ | _
  · exact x_V X ce_X9_findStudent m_655 (c_X9_findStudentX l hst G A hAg g ad σ hI0 hC sa hok_1) (g0.step hS hAg) F (cw_be F) rfl (by decide) rfl hl.1 rfl (Nat.le_of_ble_eq_true rfl) dX9_reason_3 (by omega) (by omega) hS (fun _ h => h) hno (fun E H1 hB hz hq => fX_err (k := 0) (by show (fReason σ sa xa) = err σ 1; simp only [fReason]; simp [hok_1]) (by rw [hB.1]; rfl) (⟨g, ad, rfl, ⟨hC, hgr, hwt, hsb⟩, hB.2⟩ : CB G A (ad (0, 0)) σ H1)) (fun v0 H1 locs1 hB => hB.elim)
  · have ok_sa := hok_1
    obtain ⟨j_sa, hj_sa, rfl⟩ := (okP_ix (by omega)).mp ok_sa
    have ex_sa := ix_nI (j := j_sa) (by omega)
    refine q_rV X ce_X9_findStudent m_655 (c_X9_findStudent l G A g ad σ hI0 hC j_sa (by omega)) (g0.step hS hAg) F (cw_be F) rfl (by decide) rfl hl.1 rfl (Nat.le_of_ble_eq_true rfl) dX9_reason_3 (by omega) (by omega) ?_
    refine lv_aload_n X.ex X.co dX9_reason_6 rfl (lv_at hl 0 rfl) ?_
    refine lv_iload_n X.ex X.co dX9_reason_7 rfl (lv_at hl 2 rfl) ?_
    rcases hok_2 : okP xa (nEx σ) with _ | _
    · exact x_V X ce_X9_findExercise m_626 (c_X9_findExerciseX l hst G A hAg g ad σ hI0 hC xa hok_2) (g0.step hS hAg) F (cw_be F) rfl (by decide) rfl hl.1 rfl (Nat.le_of_ble_eq_true rfl) dX9_reason_8 (by omega) (by omega) hS (fun _ h => h) hno (fun E H1 hB hz hq => fX_err (k := 0) (by show (fReason σ (nI j_sa) xa) = err σ 1; simp only [fReason]; simp [hok_2, ok_sa, ex_sa]) (by rw [hB.1]; rfl) (⟨g, ad, rfl, ⟨hC, hgr, hwt, hsb⟩, hB.2⟩ : CB G A (ad (0, 0)) σ H1)) (fun v0 H1 locs1 hB => hB.elim)
    · have ok_xa := hok_2
      obtain ⟨j_xa, hj_xa, rfl⟩ := (okP_ix (by omega)).mp ok_xa
      have ex_xa := ix_nI (j := j_xa) (by omega)
      refine q_rV X ce_X9_findExercise m_626 (c_X9_findExercise l G A g ad σ hI0 hC j_xa (by omega)) (g0.step hS hAg) F (cw_be F) rfl (by decide) rfl hl.1 rfl (Nat.le_of_ble_eq_true rfl) dX9_reason_8 (by omega) (by omega) ?_
      refine q_eV X ce_X9_reasonAgainst m_678 (c_X9_reasonAgainst l G A hAg g ad σ hI0 hJ hC hgr j_sa j_xa (by omega) (by omega)) (g0.step hS hAg) ⟨F, (fun q hq => hfr q (Nat.le_trans hS.1 hq))⟩ (cw_be F) rfl (by decide) rfl hl.1 rfl (Nat.le_of_ble_eq_true rfl) dX9_reason_11 (by show _ ≤ 1; omega) (by show _ ≤ 6; omega) hS (fun _ h => h) (fun H locs F hz hk9 hS => ?_)
      exact vx_ret (c_i X hS rfl (whyS_nar σ _ _) (by have q : (fReason σ (nI j_sa) (nI j_xa)) = ((whyS σ j_sa j_xa), σ) := (by simp only [fReason]; simp [ok_sa, ex_sa, ok_xa, ex_xa]); rw [q]; exact ⟨rfl, h0, ⟨g, ad, rfl, ⟨hC, hgr, hwt, hsb⟩, F⟩⟩) (by omega) (by omega) dX9_reason_14)
set_option maxHeartbeats 4000000 in
set_option maxRecDepth 100000 in
theorem c_X9_creditOf (l : Launch) (hst : l.stackTraces = false) (G : GT) (A : Nat → Prop) (hAg : ∀ q, A q → gA G q) (b : Nat) (σ : Sg) (hI : MI σ) (hJ : MJ σ) (h0 : σ.1 0 0 = 0) (aa ka : Int32) : xM l yX9_creditOf cX9_creditOf 4 ((Option.some FieldType.int)) 4 1 6 G [.ref b, .int aa, .int ka] (fun H => CB G A b σ H ∧ ∀ q, H.size ≤ q → A q) (fB G A b (fCreditOf σ aa ka)) (fX ["java/lang/IndexOutOfBoundsException", "java/util/NoSuchElementException"] G A b (fCreditOf σ aa ka)) A := by
  refine mk_x (by decide) (Nat.le_of_ble_eq_true rfl) ?_
  intro p e s m args below meth c X ls hl g0 F hno
  obtain ⟨⟨g, ad, hb0, ⟨hC, hgr, hwt, hsb⟩, F⟩, hfr⟩ := F
  subst hb0
  have hI0 := hI.1
  obtain ⟨b1, b2, b3, b4, b5, b6, b7⟩ := hI0.1
  obtain ⟨b8, b9, b10⟩ := hI.2.1
  have hone := hJ.2.2.2.2.2
  have hK := g0.1
  have hS : va_S A s.heap s.heap [] := va_S.rf
  have hl : lv_has ls 4 [(0, .ref (ad (0, 0))), (1, .int aa), (2, .int ka)] := hl
  show Wx p l e 4 1 6 s m args below meth c (fB G A (ad (0, 0)) (fCreditOf σ aa ka)) (fX ["java/lang/IndexOutOfBoundsException", "java/util/NoSuchElementException"] G A (ad (0, 0)) (fCreditOf σ aa ka)) A s.heap [] 0 0 0 ls []
  refine lv_aload_n X.ex X.co dX9_creditOf_0 rfl (lv_at hl 0 rfl) ?_
  refine lv_iload_n X.ex X.co dX9_creditOf_1 rfl (lv_at hl 1 rfl) ?_
  rcases hok_1 : okP aa (nAn σ) with _ | _
  · exact x_V X ce_X9_findAnswer m_764 (c_X9_findAnswerX l hst G A hAg g ad σ hI0 hC aa hok_1) (g0.step hS hAg) F (cw_be F) rfl (by decide) rfl hl.1 rfl (Nat.le_of_ble_eq_true rfl) dX9_creditOf_2 (by omega) (by omega) hS (fun _ h => h) hno (fun E H1 hB hz hq => fX_err (k := 0) (by show (fCreditOf σ aa ka) = err σ 1; simp only [fCreditOf]; simp [hok_1, cred]) (by rw [hB.1]; rfl) (⟨g, ad, rfl, ⟨hC, hgr, hwt, hsb⟩, hB.2⟩ : CB G A (ad (0, 0)) σ H1)) (fun v0 H1 locs1 hB => hB.elim)
  · have ok_aa := hok_1
    obtain ⟨j_aa, hj_aa, rfl⟩ := (okP_ix (by omega)).mp ok_aa
    have ex_aa := ix_nI (j := j_aa) (by omega)
    refine q_rV X ce_X9_findAnswer m_764 (c_X9_findAnswer l G A g ad σ hI0 hC j_aa (by omega)) (g0.step hS hAg) F (cw_be F) rfl (by decide) rfl hl.1 rfl (Nat.le_of_ble_eq_true rfl) dX9_creditOf_2 (by omega) (by omega) ?_
    refine lv_astore_n (lv' := [(3, .ref (ad (7, j_aa))), (0, .ref (ad (0, 0))), (1, .int (nI j_aa)), (2, .int ka)]) X.ex X.co dX9_creditOf_5 rfl hl (by decide) rfl (fun ls hl => ?_)
    have g_2_1 := hI0.an (i := j_aa) (by omega); have g_2_2 := hI0.ex (i := exe σ j_aa) (by omega); have g_2_3 := allS_b hI0 (e := exe σ j_aa) (by omega) _ (Nat.le_refl _)
    rcases hok_3 : okP ka (cas σ (exe σ j_aa)) with _ | _
    · refine lv_iload_n X.ex X.co dX9_creditOf_6 rfl (lv_at hl 3 rfl) ?_
      refine lv_if_lt (tgt := 21) X.ex X.co dX9_creditOf_7 (by decide) (fun c_4 => ?_) (fun c_4 => ?_)
      · exact x_throwN X hst g0 hAg hS hno (cls := "java/util/NoSuchElementException") (text := "no such case") (by decide) m_784 m_31 ok_NSE (tb_5 (List.mem_of_getElem? (i := 144) (by decide +kernel))) hl.1 dX9_creditOf_21 dX9_creditOf_24 dX9_creditOf_25 dX9_creditOf_27 dX9_creditOf_30 (Nat.le_of_ble_eq_true rfl) (by omega) (by omega) (fun H1 hz hq => fX_err (k := 1) (by show (fCreditOf σ (nI j_aa) ka) = err σ 2; simp only [fCreditOf]; simp [hok_3, ok_aa, ex_aa, cred]) rfl (CB_old (⟨g, ad, rfl, ⟨hC, hgr, hwt, hsb⟩, F⟩ : CB G A (ad (0, 0)) σ _) hq))
      · refine lv_iload_n X.ex X.co dX9_creditOf_10 rfl (lv_at hl 3 rfl) ?_
        refine lv_aload_n X.ex X.co dX9_creditOf_11 rfl (lv_at hl 0 rfl) ?_
        refine f_get X hK (cw_an F (i := j_aa) (by omega)) okX0 rfl 2 (by decide) m_719 (fun _ h => h) (v := .ref (ad (6, exe σ j_aa))) rfl dX9_creditOf_12 ?_
        have hf_f_5 := hI0.an (i := j_aa) (by omega); have hg_f_5 := hI0.ex (i := exe σ j_aa) (by omega)
        refine f_get X hK (cw_ex F (i := exe σ j_aa) (by omega)) okX4 rfl 7 (by decide) m_596 (fun _ h => h) (v := .int (nI (cas σ (exe σ j_aa)))) rfl dX9_creditOf_15 ?_
        refine lv_icmp_lt (tgt := 31) X.ex X.co dX9_creditOf_18 (by decide) (fun c_6 => ?_) (fun c_6 => ?_)
        · exact absurd c_6 (okP_no (by omega) hok_3 c_4)
        · exact x_throwN X hst g0 hAg hS hno (cls := "java/util/NoSuchElementException") (text := "no such case") (by decide) m_784 m_31 ok_NSE (tb_5 (List.mem_of_getElem? (i := 144) (by decide +kernel))) hl.1 dX9_creditOf_21 dX9_creditOf_24 dX9_creditOf_25 dX9_creditOf_27 dX9_creditOf_30 (Nat.le_of_ble_eq_true rfl) (by omega) (by omega) (fun H1 hz hq => fX_err (k := 1) (by show (fCreditOf σ (nI j_aa) ka) = err σ 2; simp only [fCreditOf]; simp [hok_3, ok_aa, ex_aa, cred]) rfl (CB_old (⟨g, ad, rfl, ⟨hC, hgr, hwt, hsb⟩, F⟩ : CB G A (ad (0, 0)) σ _) hq))
    · have ok_ka := hok_3
      obtain ⟨j_ka, hj_ka, rfl⟩ := (okP_ix (by omega)).mp ok_ka
      have ex_ka := ix_nI (j := j_ka) (by omega)
      refine lv_iload_n X.ex X.co dX9_creditOf_6 rfl (lv_at hl 3 rfl) ?_
      refine n_if_lt X (x := j_ka) (tgt := 21) (by omega) dX9_creditOf_7 (by decide) (fun c_7 => ?_) (fun c_7 => ?_)
      · exact c_7.elim
      · refine lv_iload_n X.ex X.co dX9_creditOf_10 rfl (lv_at hl 3 rfl) ?_
        refine lv_aload_n X.ex X.co dX9_creditOf_11 rfl (lv_at hl 0 rfl) ?_
        refine f_get X hK (cw_an F (i := j_aa) (by omega)) okX0 rfl 2 (by decide) m_719 (fun _ h => h) (v := .ref (ad (6, exe σ j_aa))) rfl dX9_creditOf_12 ?_
        have hf_f_8 := hI0.an (i := j_aa) (by omega); have hg_f_8 := hI0.ex (i := exe σ j_aa) (by omega)
        refine f_get X hK (cw_ex F (i := exe σ j_aa) (by omega)) okX4 rfl 7 (by decide) m_596 (fun _ h => h) (v := .int (nI (cas σ (exe σ j_aa)))) rfl dX9_creditOf_15 ?_
        refine n_cmp_lt X (x := j_ka) (y := cas σ (exe σ j_aa)) (tgt := 31) (by omega) (by omega) dX9_creditOf_18 (by decide) (fun c_9 => ?_) (fun c_9 => ?_)
        · refine lv_aload_n X.ex X.co dX9_creditOf_31 rfl (lv_at hl 0 rfl) ?_
          refine f_get X hK (cw_an F (i := j_aa) (by omega)) okX0 rfl 2 (by decide) m_719 (fun _ h => h) (v := .ref (ad (6, exe σ j_aa))) rfl dX9_creditOf_32 ?_
          have hf_f_10 := hI0.an (i := j_aa) (by omega); have hg_f_10 := hI0.ex (i := exe σ j_aa) (by omega)
          refine lv_aload_n X.ex X.co dX9_creditOf_35 rfl (lv_at hl 0 rfl) ?_
          refine f_get X hK (cw_an F (i := j_aa) (by omega)) okX0 rfl 3 (by decide) m_721 (fun _ h => h) (v := .ref (ad (12, j_aa))) rfl dX9_creditOf_36 ?_
          refine lv_iload_n X.ex X.co dX9_creditOf_39 rfl (lv_at hl 3 rfl) ?_
          refine q_rV X ce_X4_creditFor m_800 (c_X4_creditFor l G ad σ (ad (12, j_aa)) (exe σ j_aa) j_ka (σ.2 22 j_aa) (σ.2 23 j_aa) (by omega) (by omega)) (g0.step hS hAg) ⟨cw_exC F (i := exe σ j_aa) (by omega), cw_ra F (i := j_aa) (by omega)⟩ (cw_ex F (i := exe σ j_aa) (by omega)) rfl (by decide) rfl hl.1 rfl (Nat.le_of_ble_eq_true rfl) dX9_creditOf_40 (by omega) (by omega) ?_
          exact vx_ret (c_i X hS rfl rfl (by have q : (fCreditOf σ (nI j_aa) (nI j_ka)) = ((credR σ (σ.2 22 j_aa) (σ.2 23 j_aa) (exe σ j_aa) j_ka), σ) := (by simp only [fCreditOf]; simp [ok_aa, ex_aa, ok_ka, ex_ka, cred]); rw [q]; exact ⟨rfl, h0, ⟨g, ad, rfl, ⟨hC, hgr, hwt, hsb⟩, F⟩⟩) (by omega) (by omega) dX9_creditOf_43)
        · exact absurd hj_ka (by omega)
set_option maxHeartbeats 4000000 in
set_option maxRecDepth 100000 in
theorem c_X9_mastery (l : Launch) (hst : l.stackTraces = false) (G : GT) (A : Nat → Prop) (hAg : ∀ q, A q → gA G q) (b : Nat) (σ : Sg) (hI : MI σ) (hJ : MJ σ) (h0 : σ.1 0 0 = 0) (sa la : Int32) : xM l yX9_mastery cX9_mastery 3 ((Option.some FieldType.int)) 5 2 9 G [.ref b, .int sa, .int la] (fun H => CB G A b σ H ∧ ∀ q, H.size ≤ q → A q) (fB G A b (fMastery σ sa la)) (fX ["java/lang/IndexOutOfBoundsException"] G A b (fMastery σ sa la)) A := by
  refine mk_x (by decide) (Nat.le_of_ble_eq_true rfl) ?_
  intro p e s m args below meth c X ls hl g0 F hno
  obtain ⟨⟨g, ad, hb0, ⟨hC, hgr, hwt, hsb⟩, F⟩, hfr⟩ := F
  subst hb0
  have hI0 := hI.1
  obtain ⟨b1, b2, b3, b4, b5, b6, b7⟩ := hI0.1
  obtain ⟨b8, b9, b10⟩ := hI.2.1
  have hone := hJ.2.2.2.2.2
  have hK := g0.1
  have hS : va_S A s.heap s.heap [] := va_S.rf
  have hl : lv_has ls 3 [(0, .ref (ad (0, 0))), (1, .int sa), (2, .int la)] := hl
  show Wx p l e 5 2 9 s m args below meth c (fB G A (ad (0, 0)) (fMastery σ sa la)) (fX ["java/lang/IndexOutOfBoundsException"] G A (ad (0, 0)) (fMastery σ sa la)) A s.heap [] 0 0 0 ls []
  refine lv_aload_n X.ex X.co dX9_mastery_0 rfl (lv_at hl 0 rfl) ?_
  refine lv_iload_n X.ex X.co dX9_mastery_1 rfl (lv_at hl 2 rfl) ?_
  rcases hok_1 : okP la (nLe σ) with _ | _
  · exact x_V X ce_X9_findLesson m_548 (c_X9_findLessonX l hst G A hAg g ad σ hI0 hC la hok_1) (g0.step hS hAg) F (cw_be F) rfl (by decide) rfl hl.1 rfl (Nat.le_of_ble_eq_true rfl) dX9_mastery_2 (by omega) (by omega) hS (fun _ h => h) hno (fun E H1 hB hz hq => fX_err (k := 0) (by show (fMastery σ sa la) = err σ 1; simp only [fMastery]; simp [hok_1, masNow]) (by rw [hB.1]; rfl) (⟨g, ad, rfl, ⟨hC, hgr, hwt, hsb⟩, hB.2⟩ : CB G A (ad (0, 0)) σ H1)) (fun v0 H1 locs1 hB => hB.elim)
  · have ok_la := hok_1
    obtain ⟨j_la, hj_la, rfl⟩ := (okP_ix (by omega)).mp ok_la
    have ex_la := ix_nI (j := j_la) (by omega)
    refine q_rV X ce_X9_findLesson m_548 (c_X9_findLesson l G A g ad σ hI0 hC j_la (by omega)) (g0.step hS hAg) F (cw_be F) rfl (by decide) rfl hl.1 rfl (Nat.le_of_ble_eq_true rfl) dX9_mastery_2 (by omega) (by omega) ?_
    refine lv_aload_n X.ex X.co dX9_mastery_5 rfl (lv_at hl 0 rfl) ?_
    refine lv_iload_n X.ex X.co dX9_mastery_6 rfl (lv_at hl 1 rfl) ?_
    rcases hok_2 : okP sa (nSt σ) with _ | _
    · exact x_V X ce_X9_findStudent m_655 (c_X9_findStudentX l hst G A hAg g ad σ hI0 hC sa hok_2) (g0.step hS hAg) F (cw_be F) rfl (by decide) rfl hl.1 rfl (Nat.le_of_ble_eq_true rfl) dX9_mastery_7 (by omega) (by omega) hS (fun _ h => h) hno (fun E H1 hB hz hq => fX_err (k := 0) (by show (fMastery σ sa (nI j_la)) = err σ 1; simp only [fMastery]; simp [hok_2, ok_la, ex_la, masNow]) (by rw [hB.1]; rfl) (⟨g, ad, rfl, ⟨hC, hgr, hwt, hsb⟩, hB.2⟩ : CB G A (ad (0, 0)) σ H1)) (fun v0 H1 locs1 hB => hB.elim)
    · have ok_sa := hok_2
      obtain ⟨j_sa, hj_sa, rfl⟩ := (okP_ix (by omega)).mp ok_sa
      have ex_sa := ix_nI (j := j_sa) (by omega)
      refine q_rV X ce_X9_findStudent m_655 (c_X9_findStudent l G A g ad σ hI0 hC j_sa (by omega)) (g0.step hS hAg) F (cw_be F) rfl (by decide) rfl hl.1 rfl (Nat.le_of_ble_eq_true rfl) dX9_mastery_7 (by omega) (by omega) ?_
      refine lv_aload_n X.ex X.co dX9_mastery_10 rfl (lv_at hl 0 rfl) ?_
      refine q_xV (w := fun q => .ref q) X ce_X9_now m_206 (c_X9_now l G trivial A hAg g ad σ hI0 hC) (g0.step hS hAg) ⟨F, (fun q hq => hfr q (Nat.le_trans hS.1 hq))⟩ (cw_be F) rfl (by decide) rfl hl.1 rfl (Nat.le_of_ble_eq_true rfl) dX9_mastery_11 (by show _ ≤ 2; omega) (by show _ ≤ 9; omega) hS (fun _ h => h) (fun q_3 H locs F hz hk9 hS => ?_)
      have hmo : va_at G.1 vwCl (q_3, eMo (dayV σ) (nEx σ) (nAn σ)) H := fw.get F (Or.inr rfl) (iup_s _ _ _) (iup_s _ _ _)
      have Fn := F
      have F : cw G g A ad σ H := cw_drop (t := (10, nCe σ)) (show ¬ nCe σ < nCe σ by omega) F
      refine q_rV X ce_X5_masteryAt m_232 (c_X5_masteryAt l G A g ad σ hI0 hC hgr j_sa j_la q_3 (nEx σ) (nAn σ) (dayV σ) (by omega) (by omega) (by omega) (by omega)) (g0.step hS hAg) ⟨F, hmo⟩ (cw_le F (i := j_la) (by omega)) rfl (by decide) rfl hl.1 rfl (Nat.le_of_ble_eq_true rfl) dX9_mastery_14 (by omega) (by omega) ?_
      exact vx_ret (c_i X hS rfl rfl (by have q : (fMastery σ (nI j_sa) (nI j_la)) = ((masBy σ j_sa j_la (dayV σ) (nEx σ) (nAn σ)), σ) := (by simp only [fMastery]; simp [ok_sa, ex_sa, ok_la, ex_la, masNow]); rw [q]; exact ⟨rfl, h0, ⟨g, ad, rfl, ⟨hC, hgr, hwt, hsb⟩, F⟩⟩) (by omega) (by omega) dX9_mastery_17)
set_option maxHeartbeats 4000000 in
set_option maxRecDepth 100000 in
theorem c_X9_masteryAnew (l : Launch) (hst : l.stackTraces = false) (G : GT) (A : Nat → Prop) (hAg : ∀ q, A q → gA G q) (b : Nat) (σ : Sg) (hI : MI σ) (hJ : MJ σ) (h0 : σ.1 0 0 = 0) (sa la : Int32) : xM l yX9_masteryAnew cX9_masteryAnew 3 ((Option.some FieldType.int)) 5 1 6 G [.ref b, .int sa, .int la] (fun H => CB G A b σ H ∧ ∀ q, H.size ≤ q → A q) (fB G A b (fMastery σ sa la)) (fX ["java/lang/IndexOutOfBoundsException"] G A b (fMastery σ sa la)) A := by
  refine mk_x (by decide) (Nat.le_of_ble_eq_true rfl) ?_
  intro p e s m args below meth c X ls hl g0 F hno
  obtain ⟨⟨g, ad, hb0, ⟨hC, hgr, hwt, hsb⟩, F⟩, hfr⟩ := F
  subst hb0
  have hI0 := hI.1
  obtain ⟨b1, b2, b3, b4, b5, b6, b7⟩ := hI0.1
  obtain ⟨b8, b9, b10⟩ := hI.2.1
  have hone := hJ.2.2.2.2.2
  have hK := g0.1
  have hS : va_S A s.heap s.heap [] := va_S.rf
  have hl : lv_has ls 3 [(0, .ref (ad (0, 0))), (1, .int sa), (2, .int la)] := hl
  show Wx p l e 5 1 6 s m args below meth c (fB G A (ad (0, 0)) (fMastery σ sa la)) (fX ["java/lang/IndexOutOfBoundsException"] G A (ad (0, 0)) (fMastery σ sa la)) A s.heap [] 0 0 0 ls []
  refine lv_aload_n X.ex X.co dX9_masteryAnew_0 rfl (lv_at hl 0 rfl) ?_
  refine lv_aload_n X.ex X.co dX9_masteryAnew_1 rfl (lv_at hl 0 rfl) ?_
  refine lv_iload_n X.ex X.co dX9_masteryAnew_2 rfl (lv_at hl 1 rfl) ?_
  rcases hok_1 : okP sa (nSt σ) with _ | _
  · exact x_V X ce_X9_findStudent m_655 (c_X9_findStudentX l hst G A hAg g ad σ hI0 hC sa hok_1) (g0.step hS hAg) F (cw_be F) rfl (by decide) rfl hl.1 rfl (Nat.le_of_ble_eq_true rfl) dX9_masteryAnew_3 (by omega) (by omega) hS (fun _ h => h) hno (fun E H1 hB hz hq => fX_err (k := 0) (by show (fMastery σ sa la) = err σ 1; simp only [fMastery]; simp [hok_1]) (by rw [hB.1]; rfl) (⟨g, ad, rfl, ⟨hC, hgr, hwt, hsb⟩, hB.2⟩ : CB G A (ad (0, 0)) σ H1)) (fun v0 H1 locs1 hB => hB.elim)
  · have ok_sa := hok_1
    obtain ⟨j_sa, hj_sa, rfl⟩ := (okP_ix (by omega)).mp ok_sa
    have ex_sa := ix_nI (j := j_sa) (by omega)
    refine q_rV X ce_X9_findStudent m_655 (c_X9_findStudent l G A g ad σ hI0 hC j_sa (by omega)) (g0.step hS hAg) F (cw_be F) rfl (by decide) rfl hl.1 rfl (Nat.le_of_ble_eq_true rfl) dX9_masteryAnew_3 (by omega) (by omega) ?_
    refine lv_aload_n X.ex X.co dX9_masteryAnew_6 rfl (lv_at hl 0 rfl) ?_
    refine lv_iload_n X.ex X.co dX9_masteryAnew_7 rfl (lv_at hl 2 rfl) ?_
    rcases hok_2 : okP la (nLe σ) with _ | _
    · exact x_V X ce_X9_findLesson m_548 (c_X9_findLessonX l hst G A hAg g ad σ hI0 hC la hok_2) (g0.step hS hAg) F (cw_be F) rfl (by decide) rfl hl.1 rfl (Nat.le_of_ble_eq_true rfl) dX9_masteryAnew_8 (by omega) (by omega) hS (fun _ h => h) hno (fun E H1 hB hz hq => fX_err (k := 0) (by show (fMastery σ (nI j_sa) la) = err σ 1; simp only [fMastery]; simp [hok_2, ok_sa, ex_sa]) (by rw [hB.1]; rfl) (⟨g, ad, rfl, ⟨hC, hgr, hwt, hsb⟩, hB.2⟩ : CB G A (ad (0, 0)) σ H1)) (fun v0 H1 locs1 hB => hB.elim)
    · have ok_la := hok_2
      obtain ⟨j_la, hj_la, rfl⟩ := (okP_ix (by omega)).mp ok_la
      have ex_la := ix_nI (j := j_la) (by omega)
      refine q_rV X ce_X9_findLesson m_548 (c_X9_findLesson l G A g ad σ hI0 hC j_la (by omega)) (g0.step hS hAg) F (cw_be F) rfl (by decide) rfl hl.1 rfl (Nat.le_of_ble_eq_true rfl) dX9_masteryAnew_8 (by omega) (by omega) ?_
      refine q_rV X ce_X9_masteryByRules m_254 (c_X9_masteryByRules l G A g ad σ hI0 hC j_sa j_la (by omega) (by omega)) (g0.step hS hAg) F (cw_be F) rfl (by decide) rfl hl.1 rfl (Nat.le_of_ble_eq_true rfl) dX9_masteryAnew_11 (by omega) (by omega) ?_
      exact vx_ret (c_i X hS rfl rfl (by have q : (fMastery σ (nI j_sa) (nI j_la)) = ((masNow σ j_sa j_la), σ) := (by simp only [fMastery]; simp [ok_sa, ex_sa, ok_la, ex_la]); rw [q]; exact ⟨rfl, h0, ⟨g, ad, rfl, ⟨hC, hgr, hwt, hsb⟩, F⟩⟩) (by omega) (by omega) dX9_masteryAnew_14)
set_option maxHeartbeats 4000000 in
set_option maxRecDepth 100000 in
theorem c_X9_bestAnswer (l : Launch) (hst : l.stackTraces = false) (G : GT) (A : Nat → Prop) (hAg : ∀ q, A q → gA G q) (b : Nat) (σ : Sg) (hI : MI σ) (hJ : MJ σ) (h0 : σ.1 0 0 = 0) (sa xa : Int32) : xM l yX9_bestAnswer cX9_bestAnswer 4 ((Option.some FieldType.int)) 5 2 9 G [.ref b, .int sa, .int xa] (fun H => CB G A b σ H ∧ ∀ q, H.size ≤ q → A q) (fB G A b (fBestAnswer σ sa xa)) (fX ["java/lang/IndexOutOfBoundsException", "java/util/NoSuchElementException"] G A b (fBestAnswer σ sa xa)) A := by
  refine mk_x (by decide) (Nat.le_of_ble_eq_true rfl) ?_
  intro p e s m args below meth c X ls hl g0 F hno
  obtain ⟨⟨g, ad, hb0, ⟨hC, hgr, hwt, hsb⟩, F⟩, hfr⟩ := F
  subst hb0
  have hI0 := hI.1
  obtain ⟨b1, b2, b3, b4, b5, b6, b7⟩ := hI0.1
  obtain ⟨b8, b9, b10⟩ := hI.2.1
  have hone := hJ.2.2.2.2.2
  have hK := g0.1
  have hS : va_S A s.heap s.heap [] := va_S.rf
  have hl : lv_has ls 4 [(0, .ref (ad (0, 0))), (1, .int sa), (2, .int xa)] := hl
  show Wx p l e 5 2 9 s m args below meth c (fB G A (ad (0, 0)) (fBestAnswer σ sa xa)) (fX ["java/lang/IndexOutOfBoundsException", "java/util/NoSuchElementException"] G A (ad (0, 0)) (fBestAnswer σ sa xa)) A s.heap [] 0 0 0 ls []
  refine lv_aload_n X.ex X.co dX9_bestAnswer_0 rfl (lv_at hl 0 rfl) ?_
  refine lv_iload_n X.ex X.co dX9_bestAnswer_1 rfl (lv_at hl 2 rfl) ?_
  rcases hok_1 : okP xa (nEx σ) with _ | _
  · exact x_V X ce_X9_findExercise m_626 (c_X9_findExerciseX l hst G A hAg g ad σ hI0 hC xa hok_1) (g0.step hS hAg) F (cw_be F) rfl (by decide) rfl hl.1 rfl (Nat.le_of_ble_eq_true rfl) dX9_bestAnswer_2 (by omega) (by omega) hS (fun _ h => h) hno (fun E H1 hB hz hq => fX_err (k := 0) (by show (fBestAnswer σ sa xa) = err σ 1; simp only [fBestAnswer]; simp [hok_1]) (by rw [hB.1]; rfl) (⟨g, ad, rfl, ⟨hC, hgr, hwt, hsb⟩, hB.2⟩ : CB G A (ad (0, 0)) σ H1)) (fun v0 H1 locs1 hB => hB.elim)
  · have ok_xa := hok_1
    obtain ⟨j_xa, hj_xa, rfl⟩ := (okP_ix (by omega)).mp ok_xa
    have ex_xa := ix_nI (j := j_xa) (by omega)
    refine q_rV X ce_X9_findExercise m_626 (c_X9_findExercise l G A g ad σ hI0 hC j_xa (by omega)) (g0.step hS hAg) F (cw_be F) rfl (by decide) rfl hl.1 rfl (Nat.le_of_ble_eq_true rfl) dX9_bestAnswer_2 (by omega) (by omega) ?_
    refine lv_aload_n X.ex X.co dX9_bestAnswer_5 rfl (lv_at hl 0 rfl) ?_
    refine lv_iload_n X.ex X.co dX9_bestAnswer_6 rfl (lv_at hl 1 rfl) ?_
    rcases hok_2 : okP sa (nSt σ) with _ | _
    · exact x_V X ce_X9_findStudent m_655 (c_X9_findStudentX l hst G A hAg g ad σ hI0 hC sa hok_2) (g0.step hS hAg) F (cw_be F) rfl (by decide) rfl hl.1 rfl (Nat.le_of_ble_eq_true rfl) dX9_bestAnswer_7 (by omega) (by omega) hS (fun _ h => h) hno (fun E H1 hB hz hq => fX_err (k := 0) (by show (fBestAnswer σ sa (nI j_xa)) = err σ 1; simp only [fBestAnswer]; simp [hok_2, ok_xa, ex_xa]) (by rw [hB.1]; rfl) (⟨g, ad, rfl, ⟨hC, hgr, hwt, hsb⟩, hB.2⟩ : CB G A (ad (0, 0)) σ H1)) (fun v0 H1 locs1 hB => hB.elim)
    · have ok_sa := hok_2
      obtain ⟨j_sa, hj_sa, rfl⟩ := (okP_ix (by omega)).mp ok_sa
      have ex_sa := ix_nI (j := j_sa) (by omega)
      refine q_rV X ce_X9_findStudent m_655 (c_X9_findStudent l G A g ad σ hI0 hC j_sa (by omega)) (g0.step hS hAg) F (cw_be F) rfl (by decide) rfl hl.1 rfl (Nat.le_of_ble_eq_true rfl) dX9_bestAnswer_7 (by omega) (by omega) ?_
      refine lv_aload_n X.ex X.co dX9_bestAnswer_10 rfl (lv_at hl 0 rfl) ?_
      refine q_xV (w := fun q => .ref q) X ce_X9_now m_206 (c_X9_now l G trivial A hAg g ad σ hI0 hC) (g0.step hS hAg) ⟨F, (fun q hq => hfr q (Nat.le_trans hS.1 hq))⟩ (cw_be F) rfl (by decide) rfl hl.1 rfl (Nat.le_of_ble_eq_true rfl) dX9_bestAnswer_11 (by show _ ≤ 2; omega) (by show _ ≤ 9; omega) hS (fun _ h => h) (fun q_3 H locs F hz hk9 hS => ?_)
      have hmo : va_at G.1 vwCl (q_3, eMo (dayV σ) (nEx σ) (nAn σ)) H := fw.get F (Or.inr rfl) (iup_s _ _ _) (iup_s _ _ _)
      have Fn := F
      have F : cw G g A ad σ H := cw_drop (t := (10, nCe σ)) (show ¬ nCe σ < nCe σ by omega) F
      refine q_rV X ce_X4_bestOf m_822 (c_X4_bestOf l G A g ad σ hI0 hC hgr j_sa j_xa q_3 (nEx σ) (nAn σ) (dayV σ) (by omega) (by omega) (by omega)) (g0.step hS hAg) ⟨F, hmo⟩ (cw_ex F (i := j_xa) (by omega)) rfl (by decide) rfl hl.1 rfl (Nat.le_of_ble_eq_true rfl) dX9_bestAnswer_14 (by omega) (by omega) ?_
      rcases hb_4 : bestS σ j_sa j_xa (dayV σ) (nAn σ) with _ | b_5
      · refine lv_astore_nN (lv' := [(3, .null), (0, .ref (ad (0, 0))), (1, .int (nI j_sa)), (2, .int (nI j_xa))]) X.ex X.co dX9_bestAnswer_17 rfl hl (by decide) rfl (fun ls hl => ?_)
        refine lv_aload_nN X.ex X.co dX9_bestAnswer_18 rfl (lv_at hl 0 rfl) ?_
        refine lv_ifnonnullN X.ex X.co dX9_bestAnswer_19 ?_
        exact x_throwN X hst g0 hAg hS hno (cls := "java/util/NoSuchElementException") (text := "there is no answer") (by decide) m_784 m_31 ok_NSE (tb_5 (List.mem_of_getElem? (i := 159) (by decide +kernel))) hl.1 dX9_bestAnswer_22 dX9_bestAnswer_25 dX9_bestAnswer_26 dX9_bestAnswer_28 dX9_bestAnswer_31 (Nat.le_of_ble_eq_true rfl) (by omega) (by omega) (fun H1 hz hq => fX_err (k := 1) (by show (fBestAnswer σ (nI j_sa) (nI j_xa)) = err σ 2; simp only [fBestAnswer]; simp [hb_4, ok_sa, ex_sa, ok_xa, ex_xa]) rfl (CB_old (⟨g, ad, rfl, ⟨hC, hgr, hwt, hsb⟩, F⟩ : CB G A (ad (0, 0)) σ _) hq))
      · refine lv_astore_n (lv' := [(3, .ref (ad (7, b_5))), (0, .ref (ad (0, 0))), (1, .int (nI j_sa)), (2, .int (nI j_xa))]) X.ex X.co dX9_bestAnswer_17 rfl hl (by decide) rfl (fun ls hl => ?_)
        refine lv_aload_n X.ex X.co dX9_bestAnswer_18 rfl (lv_at hl 0 rfl) ?_
        refine lv_ifnonnull (tgt := 32) X.ex X.co dX9_bestAnswer_19 (by decide) ?_
        have hbb := bestS_b hb_4
        refine lv_aload_n X.ex X.co dX9_bestAnswer_32 rfl (lv_at hl 0 rfl) ?_
        refine f_get X hK (cw_an F (i := b_5) (by omega)) okX0 rfl 0 (by decide) m_714 (fun _ h => h) (v := .int (nI b_5)) rfl dX9_bestAnswer_33 ?_
        exact vx_ret (c_i X hS rfl rfl (by have q : (fBestAnswer σ (nI j_sa) (nI j_xa)) = (nI b_5, σ) := (by simp only [fBestAnswer]; simp [hb_4, ok_sa, ex_sa, ok_xa, ex_xa]); rw [q]; exact ⟨rfl, h0, ⟨g, ad, rfl, ⟨hC, hgr, hwt, hsb⟩, F⟩⟩) (by omega) (by omega) dX9_bestAnswer_36)
set_option maxHeartbeats 4000000 in
set_option maxRecDepth 100000 in
theorem c_X9_certificateOf (l : Launch) (hst : l.stackTraces = false) (G : GT) (A : Nat → Prop) (hAg : ∀ q, A q → gA G q) (b : Nat) (σ : Sg) (hI : MI σ) (hJ : MJ σ) (h0 : σ.1 0 0 = 0) (sa ca : Int32) : xM l yX9_certificateOf cX9_certificateOf 4 ((Option.some FieldType.int)) 5 1 6 G [.ref b, .int sa, .int ca] (fun H => CB G A b σ H ∧ ∀ q, H.size ≤ q → A q) (fB G A b (fCertificateOf σ sa ca)) (fX ["java/lang/IndexOutOfBoundsException", "java/util/NoSuchElementException"] G A b (fCertificateOf σ sa ca)) A := by
  refine mk_x (by decide) (Nat.le_of_ble_eq_true rfl) ?_
  intro p e s m args below meth c X ls hl g0 F hno
  obtain ⟨⟨g, ad, hb0, ⟨hC, hgr, hwt, hsb⟩, F⟩, hfr⟩ := F
  subst hb0
  have hI0 := hI.1
  obtain ⟨b1, b2, b3, b4, b5, b6, b7⟩ := hI0.1
  obtain ⟨b8, b9, b10⟩ := hI.2.1
  have hone := hJ.2.2.2.2.2
  have hK := g0.1
  have hS : va_S A s.heap s.heap [] := va_S.rf
  have hl : lv_has ls 4 [(0, .ref (ad (0, 0))), (1, .int sa), (2, .int ca)] := hl
  show Wx p l e 5 1 6 s m args below meth c (fB G A (ad (0, 0)) (fCertificateOf σ sa ca)) (fX ["java/lang/IndexOutOfBoundsException", "java/util/NoSuchElementException"] G A (ad (0, 0)) (fCertificateOf σ sa ca)) A s.heap [] 0 0 0 ls []
  refine lv_aload_n X.ex X.co dX9_certificateOf_0 rfl (lv_at hl 0 rfl) ?_
  refine lv_aload_n X.ex X.co dX9_certificateOf_1 rfl (lv_at hl 0 rfl) ?_
  refine lv_iload_n X.ex X.co dX9_certificateOf_2 rfl (lv_at hl 1 rfl) ?_
  rcases hok_1 : okP sa (nSt σ) with _ | _
  · exact x_V X ce_X9_findStudent m_655 (c_X9_findStudentX l hst G A hAg g ad σ hI0 hC sa hok_1) (g0.step hS hAg) F (cw_be F) rfl (by decide) rfl hl.1 rfl (Nat.le_of_ble_eq_true rfl) dX9_certificateOf_3 (by omega) (by omega) hS (fun _ h => h) hno (fun E H1 hB hz hq => fX_err (k := 0) (by show (fCertificateOf σ sa ca) = err σ 1; simp only [fCertificateOf]; simp [hok_1]) (by rw [hB.1]; rfl) (⟨g, ad, rfl, ⟨hC, hgr, hwt, hsb⟩, hB.2⟩ : CB G A (ad (0, 0)) σ H1)) (fun v0 H1 locs1 hB => hB.elim)
  · have ok_sa := hok_1
    obtain ⟨j_sa, hj_sa, rfl⟩ := (okP_ix (by omega)).mp ok_sa
    have ex_sa := ix_nI (j := j_sa) (by omega)
    refine q_rV X ce_X9_findStudent m_655 (c_X9_findStudent l G A g ad σ hI0 hC j_sa (by omega)) (g0.step hS hAg) F (cw_be F) rfl (by decide) rfl hl.1 rfl (Nat.le_of_ble_eq_true rfl) dX9_certificateOf_3 (by omega) (by omega) ?_
    refine lv_aload_n X.ex X.co dX9_certificateOf_6 rfl (lv_at hl 0 rfl) ?_
    refine lv_iload_n X.ex X.co dX9_certificateOf_7 rfl (lv_at hl 2 rfl) ?_
    rcases hok_2 : okP ca (nCr σ) with _ | _
    · exact x_V X ce_X9_findCourse m_1163 (c_X9_findCourseX l hst G A hAg g ad σ hI0 hC ca hok_2) (g0.step hS hAg) F (cw_be F) rfl (by decide) rfl hl.1 rfl (Nat.le_of_ble_eq_true rfl) dX9_certificateOf_8 (by omega) (by omega) hS (fun _ h => h) hno (fun E H1 hB hz hq => fX_err (k := 0) (by show (fCertificateOf σ (nI j_sa) ca) = err σ 1; simp only [fCertificateOf]; simp [hok_2, ok_sa, ex_sa]) (by rw [hB.1]; rfl) (⟨g, ad, rfl, ⟨hC, hgr, hwt, hsb⟩, hB.2⟩ : CB G A (ad (0, 0)) σ H1)) (fun v0 H1 locs1 hB => hB.elim)
    · have ok_ca := hok_2
      obtain ⟨j_ca, hj_ca, rfl⟩ := (okP_ix (by omega)).mp ok_ca
      have ex_ca := ix_nI (j := j_ca) (by omega)
      refine q_rV X ce_X9_findCourse m_1163 (c_X9_findCourse l G A g ad σ hI0 hC j_ca (by omega)) (g0.step hS hAg) F (cw_be F) rfl (by decide) rfl hl.1 rfl (Nat.le_of_ble_eq_true rfl) dX9_certificateOf_8 (by omega) (by omega) ?_
      refine q_rV X ce_X9_standingCertificate m_1168 (c_X9_standingCertificate l G A g ad σ hI0 hC hone j_sa j_ca (by omega) (by omega)) (g0.step hS hAg) F (cw_be F) rfl (by decide) rfl hl.1 rfl (Nat.le_of_ble_eq_true rfl) dX9_certificateOf_11 (by omega) (by omega) ?_
      rcases hb_3 : stdS σ j_sa j_ca (nCe σ) with _ | b_4
      · refine lv_astore_nN (lv' := [(3, .null), (0, .ref (ad (0, 0))), (1, .int (nI j_sa)), (2, .int (nI j_ca))]) X.ex X.co dX9_certificateOf_14 rfl hl (by decide) rfl (fun ls hl => ?_)
        refine lv_aload_nN X.ex X.co dX9_certificateOf_15 rfl (lv_at hl 0 rfl) ?_
        refine lv_ifnonnullN X.ex X.co dX9_certificateOf_16 ?_
        exact x_throwNW X hst g0 hAg hS hno (cls := "java/util/NoSuchElementException") (text := "there is none") (by decide) m_784 m_31 ok_NSE (tb_5 (List.mem_of_getElem? (i := 189) (by decide +kernel))) hl.1 dX9_certificateOf_19 dX9_certificateOf_22 dX9_certificateOf_23 dX9_certificateOf_26 dX9_certificateOf_29 (Nat.le_of_ble_eq_true rfl) (by omega) (by omega) (fun H1 hz hq => fX_err (k := 1) (by show (fCertificateOf σ (nI j_sa) (nI j_ca)) = err σ 2; simp only [fCertificateOf]; simp [hb_3, ok_sa, ex_sa, ok_ca, ex_ca]) rfl (CB_old (⟨g, ad, rfl, ⟨hC, hgr, hwt, hsb⟩, F⟩ : CB G A (ad (0, 0)) σ _) hq))
      · refine lv_astore_n (lv' := [(3, .ref (ad (9, b_4))), (0, .ref (ad (0, 0))), (1, .int (nI j_sa)), (2, .int (nI j_ca))]) X.ex X.co dX9_certificateOf_14 rfl hl (by decide) rfl (fun ls hl => ?_)
        refine lv_aload_n X.ex X.co dX9_certificateOf_15 rfl (lv_at hl 0 rfl) ?_
        refine lv_ifnonnull (tgt := 30) X.ex X.co dX9_certificateOf_16 (by decide) ?_
        have hbb := stdS_b hb_3
        refine lv_aload_n X.ex X.co dX9_certificateOf_30 rfl (lv_at hl 0 rfl) ?_
        refine f_get X hK (cw_ce F (i := b_4) (by omega)) okX1 rfl 0 (by decide) m_1180 (fun _ h => h) (v := .int (nI b_4)) rfl dX9_certificateOf_31 ?_
        exact vx_ret (c_i X hS rfl rfl (by have q : (fCertificateOf σ (nI j_sa) (nI j_ca)) = (nI b_4, σ) := (by simp only [fCertificateOf]; simp [hb_3, ok_sa, ex_sa, ok_ca, ex_ca]); rw [q]; exact ⟨rfl, h0, ⟨g, ad, rfl, ⟨hC, hgr, hwt, hsb⟩, F⟩⟩) (by omega) (by omega) dX9_certificateOf_34)
set_option maxHeartbeats 4000000 in
set_option maxRecDepth 100000 in
theorem c_X9_openLessons (l : Launch) (hst : l.stackTraces = false) (G : GT) (A : Nat → Prop) (hAg : ∀ q, A q → gA G q) (b : Nat) (σ : Sg) (hI : MI σ) (hJ : MJ σ) (h0 : σ.1 0 0 = 0) (sa : Int32) : xM l yX9_openLessons cX9_openLessons 6 ((Option.some FieldType.int)) 8 1 6 G [.ref b, .int sa] (fun H => CB G A b σ H ∧ ∀ q, H.size ≤ q → A q) (fB G A b (fOpenLessons σ sa)) (fX ["java/lang/IndexOutOfBoundsException"] G A b (fOpenLessons σ sa)) A := by
  refine mk_x (by decide) (Nat.le_of_ble_eq_true rfl) ?_
  intro p e s m args below meth c X ls hl g0 F hno
  obtain ⟨⟨g, ad, hb0, ⟨hC, hgr, hwt, hsb⟩, F⟩, hfr⟩ := F
  subst hb0
  have hI0 := hI.1
  obtain ⟨b1, b2, b3, b4, b5, b6, b7⟩ := hI0.1
  obtain ⟨b8, b9, b10⟩ := hI.2.1
  have hone := hJ.2.2.2.2.2
  have hK := g0.1
  have hS : va_S A s.heap s.heap [] := va_S.rf
  have hl : lv_has ls 6 [(0, .ref (ad (0, 0))), (1, .int sa)] := hl
  show Wx p l e 8 1 6 s m args below meth c (fB G A (ad (0, 0)) (fOpenLessons σ sa)) (fX ["java/lang/IndexOutOfBoundsException"] G A (ad (0, 0)) (fOpenLessons σ sa)) A s.heap [] 0 0 0 ls []
  refine lv_aload_n X.ex X.co dX9_openLessons_0 rfl (lv_at hl 0 rfl) ?_
  refine lv_iload_n X.ex X.co dX9_openLessons_1 rfl (lv_at hl 1 rfl) ?_
  rcases hok_1 : okP sa (nSt σ) with _ | _
  · exact x_V X ce_X9_findStudent m_655 (c_X9_findStudentX l hst G A hAg g ad σ hI0 hC sa hok_1) (g0.step hS hAg) F (cw_be F) rfl (by decide) rfl hl.1 rfl (Nat.le_of_ble_eq_true rfl) dX9_openLessons_2 (by omega) (by omega) hS (fun _ h => h) hno (fun E H1 hB hz hq => fX_err (k := 0) (by show (fOpenLessons σ sa) = err σ 1; simp only [fOpenLessons]; simp [hok_1]) (by rw [hB.1]; rfl) (⟨g, ad, rfl, ⟨hC, hgr, hwt, hsb⟩, hB.2⟩ : CB G A (ad (0, 0)) σ H1)) (fun v0 H1 locs1 hB => hB.elim)
  · have ok_sa := hok_1
    obtain ⟨j_sa, hj_sa, rfl⟩ := (okP_ix (by omega)).mp ok_sa
    have ex_sa := ix_nI (j := j_sa) (by omega)
    refine q_rV X ce_X9_findStudent m_655 (c_X9_findStudent l G A g ad σ hI0 hC j_sa (by omega)) (g0.step hS hAg) F (cw_be F) rfl (by decide) rfl hl.1 rfl (Nat.le_of_ble_eq_true rfl) dX9_openLessons_2 (by omega) (by omega) ?_
    refine lv_astore_n (lv' := [(2, .ref (ad (4, j_sa))), (0, .ref (ad (0, 0))), (1, .int (nI j_sa))]) X.ex X.co dX9_openLessons_5 rfl hl (by decide) rfl (fun ls hl => ?_)
    refine lv_aload_n X.ex X.co dX9_openLessons_6 rfl (lv_at hl 1 rfl) ?_
    refine q_xV (w := fun q => .ref q) X ce_X9_now m_206 (c_X9_now l G trivial A hAg g ad σ hI0 hC) (g0.step hS hAg) ⟨F, (fun q hq => hfr q (Nat.le_trans hS.1 hq))⟩ (cw_be F) rfl (by decide) rfl hl.1 rfl (Nat.le_of_ble_eq_true rfl) dX9_openLessons_7 (by show _ ≤ 1; omega) (by show _ ≤ 6; omega) hS (fun _ h => h) (fun q_2 H locs F hz hk9 hS => ?_)
    have hmo : va_at G.1 vwCl (q_2, eMo (dayV σ) (nEx σ) (nAn σ)) H := fw.get F (Or.inr rfl) (iup_s _ _ _) (iup_s _ _ _)
    have Fn := F
    have F : cw G g A ad σ H := cw_drop (t := (10, nCe σ)) (show ¬ nCe σ < nCe σ by omega) F
    refine lv_astore_n (lv' := [(3, .ref q_2), (2, .ref (ad (4, j_sa))), (0, .ref (ad (0, 0))), (1, .int (nI j_sa))]) X.ex X.co dX9_openLessons_10 rfl hl (by decide) rfl (fun ls hl => ?_)
    refine lv_iconst (v := 0) X.ex X.co dX9_openLessons_11 (by decide) ?_
    refine lv_istore (lv' := [(4, .int 0), (3, .ref q_2), (2, .ref (ad (4, j_sa))), (0, .ref (ad (0, 0))), (1, .int (nI j_sa))]) X.ex X.co dX9_openLessons_12 hl (by decide) rfl (fun ls hl => ?_)
    refine lv_iconst (v := 0) X.ex X.co dX9_openLessons_14 (by decide) ?_
    refine lv_istore (lv' := [(5, .int 0), (4, .int 0), (3, .ref q_2), (2, .ref (ad (4, j_sa))), (0, .ref (ad (0, 0))), (1, .int (nI j_sa))]) X.ex X.co dX9_openLessons_15 hl (by decide) rfl (fun ls hl => ?_)
    have loop_4 : ∀ (fu_3 i : Nat), i ≤ nLe σ → nLe σ < i + fu_3 → ∀ ls : Array Slot, lv_has ls 6 [(5, .int (nI i)), (4, .int (nI (opnS σ j_sa i))), (0, .ref (ad (0, 0))), (1, .int (nI j_sa)), (2, .ref (ad (4, j_sa))), (3, .ref q_2)] → Wx p l e 8 1 6 s m args below meth c (fB G A (ad (0, 0)) (fOpenLessons σ (nI j_sa))) (fX ["java/lang/IndexOutOfBoundsException"] G A (ad (0, 0)) (fOpenLessons σ (nI j_sa))) A H locs (0 + 1) (0 + 3) 17 ls [] := by
      intro fu_3
      induction fu_3 with
      | zero => intro i h_6 h_7; exact absurd h_7 (by omega)
      | succ fu_3 ih_5 =>
        intro i h_6 h_7 ls hl
        have hop := opnS_b σ j_sa i
        refine lv_iload X.ex X.co dX9_openLessons_17 (lv_at hl 0 rfl) ?_
        refine lv_aload_n X.ex X.co dX9_openLessons_19 rfl (lv_at hl 2 rfl) ?_
        refine f_get X hK (cw_be F) okX9 rfl 2 (by decide) m_108 (fun _ h => h) (v := .ref (ad (1, 2))) rfl dX9_openLessons_20 ?_
        refine q_rV X ce_Jx4a65c_size_8abf5 m_144 (c_Jx4a65c_size_8abf5 l G (ad (1, 2)) (g.2.1 (2)) (lrow G g ad (2)) (nLe σ)) (g0.step hS hAg) (cw_lsn F (k := 2) (n := nLe σ) (Or.inl (by omega)) rng_len) (cw_lsn F (k := 2) (n := nLe σ) (Or.inl (by omega)) rng_len) rfl (by decide) rfl hl.1 rfl (Nat.le_of_ble_eq_true rfl) dX9_openLessons_23 (by omega) (by omega) ?_
        refine n_cmp_ge X (x := i) (y := nLe σ) (tgt := 59) (by omega) (by omega) dX9_openLessons_26 (by decide) (fun c_8 => ?_) (fun c_8 => ?_)
        · have hq_9 : i = nLe σ := by omega
          rw [hq_9] at hl
          refine lv_iload X.ex X.co dX9_openLessons_59 (lv_at hl 1 rfl) ?_
          exact vx_ret (c_i X hS rfl rfl (by have q : (fOpenLessons σ (nI j_sa)) = (nI (opnS σ j_sa (nLe σ)), σ) := (by simp only [fOpenLessons]; simp [ok_sa, ex_sa]); rw [q]; exact ⟨rfl, h0, ⟨g, ad, rfl, ⟨hC, hgr, hwt, hsb⟩, F⟩⟩) (by omega) (by omega) dX9_openLessons_61)
        · refine lv_aload_n X.ex X.co dX9_openLessons_29 rfl (lv_at hl 2 rfl) ?_
          refine lv_aload_n X.ex X.co dX9_openLessons_30 rfl (lv_at hl 2 rfl) ?_
          refine f_get X hK (cw_be F) okX9 rfl 2 (by decide) m_108 (fun _ h => h) (v := .ref (ad (1, 2))) rfl dX9_openLessons_31 ?_
          refine lv_iload X.ex X.co dX9_openLessons_34 (lv_at hl 0 rfl) ?_
          refine q_rV X ce_Jx4a65c_get_915e3 m_164 (c_getR l G (ad (1, 2)) (g.2.1 (2)) (lrow G g ad (2)) (nLe σ) (g.1 (2)) (cont (lstN σ (2)) ad) i (by omega) (cl_n hC (Or.inl (by omega)) rng_len) (cl_q hC (Or.inl (by omega))) (cont_get (j := (5, i)) (rng_get (k := 5) (show i < nLe σ by omega)))) (g0.step hS hAg) (cw_get F hC (k := 2) (x := i) (n := nLe σ) (Or.inl (by omega)) rng_len (by omega)) (cw_get F hC (k := 2) (x := i) (n := nLe σ) (Or.inl (by omega)) rng_len (by omega)).1 rfl (by decide) rfl hl.1 rfl (Nat.le_of_ble_eq_true rfl) dX9_openLessons_36 (by omega) (by omega) ?_
          refine f_castS X hK (cw_le F (i := i) (by omega)) rfl m_231 dX9_openLessons_39 ?_
          refine lv_aload_n X.ex X.co dX9_openLessons_42 rfl (lv_at hl 4 rfl) ?_
          refine lv_aload_n X.ex X.co dX9_openLessons_43 rfl (lv_at hl 5 rfl) ?_
          refine q_rV X ce_X9_isOpen m_660 (c_X9_isOpen l G A g ad σ hI0 hC hgr i j_sa q_2 (nEx σ) (nAn σ) (dayV σ) (by omega) (by omega) (by omega) (by omega)) (g0.step hS hAg) ⟨F, hmo⟩ (cw_be F) rfl (by decide) rfl hl.1 rfl (Nat.le_of_ble_eq_true rfl) dX9_openLessons_44 (by omega) (by omega) ?_
          refine top_eq (y := bI (openS σ j_sa i i)) (by rw [open_has hI0 hJ (by omega)]) ?_
          refine b_if_eq X (x := openS σ j_sa i i) (tgt := 53) dX9_openLessons_47 (by decide) (fun c_10 => ?_) (fun c_10 => ?_)
          · refine lv_iinc (v := nI (i + 1)) (lv' := [(5, .int (nI (i + 1))), (4, .int (nI (opnS σ j_sa i))), (0, .ref (ad (0, 0))), (1, .int (nI j_sa)), (2, .ref (ad (4, j_sa))), (3, .ref q_2)]) X.ex X.co dX9_openLessons_53 hl (k := 0) rfl (n_inc _) (by decide) rfl (fun ls hl => ?_)
            refine lv_goto (tgt := 17) X.ex X.co dX9_openLessons_56 (by decide) ?_
            have q_11 : nI (opnS σ j_sa (i + 1)) = nI (opnS σ j_sa i) := by first | rfl | simp [opnS, *]
            exact ih_5 (i + 1) (by omega) (by omega) ls (lv_sub hl [0, 1, 2, 3, 4, 5] (by first | rfl | (rw [q_11] <;> rfl)))
          · refine lv_iinc (v := nI ((opnS σ j_sa i) + 1)) (lv' := [(4, .int (nI ((opnS σ j_sa i) + 1))), (5, .int (nI i)), (0, .ref (ad (0, 0))), (1, .int (nI j_sa)), (2, .ref (ad (4, j_sa))), (3, .ref q_2)]) X.ex X.co dX9_openLessons_50 hl (k := 1) rfl (n_inc _) (by decide) rfl (fun ls hl => ?_)
            refine lv_iinc (v := nI (i + 1)) (lv' := [(5, .int (nI (i + 1))), (4, .int (nI ((opnS σ j_sa i) + 1))), (0, .ref (ad (0, 0))), (1, .int (nI j_sa)), (2, .ref (ad (4, j_sa))), (3, .ref q_2)]) X.ex X.co dX9_openLessons_53 hl (k := 1) rfl (n_inc _) (by decide) rfl (fun ls hl => ?_)
            refine lv_goto (tgt := 17) X.ex X.co dX9_openLessons_56 (by decide) ?_
            have q_12 : nI (opnS σ j_sa (i + 1)) = nI ((opnS σ j_sa i) + 1) := by first | rfl | simp [opnS, *]
            exact ih_5 (i + 1) (by omega) (by omega) ls (lv_sub hl [0, 1, 2, 3, 4, 5] (by first | rfl | (rw [q_12] <;> rfl)))
    exact loop_4 (nLe σ + 1) 0 (by omega) (by omega) ls (lv_sub hl [0, 1, 4, 5, 3, 2] rfl)
set_option maxHeartbeats 4000000 in
set_option maxRecDepth 100000 in
theorem c_X9_answerCount (l : Launch) (G : GT) (A : Nat → Prop) (hAg : ∀ q, A q → gA G q) (b : Nat) (σ : Sg) (hI : MI σ) (hJ : MJ σ) (h0 : σ.1 0 0 = 0) : cM l yX9_answerCount cX9_answerCount 1 ((Option.some FieldType.int)) 4 0 0 G [.ref b] (fun H => CB G A b σ H ∧ ∀ q, H.size ≤ q → A q) (fB G A b (fAnswerCount σ)) A := by
  refine mk_m (by decide) (Nat.le_of_ble_eq_true rfl) ?_
  intro p e s m args below meth c X ls hl g0 F hnm
  obtain ⟨⟨g, ad, hb0, ⟨hC, hgr, hwt, hsb⟩, F⟩, hfr⟩ := F
  subst hb0
  have hI0 := hI.1
  obtain ⟨b1, b2, b3, b4, b5, b6, b7⟩ := hI0.1
  obtain ⟨b8, b9, b10⟩ := hI.2.1
  have hone := hJ.2.2.2.2.2
  have hK := g0.1
  have hS : va_S A s.heap s.heap [] := va_S.rf
  have hl : lv_has ls 1 [(0, .ref (ad (0, 0)))] := hl
  show Wc p l e 4 0 0 s m args below meth c (fB G A (ad (0, 0)) (fAnswerCount σ)) A s.heap [] 0 0 0 ls []
  refine lv_aload_n X.ex X.co dX9_answerCount_0 rfl (lv_at hl 0 rfl) ?_
  refine f_get X hK (cw_be F) okX9 rfl 4 (by decide) m_110 (fun _ h => h) (v := .ref (ad (1, 4))) rfl dX9_answerCount_1 ?_
  refine q_rV X ce_Jx4a65c_size_8abf5 m_144 (c_Jx4a65c_size_8abf5 l G (ad (1, 4)) (g.2.1 (4)) (lrow G g ad (4)) (nAn σ)) (g0.step hS hAg) (cw_lsn F (k := 4) (n := nAn σ) (Or.inl (by omega)) rng_len) (cw_lsn F (k := 4) (n := nAn σ) (Or.inl (by omega)) rng_len) rfl (by decide) rfl hl.1 rfl (Nat.le_of_ble_eq_true rfl) dX9_answerCount_4 (by omega) (by omega) ?_
  exact c_i X hS rfl rfl ⟨rfl, h0, ⟨g, ad, rfl, ⟨hC, hgr, hwt, hsb⟩, F⟩⟩ (by omega) (by omega) dX9_answerCount_7
set_option maxHeartbeats 4000000 in
set_option maxRecDepth 100000 in
theorem c_X9_appealCount (l : Launch) (G : GT) (A : Nat → Prop) (hAg : ∀ q, A q → gA G q) (b : Nat) (σ : Sg) (hI : MI σ) (hJ : MJ σ) (h0 : σ.1 0 0 = 0) : cM l yX9_appealCount cX9_appealCount 1 ((Option.some FieldType.int)) 4 0 0 G [.ref b] (fun H => CB G A b σ H ∧ ∀ q, H.size ≤ q → A q) (fB G A b (fAppealCount σ)) A := by
  refine mk_m (by decide) (Nat.le_of_ble_eq_true rfl) ?_
  intro p e s m args below meth c X ls hl g0 F hnm
  obtain ⟨⟨g, ad, hb0, ⟨hC, hgr, hwt, hsb⟩, F⟩, hfr⟩ := F
  subst hb0
  have hI0 := hI.1
  obtain ⟨b1, b2, b3, b4, b5, b6, b7⟩ := hI0.1
  obtain ⟨b8, b9, b10⟩ := hI.2.1
  have hone := hJ.2.2.2.2.2
  have hK := g0.1
  have hS : va_S A s.heap s.heap [] := va_S.rf
  have hl : lv_has ls 1 [(0, .ref (ad (0, 0)))] := hl
  show Wc p l e 4 0 0 s m args below meth c (fB G A (ad (0, 0)) (fAppealCount σ)) A s.heap [] 0 0 0 ls []
  refine lv_aload_n X.ex X.co dX9_appealCount_0 rfl (lv_at hl 0 rfl) ?_
  refine f_get X hK (cw_be F) okX9 rfl 7 (by decide) m_113 (fun _ h => h) (v := .ref (ad (1, 7))) rfl dX9_appealCount_1 ?_
  refine q_rV X ce_Jx4a65c_size_8abf5 m_144 (c_Jx4a65c_size_8abf5 l G (ad (1, 7)) (g.2.1 (7)) (lrow G g ad (7)) (nAp σ)) (g0.step hS hAg) (cw_lsn F (k := 7) (n := nAp σ) (Or.inl (by omega)) rng_len) (cw_lsn F (k := 7) (n := nAp σ) (Or.inl (by omega)) rng_len) rfl (by decide) rfl hl.1 rfl (Nat.le_of_ble_eq_true rfl) dX9_appealCount_4 (by omega) (by omega) ?_
  exact c_i X hS rfl rfl ⟨rfl, h0, ⟨g, ad, rfl, ⟨hC, hgr, hwt, hsb⟩, F⟩⟩ (by omega) (by omega) dX9_appealCount_7
set_option maxHeartbeats 4000000 in
set_option maxRecDepth 100000 in
theorem c_X9_harmedCount (l : Launch) (G : GT) (A : Nat → Prop) (hAg : ∀ q, A q → gA G q) (b : Nat) (σ : Sg) (hI : MI σ) (hJ : MJ σ) (h0 : σ.1 0 0 = 0) : cM l yX9_harmedCount cX9_harmedCount 1 ((Option.some FieldType.int)) 4 0 0 G [.ref b] (fun H => CB G A b σ H ∧ ∀ q, H.size ≤ q → A q) (fB G A b (fHarmedCount σ)) A := by
  refine mk_m (by decide) (Nat.le_of_ble_eq_true rfl) ?_
  intro p e s m args below meth c X ls hl g0 F hnm
  obtain ⟨⟨g, ad, hb0, ⟨hC, hgr, hwt, hsb⟩, F⟩, hfr⟩ := F
  subst hb0
  have hI0 := hI.1
  obtain ⟨b1, b2, b3, b4, b5, b6, b7⟩ := hI0.1
  obtain ⟨b8, b9, b10⟩ := hI.2.1
  have hone := hJ.2.2.2.2.2
  have hK := g0.1
  have hS : va_S A s.heap s.heap [] := va_S.rf
  have hl : lv_has ls 1 [(0, .ref (ad (0, 0)))] := hl
  show Wc p l e 4 0 0 s m args below meth c (fB G A (ad (0, 0)) (fHarmedCount σ)) A s.heap [] 0 0 0 ls []
  refine lv_aload_n X.ex X.co dX9_harmedCount_0 rfl (lv_at hl 0 rfl) ?_
  refine f_get X hK (cw_be F) okX9 rfl 8 (by decide) m_114 (fun _ h => h) (v := .ref (ad (1, 8))) rfl dX9_harmedCount_1 ?_
  refine q_rV X ce_Jx4a65c_size_8abf5 m_144 (c_Jx4a65c_size_8abf5 l G (ad (1, 8)) (g.2.1 (8)) (lrow G g ad (8)) (nHa σ)) (g0.step hS hAg) (cw_lsn F (k := 8) (n := nHa σ) (Or.inl (by omega)) rng_len) (cw_lsn F (k := 8) (n := nHa σ) (Or.inl (by omega)) rng_len) rfl (by decide) rfl hl.1 rfl (Nat.le_of_ble_eq_true rfl) dX9_harmedCount_4 (by omega) (by omega) ?_
  exact c_i X hS rfl rfl ⟨rfl, h0, ⟨g, ad, rfl, ⟨hC, hgr, hwt, hsb⟩, F⟩⟩ (by omega) (by omega) dX9_harmedCount_7
set_option maxHeartbeats 4000000 in
set_option maxRecDepth 100000 in
theorem c_X9_today (l : Launch) (G : GT) (A : Nat → Prop) (hAg : ∀ q, A q → gA G q) (b : Nat) (σ : Sg) (hI : MI σ) (hJ : MJ σ) (h0 : σ.1 0 0 = 0) : cM l yX9_today cX9_today 1 ((Option.some FieldType.int)) 4 0 0 G [.ref b] (fun H => CB G A b σ H ∧ ∀ q, H.size ≤ q → A q) (fB G A b (fToday σ)) A := by
  refine mk_m (by decide) (Nat.le_of_ble_eq_true rfl) ?_
  intro p e s m args below meth c X ls hl g0 F hnm
  obtain ⟨⟨g, ad, hb0, ⟨hC, hgr, hwt, hsb⟩, F⟩, hfr⟩ := F
  subst hb0
  have hI0 := hI.1
  obtain ⟨b1, b2, b3, b4, b5, b6, b7⟩ := hI0.1
  obtain ⟨b8, b9, b10⟩ := hI.2.1
  have hone := hJ.2.2.2.2.2
  have hK := g0.1
  have hS : va_S A s.heap s.heap [] := va_S.rf
  have hl : lv_has ls 1 [(0, .ref (ad (0, 0)))] := hl
  show Wc p l e 4 0 0 s m args below meth c (fB G A (ad (0, 0)) (fToday σ)) A s.heap [] 0 0 0 ls []
  refine lv_aload_n X.ex X.co dX9_today_0 rfl (lv_at hl 0 rfl) ?_
  refine f_get X hK (cw_be F) okX9 rfl 10 (by decide) m_116 (fun _ h => h) (v := .int (dayV σ)) rfl dX9_today_1 ?_
  exact c_i X hS rfl rfl ⟨rfl, h0, ⟨g, ad, rfl, ⟨hC, hgr, hwt, hsb⟩, F⟩⟩ (by omega) (by omega) dX9_today_4
set_option maxHeartbeats 4000000 in
set_option maxRecDepth 100000 in
theorem c_X9_revoked (l : Launch) (G : GT) (A : Nat → Prop) (hAg : ∀ q, A q → gA G q) (b : Nat) (σ : Sg) (hI : MI σ) (hJ : MJ σ) (h0 : σ.1 0 0 = 0) : cM l yX9_revoked cX9_revoked 1 ((Option.some FieldType.int)) 4 0 0 G [.ref b] (fun H => CB G A b σ H ∧ ∀ q, H.size ≤ q → A q) (fB G A b (fRevoked σ)) A := by
  refine mk_m (by decide) (Nat.le_of_ble_eq_true rfl) ?_
  intro p e s m args below meth c X ls hl g0 F hnm
  obtain ⟨⟨g, ad, hb0, ⟨hC, hgr, hwt, hsb⟩, F⟩, hfr⟩ := F
  subst hb0
  have hI0 := hI.1
  obtain ⟨b1, b2, b3, b4, b5, b6, b7⟩ := hI0.1
  obtain ⟨b8, b9, b10⟩ := hI.2.1
  have hone := hJ.2.2.2.2.2
  have hK := g0.1
  have hS : va_S A s.heap s.heap [] := va_S.rf
  have hl : lv_has ls 1 [(0, .ref (ad (0, 0)))] := hl
  show Wc p l e 4 0 0 s m args below meth c (fB G A (ad (0, 0)) (fRevoked σ)) A s.heap [] 0 0 0 ls []
  refine lv_aload_n X.ex X.co dX9_revoked_0 rfl (lv_at hl 0 rfl) ?_
  refine f_get X hK (cw_be F) okX9 rfl 6 (by decide) m_112 (fun _ h => h) (v := .ref (ad (1, 6))) rfl dX9_revoked_1 ?_
  refine q_rV X ce_Jx4a65c_size_8abf5 m_144 (c_Jx4a65c_size_8abf5 l G (ad (1, 6)) (g.2.1 (6)) (lrow G g ad (6)) (nCe σ)) (g0.step hS hAg) (cw_lsn F (k := 6) (n := nCe σ) (Or.inl (by omega)) rng_len) (cw_lsn F (k := 6) (n := nCe σ) (Or.inl (by omega)) rng_len) rfl (by decide) rfl hl.1 rfl (Nat.le_of_ble_eq_true rfl) dX9_revoked_4 (by omega) (by omega) ?_
  refine lv_aload_n X.ex X.co dX9_revoked_7 rfl (lv_at hl 0 rfl) ?_
  refine q_rV X ce_X9_countStanding m_160 (c_X9_countStanding l G A g ad σ hI0 hC) (g0.step hS hAg) F (cw_be F) rfl (by decide) rfl hl.1 rfl (Nat.le_of_ble_eq_true rfl) dX9_revoked_8 (by omega) (by omega) ?_
  have hsr := stn_rev σ (nCe σ)
  refine n_sub X (x := nCe σ) (y := stnS σ (nCe σ)) (by omega) dX9_revoked_11 ?_
  exact c_i X hS rfl rfl (by have q : fRevoked σ = (nI ((nCe σ) - (stnS σ (nCe σ))), σ) := (by unfold fRevoked; rw [show nCe σ - stnS σ (nCe σ) = revS σ (nCe σ) by omega]); rw [q]; exact ⟨rfl, h0, ⟨g, ad, rfl, ⟨hC, hgr, hwt, hsb⟩, F⟩⟩) (by omega) (by omega) dX9_revoked_12
