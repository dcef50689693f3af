set_option maxHeartbeats 4000000 in
set_option maxRecDepth 100000 in
theorem c_X9_versionOf (l : Launch) (hst : l.stackTraces = false) (G : GT) (A : Nat → Prop) (hAg : ∀ q, A q → gA G q) (b : Nat) (σ : Sg) (hI : MI σ) (hJ : MJ σ) (h0 : σ.1 0 0 = 0) (la : Int32) : xM l yX9_versionOf cX9_versionOf 2 ((Option.some FieldType.int)) 4 1 6 G [.ref b, .int la] (fun H => CB G A b σ H ∧ ∀ q, H.size ≤ q → A q) (fB G A b (fVersionOf σ la)) (fX ["java/lang/IndexOutOfBoundsException"] G A b (fVersionOf σ la)) A := by
  refine mk_x (by decide) (Nat.le_of_ble_eq_true rfl) ?_
  intro p e s m args below meth c X ls hl g0 F hno
  obtain ⟨⟨g, ad, hb0, ⟨hC, hgr, hwt, hsb⟩, F⟩, hfr⟩ := F
  subst hb0
  have hI0 := hI.1
  obtain ⟨b1, b2, b3, b4, b5, b6, b7⟩ := hI0.1
  obtain ⟨b8, b9, b10⟩ := hI.2.1
  have hone := hJ.2.2.2.2.2
  have hK := g0.1
  have hS : va_S A s.heap s.heap [] := va_S.rf
  have hl : lv_has ls 2 [(0, .ref (ad (0, 0))), (1, .int la)] := hl
  show Wx p l e 4 1 6 s m args below meth c (fB G A (ad (0, 0)) (fVersionOf σ la)) (fX ["java/lang/IndexOutOfBoundsException"] G A (ad (0, 0)) (fVersionOf σ la)) A s.heap [] 0 0 0 ls []
  refine lv_aload_n X.ex X.co dX9_versionOf_0 rfl (lv_at hl 0 rfl) ?_
  refine lv_iload_n X.ex X.co dX9_versionOf_1 rfl (lv_at hl 1 rfl) ?_
  rcases hok_1 : okP la (nLe σ) with _ | _
  · exact x_V X ce_X9_findLesson m_548 (c_X9_findLessonX l hst G A hAg g ad σ hI0 hC la hok_1) (g0.step hS hAg) F (cw_be F) rfl (by decide) rfl hl.1 rfl (Nat.le_of_ble_eq_true rfl) dX9_versionOf_2 (by omega) (by omega) hS (fun _ h => h) hno (fun E H1 hB hz hq => fX_err (k := 0) (by show (fVersionOf σ la) = err σ 1; simp only [fVersionOf]; simp [hok_1]) (by rw [hB.1]; rfl) (⟨g, ad, rfl, ⟨hC, hgr, hwt, hsb⟩, hB.2⟩ : CB G A (ad (0, 0)) σ H1)) (fun v0 H1 locs1 hB => hB.elim)
  · have ok_la := hok_1
    obtain ⟨j_la, hj_la, rfl⟩ := (okP_ix (by omega)).mp ok_la
    have ex_la := ix_nI (j := j_la) (by omega)
    refine q_rV X ce_X9_findLesson m_548 (c_X9_findLesson l G A g ad σ hI0 hC j_la (by omega)) (g0.step hS hAg) F (cw_be F) rfl (by decide) rfl hl.1 rfl (Nat.le_of_ble_eq_true rfl) dX9_versionOf_2 (by omega) (by omega) ?_
    refine f_get X hK (cw_le F (i := j_la) (by omega)) okX5 rfl 3 (by decide) m_531 (fun _ h => h) (v := .int (σ.2 10 j_la)) rfl dX9_versionOf_5 ?_
    exact vx_ret (c_i X hS rfl rfl (by have q : (fVersionOf σ (nI j_la)) = ((σ.2 10 j_la), σ) := (by simp only [fVersionOf]; simp [ok_la, ex_la]); rw [q]; exact ⟨rfl, h0, ⟨g, ad, rfl, ⟨hC, hgr, hwt, hsb⟩, F⟩⟩) (by omega) (by omega) dX9_versionOf_8)
set_option maxHeartbeats 4000000 in
set_option maxRecDepth 100000 in
theorem c_X9_gradeOf (l : Launch) (hst : l.stackTraces = false) (G : GT) (A : Nat → Prop) (hAg : ∀ q, A q → gA G q) (b : Nat) (σ : Sg) (hI : MI σ) (hJ : MJ σ) (h0 : σ.1 0 0 = 0) (aa : Int32) : xM l yX9_gradeOf cX9_gradeOf 2 ((Option.some FieldType.int)) 4 1 6 G [.ref b, .int aa] (fun H => CB G A b σ H ∧ ∀ q, H.size ≤ q → A q) (fB G A b (fGradeOf σ aa)) (fX ["java/lang/IndexOutOfBoundsException"] G A b (fGradeOf σ aa)) A := by
  refine mk_x (by decide) (Nat.le_of_ble_eq_true rfl) ?_
  intro p e s m args below meth c X ls hl g0 F hno
  obtain ⟨⟨g, ad, hb0, ⟨hC, hgr, hwt, hsb⟩, F⟩, hfr⟩ := F
  subst hb0
  have hI0 := hI.1
  obtain ⟨b1, b2, b3, b4, b5, b6, b7⟩ := hI0.1
  obtain ⟨b8, b9, b10⟩ := hI.2.1
  have hone := hJ.2.2.2.2.2
  have hK := g0.1
  have hS : va_S A s.heap s.heap [] := va_S.rf
  have hl : lv_has ls 2 [(0, .ref (ad (0, 0))), (1, .int aa)] := hl
  show Wx p l e 4 1 6 s m args below meth c (fB G A (ad (0, 0)) (fGradeOf σ aa)) (fX ["java/lang/IndexOutOfBoundsException"] G A (ad (0, 0)) (fGradeOf σ aa)) A s.heap [] 0 0 0 ls []
  refine lv_aload_n X.ex X.co dX9_gradeOf_0 rfl (lv_at hl 0 rfl) ?_
  refine lv_iload_n X.ex X.co dX9_gradeOf_1 rfl (lv_at hl 1 rfl) ?_
  rcases hok_1 : okP aa (nAn σ) with _ | _
  · exact x_V X ce_X9_findAnswer m_764 (c_X9_findAnswerX l hst G A hAg g ad σ hI0 hC aa hok_1) (g0.step hS hAg) F (cw_be F) rfl (by decide) rfl hl.1 rfl (Nat.le_of_ble_eq_true rfl) dX9_gradeOf_2 (by omega) (by omega) hS (fun _ h => h) hno (fun E H1 hB hz hq => fX_err (k := 0) (by show (fGradeOf σ aa) = err σ 1; simp only [fGradeOf]; simp [hok_1]) (by rw [hB.1]; rfl) (⟨g, ad, rfl, ⟨hC, hgr, hwt, hsb⟩, hB.2⟩ : CB G A (ad (0, 0)) σ H1)) (fun v0 H1 locs1 hB => hB.elim)
  · have ok_aa := hok_1
    obtain ⟨j_aa, hj_aa, rfl⟩ := (okP_ix (by omega)).mp ok_aa
    have ex_aa := ix_nI (j := j_aa) (by omega)
    refine q_rV X ce_X9_findAnswer m_764 (c_X9_findAnswer l G A g ad σ hI0 hC j_aa (by omega)) (g0.step hS hAg) F (cw_be F) rfl (by decide) rfl hl.1 rfl (Nat.le_of_ble_eq_true rfl) dX9_gradeOf_2 (by omega) (by omega) ?_
    refine f_get X hK (cw_an F (i := j_aa) (by omega)) okX0 rfl 5 (by decide) m_727 (fun _ h => h) (v := .int (grade σ j_aa)) (by rw [← hgr j_aa (by omega)]; rfl) dX9_gradeOf_5 ?_
    exact vx_ret (c_i X hS rfl rfl (by have q : (fGradeOf σ (nI j_aa)) = ((grade σ j_aa), σ) := (by simp only [fGradeOf]; simp [ok_aa, ex_aa]); rw [q]; exact ⟨rfl, h0, ⟨g, ad, rfl, ⟨hC, hgr, hwt, hsb⟩, F⟩⟩) (by omega) (by omega) dX9_gradeOf_8)
set_option maxHeartbeats 4000000 in
set_option maxRecDepth 100000 in
theorem c_X9_gradeAnew (l : Launch) (hst : l.stackTraces = false) (G : GT) (A : Nat → Prop) (hAg : ∀ q, A q → gA G q) (b : Nat) (σ : Sg) (hI : MI σ) (hJ : MJ σ) (h0 : σ.1 0 0 = 0) (aa : Int32) : xM l yX9_gradeAnew cX9_gradeAnew 2 ((Option.some FieldType.int)) 4 1 6 G [.ref b, .int aa] (fun H => CB G A b σ H ∧ ∀ q, H.size ≤ q → A q) (fB G A b (fGradeOf σ aa)) (fX ["java/lang/IndexOutOfBoundsException"] G A b (fGradeOf σ aa)) A := by
  refine mk_x (by decide) (Nat.le_of_ble_eq_true rfl) ?_
  intro p e s m args below meth c X ls hl g0 F hno
  obtain ⟨⟨g, ad, hb0, ⟨hC, hgr, hwt, hsb⟩, F⟩, hfr⟩ := F
  subst hb0
  have hI0 := hI.1
  obtain ⟨b1, b2, b3, b4, b5, b6, b7⟩ := hI0.1
  obtain ⟨b8, b9, b10⟩ := hI.2.1
  have hone := hJ.2.2.2.2.2
  have hK := g0.1
  have hS : va_S A s.heap s.heap [] := va_S.rf
  have hl : lv_has ls 2 [(0, .ref (ad (0, 0))), (1, .int aa)] := hl
  show Wx p l e 4 1 6 s m args below meth c (fB G A (ad (0, 0)) (fGradeOf σ aa)) (fX ["java/lang/IndexOutOfBoundsException"] G A (ad (0, 0)) (fGradeOf σ aa)) A s.heap [] 0 0 0 ls []
  refine lv_aload_n X.ex X.co dX9_gradeAnew_0 rfl (lv_at hl 0 rfl) ?_
  refine lv_iload_n X.ex X.co dX9_gradeAnew_1 rfl (lv_at hl 1 rfl) ?_
  rcases hok_1 : okP aa (nAn σ) with _ | _
  · exact x_V X ce_X9_findAnswer m_764 (c_X9_findAnswerX l hst G A hAg g ad σ hI0 hC aa hok_1) (g0.step hS hAg) F (cw_be F) rfl (by decide) rfl hl.1 rfl (Nat.le_of_ble_eq_true rfl) dX9_gradeAnew_2 (by omega) (by omega) hS (fun _ h => h) hno (fun E H1 hB hz hq => fX_err (k := 0) (by show (fGradeOf σ aa) = err σ 1; simp only [fGradeOf]; simp [hok_1]) (by rw [hB.1]; rfl) (⟨g, ad, rfl, ⟨hC, hgr, hwt, hsb⟩, hB.2⟩ : CB G A (ad (0, 0)) σ H1)) (fun v0 H1 locs1 hB => hB.elim)
  · have ok_aa := hok_1
    obtain ⟨j_aa, hj_aa, rfl⟩ := (okP_ix (by omega)).mp ok_aa
    have ex_aa := ix_nI (j := j_aa) (by omega)
    refine q_rV X ce_X9_findAnswer m_764 (c_X9_findAnswer l G A g ad σ hI0 hC j_aa (by omega)) (g0.step hS hAg) F (cw_be F) rfl (by decide) rfl hl.1 rfl (Nat.le_of_ble_eq_true rfl) dX9_gradeAnew_2 (by omega) (by omega) ?_
    have g_2_1 := hI0.an (i := j_aa) (by omega); have g_2_2 := hI0.ex (i := exe σ j_aa) (by omega); have g_2_3 := allS_b hI0 (e := exe σ j_aa) (by omega) _ (Nat.le_refl _)
    refine q_rV X ce_X0_gradeByRule m_188 (c_X0_gradeByRule l G ad σ (ad (7, j_aa)) (ad (12, j_aa)) (exe σ j_aa) (σ.2 22 j_aa) (σ.2 23 j_aa) (σ.2 25 j_aa) (by omega) (by omega)) (g0.step hS hAg) ⟨cw_exC F (i := exe σ j_aa) (by omega), cw_an F (i := j_aa) (by omega), cw_ra F (i := j_aa) (by omega)⟩ (cw_an F (i := j_aa) (by omega)) rfl (by decide) rfl hl.1 rfl (Nat.le_of_ble_eq_true rfl) dX9_gradeAnew_5 (by omega) (by omega) ?_
    refine top_eq (y := grade σ j_aa) (grade_R hI0 (by omega)) ?_
    exact vx_ret (c_i X hS rfl rfl (by have q : (fGradeOf σ (nI j_aa)) = ((grade σ j_aa), σ) := (by simp only [fGradeOf]; simp [ok_aa, ex_aa]); rw [q]; exact ⟨rfl, h0, ⟨g, ad, rfl, ⟨hC, hgr, hwt, hsb⟩, F⟩⟩) (by omega) (by omega) dX9_gradeAnew_8)
set_option maxHeartbeats 4000000 in
set_option maxRecDepth 100000 in
theorem c_X9_studentOf (l : Launch) (hst : l.stackTraces = false) (G : GT) (A : Nat → Prop) (hAg : ∀ q, A q → gA G q) (b : Nat) (σ : Sg) (hI : MI σ) (hJ : MJ σ) (h0 : σ.1 0 0 = 0) (aa : Int32) : xM l yX9_studentOf cX9_studentOf 2 ((Option.some FieldType.int)) 4 1 6 G [.ref b, .int aa] (fun H => CB G A b σ H ∧ ∀ q, H.size ≤ q → A q) (fB G A b (fStudentOf σ aa)) (fX ["java/lang/IndexOutOfBoundsException"] G A b (fStudentOf σ aa)) A := by
  refine mk_x (by decide) (Nat.le_of_ble_eq_true rfl) ?_
  intro p e s m args below meth c X ls hl g0 F hno
  obtain ⟨⟨g, ad, hb0, ⟨hC, hgr, hwt, hsb⟩, F⟩, hfr⟩ := F
  subst hb0
  have hI0 := hI.1
  obtain ⟨b1, b2, b3, b4, b5, b6, b7⟩ := hI0.1
  obtain ⟨b8, b9, b10⟩ := hI.2.1
  have hone := hJ.2.2.2.2.2
  have hK := g0.1
  have hS : va_S A s.heap s.heap [] := va_S.rf
  have hl : lv_has ls 2 [(0, .ref (ad (0, 0))), (1, .int aa)] := hl
  show Wx p l e 4 1 6 s m args below meth c (fB G A (ad (0, 0)) (fStudentOf σ aa)) (fX ["java/lang/IndexOutOfBoundsException"] G A (ad (0, 0)) (fStudentOf σ aa)) A s.heap [] 0 0 0 ls []
  refine lv_aload_n X.ex X.co dX9_studentOf_0 rfl (lv_at hl 0 rfl) ?_
  refine lv_iload_n X.ex X.co dX9_studentOf_1 rfl (lv_at hl 1 rfl) ?_
  rcases hok_1 : okP aa (nAn σ) with _ | _
  · exact x_V X ce_X9_findAnswer m_764 (c_X9_findAnswerX l hst G A hAg g ad σ hI0 hC aa hok_1) (g0.step hS hAg) F (cw_be F) rfl (by decide) rfl hl.1 rfl (Nat.le_of_ble_eq_true rfl) dX9_studentOf_2 (by omega) (by omega) hS (fun _ h => h) hno (fun E H1 hB hz hq => fX_err (k := 0) (by show (fStudentOf σ aa) = err σ 1; simp only [fStudentOf]; simp [hok_1]) (by rw [hB.1]; rfl) (⟨g, ad, rfl, ⟨hC, hgr, hwt, hsb⟩, hB.2⟩ : CB G A (ad (0, 0)) σ H1)) (fun v0 H1 locs1 hB => hB.elim)
  · have ok_aa := hok_1
    obtain ⟨j_aa, hj_aa, rfl⟩ := (okP_ix (by omega)).mp ok_aa
    have ex_aa := ix_nI (j := j_aa) (by omega)
    refine q_rV X ce_X9_findAnswer m_764 (c_X9_findAnswer l G A g ad σ hI0 hC j_aa (by omega)) (g0.step hS hAg) F (cw_be F) rfl (by decide) rfl hl.1 rfl (Nat.le_of_ble_eq_true rfl) dX9_studentOf_2 (by omega) (by omega) ?_
    refine f_get X hK (cw_an F (i := j_aa) (by omega)) okX0 rfl 1 (by decide) m_717 (fun _ h => h) (v := .ref (ad (4, stu σ j_aa))) rfl dX9_studentOf_5 ?_
    have hf_f_2 := hI0.an (i := j_aa) (by omega)
    refine f_get X hK (cw_st F (i := stu σ j_aa) (by omega)) okX8 rfl 0 (by decide) m_493 (fun _ h => h) (v := .int (nI (stu σ j_aa))) rfl dX9_studentOf_8 ?_
    exact vx_ret (c_i X hS rfl rfl (by have q : (fStudentOf σ (nI j_aa)) = (nI (stu σ j_aa), σ) := (by simp only [fStudentOf]; simp [ok_aa, ex_aa]); rw [q]; exact ⟨rfl, h0, ⟨g, ad, rfl, ⟨hC, hgr, hwt, hsb⟩, F⟩⟩) (by omega) (by omega) dX9_studentOf_11)
set_option maxHeartbeats 4000000 in
set_option maxRecDepth 100000 in
theorem c_X9_dayOf (l : Launch) (hst : l.stackTraces = false) (G : GT) (A : Nat → Prop) (hAg : ∀ q, A q → gA G q) (b : Nat) (σ : Sg) (hI : MI σ) (hJ : MJ σ) (h0 : σ.1 0 0 = 0) (aa : Int32) : xM l yX9_dayOf cX9_dayOf 2 ((Option.some FieldType.int)) 4 1 6 G [.ref b, .int aa] (fun H => CB G A b σ H ∧ ∀ q, H.size ≤ q → A q) (fB G A b (fDayOf σ aa)) (fX ["java/lang/IndexOutOfBoundsException"] G A b (fDayOf σ aa)) A := by
  refine mk_x (by decide) (Nat.le_of_ble_eq_true rfl) ?_
  intro p e s m args below meth c X ls hl g0 F hno
  obtain ⟨⟨g, ad, hb0, ⟨hC, hgr, hwt, hsb⟩, F⟩, hfr⟩ := F
  subst hb0
  have hI0 := hI.1
  obtain ⟨b1, b2, b3, b4, b5, b6, b7⟩ := hI0.1
  obtain ⟨b8, b9, b10⟩ := hI.2.1
  have hone := hJ.2.2.2.2.2
  have hK := g0.1
  have hS : va_S A s.heap s.heap [] := va_S.rf
  have hl : lv_has ls 2 [(0, .ref (ad (0, 0))), (1, .int aa)] := hl
  show Wx p l e 4 1 6 s m args below meth c (fB G A (ad (0, 0)) (fDayOf σ aa)) (fX ["java/lang/IndexOutOfBoundsException"] G A (ad (0, 0)) (fDayOf σ aa)) A s.heap [] 0 0 0 ls []
  refine lv_aload_n X.ex X.co dX9_dayOf_0 rfl (lv_at hl 0 rfl) ?_
  refine lv_iload_n X.ex X.co dX9_dayOf_1 rfl (lv_at hl 1 rfl) ?_
  rcases hok_1 : okP aa (nAn σ) with _ | _
  · exact x_V X ce_X9_findAnswer m_764 (c_X9_findAnswerX l hst G A hAg g ad σ hI0 hC aa hok_1) (g0.step hS hAg) F (cw_be F) rfl (by decide) rfl hl.1 rfl (Nat.le_of_ble_eq_true rfl) dX9_dayOf_2 (by omega) (by omega) hS (fun _ h => h) hno (fun E H1 hB hz hq => fX_err (k := 0) (by show (fDayOf σ aa) = err σ 1; simp only [fDayOf]; simp [hok_1]) (by rw [hB.1]; rfl) (⟨g, ad, rfl, ⟨hC, hgr, hwt, hsb⟩, hB.2⟩ : CB G A (ad (0, 0)) σ H1)) (fun v0 H1 locs1 hB => hB.elim)
  · have ok_aa := hok_1
    obtain ⟨j_aa, hj_aa, rfl⟩ := (okP_ix (by omega)).mp ok_aa
    have ex_aa := ix_nI (j := j_aa) (by omega)
    refine q_rV X ce_X9_findAnswer m_764 (c_X9_findAnswer l G A g ad σ hI0 hC j_aa (by omega)) (g0.step hS hAg) F (cw_be F) rfl (by decide) rfl hl.1 rfl (Nat.le_of_ble_eq_true rfl) dX9_dayOf_2 (by omega) (by omega) ?_
    refine f_get X hK (cw_an F (i := j_aa) (by omega)) okX0 rfl 4 (by decide) m_723 (fun _ h => h) (v := .int (σ.2 24 j_aa)) rfl dX9_dayOf_5 ?_
    exact vx_ret (c_i X hS rfl rfl (by have q : (fDayOf σ (nI j_aa)) = ((σ.2 24 j_aa), σ) := (by simp only [fDayOf]; simp [ok_aa, ex_aa]); rw [q]; exact ⟨rfl, h0, ⟨g, ad, rfl, ⟨hC, hgr, hwt, hsb⟩, F⟩⟩) (by omega) (by omega) dX9_dayOf_8)
set_option maxHeartbeats 4000000 in
set_option maxRecDepth 100000 in
theorem c_X9_appealAt (l : Launch) (hst : l.stackTraces = false) (G : GT) (A : Nat → Prop) (hAg : ∀ q, A q → gA G q) (b : Nat) (σ : Sg) (hI : MI σ) (hJ : MJ σ) (h0 : σ.1 0 0 = 0) (qa : Int32) : xM l yX9_appealAt cX9_appealAt 2 ((Option.some FieldType.int)) 4 1 6 G [.ref b, .int qa] (fun H => CB G A b σ H ∧ ∀ q, H.size ≤ q → A q) (fB G A b (fAppealAt σ qa)) (fX ["java/lang/IndexOutOfBoundsException"] G A b (fAppealAt σ qa)) A := by
  refine mk_x (by decide) (Nat.le_of_ble_eq_true rfl) ?_
  intro p e s m args below meth c X ls hl g0 F hno
  obtain ⟨⟨g, ad, hb0, ⟨hC, hgr, hwt, hsb⟩, F⟩, hfr⟩ := F
  subst hb0
  have hI0 := hI.1
  obtain ⟨b1, b2, b3, b4, b5, b6, b7⟩ := hI0.1
  obtain ⟨b8, b9, b10⟩ := hI.2.1
  have hone := hJ.2.2.2.2.2
  have hK := g0.1
  have hS : va_S A s.heap s.heap [] := va_S.rf
  have hl : lv_has ls 2 [(0, .ref (ad (0, 0))), (1, .int qa)] := hl
  show Wx p l e 4 1 6 s m args below meth c (fB G A (ad (0, 0)) (fAppealAt σ qa)) (fX ["java/lang/IndexOutOfBoundsException"] G A (ad (0, 0)) (fAppealAt σ qa)) A s.heap [] 0 0 0 ls []
  rcases hok_1 : okP qa (nAp σ) with _ | _
  · refine lv_iload_n X.ex X.co dX9_appealAt_0 rfl (lv_at hl 1 rfl) ?_
    refine lv_if_lt (tgt := 15) X.ex X.co dX9_appealAt_1 (by decide) (fun c_2 => ?_) (fun c_2 => ?_)
    · exact x_throw X hst g0 hAg hS hno (cls := "java/lang/IndexOutOfBoundsException") (text := "no such position") (by decide) m_473 m_20 ok_IOB (tb_5 (List.mem_of_getElem? (i := 172) (by decide +kernel))) hl.1 dX9_appealAt_15 dX9_appealAt_18 dX9_appealAt_19 dX9_appealAt_21 dX9_appealAt_24 (Nat.le_of_ble_eq_true rfl) (by omega) (by omega) (fun H1 hz hq => fX_err (k := 0) (by show (fAppealAt σ qa) = err σ 1; simp only [fAppealAt]; simp [hok_1]) rfl (CB_old (⟨g, ad, rfl, ⟨hC, hgr, hwt, hsb⟩, F⟩ : CB G A (ad (0, 0)) σ _) hq))
    · refine lv_iload_n X.ex X.co dX9_appealAt_4 rfl (lv_at hl 1 rfl) ?_
      refine lv_aload_n X.ex X.co dX9_appealAt_5 rfl (lv_at hl 0 rfl) ?_
      refine f_get X hK (cw_be F) okX9 rfl 7 (by decide) m_113 (fun _ h => h) (v := .ref (ad (1, 7))) rfl dX9_appealAt_6 ?_
      refine q_rV X ce_Jx4a65c_size_8abf5 m_144 (c_Jx4a65c_size_8abf5 l G (ad (1, 7)) (g.2.1 (7)) (lrow G g ad (7)) (nAp σ)) (g0.step hS hAg) (cw_lsn F (k := 7) (n := nAp σ) (Or.inl (by omega)) rng_len) (cw_lsn F (k := 7) (n := nAp σ) (Or.inl (by omega)) rng_len) rfl (by decide) rfl hl.1 rfl (Nat.le_of_ble_eq_true rfl) dX9_appealAt_9 (by omega) (by omega) ?_
      refine lv_icmp_lt (tgt := 25) X.ex X.co dX9_appealAt_12 (by decide) (fun c_3 => ?_) (fun c_3 => ?_)
      · exact absurd c_3 (okP_no (by omega) hok_1 c_2)
      · exact x_throw X hst g0 hAg hS hno (cls := "java/lang/IndexOutOfBoundsException") (text := "no such position") (by decide) m_473 m_20 ok_IOB (tb_5 (List.mem_of_getElem? (i := 172) (by decide +kernel))) hl.1 dX9_appealAt_15 dX9_appealAt_18 dX9_appealAt_19 dX9_appealAt_21 dX9_appealAt_24 (Nat.le_of_ble_eq_true rfl) (by omega) (by omega) (fun H1 hz hq => fX_err (k := 0) (by show (fAppealAt σ qa) = err σ 1; simp only [fAppealAt]; simp [hok_1]) rfl (CB_old (⟨g, ad, rfl, ⟨hC, hgr, hwt, hsb⟩, F⟩ : CB G A (ad (0, 0)) σ _) hq))
  · have ok_qa := hok_1
    obtain ⟨j_qa, hj_qa, rfl⟩ := (okP_ix (by omega)).mp ok_qa
    have ex_qa := ix_nI (j := j_qa) (by omega)
    refine lv_iload_n X.ex X.co dX9_appealAt_0 rfl (lv_at hl 1 rfl) ?_
    refine n_if_lt X (x := j_qa) (tgt := 15) (by omega) dX9_appealAt_1 (by decide) (fun c_4 => ?_) (fun c_4 => ?_)
    · exact c_4.elim
    · refine lv_iload_n X.ex X.co dX9_appealAt_4 rfl (lv_at hl 1 rfl) ?_
      refine lv_aload_n X.ex X.co dX9_appealAt_5 rfl (lv_at hl 0 rfl) ?_
      refine f_get X hK (cw_be F) okX9 rfl 7 (by decide) m_113 (fun _ h => h) (v := .ref (ad (1, 7))) rfl dX9_appealAt_6 ?_
      refine q_rV X ce_Jx4a65c_size_8abf5 m_144 (c_Jx4a65c_size_8abf5 l G (ad (1, 7)) (g.2.1 (7)) (lrow G g ad (7)) (nAp σ)) (g0.step hS hAg) (cw_lsn F (k := 7) (n := nAp σ) (Or.inl (by omega)) rng_len) (cw_lsn F (k := 7) (n := nAp σ) (Or.inl (by omega)) rng_len) rfl (by decide) rfl hl.1 rfl (Nat.le_of_ble_eq_true rfl) dX9_appealAt_9 (by omega) (by omega) ?_
      refine n_cmp_lt X (x := j_qa) (y := nAp σ) (tgt := 25) (by omega) (by omega) dX9_appealAt_12 (by decide) (fun c_5 => ?_) (fun c_5 => ?_)
      · refine lv_aload_n X.ex X.co dX9_appealAt_25 rfl (lv_at hl 0 rfl) ?_
        refine f_get X hK (cw_be F) okX9 rfl 7 (by decide) m_113 (fun _ h => h) (v := .ref (ad (1, 7))) rfl dX9_appealAt_26 ?_
        refine lv_iload_n X.ex X.co dX9_appealAt_29 rfl (lv_at hl 1 rfl) ?_
        have ha_6 := hI.ap (i := j_qa) (by omega)
        refine q_rV X ce_Jx4a65c_get_915e3 m_164 (c_getR l G (ad (1, 7)) (g.2.1 (7)) (lrow G g ad (7)) (nAp σ) (g.1 (7)) (cont (lstN σ (7)) ad) j_qa (by omega) (cl_n hC (Or.inl (by omega)) rng_len) (cl_q hC (Or.inl (by omega))) (cont_get (j := (7, app σ j_qa)) (app_get (show j_qa < nAp σ by omega)))) (g0.step hS hAg) (cw_get F hC (k := 7) (x := j_qa) (n := nAp σ) (Or.inl (by omega)) rng_len (by omega)) (cw_get F hC (k := 7) (x := j_qa) (n := nAp σ) (Or.inl (by omega)) rng_len (by omega)).1 rfl (by decide) rfl hl.1 rfl (Nat.le_of_ble_eq_true rfl) dX9_appealAt_30 (by omega) (by omega) ?_
        refine f_castS X hK (cw_an F (i := app σ j_qa) (by omega)) rfl m_187 dX9_appealAt_33 ?_
        refine f_get X hK (cw_an F (i := app σ j_qa) (by omega)) okX0 rfl 0 (by decide) m_714 (fun _ h => h) (v := .int (nI (app σ j_qa))) rfl dX9_appealAt_36 ?_
        exact vx_ret (c_i X hS rfl rfl (by have q : (fAppealAt σ (nI j_qa)) = (nI (app σ j_qa), σ) := (by simp only [fAppealAt]; simp [ok_qa, ex_qa]); rw [q]; exact ⟨rfl, h0, ⟨g, ad, rfl, ⟨hC, hgr, hwt, hsb⟩, F⟩⟩) (by omega) (by omega) dX9_appealAt_39)
      · exact absurd hj_qa (by omega)
set_option maxHeartbeats 4000000 in
set_option maxRecDepth 100000 in
theorem c_X9_harmedAt (l : Launch) (hst : l.stackTraces = false) (G : GT) (A : Nat → Prop) (hAg : ∀ q, A q → gA G q) (b : Nat) (σ : Sg) (hI : MI σ) (hJ : MJ σ) (h0 : σ.1 0 0 = 0) (qa : Int32) : xM l yX9_harmedAt cX9_harmedAt 2 ((Option.some FieldType.int)) 4 1 6 G [.ref b, .int qa] (fun H => CB G A b σ H ∧ ∀ q, H.size ≤ q → A q) (fB G A b (fHarmedAt σ qa)) (fX ["java/lang/IndexOutOfBoundsException"] G A b (fHarmedAt σ qa)) A := by
  refine mk_x (by decide) (Nat.le_of_ble_eq_true rfl) ?_
  intro p e s m args below meth c X ls hl g0 F hno
  obtain ⟨⟨g, ad, hb0, ⟨hC, hgr, hwt, hsb⟩, F⟩, hfr⟩ := F
  subst hb0
  have hI0 := hI.1
  obtain ⟨b1, b2, b3, b4, b5, b6, b7⟩ := hI0.1
  obtain ⟨b8, b9, b10⟩ := hI.2.1
  have hone := hJ.2.2.2.2.2
  have hK := g0.1
  have hS : va_S A s.heap s.heap [] := va_S.rf
  have hl : lv_has ls 2 [(0, .ref (ad (0, 0))), (1, .int qa)] := hl
  show Wx p l e 4 1 6 s m args below meth c (fB G A (ad (0, 0)) (fHarmedAt σ qa)) (fX ["java/lang/IndexOutOfBoundsException"] G A (ad (0, 0)) (fHarmedAt σ qa)) A s.heap [] 0 0 0 ls []
  rcases hok_1 : okP qa (nHa σ) with _ | _
  · refine lv_iload_n X.ex X.co dX9_harmedAt_0 rfl (lv_at hl 1 rfl) ?_
    refine lv_if_lt (tgt := 15) X.ex X.co dX9_harmedAt_1 (by decide) (fun c_2 => ?_) (fun c_2 => ?_)
    · exact x_throw X hst g0 hAg hS hno (cls := "java/lang/IndexOutOfBoundsException") (text := "no such position") (by decide) m_473 m_20 ok_IOB (tb_5 (List.mem_of_getElem? (i := 172) (by decide +kernel))) hl.1 dX9_harmedAt_15 dX9_harmedAt_18 dX9_harmedAt_19 dX9_harmedAt_21 dX9_harmedAt_24 (Nat.le_of_ble_eq_true rfl) (by omega) (by omega) (fun H1 hz hq => fX_err (k := 0) (by show (fHarmedAt σ qa) = err σ 1; simp only [fHarmedAt]; simp [hok_1]) rfl (CB_old (⟨g, ad, rfl, ⟨hC, hgr, hwt, hsb⟩, F⟩ : CB G A (ad (0, 0)) σ _) hq))
    · refine lv_iload_n X.ex X.co dX9_harmedAt_4 rfl (lv_at hl 1 rfl) ?_
      refine lv_aload_n X.ex X.co dX9_harmedAt_5 rfl (lv_at hl 0 rfl) ?_
      refine f_get X hK (cw_be F) okX9 rfl 8 (by decide) m_114 (fun _ h => h) (v := .ref (ad (1, 8))) rfl dX9_harmedAt_6 ?_
      refine q_rV X ce_Jx4a65c_size_8abf5 m_144 (c_Jx4a65c_size_8abf5 l G (ad (1, 8)) (g.2.1 (8)) (lrow G g ad (8)) (nHa σ)) (g0.step hS hAg) (cw_lsn F (k := 8) (n := nHa σ) (Or.inl (by omega)) rng_len) (cw_lsn F (k := 8) (n := nHa σ) (Or.inl (by omega)) rng_len) rfl (by decide) rfl hl.1 rfl (Nat.le_of_ble_eq_true rfl) dX9_harmedAt_9 (by omega) (by omega) ?_
      refine lv_icmp_lt (tgt := 25) X.ex X.co dX9_harmedAt_12 (by decide) (fun c_3 => ?_) (fun c_3 => ?_)
      · exact absurd c_3 (okP_no (by omega) hok_1 c_2)
      · exact x_throw X hst g0 hAg hS hno (cls := "java/lang/IndexOutOfBoundsException") (text := "no such position") (by decide) m_473 m_20 ok_IOB (tb_5 (List.mem_of_getElem? (i := 172) (by decide +kernel))) hl.1 dX9_harmedAt_15 dX9_harmedAt_18 dX9_harmedAt_19 dX9_harmedAt_21 dX9_harmedAt_24 (Nat.le_of_ble_eq_true rfl) (by omega) (by omega) (fun H1 hz hq => fX_err (k := 0) (by show (fHarmedAt σ qa) = err σ 1; simp only [fHarmedAt]; simp [hok_1]) rfl (CB_old (⟨g, ad, rfl, ⟨hC, hgr, hwt, hsb⟩, F⟩ : CB G A (ad (0, 0)) σ _) hq))
  · have ok_qa := hok_1
    obtain ⟨j_qa, hj_qa, rfl⟩ := (okP_ix (by omega)).mp ok_qa
    have ex_qa := ix_nI (j := j_qa) (by omega)
    refine lv_iload_n X.ex X.co dX9_harmedAt_0 rfl (lv_at hl 1 rfl) ?_
    refine n_if_lt X (x := j_qa) (tgt := 15) (by omega) dX9_harmedAt_1 (by decide) (fun c_4 => ?_) (fun c_4 => ?_)
    · exact c_4.elim
    · refine lv_iload_n X.ex X.co dX9_harmedAt_4 rfl (lv_at hl 1 rfl) ?_
      refine lv_aload_n X.ex X.co dX9_harmedAt_5 rfl (lv_at hl 0 rfl) ?_
      refine f_get X hK (cw_be F) okX9 rfl 8 (by decide) m_114 (fun _ h => h) (v := .ref (ad (1, 8))) rfl dX9_harmedAt_6 ?_
      refine q_rV X ce_Jx4a65c_size_8abf5 m_144 (c_Jx4a65c_size_8abf5 l G (ad (1, 8)) (g.2.1 (8)) (lrow G g ad (8)) (nHa σ)) (g0.step hS hAg) (cw_lsn F (k := 8) (n := nHa σ) (Or.inl (by omega)) rng_len) (cw_lsn F (k := 8) (n := nHa σ) (Or.inl (by omega)) rng_len) rfl (by decide) rfl hl.1 rfl (Nat.le_of_ble_eq_true rfl) dX9_harmedAt_9 (by omega) (by omega) ?_
      refine n_cmp_lt X (x := j_qa) (y := nHa σ) (tgt := 25) (by omega) (by omega) dX9_harmedAt_12 (by decide) (fun c_5 => ?_) (fun c_5 => ?_)
      · refine lv_aload_n X.ex X.co dX9_harmedAt_25 rfl (lv_at hl 0 rfl) ?_
        refine f_get X hK (cw_be F) okX9 rfl 8 (by decide) m_114 (fun _ h => h) (v := .ref (ad (1, 8))) rfl dX9_harmedAt_26 ?_
        refine lv_iload_n X.ex X.co dX9_harmedAt_29 rfl (lv_at hl 1 rfl) ?_
        have ha_6 := hI.ha (i := j_qa) (by omega)
        refine q_rV X ce_Jx4a65c_get_915e3 m_164 (c_getR l G (ad (1, 8)) (g.2.1 (8)) (lrow G g ad (8)) (nHa σ) (g.1 (8)) (cont (lstN σ (8)) ad) j_qa (by omega) (cl_n hC (Or.inl (by omega)) rng_len) (cl_q hC (Or.inl (by omega))) (cont_get (j := (7, har σ j_qa)) (har_get (show j_qa < nHa σ by omega)))) (g0.step hS hAg) (cw_get F hC (k := 8) (x := j_qa) (n := nHa σ) (Or.inl (by omega)) rng_len (by omega)) (cw_get F hC (k := 8) (x := j_qa) (n := nHa σ) (Or.inl (by omega)) rng_len (by omega)).1 rfl (by decide) rfl hl.1 rfl (Nat.le_of_ble_eq_true rfl) dX9_harmedAt_30 (by omega) (by omega) ?_
        refine f_castS X hK (cw_an F (i := har σ j_qa) (by omega)) rfl m_187 dX9_harmedAt_33 ?_
        refine f_get X hK (cw_an F (i := har σ j_qa) (by omega)) okX0 rfl 0 (by decide) m_714 (fun _ h => h) (v := .int (nI (har σ j_qa))) rfl dX9_harmedAt_36 ?_
        exact vx_ret (c_i X hS rfl rfl (by have q : (fHarmedAt σ (nI j_qa)) = (nI (har σ j_qa), σ) := (by simp only [fHarmedAt]; simp [ok_qa, ex_qa]); rw [q]; exact ⟨rfl, h0, ⟨g, ad, rfl, ⟨hC, hgr, hwt, hsb⟩, F⟩⟩) (by omega) (by omega) dX9_harmedAt_39)
      · exact absurd hj_qa (by omega)
set_option maxHeartbeats 4000000 in
set_option maxRecDepth 100000 in
theorem c_X9_doesStand (l : Launch) (hst : l.stackTraces = false) (G : GT) (A : Nat → Prop) (hAg : ∀ q, A q → gA G q) (b : Nat) (σ : Sg) (hI : MI σ) (hJ : MJ σ) (h0 : σ.1 0 0 = 0) (ca : Int32) : xM l yX9_doesStand cX9_doesStand 2 ((Option.some FieldType.boolean)) 4 1 6 G [.ref b, .int ca] (fun H => CB G A b σ H ∧ ∀ q, H.size ≤ q → A q) (fB G A b (fDoesStand σ ca)) (fX ["java/lang/IndexOutOfBoundsException"] G A b (fDoesStand σ ca)) A := by
  refine mk_x (by decide) (Nat.le_of_ble_eq_true rfl) ?_
  intro p e s m args below meth c X ls hl g0 F hno
  obtain ⟨⟨g, ad, hb0, ⟨hC, hgr, hwt, hsb⟩, F⟩, hfr⟩ := F
  subst hb0
  have hI0 := hI.1
  obtain ⟨b1, b2, b3, b4, b5, b6, b7⟩ := hI0.1
  obtain ⟨b8, b9, b10⟩ := hI.2.1
  have hone := hJ.2.2.2.2.2
  have hK := g0.1
  have hS : va_S A s.heap s.heap [] := va_S.rf
  have hl : lv_has ls 2 [(0, .ref (ad (0, 0))), (1, .int ca)] := hl
  show Wx p l e 4 1 6 s m args below meth c (fB G A (ad (0, 0)) (fDoesStand σ ca)) (fX ["java/lang/IndexOutOfBoundsException"] G A (ad (0, 0)) (fDoesStand σ ca)) A s.heap [] 0 0 0 ls []
  rcases hok_1 : okP ca (nCe σ) with _ | _
  · refine lv_iload_n X.ex X.co dX9_doesStand_0 rfl (lv_at hl 1 rfl) ?_
    refine lv_if_lt (tgt := 15) X.ex X.co dX9_doesStand_1 (by decide) (fun c_2 => ?_) (fun c_2 => ?_)
    · exact x_throwW X hst g0 hAg hS hno (cls := "java/lang/IndexOutOfBoundsException") (text := "no such certificate") (by decide) m_473 m_20 ok_IOB (tb_5 (List.mem_of_getElem? (i := 181) (by decide +kernel))) hl.1 dX9_doesStand_15 dX9_doesStand_18 dX9_doesStand_19 dX9_doesStand_22 dX9_doesStand_25 (Nat.le_of_ble_eq_true rfl) (by omega) (by omega) (fun H1 hz hq => fX_err (k := 0) (by show (fDoesStand σ ca) = err σ 1; simp only [fDoesStand]; simp [hok_1]) rfl (CB_old (⟨g, ad, rfl, ⟨hC, hgr, hwt, hsb⟩, F⟩ : CB G A (ad (0, 0)) σ _) hq))
    · refine lv_iload_n X.ex X.co dX9_doesStand_4 rfl (lv_at hl 1 rfl) ?_
      refine lv_aload_n X.ex X.co dX9_doesStand_5 rfl (lv_at hl 0 rfl) ?_
      refine f_get X hK (cw_be F) okX9 rfl 6 (by decide) m_112 (fun _ h => h) (v := .ref (ad (1, 6))) rfl dX9_doesStand_6 ?_
      refine q_rV X ce_Jx4a65c_size_8abf5 m_144 (c_Jx4a65c_size_8abf5 l G (ad (1, 6)) (g.2.1 (6)) (lrow G g ad (6)) (nCe σ)) (g0.step hS hAg) (cw_lsn F (k := 6) (n := nCe σ) (Or.inl (by omega)) rng_len) (cw_lsn F (k := 6) (n := nCe σ) (Or.inl (by omega)) rng_len) rfl (by decide) rfl hl.1 rfl (Nat.le_of_ble_eq_true rfl) dX9_doesStand_9 (by omega) (by omega) ?_
      refine lv_icmp_lt (tgt := 26) X.ex X.co dX9_doesStand_12 (by decide) (fun c_3 => ?_) (fun c_3 => ?_)
      · exact absurd c_3 (okP_no (by omega) hok_1 c_2)
      · exact x_throwW X hst g0 hAg hS hno (cls := "java/lang/IndexOutOfBoundsException") (text := "no such certificate") (by decide) m_473 m_20 ok_IOB (tb_5 (List.mem_of_getElem? (i := 181) (by decide +kernel))) hl.1 dX9_doesStand_15 dX9_doesStand_18 dX9_doesStand_19 dX9_doesStand_22 dX9_doesStand_25 (Nat.le_of_ble_eq_true rfl) (by omega) (by omega) (fun H1 hz hq => fX_err (k := 0) (by show (fDoesStand σ ca) = err σ 1; simp only [fDoesStand]; simp [hok_1]) rfl (CB_old (⟨g, ad, rfl, ⟨hC, hgr, hwt, hsb⟩, F⟩ : CB G A (ad (0, 0)) σ _) hq))
  · have ok_ca := hok_1
    obtain ⟨j_ca, hj_ca, rfl⟩ := (okP_ix (by omega)).mp ok_ca
    have ex_ca := ix_nI (j := j_ca) (by omega)
    refine lv_iload_n X.ex X.co dX9_doesStand_0 rfl (lv_at hl 1 rfl) ?_
    refine n_if_lt X (x := j_ca) (tgt := 15) (by omega) dX9_doesStand_1 (by decide) (fun c_4 => ?_) (fun c_4 => ?_)
    · exact c_4.elim
    · refine lv_iload_n X.ex X.co dX9_doesStand_4 rfl (lv_at hl 1 rfl) ?_
      refine lv_aload_n X.ex X.co dX9_doesStand_5 rfl (lv_at hl 0 rfl) ?_
      refine f_get X hK (cw_be F) okX9 rfl 6 (by decide) m_112 (fun _ h => h) (v := .ref (ad (1, 6))) rfl dX9_doesStand_6 ?_
      refine q_rV X ce_Jx4a65c_size_8abf5 m_144 (c_Jx4a65c_size_8abf5 l G (ad (1, 6)) (g.2.1 (6)) (lrow G g ad (6)) (nCe σ)) (g0.step hS hAg) (cw_lsn F (k := 6) (n := nCe σ) (Or.inl (by omega)) rng_len) (cw_lsn F (k := 6) (n := nCe σ) (Or.inl (by omega)) rng_len) rfl (by decide) rfl hl.1 rfl (Nat.le_of_ble_eq_true rfl) dX9_doesStand_9 (by omega) (by omega) ?_
      refine n_cmp_lt X (x := j_ca) (y := nCe σ) (tgt := 26) (by omega) (by omega) dX9_doesStand_12 (by decide) (fun c_5 => ?_) (fun c_5 => ?_)
      · refine lv_aload_n X.ex X.co dX9_doesStand_26 rfl (lv_at hl 0 rfl) ?_
        refine f_get X hK (cw_be F) okX9 rfl 6 (by decide) m_112 (fun _ h => h) (v := .ref (ad (1, 6))) rfl dX9_doesStand_27 ?_
        refine lv_iload_n X.ex X.co dX9_doesStand_30 rfl (lv_at hl 1 rfl) ?_
        refine q_rV X ce_Jx4a65c_get_915e3 m_164 (c_getR l G (ad (1, 6)) (g.2.1 (6)) (lrow G g ad (6)) (nCe σ) (g.1 (6)) (cont (lstN σ (6)) ad) j_ca (by omega) (cl_n hC (Or.inl (by omega)) rng_len) (cl_q hC (Or.inl (by omega))) (cont_get (j := (9, j_ca)) (rng_get (k := 9) (show j_ca < nCe σ by omega)))) (g0.step hS hAg) (cw_get F hC (k := 6) (x := j_ca) (n := nCe σ) (Or.inl (by omega)) rng_len (by omega)) (cw_get F hC (k := 6) (x := j_ca) (n := nCe σ) (Or.inl (by omega)) rng_len (by omega)).1 rfl (by decide) rfl hl.1 rfl (Nat.le_of_ble_eq_true rfl) dX9_doesStand_31 (by omega) (by omega) ?_
        refine f_castS X hK (cw_ce F (i := j_ca) (by omega)) rfl m_178 dX9_doesStand_34 ?_
        refine f_get X hK (cw_ce F (i := j_ca) (by omega)) okX1 rfl 4 (by decide) m_1188 (fun _ h => h) (v := .int (bI (decide (σ.2 41 j_ca = 0)))) rfl dX9_doesStand_37 ?_
        exact vx_ret (c_i X hS rfl (bI_nar _) (by have q : (fDoesStand σ (nI j_ca)) = (bI (decide (σ.2 41 j_ca = 0)), σ) := (by simp only [fDoesStand]; simp [ok_ca, ex_ca]); rw [q]; exact ⟨rfl, h0, ⟨g, ad, rfl, ⟨hC, hgr, hwt, hsb⟩, F⟩⟩) (by omega) (by omega) dX9_doesStand_40)
      · exact absurd hj_ca (by omega)
