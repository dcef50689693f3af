theorem ce_X9_findStudent : ceV yX9_findStudent cX9_findStudent 2 ((Option.some (FieldType.object "CourseForge$Student"))) 1 := ⟨m_657, mp_11, m_1, m_658, ⟨by decide, by decide, by decide +kernel⟩, by decide⟩
theorem ce_X9_findLesson : ceV yX9_findLesson cX9_findLesson 2 ((Option.some (FieldType.object "CourseForge$Lesson"))) 1 := ⟨m_550, mp_9, m_1, m_551, ⟨by decide, by decide, by decide +kernel⟩, by decide⟩
theorem ce_X9_findExercise : ceV yX9_findExercise cX9_findExercise 2 ((Option.some (FieldType.object "CourseForge$Exercise"))) 1 := ⟨m_628, mp_10, m_1, m_629, ⟨by decide, by decide, by decide +kernel⟩, by decide⟩
theorem ce_X9_findAnswer : ceV yX9_findAnswer cX9_findAnswer 2 ((Option.some (FieldType.object "CourseForge$Answer"))) 1 := ⟨m_766, mp_15, m_1, m_767, ⟨by decide, by decide, by decide +kernel⟩, by decide⟩
theorem ce_X9_findCourse : ceV yX9_findCourse cX9_findCourse 2 ((Option.some (FieldType.object "CourseForge$Course"))) 1 := ⟨m_1165, mp_23, m_1, m_1166, ⟨by decide, by decide, by decide +kernel⟩, by decide⟩
theorem ce_X9_now : ceV yX9_now cX9_now 1 ((Option.some (FieldType.object "CourseForge$Moment"))) 0 := ⟨m_208, mp_1, m_1, m_209, ⟨by decide, by decide, by decide +kernel⟩, by decide⟩
theorem ce_X9_requireRule : ceS yX9_requireRule cX9_requireRule 2 ((Option.none : Option FieldType)) 2 := ⟨m_554, m_1, m_555, ⟨by decide, by decide, by decide +kernel⟩, by decide⟩
set_option maxHeartbeats 4000000 in
set_option maxRecDepth 100000 in
theorem c_X9_findStudent (l : Launch) (G : GT) (A : Nat → Prop) (g : CG) (ad : I2 → Nat) (σ : Sg) (hI0 : MI0 σ) (hC : CL g σ) (j : Nat) (hj : j < nSt σ) : rM l yX9_findStudent cX9_findStudent 2 ((Option.some (FieldType.object "CourseForge$Student"))) 3 G [.ref (ad (0, 0)), .int (nI j)] (fun H => cw G g A ad σ H) (some (.ref (ad (4, j)))) := by
  refine mk_m (by decide) (Nat.le_of_ble_eq_true rfl) ?_
  intro p e s m args below meth c X ls hl g0 F hnm
  have hK := g0.1
  obtain ⟨b1, b2, b3, b4, b5, b6, b7⟩ := hI0.1
  have hl : lv_has ls 2 [(0, .ref (ad (0, 0))), (1, .int (nI j))] := hl
  show Wr p l e 3 s m args below meth c (some (.ref (ad (4, j)))) 0 ls []
  refine lv_iload_n X.ex X.co dX9_findStudent_0 rfl (lv_at hl 1 rfl) ?_
  refine n_if_lt X (x := j) (tgt := 15) (by omega) dX9_findStudent_1 (by decide) (fun c_1 => ?_) (fun c_1 => ?_)
  · exact c_1.elim
  · refine lv_iload_n X.ex X.co dX9_findStudent_4 rfl (lv_at hl 1 rfl) ?_
    refine lv_aload_n X.ex X.co dX9_findStudent_5 rfl (lv_at hl 0 rfl) ?_
    refine f_get X hK (cw_be F) okX9 rfl 1 (by decide) m_107 (fun _ h => h) (v := .ref (ad (1, 1))) rfl dX9_findStudent_6 ?_
    refine q_rV X ce_Jx4a65c_size_8abf5 m_144 (c_Jx4a65c_size_8abf5 l G (ad (1, 1)) (g.2.1 (1)) (lrow G g ad (1)) (nSt σ)) g0 (cw_lsn F (k := 1) (n := nSt σ) (Or.inl (by omega)) rng_len) (cw_lsn F (k := 1) (n := nSt σ) (Or.inl (by omega)) rng_len) rfl (by decide) rfl hl.1 rfl (Nat.le_of_ble_eq_true rfl) dX9_findStudent_9 (by omega) (by omega) ?_
    refine n_cmp_lt X (x := j) (y := nSt σ) (tgt := 26) (by omega) (by omega) dX9_findStudent_12 (by decide) (fun c_2 => ?_) (fun c_2 => ?_)
    · refine lv_aload_n X.ex X.co dX9_findStudent_26 rfl (lv_at hl 0 rfl) ?_
      refine f_get X hK (cw_be F) okX9 rfl 1 (by decide) m_107 (fun _ h => h) (v := .ref (ad (1, 1))) rfl dX9_findStudent_27 ?_
      refine lv_iload_n X.ex X.co dX9_findStudent_30 rfl (lv_at hl 1 rfl) ?_
      refine q_rV X ce_Jx4a65c_get_915e3 m_164 (c_getR l G (ad (1, 1)) (g.2.1 (1)) (lrow G g ad (1)) (nSt σ) (g.1 (1)) (cont (lstN σ (1)) ad) j (by omega) (cl_n hC (Or.inl (by omega)) rng_len) (cl_q hC (Or.inl (by omega))) (cont_get (j := (4, j)) (rng_get (k := 4) (show j < nSt σ by omega)))) g0 (cw_get F hC (k := 1) (x := j) (n := nSt σ) (Or.inl (by omega)) rng_len (by omega)) (cw_get F hC (k := 1) (x := j) (n := nSt σ) (Or.inl (by omega)) rng_len (by omega)).1 rfl (by decide) rfl hl.1 rfl (Nat.le_of_ble_eq_true rfl) dX9_findStudent_31 (by omega) (by omega) ?_
      refine f_castS X hK (cw_st F (i := j) (by omega)) rfl m_230 dX9_findStudent_34 ?_
      exact r_a X rfl (Or.inl ⟨_, rfl⟩) (Or.inr ⟨_, rfl⟩) rfl dX9_findStudent_37
    · exact absurd hj (by omega)
set_option maxHeartbeats 4000000 in
set_option maxRecDepth 100000 in
theorem c_X9_findStudentX (l : Launch) (hst : l.stackTraces = false) (G : GT) (A : Nat → Prop) (hAg : ∀ q, A q → gA G q) (g : CG) (ad : I2 → Nat) (σ : Sg) (hI0 : MI0 σ) (hC : CL g σ) (v : Int32) (hok : okP v (nSt σ) = false) : xM l yX9_findStudent cX9_findStudent 2 ((Option.some (FieldType.object "CourseForge$Student"))) 3 1 6 G [.ref (ad (0, 0)), .int v] (fun H => cw G g A ad σ H) (fun _ _ => False) (fun E H => E = "java/lang/IndexOutOfBoundsException" ∧ cw G g A ad σ H) A := by
  refine mk_x (by decide) (Nat.le_of_ble_eq_true rfl) ?_
  intro p e s m args below meth c X ls hl g0 F hno
  obtain ⟨b1, b2, b3, b4, b5, b6, b7⟩ := hI0.1
  have hK := g0.1
  have hS : va_S A s.heap s.heap [] := va_S.rf
  have hl : lv_has ls 2 [(0, .ref (ad (0, 0))), (1, .int v)] := hl
  show Wx p l e 3 1 6 s m args below meth c (fun _ _ => False) (fun E H => E = "java/lang/IndexOutOfBoundsException" ∧ cw G g A ad σ H) A s.heap [] 0 0 0 ls []
  refine lv_iload_n X.ex X.co dX9_findStudent_0 rfl (lv_at hl 1 rfl) ?_
  refine lv_if_lt (tgt := 15) X.ex X.co dX9_findStudent_1 (by decide) (fun c_1 => ?_) (fun c_1 => ?_)
  · exact x_throwW X hst g0 hAg hS hno (cls := "java/lang/IndexOutOfBoundsException") (text := "no such student") (by decide) m_473 m_20 ok_IOB (tb_3 (List.mem_of_getElem? (i := 155) (by decide +kernel))) hl.1 dX9_findStudent_15 dX9_findStudent_18 dX9_findStudent_19 dX9_findStudent_22 dX9_findStudent_25 (Nat.le_of_ble_eq_true rfl) (by omega) (by omega) (fun H1 hz hq => ⟨rfl, fw.old F hq⟩)
  · refine lv_iload_n X.ex X.co dX9_findStudent_4 rfl (lv_at hl 1 rfl) ?_
    refine lv_aload_n X.ex X.co dX9_findStudent_5 rfl (lv_at hl 0 rfl) ?_
    refine f_get X hK (cw_be F) okX9 rfl 1 (by decide) m_107 (fun _ h => h) (v := .ref (ad (1, 1))) rfl dX9_findStudent_6 ?_
    refine q_rV X ce_Jx4a65c_size_8abf5 m_144 (c_Jx4a65c_size_8abf5 l G (ad (1, 1)) (g.2.1 (1)) (lrow G g ad (1)) (nSt σ)) (g0.step hS hAg) (cw_lsn F (k := 1) (n := nSt σ) (Or.inl (by omega)) rng_len) (cw_lsn F (k := 1) (n := nSt σ) (Or.inl (by omega)) rng_len) rfl (by decide) rfl hl.1 rfl (Nat.le_of_ble_eq_true rfl) dX9_findStudent_9 (by omega) (by omega) ?_
    refine lv_icmp_lt (tgt := 26) X.ex X.co dX9_findStudent_12 (by decide) (fun c_2 => ?_) (fun c_2 => ?_)
    · exact absurd c_2 (okP_no (by omega) hok c_1)
    · exact x_throwW X hst g0 hAg hS hno (cls := "java/lang/IndexOutOfBoundsException") (text := "no such student") (by decide) m_473 m_20 ok_IOB (tb_3 (List.mem_of_getElem? (i := 155) (by decide +kernel))) hl.1 dX9_findStudent_15 dX9_findStudent_18 dX9_findStudent_19 dX9_findStudent_22 dX9_findStudent_25 (Nat.le_of_ble_eq_true rfl) (by omega) (by omega) (fun H1 hz hq => ⟨rfl, fw.old F hq⟩)
set_option maxHeartbeats 4000000 in
set_option maxRecDepth 100000 in
theorem c_X9_findLesson (l : Launch) (G : GT) (A : Nat → Prop) (g : CG) (ad : I2 → Nat) (σ : Sg) (hI0 : MI0 σ) (hC : CL g σ) (j : Nat) (hj : j < nLe σ) : rM l yX9_findLesson cX9_findLesson 2 ((Option.some (FieldType.object "CourseForge$Lesson"))) 3 G [.ref (ad (0, 0)), .int (nI j)] (fun H => cw G g A ad σ H) (some (.ref (ad (5, j)))) := by
  refine mk_m (by decide) (Nat.le_of_ble_eq_true rfl) ?_
  intro p e s m args below meth c X ls hl g0 F hnm
  have hK := g0.1
  obtain ⟨b1, b2, b3, b4, b5, b6, b7⟩ := hI0.1
  have hl : lv_has ls 2 [(0, .ref (ad (0, 0))), (1, .int (nI j))] := hl
  show Wr p l e 3 s m args below meth c (some (.ref (ad (5, j)))) 0 ls []
  refine lv_iload_n X.ex X.co dX9_findLesson_0 rfl (lv_at hl 1 rfl) ?_
  refine n_if_lt X (x := j) (tgt := 15) (by omega) dX9_findLesson_1 (by decide) (fun c_1 => ?_) (fun c_1 => ?_)
  · exact c_1.elim
  · refine lv_iload_n X.ex X.co dX9_findLesson_4 rfl (lv_at hl 1 rfl) ?_
    refine lv_aload_n X.ex X.co dX9_findLesson_5 rfl (lv_at hl 0 rfl) ?_
    refine f_get X hK (cw_be F) okX9 rfl 2 (by decide) m_108 (fun _ h => h) (v := .ref (ad (1, 2))) rfl dX9_findLesson_6 ?_
    refine q_rV X ce_Jx4a65c_size_8abf5 m_144 (c_Jx4a65c_size_8abf5 l G (ad (1, 2)) (g.2.1 (2)) (lrow G g ad (2)) (nLe σ)) g0 (cw_lsn F (k := 2) (n := nLe σ) (Or.inl (by omega)) rng_len) (cw_lsn F (k := 2) (n := nLe σ) (Or.inl (by omega)) rng_len) rfl (by decide) rfl hl.1 rfl (Nat.le_of_ble_eq_true rfl) dX9_findLesson_9 (by omega) (by omega) ?_
    refine n_cmp_lt X (x := j) (y := nLe σ) (tgt := 26) (by omega) (by omega) dX9_findLesson_12 (by decide) (fun c_2 => ?_) (fun c_2 => ?_)
    · refine lv_aload_n X.ex X.co dX9_findLesson_26 rfl (lv_at hl 0 rfl) ?_
      refine f_get X hK (cw_be F) okX9 rfl 2 (by decide) m_108 (fun _ h => h) (v := .ref (ad (1, 2))) rfl dX9_findLesson_27 ?_
      refine lv_iload_n X.ex X.co dX9_findLesson_30 rfl (lv_at hl 1 rfl) ?_
      refine q_rV X ce_Jx4a65c_get_915e3 m_164 (c_getR l G (ad (1, 2)) (g.2.1 (2)) (lrow G g ad (2)) (nLe σ) (g.1 (2)) (cont (lstN σ (2)) ad) j (by omega) (cl_n hC (Or.inl (by omega)) rng_len) (cl_q hC (Or.inl (by omega))) (cont_get (j := (5, j)) (rng_get (k := 5) (show j < nLe σ by omega)))) g0 (cw_get F hC (k := 2) (x := j) (n := nLe σ) (Or.inl (by omega)) rng_len (by omega)) (cw_get F hC (k := 2) (x := j) (n := nLe σ) (Or.inl (by omega)) rng_len (by omega)).1 rfl (by decide) rfl hl.1 rfl (Nat.le_of_ble_eq_true rfl) dX9_findLesson_31 (by omega) (by omega) ?_
      refine f_castS X hK (cw_le F (i := j) (by omega)) rfl m_231 dX9_findLesson_34 ?_
      exact r_a X rfl (Or.inl ⟨_, rfl⟩) (Or.inr ⟨_, rfl⟩) rfl dX9_findLesson_37
    · exact absurd hj (by omega)
set_option maxHeartbeats 4000000 in
set_option maxRecDepth 100000 in
theorem c_X9_findLessonX (l : Launch) (hst : l.stackTraces = false) (G : GT) (A : Nat → Prop) (hAg : ∀ q, A q → gA G q) (g : CG) (ad : I2 → Nat) (σ : Sg) (hI0 : MI0 σ) (hC : CL g σ) (v : Int32) (hok : okP v (nLe σ) = false) : xM l yX9_findLesson cX9_findLesson 2 ((Option.some (FieldType.object "CourseForge$Lesson"))) 3 1 6 G [.ref (ad (0, 0)), .int v] (fun H => cw G g A ad σ H) (fun _ _ => False) (fun E H => E = "java/lang/IndexOutOfBoundsException" ∧ cw G g A ad σ H) A := by
  refine mk_x (by decide) (Nat.le_of_ble_eq_true rfl) ?_
  intro p e s m args below meth c X ls hl g0 F hno
  obtain ⟨b1, b2, b3, b4, b5, b6, b7⟩ := hI0.1
  have hK := g0.1
  have hS : va_S A s.heap s.heap [] := va_S.rf
  have hl : lv_has ls 2 [(0, .ref (ad (0, 0))), (1, .int v)] := hl
  show Wx p l e 3 1 6 s m args below meth c (fun _ _ => False) (fun E H => E = "java/lang/IndexOutOfBoundsException" ∧ cw G g A ad σ H) A s.heap [] 0 0 0 ls []
  refine lv_iload_n X.ex X.co dX9_findLesson_0 rfl (lv_at hl 1 rfl) ?_
  refine lv_if_lt (tgt := 15) X.ex X.co dX9_findLesson_1 (by decide) (fun c_1 => ?_) (fun c_1 => ?_)
  · exact x_throwW X hst g0 hAg hS hno (cls := "java/lang/IndexOutOfBoundsException") (text := "no such lesson") (by decide) m_473 m_20 ok_IOB (tb_3 (List.mem_of_getElem? (i := 61) (by decide +kernel))) hl.1 dX9_findLesson_15 dX9_findLesson_18 dX9_findLesson_19 dX9_findLesson_22 dX9_findLesson_25 (Nat.le_of_ble_eq_true rfl) (by omega) (by omega) (fun H1 hz hq => ⟨rfl, fw.old F hq⟩)
  · refine lv_iload_n X.ex X.co dX9_findLesson_4 rfl (lv_at hl 1 rfl) ?_
    refine lv_aload_n X.ex X.co dX9_findLesson_5 rfl (lv_at hl 0 rfl) ?_
    refine f_get X hK (cw_be F) okX9 rfl 2 (by decide) m_108 (fun _ h => h) (v := .ref (ad (1, 2))) rfl dX9_findLesson_6 ?_
    refine q_rV X ce_Jx4a65c_size_8abf5 m_144 (c_Jx4a65c_size_8abf5 l G (ad (1, 2)) (g.2.1 (2)) (lrow G g ad (2)) (nLe σ)) (g0.step hS hAg) (cw_lsn F (k := 2) (n := nLe σ) (Or.inl (by omega)) rng_len) (cw_lsn F (k := 2) (n := nLe σ) (Or.inl (by omega)) rng_len) rfl (by decide) rfl hl.1 rfl (Nat.le_of_ble_eq_true rfl) dX9_findLesson_9 (by omega) (by omega) ?_
    refine lv_icmp_lt (tgt := 26) X.ex X.co dX9_findLesson_12 (by decide) (fun c_2 => ?_) (fun c_2 => ?_)
    · exact absurd c_2 (okP_no (by omega) hok c_1)
    · exact x_throwW X hst g0 hAg hS hno (cls := "java/lang/IndexOutOfBoundsException") (text := "no such lesson") (by decide) m_473 m_20 ok_IOB (tb_3 (List.mem_of_getElem? (i := 61) (by decide +kernel))) hl.1 dX9_findLesson_15 dX9_findLesson_18 dX9_findLesson_19 dX9_findLesson_22 dX9_findLesson_25 (Nat.le_of_ble_eq_true rfl) (by omega) (by omega) (fun H1 hz hq => ⟨rfl, fw.old F hq⟩)
set_option maxHeartbeats 4000000 in
set_option maxRecDepth 100000 in
theorem c_X9_findExercise (l : Launch) (G : GT) (A : Nat → Prop) (g : CG) (ad : I2 → Nat) (σ : Sg) (hI0 : MI0 σ) (hC : CL g σ) (j : Nat) (hj : j < nEx σ) : rM l yX9_findExercise cX9_findExercise 2 ((Option.some (FieldType.object "CourseForge$Exercise"))) 3 G [.ref (ad (0, 0)), .int (nI j)] (fun H => cw G g A ad σ H) (some (.ref (ad (6, j)))) := by
  refine mk_m (by decide) (Nat.le_of_ble_eq_true rfl) ?_
  intro p e s m args below meth c X ls hl g0 F hnm
  have hK := g0.1
  obtain ⟨b1, b2, b3, b4, b5, b6, b7⟩ := hI0.1
  have hl : lv_has ls 2 [(0, .ref (ad (0, 0))), (1, .int (nI j))] := hl
  show Wr p l e 3 s m args below meth c (some (.ref (ad (6, j)))) 0 ls []
  refine lv_iload_n X.ex X.co dX9_findExercise_0 rfl (lv_at hl 1 rfl) ?_
  refine n_if_lt X (x := j) (tgt := 15) (by omega) dX9_findExercise_1 (by decide) (fun c_1 => ?_) (fun c_1 => ?_)
  · exact c_1.elim
  · refine lv_iload_n X.ex X.co dX9_findExercise_4 rfl (lv_at hl 1 rfl) ?_
    refine lv_aload_n X.ex X.co dX9_findExercise_5 rfl (lv_at hl 0 rfl) ?_
    refine f_get X hK (cw_be F) okX9 rfl 3 (by decide) m_109 (fun _ h => h) (v := .ref (ad (1, 3))) rfl dX9_findExercise_6 ?_
    refine q_rV X ce_Jx4a65c_size_8abf5 m_144 (c_Jx4a65c_size_8abf5 l G (ad (1, 3)) (g.2.1 (3)) (lrow G g ad (3)) (nEx σ)) g0 (cw_lsn F (k := 3) (n := nEx σ) (Or.inl (by omega)) rng_len) (cw_lsn F (k := 3) (n := nEx σ) (Or.inl (by omega)) rng_len) rfl (by decide) rfl hl.1 rfl (Nat.le_of_ble_eq_true rfl) dX9_findExercise_9 (by omega) (by omega) ?_
    refine n_cmp_lt X (x := j) (y := nEx σ) (tgt := 26) (by omega) (by omega) dX9_findExercise_12 (by decide) (fun c_2 => ?_) (fun c_2 => ?_)
    · refine lv_aload_n X.ex X.co dX9_findExercise_26 rfl (lv_at hl 0 rfl) ?_
      refine f_get X hK (cw_be F) okX9 rfl 3 (by decide) m_109 (fun _ h => h) (v := .ref (ad (1, 3))) rfl dX9_findExercise_27 ?_
      refine lv_iload_n X.ex X.co dX9_findExercise_30 rfl (lv_at hl 1 rfl) ?_
      refine q_rV X ce_Jx4a65c_get_915e3 m_164 (c_getR l G (ad (1, 3)) (g.2.1 (3)) (lrow G g ad (3)) (nEx σ) (g.1 (3)) (cont (lstN σ (3)) ad) j (by omega) (cl_n hC (Or.inl (by omega)) rng_len) (cl_q hC (Or.inl (by omega))) (cont_get (j := (6, j)) (rng_get (k := 6) (show j < nEx σ by omega)))) g0 (cw_get F hC (k := 3) (x := j) (n := nEx σ) (Or.inl (by omega)) rng_len (by omega)) (cw_get F hC (k := 3) (x := j) (n := nEx σ) (Or.inl (by omega)) rng_len (by omega)).1 rfl (by decide) rfl hl.1 rfl (Nat.le_of_ble_eq_true rfl) dX9_findExercise_31 (by omega) (by omega) ?_
      refine f_castS X hK (cw_ex F (i := j) (by omega)) rfl m_258 dX9_findExercise_34 ?_
      exact r_a X rfl (Or.inl ⟨_, rfl⟩) (Or.inr ⟨_, rfl⟩) rfl dX9_findExercise_37
    · exact absurd hj (by omega)
set_option maxHeartbeats 4000000 in
set_option maxRecDepth 100000 in
theorem c_X9_findExerciseX (l : Launch) (hst : l.stackTraces = false) (G : GT) (A : Nat → Prop) (hAg : ∀ q, A q → gA G q) (g : CG) (ad : I2 → Nat) (σ : Sg) (hI0 : MI0 σ) (hC : CL g σ) (v : Int32) (hok : okP v (nEx σ) = false) : xM l yX9_findExercise cX9_findExercise 2 ((Option.some (FieldType.object "CourseForge$Exercise"))) 3 1 6 G [.ref (ad (0, 0)), .int v] (fun H => cw G g A ad σ H) (fun _ _ => False) (fun E H => E = "java/lang/IndexOutOfBoundsException" ∧ cw G g A ad σ H) A := by
  refine mk_x (by decide) (Nat.le_of_ble_eq_true rfl) ?_
  intro p e s m args below meth c X ls hl g0 F hno
  obtain ⟨b1, b2, b3, b4, b5, b6, b7⟩ := hI0.1
  have hK := g0.1
  have hS : va_S A s.heap s.heap [] := va_S.rf
  have hl : lv_has ls 2 [(0, .ref (ad (0, 0))), (1, .int v)] := hl
  show Wx p l e 3 1 6 s m args below meth c (fun _ _ => False) (fun E H => E = "java/lang/IndexOutOfBoundsException" ∧ cw G g A ad σ H) A s.heap [] 0 0 0 ls []
  refine lv_iload_n X.ex X.co dX9_findExercise_0 rfl (lv_at hl 1 rfl) ?_
  refine lv_if_lt (tgt := 15) X.ex X.co dX9_findExercise_1 (by decide) (fun c_1 => ?_) (fun c_1 => ?_)
  · exact x_throwW X hst g0 hAg hS hno (cls := "java/lang/IndexOutOfBoundsException") (text := "no such exercise") (by decide) m_473 m_20 ok_IOB (tb_3 (List.mem_of_getElem? (i := 136) (by decide +kernel))) hl.1 dX9_findExercise_15 dX9_findExercise_18 dX9_findExercise_19 dX9_findExercise_22 dX9_findExercise_25 (Nat.le_of_ble_eq_true rfl) (by omega) (by omega) (fun H1 hz hq => ⟨rfl, fw.old F hq⟩)
  · refine lv_iload_n X.ex X.co dX9_findExercise_4 rfl (lv_at hl 1 rfl) ?_
    refine lv_aload_n X.ex X.co dX9_findExercise_5 rfl (lv_at hl 0 rfl) ?_
    refine f_get X hK (cw_be F) okX9 rfl 3 (by decide) m_109 (fun _ h => h) (v := .ref (ad (1, 3))) rfl dX9_findExercise_6 ?_
    refine q_rV X ce_Jx4a65c_size_8abf5 m_144 (c_Jx4a65c_size_8abf5 l G (ad (1, 3)) (g.2.1 (3)) (lrow G g ad (3)) (nEx σ)) (g0.step hS hAg) (cw_lsn F (k := 3) (n := nEx σ) (Or.inl (by omega)) rng_len) (cw_lsn F (k := 3) (n := nEx σ) (Or.inl (by omega)) rng_len) rfl (by decide) rfl hl.1 rfl (Nat.le_of_ble_eq_true rfl) dX9_findExercise_9 (by omega) (by omega) ?_
    refine lv_icmp_lt (tgt := 26) X.ex X.co dX9_findExercise_12 (by decide) (fun c_2 => ?_) (fun c_2 => ?_)
    · exact absurd c_2 (okP_no (by omega) hok c_1)
    · exact x_throwW X hst g0 hAg hS hno (cls := "java/lang/IndexOutOfBoundsException") (text := "no such exercise") (by decide) m_473 m_20 ok_IOB (tb_3 (List.mem_of_getElem? (i := 136) (by decide +kernel))) hl.1 dX9_findExercise_15 dX9_findExercise_18 dX9_findExercise_19 dX9_findExercise_22 dX9_findExercise_25 (Nat.le_of_ble_eq_true rfl) (by omega) (by omega) (fun H1 hz hq => ⟨rfl, fw.old F hq⟩)
set_option maxHeartbeats 4000000 in
set_option maxRecDepth 100000 in
theorem c_X9_findAnswer (l : Launch) (G : GT) (A : Nat → Prop) (g : CG) (ad : I2 → Nat) (σ : Sg) (hI0 : MI0 σ) (hC : CL g σ) (j : Nat) (hj : j < nAn σ) : rM l yX9_findAnswer cX9_findAnswer 2 ((Option.some (FieldType.object "CourseForge$Answer"))) 3 G [.ref (ad (0, 0)), .int (nI j)] (fun H => cw G g A ad σ H) (some (.ref (ad (7, j)))) := by
  refine mk_m (by decide) (Nat.le_of_ble_eq_true rfl) ?_
  intro p e s m args below meth c X ls hl g0 F hnm
  have hK := g0.1
  obtain ⟨b1, b2, b3, b4, b5, b6, b7⟩ := hI0.1
  have hl : lv_has ls 2 [(0, .ref (ad (0, 0))), (1, .int (nI j))] := hl
  show Wr p l e 3 s m args below meth c (some (.ref (ad (7, j)))) 0 ls []
  refine lv_iload_n X.ex X.co dX9_findAnswer_0 rfl (lv_at hl 1 rfl) ?_
  refine n_if_lt X (x := j) (tgt := 15) (by omega) dX9_findAnswer_1 (by decide) (fun c_1 => ?_) (fun c_1 => ?_)
  · exact c_1.elim
  · refine lv_iload_n X.ex X.co dX9_findAnswer_4 rfl (lv_at hl 1 rfl) ?_
    refine lv_aload_n X.ex X.co dX9_findAnswer_5 rfl (lv_at hl 0 rfl) ?_
    refine f_get X hK (cw_be F) okX9 rfl 4 (by decide) m_110 (fun _ h => h) (v := .ref (ad (1, 4))) rfl dX9_findAnswer_6 ?_
    refine q_rV X ce_Jx4a65c_size_8abf5 m_144 (c_Jx4a65c_size_8abf5 l G (ad (1, 4)) (g.2.1 (4)) (lrow G g ad (4)) (nAn σ)) g0 (cw_lsn F (k := 4) (n := nAn σ) (Or.inl (by omega)) rng_len) (cw_lsn F (k := 4) (n := nAn σ) (Or.inl (by omega)) rng_len) rfl (by decide) rfl hl.1 rfl (Nat.le_of_ble_eq_true rfl) dX9_findAnswer_9 (by omega) (by omega) ?_
    refine n_cmp_lt X (x := j) (y := nAn σ) (tgt := 26) (by omega) (by omega) dX9_findAnswer_12 (by decide) (fun c_2 => ?_) (fun c_2 => ?_)
    · refine lv_aload_n X.ex X.co dX9_findAnswer_26 rfl (lv_at hl 0 rfl) ?_
      refine f_get X hK (cw_be F) okX9 rfl 4 (by decide) m_110 (fun _ h => h) (v := .ref (ad (1, 4))) rfl dX9_findAnswer_27 ?_
      refine lv_iload_n X.ex X.co dX9_findAnswer_30 rfl (lv_at hl 1 rfl) ?_
      refine q_rV X ce_Jx4a65c_get_915e3 m_164 (c_getR l G (ad (1, 4)) (g.2.1 (4)) (lrow G g ad (4)) (nAn σ) (g.1 (4)) (cont (lstN σ (4)) ad) j (by omega) (cl_n hC (Or.inl (by omega)) rng_len) (cl_q hC (Or.inl (by omega))) (cont_get (j := (7, j)) (rng_get (k := 7) (show j < nAn σ by omega)))) g0 (cw_get F hC (k := 4) (x := j) (n := nAn σ) (Or.inl (by omega)) rng_len (by omega)) (cw_get F hC (k := 4) (x := j) (n := nAn σ) (Or.inl (by omega)) rng_len (by omega)).1 rfl (by decide) rfl hl.1 rfl (Nat.le_of_ble_eq_true rfl) dX9_findAnswer_31 (by omega) (by omega) ?_
      refine f_castS X hK (cw_an F (i := j) (by omega)) rfl m_187 dX9_findAnswer_34 ?_
      exact r_a X rfl (Or.inl ⟨_, rfl⟩) (Or.inr ⟨_, rfl⟩) rfl dX9_findAnswer_37
    · exact absurd hj (by omega)
set_option maxHeartbeats 4000000 in
set_option maxRecDepth 100000 in
theorem c_X9_findAnswerX (l : Launch) (hst : l.stackTraces = false) (G : GT) (A : Nat → Prop) (hAg : ∀ q, A q → gA G q) (g : CG) (ad : I2 → Nat) (σ : Sg) (hI0 : MI0 σ) (hC : CL g σ) (v : Int32) (hok : okP v (nAn σ) = false) : xM l yX9_findAnswer cX9_findAnswer 2 ((Option.some (FieldType.object "CourseForge$Answer"))) 3 1 6 G [.ref (ad (0, 0)), .int v] (fun H => cw G g A ad σ H) (fun _ _ => False) (fun E H => E = "java/lang/IndexOutOfBoundsException" ∧ cw G g A ad σ H) A := by
  refine mk_x (by decide) (Nat.le_of_ble_eq_true rfl) ?_
  intro p e s m args below meth c X ls hl g0 F hno
  obtain ⟨b1, b2, b3, b4, b5, b6, b7⟩ := hI0.1
  have hK := g0.1
  have hS : va_S A s.heap s.heap [] := va_S.rf
  have hl : lv_has ls 2 [(0, .ref (ad (0, 0))), (1, .int v)] := hl
  show Wx p l e 3 1 6 s m args below meth c (fun _ _ => False) (fun E H => E = "java/lang/IndexOutOfBoundsException" ∧ cw G g A ad σ H) A s.heap [] 0 0 0 ls []
  refine lv_iload_n X.ex X.co dX9_findAnswer_0 rfl (lv_at hl 1 rfl) ?_
  refine lv_if_lt (tgt := 15) X.ex X.co dX9_findAnswer_1 (by decide) (fun c_1 => ?_) (fun c_1 => ?_)
  · exact x_throwW X hst g0 hAg hS hno (cls := "java/lang/IndexOutOfBoundsException") (text := "no such answer") (by decide) m_473 m_20 ok_IOB (tb_4 (List.mem_of_getElem? (i := 6) (by decide +kernel))) hl.1 dX9_findAnswer_15 dX9_findAnswer_18 dX9_findAnswer_19 dX9_findAnswer_22 dX9_findAnswer_25 (Nat.le_of_ble_eq_true rfl) (by omega) (by omega) (fun H1 hz hq => ⟨rfl, fw.old F hq⟩)
  · refine lv_iload_n X.ex X.co dX9_findAnswer_4 rfl (lv_at hl 1 rfl) ?_
    refine lv_aload_n X.ex X.co dX9_findAnswer_5 rfl (lv_at hl 0 rfl) ?_
    refine f_get X hK (cw_be F) okX9 rfl 4 (by decide) m_110 (fun _ h => h) (v := .ref (ad (1, 4))) rfl dX9_findAnswer_6 ?_
    refine q_rV X ce_Jx4a65c_size_8abf5 m_144 (c_Jx4a65c_size_8abf5 l G (ad (1, 4)) (g.2.1 (4)) (lrow G g ad (4)) (nAn σ)) (g0.step hS hAg) (cw_lsn F (k := 4) (n := nAn σ) (Or.inl (by omega)) rng_len) (cw_lsn F (k := 4) (n := nAn σ) (Or.inl (by omega)) rng_len) rfl (by decide) rfl hl.1 rfl (Nat.le_of_ble_eq_true rfl) dX9_findAnswer_9 (by omega) (by omega) ?_
    refine lv_icmp_lt (tgt := 26) X.ex X.co dX9_findAnswer_12 (by decide) (fun c_2 => ?_) (fun c_2 => ?_)
    · exact absurd c_2 (okP_no (by omega) hok c_1)
    · exact x_throwW X hst g0 hAg hS hno (cls := "java/lang/IndexOutOfBoundsException") (text := "no such answer") (by decide) m_473 m_20 ok_IOB (tb_4 (List.mem_of_getElem? (i := 6) (by decide +kernel))) hl.1 dX9_findAnswer_15 dX9_findAnswer_18 dX9_findAnswer_19 dX9_findAnswer_22 dX9_findAnswer_25 (Nat.le_of_ble_eq_true rfl) (by omega) (by omega) (fun H1 hz hq => ⟨rfl, fw.old F hq⟩)
set_option maxHeartbeats 4000000 in
set_option maxRecDepth 100000 in
theorem c_X9_findCourse (l : Launch) (G : GT) (A : Nat → Prop) (g : CG) (ad : I2 → Nat) (σ : Sg) (hI0 : MI0 σ) (hC : CL g σ) (j : Nat) (hj : j < nCr σ) : rM l yX9_findCourse cX9_findCourse 2 ((Option.some (FieldType.object "CourseForge$Course"))) 3 G [.ref (ad (0, 0)), .int (nI j)] (fun H => cw G g A ad σ H) (some (.ref (ad (8, j)))) := by
  refine mk_m (by decide) (Nat.le_of_ble_eq_true rfl) ?_
  intro p e s m args below meth c X ls hl g0 F hnm
  have hK := g0.1
  obtain ⟨b1, b2, b3, b4, b5, b6, b7⟩ := hI0.1
  have hl : lv_has ls 2 [(0, .ref (ad (0, 0))), (1, .int (nI j))] := hl
  show Wr p l e 3 s m args below meth c (some (.ref (ad (8, j)))) 0 ls []
  refine lv_iload_n X.ex X.co dX9_findCourse_0 rfl (lv_at hl 1 rfl) ?_
  refine n_if_lt X (x := j) (tgt := 15) (by omega) dX9_findCourse_1 (by decide) (fun c_1 => ?_) (fun c_1 => ?_)
  · exact c_1.elim
  · refine lv_iload_n X.ex X.co dX9_findCourse_4 rfl (lv_at hl 1 rfl) ?_
    refine lv_aload_n X.ex X.co dX9_findCourse_5 rfl (lv_at hl 0 rfl) ?_
    refine f_get X hK (cw_be F) okX9 rfl 5 (by decide) m_111 (fun _ h => h) (v := .ref (ad (1, 5))) rfl dX9_findCourse_6 ?_
    refine q_rV X ce_Jx4a65c_size_8abf5 m_144 (c_Jx4a65c_size_8abf5 l G (ad (1, 5)) (g.2.1 (5)) (lrow G g ad (5)) (nCr σ)) g0 (cw_lsn F (k := 5) (n := nCr σ) (Or.inl (by omega)) rng_len) (cw_lsn F (k := 5) (n := nCr σ) (Or.inl (by omega)) rng_len) rfl (by decide) rfl hl.1 rfl (Nat.le_of_ble_eq_true rfl) dX9_findCourse_9 (by omega) (by omega) ?_
    refine n_cmp_lt X (x := j) (y := nCr σ) (tgt := 26) (by omega) (by omega) dX9_findCourse_12 (by decide) (fun c_2 => ?_) (fun c_2 => ?_)
    · refine lv_aload_n X.ex X.co dX9_findCourse_26 rfl (lv_at hl 0 rfl) ?_
      refine f_get X hK (cw_be F) okX9 rfl 5 (by decide) m_111 (fun _ h => h) (v := .ref (ad (1, 5))) rfl dX9_findCourse_27 ?_
      refine lv_iload_n X.ex X.co dX9_findCourse_30 rfl (lv_at hl 1 rfl) ?_
      refine q_rV X ce_Jx4a65c_get_915e3 m_164 (c_getR l G (ad (1, 5)) (g.2.1 (5)) (lrow G g ad (5)) (nCr σ) (g.1 (5)) (cont (lstN σ (5)) ad) j (by omega) (cl_n hC (Or.inl (by omega)) rng_len) (cl_q hC (Or.inl (by omega))) (cont_get (j := (8, j)) (rng_get (k := 8) (show j < nCr σ by omega)))) g0 (cw_get F hC (k := 5) (x := j) (n := nCr σ) (Or.inl (by omega)) rng_len (by omega)) (cw_get F hC (k := 5) (x := j) (n := nCr σ) (Or.inl (by omega)) rng_len (by omega)).1 rfl (by decide) rfl hl.1 rfl (Nat.le_of_ble_eq_true rfl) dX9_findCourse_31 (by omega) (by omega) ?_
      refine f_castS X hK (cw_cr F (i := j) (by omega)) rfl m_1141 dX9_findCourse_34 ?_
      exact r_a X rfl (Or.inl ⟨_, rfl⟩) (Or.inr ⟨_, rfl⟩) rfl dX9_findCourse_37
    · exact absurd hj (by omega)
set_option maxHeartbeats 4000000 in
set_option maxRecDepth 100000 in
theorem c_X9_findCourseX (l : Launch) (hst : l.stackTraces = false) (G : GT) (A : Nat → Prop) (hAg : ∀ q, A q → gA G q) (g : CG) (ad : I2 → Nat) (σ : Sg) (hI0 : MI0 σ) (hC : CL g σ) (v : Int32) (hok : okP v (nCr σ) = false) : xM l yX9_findCourse cX9_findCourse 2 ((Option.some (FieldType.object "CourseForge$Course"))) 3 1 6 G [.ref (ad (0, 0)), .int v] (fun H => cw G g A ad σ H) (fun _ _ => False) (fun E H => E = "java/lang/IndexOutOfBoundsException" ∧ cw G g A ad σ H) A := by
  refine mk_x (by decide) (Nat.le_of_ble_eq_true rfl) ?_
  intro p e s m args below meth c X ls hl g0 F hno
  obtain ⟨b1, b2, b3, b4, b5, b6, b7⟩ := hI0.1
  have hK := g0.1
  have hS : va_S A s.heap s.heap [] := va_S.rf
  have hl : lv_has ls 2 [(0, .ref (ad (0, 0))), (1, .int v)] := hl
  show Wx p l e 3 1 6 s m args below meth c (fun _ _ => False) (fun E H => E = "java/lang/IndexOutOfBoundsException" ∧ cw G g A ad σ H) A s.heap [] 0 0 0 ls []
  refine lv_iload_n X.ex X.co dX9_findCourse_0 rfl (lv_at hl 1 rfl) ?_
  refine lv_if_lt (tgt := 15) X.ex X.co dX9_findCourse_1 (by decide) (fun c_1 => ?_) (fun c_1 => ?_)
  · exact x_throwW X hst g0 hAg hS hno (cls := "java/lang/IndexOutOfBoundsException") (text := "no such course") (by decide) m_473 m_20 ok_IOB (tb_5 (List.mem_of_getElem? (i := 75) (by decide +kernel))) hl.1 dX9_findCourse_15 dX9_findCourse_18 dX9_findCourse_19 dX9_findCourse_22 dX9_findCourse_25 (Nat.le_of_ble_eq_true rfl) (by omega) (by omega) (fun H1 hz hq => ⟨rfl, fw.old F hq⟩)
  · refine lv_iload_n X.ex X.co dX9_findCourse_4 rfl (lv_at hl 1 rfl) ?_
    refine lv_aload_n X.ex X.co dX9_findCourse_5 rfl (lv_at hl 0 rfl) ?_
    refine f_get X hK (cw_be F) okX9 rfl 5 (by decide) m_111 (fun _ h => h) (v := .ref (ad (1, 5))) rfl dX9_findCourse_6 ?_
    refine q_rV X ce_Jx4a65c_size_8abf5 m_144 (c_Jx4a65c_size_8abf5 l G (ad (1, 5)) (g.2.1 (5)) (lrow G g ad (5)) (nCr σ)) (g0.step hS hAg) (cw_lsn F (k := 5) (n := nCr σ) (Or.inl (by omega)) rng_len) (cw_lsn F (k := 5) (n := nCr σ) (Or.inl (by omega)) rng_len) rfl (by decide) rfl hl.1 rfl (Nat.le_of_ble_eq_true rfl) dX9_findCourse_9 (by omega) (by omega) ?_
    refine lv_icmp_lt (tgt := 26) X.ex X.co dX9_findCourse_12 (by decide) (fun c_2 => ?_) (fun c_2 => ?_)
    · exact absurd c_2 (okP_no (by omega) hok c_1)
    · exact x_throwW X hst g0 hAg hS hno (cls := "java/lang/IndexOutOfBoundsException") (text := "no such course") (by decide) m_473 m_20 ok_IOB (tb_5 (List.mem_of_getElem? (i := 75) (by decide +kernel))) hl.1 dX9_findCourse_15 dX9_findCourse_18 dX9_findCourse_19 dX9_findCourse_22 dX9_findCourse_25 (Nat.le_of_ble_eq_true rfl) (by omega) (by omega) (fun H1 hz hq => ⟨rfl, fw.old F hq⟩)
set_option maxHeartbeats 4000000 in
set_option maxRecDepth 100000 in
theorem c_X9_requireRule (l : Launch) (G : GT) (f a : Int32) (hr : isR f a = true) : rM l yX9_requireRule cX9_requireRule 2 ((Option.none : Option FieldType)) 1 G [.int f, .int a] (fun _ => True) none := by
  refine mk_m (by decide) (Nat.le_of_ble_eq_true rfl) ?_
  intro p e s m args below meth c X ls hl g0 F hnm
  have hK := g0.1
  have hl : lv_has ls 2 [(0, .int f), (1, .int a)] := hl
  show Wr p l e 1 s m args below meth c none 0 ls []
  refine lv_iload_n X.ex X.co dX9_requireRule_0 rfl (lv_at hl 0 rfl) ?_
  refine lv_bipush (v := (-9)) X.ex X.co dX9_requireRule_1 (by decide) ?_
  refine lv_bipush (v := 9) X.ex X.co dX9_requireRule_3 (by decide) ?_
  refine q_rS X ce_X9_isWithin m_513 (c_X9_isWithin l G f (-9) 9) g0 trivial (by decide) rfl hl.1 rfl (Nat.le_of_ble_eq_true rfl) dX9_requireRule_5 (by omega) (by omega) ?_
  refine b_if_eq X (x := inB f (-9) 9) (tgt := 22) dX9_requireRule_8 (by decide) (fun c_1 => ?_) (fun c_1 => ?_)
  · exact absurd hr (by simp [isR, c_1])
  · refine lv_iload_n X.ex X.co dX9_requireRule_11 rfl (lv_at hl 1 rfl) ?_
    refine lv_bipush (v := (-99)) X.ex X.co dX9_requireRule_12 (by decide) ?_
    refine lv_bipush (v := 99) X.ex X.co dX9_requireRule_14 (by decide) ?_
    refine q_rS X ce_X9_isWithin m_513 (c_X9_isWithin l G a (-99) 99) g0 trivial (by decide) rfl hl.1 rfl (Nat.le_of_ble_eq_true rfl) dX9_requireRule_16 (by omega) (by omega) ?_
    refine b_if_ne X (x := inB a (-99) 99) (tgt := 33) dX9_requireRule_19 (by decide) (fun c_2 => ?_) (fun c_2 => ?_)
    · exact r_v X rfl rfl dX9_requireRule_33
    · exact absurd hr (by simp [isR, c_2])
set_option maxHeartbeats 4000000 in
set_option maxRecDepth 100000 in
theorem c_X9_requireRuleX (l : Launch) (hst : l.stackTraces = false) (G : GT) (A : Nat → Prop) (hAg : ∀ q, A q → gA G q) (P : Heap → Prop) (hP : ∀ H H1 : Heap, P H → (∀ q : Nat, q < H.size → H1[q]? = H[q]?) → P H1) (f a : Int32) (hr : isR f a = false) : xM l yX9_requireRule cX9_requireRule 2 ((Option.none : Option FieldType)) 1 1 6 G [.int f, .int a] P (fun _ _ => False) (fun E H => E = "java/lang/IllegalArgumentException" ∧ P H) A := by
  refine mk_x (by decide) (Nat.le_of_ble_eq_true rfl) ?_
  intro p e s m args below meth c X ls hl g0 F hno
  have hK := g0.1
  have hS : va_S A s.heap s.heap [] := va_S.rf
  have hl : lv_has ls 2 [(0, .int f), (1, .int a)] := hl
  show Wx p l e 1 1 6 s m args below meth c (fun _ _ => False) (fun E H => E = "java/lang/IllegalArgumentException" ∧ P H) A s.heap [] 0 0 0 ls []
  refine lv_iload_n X.ex X.co dX9_requireRule_0 rfl (lv_at hl 0 rfl) ?_
  refine lv_bipush (v := (-9)) X.ex X.co dX9_requireRule_1 (by decide) ?_
  refine lv_bipush (v := 9) X.ex X.co dX9_requireRule_3 (by decide) ?_
  refine q_rS X ce_X9_isWithin m_513 (c_X9_isWithin l G f (-9) 9) (g0.step hS hAg) trivial (by decide) rfl hl.1 rfl (Nat.le_of_ble_eq_true rfl) dX9_requireRule_5 (by omega) (by omega) ?_
  refine b_if_eq X (x := inB f (-9) 9) (tgt := 22) dX9_requireRule_8 (by decide) (fun c_1 => ?_) (fun c_1 => ?_)
  · exact x_throwW X hst g0 hAg hS hno (cls := "java/lang/IllegalArgumentException") (text := "the factor or the addend is out of range") (by decide) m_274 m_13 ok_IAE (tb_3 (List.mem_of_getElem? (i := 65) (by decide +kernel))) hl.1 dX9_requireRule_22 dX9_requireRule_25 dX9_requireRule_26 dX9_requireRule_29 dX9_requireRule_32 (Nat.le_of_ble_eq_true rfl) (by omega) (by omega) (fun H1 hz hq => ⟨rfl, hP _ _ F hq⟩)
  · refine lv_iload_n X.ex X.co dX9_requireRule_11 rfl (lv_at hl 1 rfl) ?_
    refine lv_bipush (v := (-99)) X.ex X.co dX9_requireRule_12 (by decide) ?_
    refine lv_bipush (v := 99) X.ex X.co dX9_requireRule_14 (by decide) ?_
    refine q_rS X ce_X9_isWithin m_513 (c_X9_isWithin l G a (-99) 99) (g0.step hS hAg) trivial (by decide) rfl hl.1 rfl (Nat.le_of_ble_eq_true rfl) dX9_requireRule_16 (by omega) (by omega) ?_
    refine b_if_ne X (x := inB a (-99) 99) (tgt := 33) dX9_requireRule_19 (by decide) (fun c_2 => ?_) (fun c_2 => ?_)
    · exact absurd hr (by simp [isR, c_1, c_2])
    · exact x_throwW X hst g0 hAg hS hno (cls := "java/lang/IllegalArgumentException") (text := "the factor or the addend is out of range") (by decide) m_274 m_13 ok_IAE (tb_3 (List.mem_of_getElem? (i := 65) (by decide +kernel))) hl.1 dX9_requireRule_22 dX9_requireRule_25 dX9_requireRule_26 dX9_requireRule_29 dX9_requireRule_32 (Nat.le_of_ble_eq_true rfl) (by omega) (by omega) (fun H1 hz hq => ⟨rfl, hP _ _ F hq⟩)
