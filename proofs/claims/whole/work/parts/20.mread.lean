theorem ce_X10_in : ceS yX10_in cX10_in 3 ((Option.some FieldType.boolean)) 3 := ⟨m_1495, m_9, m_1496, ⟨by decide, by decide, by decide +kernel⟩, by decide⟩
theorem ce_X10_isRule : ceS yX10_isRule cX10_isRule 2 ((Option.some FieldType.boolean)) 2 := ⟨m_1518, m_9, m_1519, ⟨by decide, by decide, by decide +kernel⟩, by decide⟩
theorem ce_X10_fails : ceV yX10_fails cX10_fails 3 ((Option.some FieldType.boolean)) 2 := ⟨m_1499, mp_25, m_9, m_1500, ⟨by decide, by decide, by decide +kernel⟩, by decide⟩
theorem ce_X10_noStudent : ceV yX10_noStudent cX10_noStudent 2 ((Option.some FieldType.boolean)) 1 := ⟨m_1542, mp_29, m_9, m_1543, ⟨by decide, by decide, by decide +kernel⟩, by decide⟩
theorem ce_X10_noLesson : ceV yX10_noLesson cX10_noLesson 2 ((Option.some FieldType.boolean)) 1 := ⟨m_1515, mp_26, m_9, m_1516, ⟨by decide, by decide, by decide +kernel⟩, by decide⟩
theorem ce_X10_noExercise : ceV yX10_noExercise cX10_noExercise 2 ((Option.some FieldType.boolean)) 1 := ⟨m_1526, mp_27, m_9, m_1527, ⟨by decide, by decide, by decide +kernel⟩, by decide⟩
theorem ce_X10_noAnswer : ceV yX10_noAnswer cX10_noAnswer 2 ((Option.some FieldType.boolean)) 1 := ⟨m_1594, mp_38, m_9, m_1595, ⟨by decide, by decide, by decide +kernel⟩, by decide⟩
theorem ce_X10_noCourse : ceV yX10_noCourse cX10_noCourse 2 ((Option.some FieldType.boolean)) 1 := ⟨m_1680, mp_42, m_9, m_1681, ⟨by decide, by decide, by decide +kernel⟩, by decide⟩
theorem ce_X10_isAnswered : ceV yX10_isAnswered cX10_isAnswered 4 ((Option.some FieldType.boolean)) 1 := ⟨m_1530, mp_28, m_9, m_1531, ⟨by decide, by decide, by decide +kernel⟩, by decide⟩
theorem ce_X10_credit : ceV yX10_credit cX10_credit 7 ((Option.some FieldType.int)) 2 := ⟨m_1570, mp_36, m_9, m_1571, ⟨by decide, by decide, by decide +kernel⟩, by decide⟩
theorem ce_X10_grade : ceV yX10_grade cX10_grade 6 ((Option.some FieldType.int)) 1 := ⟨m_1566, mp_35, m_9, m_1567, ⟨by decide, by decide, by decide +kernel⟩, by decide⟩
theorem ce_X10_worth : ceV yX10_worth cX10_worth 4 ((Option.some FieldType.int)) 2 := ⟨m_1562, mp_34, m_9, m_1563, ⟨by decide, by decide, by decide +kernel⟩, by decide⟩
theorem ce_X10_best : ceV yX10_best cX10_best 8 ((Option.some FieldType.int)) 4 := ⟨m_1558, mp_33, m_9, m_1559, ⟨by decide, by decide, by decide +kernel⟩, by decide⟩
theorem ce_X10_masteryBy : ceV yX10_masteryBy cX10_masteryBy 10 ((Option.some FieldType.int)) 5 := ⟨m_1554, mp_32, m_9, m_1555, ⟨by decide, by decide, by decide +kernel⟩, by decide⟩
theorem ce_X10_masteryNow : ceV yX10_masteryNow cX10_masteryNow 3 ((Option.some FieldType.int)) 2 := ⟨m_1550, mp_31, m_9, m_1551, ⟨by decide, by decide, by decide +kernel⟩, by decide⟩
theorem ce_X10_isOpen : ceV yX10_isOpen cX10_isOpen 5 ((Option.some FieldType.boolean)) 2 := ⟨m_1546, mp_30, m_9, m_1547, ⟨by decide, by decide, by decide +kernel⟩, by decide⟩
theorem ce_X10_why : ceV yX10_why cX10_why 3 ((Option.some FieldType.char)) 2 := ⟨m_1578, mp_37, m_9, m_1579, ⟨by decide, by decide, by decide +kernel⟩, by decide⟩
theorem ce_X10_isWaiting : ceV yX10_isWaiting cX10_isWaiting 4 ((Option.some FieldType.boolean)) 1 := ⟨m_1632, mp_39, m_9, m_1633, ⟨by decide, by decide, by decide +kernel⟩, by decide⟩
theorem ce_X10_drop : ceV yX10_drop cX10_drop 4 ((Option.none : Option FieldType)) 1 := ⟨m_1640, mp_40, m_9, m_1641, ⟨by decide, by decide, by decide +kernel⟩, by decide⟩
theorem ce_X10_isEnough : ceV yX10_isEnough cX10_isEnough 5 ((Option.some FieldType.boolean)) 1 := ⟨m_1660, mp_41, m_9, m_1661, ⟨by decide, by decide, by decide +kernel⟩, by decide⟩
theorem ce_X10_standing : ceV yX10_standing cX10_standing 5 ((Option.some FieldType.int)) 2 := ⟨m_1684, mp_43, m_9, m_1685, ⟨by decide, by decide, by decide +kernel⟩, by decide⟩
theorem ce_X10_revokedNow : ceV yX10_revokedNow cX10_revokedNow 3 ((Option.some FieldType.int)) 0 := ⟨m_1700, mp_44, m_9, m_1701, ⟨by decide, by decide, by decide +kernel⟩, by decide⟩
theorem ce_X10_put : ceV yX10_put cX10_put 2 ((Option.none : Option FieldType)) 1 := ⟨m_1732, mp_46, m_9, m_1733, ⟨by decide, by decide, by decide +kernel⟩, by decide⟩
theorem ce_X10_putNumber : ceV yX10_putNumber cX10_putNumber 3 ((Option.none : Option FieldType)) 1 := ⟨m_1736, mp_47, m_9, m_1737, ⟨by decide, by decide, by decide +kernel⟩, by decide⟩
theorem ce_X10_putAnswer : ceV yX10_putAnswer cX10_putAnswer 1 ((Option.none : Option FieldType)) 0 := ⟨m_1728, mp_45, m_9, m_1729, ⟨by decide, by decide, by decide +kernel⟩, by decide⟩
theorem ce_X10_putPassed : ceV yX10_putPassed cX10_putPassed 2 ((Option.none : Option FieldType)) 1 := ⟨m_1740, mp_48, m_9, m_1741, ⟨by decide, by decide, by decide +kernel⟩, by decide⟩
set_option maxHeartbeats 4000000 in
set_option maxRecDepth 100000 in
theorem c_X10_in (l : Launch) (G : GT) (v lo hi : Int32) : rM l yX10_in cX10_in 3 ((Option.some FieldType.boolean)) 0 G [.int v, .int lo, .int hi] (fun _ => True) (some (.int (bI (inB v lo hi)))) := by
  refine mk_m (by decide) (Nat.le_of_ble_eq_true rfl) ?_
  intro p e s m args below meth c X ls hl g0 F hnm
  have hK := g0.1
  have hl : lv_has ls 3 [(0, .int v), (1, .int lo), (2, .int hi)] := hl
  show Wr p l e 0 s m args below meth c (some (.int (bI (inB v lo hi)))) 0 ls []
  refine lv_iload_n X.ex X.co dX10_in_0 rfl (lv_at hl 0 rfl) ?_
  refine lv_iload_n X.ex X.co dX10_in_1 rfl (lv_at hl 1 rfl) ?_
  refine lv_icmp_lt (tgt := 14) X.ex X.co dX10_in_2 (by decide) (fun c_1 => ?_) (fun c_1 => ?_)
  · refine lv_iconst (v := 0) X.ex X.co dX10_in_14 (by decide) ?_
    exact r_i X rfl (by decide) (by simp [inB, bI, *]) dX10_in_15
  · refine lv_iload_n X.ex X.co dX10_in_5 rfl (lv_at hl 0 rfl) ?_
    refine lv_iload_n X.ex X.co dX10_in_6 rfl (lv_at hl 2 rfl) ?_
    refine lv_icmp_gt (tgt := 14) X.ex X.co dX10_in_7 (by decide) (fun c_2 => ?_) (fun c_2 => ?_)
    · refine lv_iconst (v := 0) X.ex X.co dX10_in_14 (by decide) ?_
      exact r_i X rfl (by decide) (by simp [inB, bI, *]) dX10_in_15
    · refine lv_iconst (v := 1) X.ex X.co dX10_in_10 (by decide) ?_
      refine lv_goto (tgt := 15) X.ex X.co dX10_in_11 (by decide) ?_
      exact r_i X rfl (by decide) (by simp [inB, bI, *]) dX10_in_15
set_option maxHeartbeats 4000000 in
set_option maxRecDepth 100000 in
theorem c_X10_isRule (l : Launch) (G : GT) (f a : Int32) : rM l yX10_isRule cX10_isRule 2 ((Option.some FieldType.boolean)) 1 G [.int f, .int a] (fun _ => True) (some (.int (bI (isR f a)))) := by
  refine mk_m (by decide) (Nat.le_of_ble_eq_true rfl) ?_
  intro p e s m args below meth c X ls hl g0 F hnm
  have hK := g0.1
  have hl : lv_has ls 2 [(0, .int f), (1, .int a)] := hl
  show Wr p l e 1 s m args below meth c (some (.int (bI (isR f a)))) 0 ls []
  refine lv_iload_n X.ex X.co dX10_isRule_0 rfl (lv_at hl 0 rfl) ?_
  refine lv_bipush (v := (-9)) X.ex X.co dX10_isRule_1 (by decide) ?_
  refine lv_bipush (v := 9) X.ex X.co dX10_isRule_3 (by decide) ?_
  refine q_rS X ce_X10_in m_1494 (c_X10_in l G f (-9) 9) g0 trivial (by decide) rfl hl.1 rfl (Nat.le_of_ble_eq_true rfl) dX10_isRule_5 (by omega) (by omega) ?_
  refine b_if_eq X (x := inB f (-9) 9) (tgt := 26) dX10_isRule_8 (by decide) (fun c_1 => ?_) (fun c_1 => ?_)
  · refine lv_iconst (v := 0) X.ex X.co dX10_isRule_26 (by decide) ?_
    exact r_i X rfl (by decide) (by simp [isR, bI, *]) dX10_isRule_27
  · refine lv_iload_n X.ex X.co dX10_isRule_11 rfl (lv_at hl 1 rfl) ?_
    refine lv_bipush (v := (-99)) X.ex X.co dX10_isRule_12 (by decide) ?_
    refine lv_bipush (v := 99) X.ex X.co dX10_isRule_14 (by decide) ?_
    refine q_rS X ce_X10_in m_1494 (c_X10_in l G a (-99) 99) g0 trivial (by decide) rfl hl.1 rfl (Nat.le_of_ble_eq_true rfl) dX10_isRule_16 (by omega) (by omega) ?_
    refine b_if_eq X (x := inB a (-99) 99) (tgt := 26) dX10_isRule_19 (by decide) (fun c_2 => ?_) (fun c_2 => ?_)
    · refine lv_iconst (v := 0) X.ex X.co dX10_isRule_26 (by decide) ?_
      exact r_i X rfl (by decide) (by simp [isR, bI, *]) dX10_isRule_27
    · refine lv_iconst (v := 1) X.ex X.co dX10_isRule_22 (by decide) ?_
      refine lv_goto (tgt := 27) X.ex X.co dX10_isRule_23 (by decide) ?_
      exact r_i X rfl (by decide) (by simp [isR, bI, *]) dX10_isRule_27
set_option maxHeartbeats 4000000 in
set_option maxRecDepth 100000 in
theorem c_X10_noStudent (l : Launch) (G : GT) (mad : I2 → Nat) (A : Nat → Prop) (σ : Sg) (hI0 : MI0 σ) (v : Int32) : rM l yX10_noStudent cX10_noStudent 2 ((Option.some FieldType.boolean)) 1 G [.ref (mad (0, 0)), .int v] (mw G mad A σ) (some (.int (bI (!(okP v (nSt σ)))))) := by
  refine mk_m (by decide) (Nat.le_of_ble_eq_true rfl) ?_
  intro p e s m args below meth c X ls hl g0 F hnm
  have hK := g0.1
  obtain ⟨b1, b2, b3, b4, b5, b6, b7⟩ := hI0.1
  have hl : lv_has ls 2 [(0, .ref (mad (0, 0))), (1, .int v)] := hl
  show Wr p l e 1 s m args below meth c (some (.int (bI (!(okP v (nSt σ)))))) 0 ls []
  refine lv_iload_n X.ex X.co dX10_noStudent_0 rfl (lv_at hl 1 rfl) ?_
  refine lv_iconst (v := 0) X.ex X.co dX10_noStudent_1 (by decide) ?_
  refine lv_aload_n X.ex X.co dX10_noStudent_2 rfl (lv_at hl 0 rfl) ?_
  refine m_getN X hK F 5 (by decide) rfl rfl (x := nSt σ) rfl m_1356 rfl dX10_noStudent_3 ?_
  refine lv_iconst (v := 1) X.ex X.co dX10_noStudent_6 (by decide) ?_
  refine lv_isub X.ex X.co dX10_noStudent_7 ?_
  refine q_rS X ce_X10_in m_1494 (c_X10_in l G v 0 (nI (nSt σ) - 1)) g0 trivial (by decide) rfl hl.1 rfl (Nat.le_of_ble_eq_true rfl) dX10_noStudent_8 (by omega) (by omega) ?_
  refine b_if_ne X (x := okP v (nSt σ)) (tgt := 18) dX10_noStudent_11 (by decide) (fun c_1 => ?_) (fun c_1 => ?_)
  · refine lv_iconst (v := 0) X.ex X.co dX10_noStudent_18 (by decide) ?_
    exact r_i X rfl (by decide) (by simp [bI, *]) dX10_noStudent_19
  · refine lv_iconst (v := 1) X.ex X.co dX10_noStudent_14 (by decide) ?_
    refine lv_goto (tgt := 19) X.ex X.co dX10_noStudent_15 (by decide) ?_
    exact r_i X rfl (by decide) (by simp [bI, *]) dX10_noStudent_19
set_option maxHeartbeats 4000000 in
set_option maxRecDepth 100000 in
theorem c_X10_noLesson (l : Launch) (G : GT) (mad : I2 → Nat) (A : Nat → Prop) (σ : Sg) (hI0 : MI0 σ) (v : Int32) : rM l yX10_noLesson cX10_noLesson 2 ((Option.some FieldType.boolean)) 1 G [.ref (mad (0, 0)), .int v] (mw G mad A σ) (some (.int (bI (!(okP v (nLe σ)))))) := by
  refine mk_m (by decide) (Nat.le_of_ble_eq_true rfl) ?_
  intro p e s m args below meth c X ls hl g0 F hnm
  have hK := g0.1
  obtain ⟨b1, b2, b3, b4, b5, b6, b7⟩ := hI0.1
  have hl : lv_has ls 2 [(0, .ref (mad (0, 0))), (1, .int v)] := hl
  show Wr p l e 1 s m args below meth c (some (.int (bI (!(okP v (nLe σ)))))) 0 ls []
  refine lv_iload_n X.ex X.co dX10_noLesson_0 rfl (lv_at hl 1 rfl) ?_
  refine lv_iconst (v := 0) X.ex X.co dX10_noLesson_1 (by decide) ?_
  refine lv_aload_n X.ex X.co dX10_noLesson_2 rfl (lv_at hl 0 rfl) ?_
  refine m_getN X hK F 7 (by decide) rfl rfl (x := nLe σ) rfl m_1358 rfl dX10_noLesson_3 ?_
  refine lv_iconst (v := 1) X.ex X.co dX10_noLesson_6 (by decide) ?_
  refine lv_isub X.ex X.co dX10_noLesson_7 ?_
  refine q_rS X ce_X10_in m_1494 (c_X10_in l G v 0 (nI (nLe σ) - 1)) g0 trivial (by decide) rfl hl.1 rfl (Nat.le_of_ble_eq_true rfl) dX10_noLesson_8 (by omega) (by omega) ?_
  refine b_if_ne X (x := okP v (nLe σ)) (tgt := 18) dX10_noLesson_11 (by decide) (fun c_1 => ?_) (fun c_1 => ?_)
  · refine lv_iconst (v := 0) X.ex X.co dX10_noLesson_18 (by decide) ?_
    exact r_i X rfl (by decide) (by simp [bI, *]) dX10_noLesson_19
  · refine lv_iconst (v := 1) X.ex X.co dX10_noLesson_14 (by decide) ?_
    refine lv_goto (tgt := 19) X.ex X.co dX10_noLesson_15 (by decide) ?_
    exact r_i X rfl (by decide) (by simp [bI, *]) dX10_noLesson_19
set_option maxHeartbeats 4000000 in
set_option maxRecDepth 100000 in
theorem c_X10_noExercise (l : Launch) (G : GT) (mad : I2 → Nat) (A : Nat → Prop) (σ : Sg) (hI0 : MI0 σ) (v : Int32) : rM l yX10_noExercise cX10_noExercise 2 ((Option.some FieldType.boolean)) 1 G [.ref (mad (0, 0)), .int v] (mw G mad A σ) (some (.int (bI (!(okP v (nEx σ)))))) := by
  refine mk_m (by decide) (Nat.le_of_ble_eq_true rfl) ?_
  intro p e s m args below meth c X ls hl g0 F hnm
  have hK := g0.1
  obtain ⟨b1, b2, b3, b4, b5, b6, b7⟩ := hI0.1
  have hl : lv_has ls 2 [(0, .ref (mad (0, 0))), (1, .int v)] := hl
  show Wr p l e 1 s m args below meth c (some (.int (bI (!(okP v (nEx σ)))))) 0 ls []
  refine lv_iload_n X.ex X.co dX10_noExercise_0 rfl (lv_at hl 1 rfl) ?_
  refine lv_iconst (v := 0) X.ex X.co dX10_noExercise_1 (by decide) ?_
  refine lv_aload_n X.ex X.co dX10_noExercise_2 rfl (lv_at hl 0 rfl) ?_
  refine m_getN X hK F 11 (by decide) rfl rfl (x := nEx σ) rfl m_1362 rfl dX10_noExercise_3 ?_
  refine lv_iconst (v := 1) X.ex X.co dX10_noExercise_6 (by decide) ?_
  refine lv_isub X.ex X.co dX10_noExercise_7 ?_
  refine q_rS X ce_X10_in m_1494 (c_X10_in l G v 0 (nI (nEx σ) - 1)) g0 trivial (by decide) rfl hl.1 rfl (Nat.le_of_ble_eq_true rfl) dX10_noExercise_8 (by omega) (by omega) ?_
  refine b_if_ne X (x := okP v (nEx σ)) (tgt := 18) dX10_noExercise_11 (by decide) (fun c_1 => ?_) (fun c_1 => ?_)
  · refine lv_iconst (v := 0) X.ex X.co dX10_noExercise_18 (by decide) ?_
    exact r_i X rfl (by decide) (by simp [bI, *]) dX10_noExercise_19
  · refine lv_iconst (v := 1) X.ex X.co dX10_noExercise_14 (by decide) ?_
    refine lv_goto (tgt := 19) X.ex X.co dX10_noExercise_15 (by decide) ?_
    exact r_i X rfl (by decide) (by simp [bI, *]) dX10_noExercise_19
set_option maxHeartbeats 4000000 in
set_option maxRecDepth 100000 in
theorem c_X10_noAnswer (l : Launch) (G : GT) (mad : I2 → Nat) (A : Nat → Prop) (σ : Sg) (hI0 : MI0 σ) (v : Int32) : rM l yX10_noAnswer cX10_noAnswer 2 ((Option.some FieldType.boolean)) 1 G [.ref (mad (0, 0)), .int v] (mw G mad A σ) (some (.int (bI (!(okP v (nAn σ)))))) := by
  refine mk_m (by decide) (Nat.le_of_ble_eq_true rfl) ?_
  intro p e s m args below meth c X ls hl g0 F hnm
  have hK := g0.1
  obtain ⟨b1, b2, b3, b4, b5, b6, b7⟩ := hI0.1
  have hl : lv_has ls 2 [(0, .ref (mad (0, 0))), (1, .int v)] := hl
  show Wr p l e 1 s m args below meth c (some (.int (bI (!(okP v (nAn σ)))))) 0 ls []
  refine lv_iload_n X.ex X.co dX10_noAnswer_0 rfl (lv_at hl 1 rfl) ?_
  refine lv_iconst (v := 0) X.ex X.co dX10_noAnswer_1 (by decide) ?_
  refine lv_aload_n X.ex X.co dX10_noAnswer_2 rfl (lv_at hl 0 rfl) ?_
  refine m_getN X hK F 19 (by decide) rfl rfl (x := nAn σ) rfl m_1370 rfl dX10_noAnswer_3 ?_
  refine lv_iconst (v := 1) X.ex X.co dX10_noAnswer_6 (by decide) ?_
  refine lv_isub X.ex X.co dX10_noAnswer_7 ?_
  refine q_rS X ce_X10_in m_1494 (c_X10_in l G v 0 (nI (nAn σ) - 1)) g0 trivial (by decide) rfl hl.1 rfl (Nat.le_of_ble_eq_true rfl) dX10_noAnswer_8 (by omega) (by omega) ?_
  refine b_if_ne X (x := okP v (nAn σ)) (tgt := 18) dX10_noAnswer_11 (by decide) (fun c_1 => ?_) (fun c_1 => ?_)
  · refine lv_iconst (v := 0) X.ex X.co dX10_noAnswer_18 (by decide) ?_
    exact r_i X rfl (by decide) (by simp [bI, *]) dX10_noAnswer_19
  · refine lv_iconst (v := 1) X.ex X.co dX10_noAnswer_14 (by decide) ?_
    refine lv_goto (tgt := 19) X.ex X.co dX10_noAnswer_15 (by decide) ?_
    exact r_i X rfl (by decide) (by simp [bI, *]) dX10_noAnswer_19
set_option maxHeartbeats 4000000 in
set_option maxRecDepth 100000 in
theorem c_X10_noCourse (l : Launch) (G : GT) (mad : I2 → Nat) (A : Nat → Prop) (σ : Sg) (hI0 : MI0 σ) (v : Int32) : rM l yX10_noCourse cX10_noCourse 2 ((Option.some FieldType.boolean)) 1 G [.ref (mad (0, 0)), .int v] (mw G mad A σ) (some (.int (bI (!(okP v (nCr σ)))))) := by
  refine mk_m (by decide) (Nat.le_of_ble_eq_true rfl) ?_
  intro p e s m args below meth c X ls hl g0 F hnm
  have hK := g0.1
  obtain ⟨b1, b2, b3, b4, b5, b6, b7⟩ := hI0.1
  have hl : lv_has ls 2 [(0, .ref (mad (0, 0))), (1, .int v)] := hl
  show Wr p l e 1 s m args below meth c (some (.int (bI (!(okP v (nCr σ)))))) 0 ls []
  refine lv_iload_n X.ex X.co dX10_noCourse_0 rfl (lv_at hl 1 rfl) ?_
  refine lv_iconst (v := 0) X.ex X.co dX10_noCourse_1 (by decide) ?_
  refine lv_aload_n X.ex X.co dX10_noCourse_2 rfl (lv_at hl 0 rfl) ?_
  refine m_getN X hK F 32 (by decide) rfl rfl (x := nCr σ) rfl m_1383 rfl dX10_noCourse_3 ?_
  refine lv_iconst (v := 1) X.ex X.co dX10_noCourse_6 (by decide) ?_
  refine lv_isub X.ex X.co dX10_noCourse_7 ?_
  refine q_rS X ce_X10_in m_1494 (c_X10_in l G v 0 (nI (nCr σ) - 1)) g0 trivial (by decide) rfl hl.1 rfl (Nat.le_of_ble_eq_true rfl) dX10_noCourse_8 (by omega) (by omega) ?_
  refine b_if_ne X (x := okP v (nCr σ)) (tgt := 18) dX10_noCourse_11 (by decide) (fun c_1 => ?_) (fun c_1 => ?_)
  · refine lv_iconst (v := 0) X.ex X.co dX10_noCourse_18 (by decide) ?_
    exact r_i X rfl (by decide) (by simp [bI, *]) dX10_noCourse_19
  · refine lv_iconst (v := 1) X.ex X.co dX10_noCourse_14 (by decide) ?_
    refine lv_goto (tgt := 19) X.ex X.co dX10_noCourse_15 (by decide) ?_
    exact r_i X rfl (by decide) (by simp [bI, *]) dX10_noCourse_19
set_option maxHeartbeats 4000000 in
set_option maxRecDepth 100000 in
theorem c_X10_credit (l : Launch) (G : GT) (mad : I2 → Nat) (A : Nat → Prop) (σ : Sg) (hI0 : MI0 σ) (a k : Nat) (ha : a < nAn σ) (hk : k < cas σ (exe σ a)) : rM l yX10_credit cX10_credit 7 ((Option.some FieldType.int)) 0 G [.ref (mad (0, 0)), .int (nI a), .int (nI k)] (mw G mad A σ) (some (.int (cred σ a k))) := by
  refine mk_m (by decide) (Nat.le_of_ble_eq_true rfl) ?_
  intro p e s m args below meth c X ls hl g0 F hnm
  have hK := g0.1
  obtain ⟨b1, b2, b3, b4, b5, b6, b7⟩ := hI0.1
  have hl : lv_has ls 7 [(0, .ref (mad (0, 0))), (1, .int (nI a)), (2, .int (nI k))] := hl
  show Wr p l e 0 s m args below meth c (some (.int (cred σ a k))) 0 ls []
  refine lv_aload_n X.ex X.co dX10_credit_0 rfl (lv_at hl 0 rfl) ?_
  refine m_getA X hK F 21 (by decide) rfl m_1372 rfl dX10_credit_1 ?_
  refine lv_iload_n X.ex X.co dX10_credit_4 rfl (lv_at hl 1 rfl) ?_
  refine m_ald X hK F 21 (by decide) rfl rfl a (by first | omega | (show _ < 100; omega)) (x := nI (exe σ a)) rfl dX10_credit_5 ?_
  have hf := hI0.an (i := a) (by omega); have hf2 := hI0.ex (i := exe σ a) (by omega)
  refine lv_istore_n (lv' := [(3, .int (nI (exe σ a))), (0, .ref (mad (0, 0))), (1, .int (nI a)), (2, .int (nI k))]) X.ex X.co dX10_credit_6 rfl hl (by decide) rfl (fun ls hl => ?_)
  refine lv_bipush (v := 6) X.ex X.co dX10_credit_7 (by decide) ?_
  refine lv_iload_n X.ex X.co dX10_credit_9 rfl (lv_at hl 0 rfl) ?_
  refine n_mul X (x := 6) (y := exe σ a) dX10_credit_10 ?_
  refine lv_iload_n X.ex X.co dX10_credit_11 rfl (lv_at hl 3 rfl) ?_
  refine n_add X (x := 6 * (exe σ a)) (y := k) dX10_credit_12 ?_
  refine lv_istore (lv' := [(4, .int (nI ((6 * (exe σ a)) + k))), (3, .int (nI (exe σ a))), (0, .ref (mad (0, 0))), (1, .int (nI a)), (2, .int (nI k))]) X.ex X.co dX10_credit_13 hl (by decide) rfl (fun ls hl => ?_)
  refine lv_aload_n X.ex X.co dX10_credit_15 rfl (lv_at hl 2 rfl) ?_
  refine m_getA X hK F 13 (by decide) rfl m_1364 rfl dX10_credit_16 ?_
  refine lv_iload_n X.ex X.co dX10_credit_19 rfl (lv_at hl 1 rfl) ?_
  refine m_ald X hK F 13 (by decide) rfl rfl (exe σ a) (by first | omega | (show _ < 12; omega)) (x := (σ.2 13 (exe σ a))) rfl dX10_credit_20 ?_
  refine lv_aload_n X.ex X.co dX10_credit_21 rfl (lv_at hl 2 rfl) ?_
  refine m_getA X hK F 22 (by decide) rfl m_1373 rfl dX10_credit_22 ?_
  refine lv_iload_n X.ex X.co dX10_credit_25 rfl (lv_at hl 3 rfl) ?_
  refine m_ald X hK F 22 (by decide) rfl rfl a (by first | omega | (show _ < 100; omega)) (x := (σ.2 22 a)) rfl dX10_credit_26 ?_
  refine lv_isub X.ex X.co dX10_credit_27 ?_
  refine lv_aload_n X.ex X.co dX10_credit_28 rfl (lv_at hl 2 rfl) ?_
  refine m_getA X hK F 17 (by decide) rfl m_1368 rfl dX10_credit_29 ?_
  refine lv_iload X.ex X.co dX10_credit_32 (lv_at hl 0 rfl) ?_
  refine m_ald X hK F 17 (by decide) rfl rfl ((6 * (exe σ a)) + k) (by first | omega | (show _ < 72; omega)) (x := (σ.2 17 ((6 * (exe σ a)) + k))) rfl dX10_credit_34 ?_
  refine lv_imul X.ex X.co dX10_credit_35 ?_
  refine lv_aload_n X.ex X.co dX10_credit_36 rfl (lv_at hl 2 rfl) ?_
  refine m_getA X hK F 14 (by decide) rfl m_1365 rfl dX10_credit_37 ?_
  refine lv_iload_n X.ex X.co dX10_credit_40 rfl (lv_at hl 1 rfl) ?_
  refine m_ald X hK F 14 (by decide) rfl rfl (exe σ a) (by first | omega | (show _ < 12; omega)) (x := (σ.2 14 (exe σ a))) rfl dX10_credit_41 ?_
  refine lv_iadd X.ex X.co dX10_credit_42 ?_
  refine lv_aload_n X.ex X.co dX10_credit_43 rfl (lv_at hl 2 rfl) ?_
  refine m_getA X hK F 23 (by decide) rfl m_1374 rfl dX10_credit_44 ?_
  refine lv_iload_n X.ex X.co dX10_credit_47 rfl (lv_at hl 3 rfl) ?_
  refine m_ald X hK F 23 (by decide) rfl rfl a (by first | omega | (show _ < 100; omega)) (x := (σ.2 23 a)) rfl dX10_credit_48 ?_
  refine lv_isub X.ex X.co dX10_credit_49 ?_
  refine lv_topi (fun mr emr => ?_)
  refine lv_istore (lv' := [(5, .int mr), (4, .int (nI ((6 * (exe σ a)) + k))), (3, .int (nI (exe σ a))), (0, .ref (mad (0, 0))), (1, .int (nI a)), (2, .int (nI k))]) X.ex X.co dX10_credit_50 hl (by decide) rfl (fun ls hl => ?_)
  refine lv_iload X.ex X.co dX10_credit_52 (lv_at hl 0 rfl) ?_
  refine lv_if_ge (tgt := 63) X.ex X.co dX10_credit_54 (by decide) (fun c_1 => ?_) (fun c_1 => ?_)
  · refine lv_iload X.ex X.co dX10_credit_63 (lv_at hl 0 rfl) ?_
    refine lv_istore (lv' := [(6, .int mr), (5, .int mr), (4, .int (nI ((6 * (exe σ a)) + k))), (3, .int (nI (exe σ a))), (0, .ref (mad (0, 0))), (1, .int (nI a)), (2, .int (nI k))]) X.ex X.co dX10_credit_65 hl (by decide) rfl (fun ls hl => ?_)
    refine lv_iload X.ex X.co dX10_credit_67 (lv_at hl 0 rfl) ?_
    refine lv_if_ne (tgt := 80) X.ex X.co dX10_credit_69 (by decide) (fun c_2 => ?_) (fun c_2 => ?_)
    · refine lv_aload_n X.ex X.co dX10_credit_80 rfl (lv_at hl 4 rfl) ?_
      refine m_getA X hK F 15 (by decide) rfl m_1366 rfl dX10_credit_81 ?_
      refine lv_iload_n X.ex X.co dX10_credit_84 rfl (lv_at hl 3 rfl) ?_
      refine m_ald X hK F 15 (by decide) rfl rfl (exe σ a) (by first | omega | (show _ < 12; omega)) (x := (σ.2 15 (exe σ a))) rfl dX10_credit_85 ?_
      refine lv_iconst (v := 1) X.ex X.co dX10_credit_86 (by decide) ?_
      refine lv_icmp_ne (tgt := 108) X.ex X.co dX10_credit_87 (by decide) (fun c_3 => ?_) (fun c_3 => ?_)
      · refine lv_aload_n X.ex X.co dX10_credit_108 rfl (lv_at hl 4 rfl) ?_
        refine m_getA X hK F 15 (by decide) rfl m_1366 rfl dX10_credit_109 ?_
        refine lv_iload_n X.ex X.co dX10_credit_112 rfl (lv_at hl 3 rfl) ?_
        refine m_ald X hK F 15 (by decide) rfl rfl (exe σ a) (by first | omega | (show _ < 12; omega)) (x := (σ.2 15 (exe σ a))) rfl dX10_credit_113 ?_
        refine lv_iconst (v := 2) X.ex X.co dX10_credit_114 (by decide) ?_
        refine lv_icmp_ne (tgt := 139) X.ex X.co dX10_credit_115 (by decide) (fun c_4 => ?_) (fun c_4 => ?_)
        · refine lv_iconst (v := 0) X.ex X.co dX10_credit_139 (by decide) ?_
          exact r_i X rfl rfl (by simp only [cred, credR, gapS, moreS, ← emr]; clear emr; simp [*]) dX10_credit_140
        · refine lv_iload X.ex X.co dX10_credit_118 (lv_at hl 0 rfl) ?_
          refine lv_bipush (v := 9) X.ex X.co dX10_credit_120 (by decide) ?_
          refine lv_icmp_gt (tgt := 139) X.ex X.co dX10_credit_122 (by decide) (fun c_5 => ?_) (fun c_5 => ?_)
          · refine lv_iconst (v := 0) X.ex X.co dX10_credit_139 (by decide) ?_
            exact r_i X rfl rfl (by simp only [cred, credR, gapS, moreS, ← emr]; clear emr; simp [*]) dX10_credit_140
          · refine lv_iconst (v := 2) X.ex X.co dX10_credit_125 (by decide) ?_
            refine lv_aload_n X.ex X.co dX10_credit_126 rfl (lv_at hl 4 rfl) ?_
            refine m_getA X hK F 18 (by decide) rfl m_1369 rfl dX10_credit_127 ?_
            refine lv_iload X.ex X.co dX10_credit_130 (lv_at hl 2 rfl) ?_
            refine m_ald X hK F 18 (by decide) rfl rfl ((6 * (exe σ a)) + k) (by first | omega | (show _ < 72; omega)) (x := nI (wei σ ((6 * (exe σ a)) + k))) rfl dX10_credit_132 ?_
            refine n_mul X (x := 2) (y := wei σ ((6 * (exe σ a)) + k)) dX10_credit_133 ?_
            refine lv_iconst (v := 3) X.ex X.co dX10_credit_134 (by decide) ?_
            refine lv_idiv X.ex X.co dX10_credit_135 (by decide) ?_
            refine lv_goto (tgt := 140) X.ex X.co dX10_credit_136 (by decide) ?_
            exact r_i X rfl rfl (by simp only [cred, credR, gapS, moreS, ← emr]; clear emr; simp [*]) dX10_credit_140
      · refine lv_iload X.ex X.co dX10_credit_90 (lv_at hl 0 rfl) ?_
        refine lv_iconst (v := 2) X.ex X.co dX10_credit_92 (by decide) ?_
        refine lv_icmp_gt (tgt := 108) X.ex X.co dX10_credit_93 (by decide) (fun c_6 => ?_) (fun c_6 => ?_)
        · refine lv_aload_n X.ex X.co dX10_credit_108 rfl (lv_at hl 4 rfl) ?_
          refine m_getA X hK F 15 (by decide) rfl m_1366 rfl dX10_credit_109 ?_
          refine lv_iload_n X.ex X.co dX10_credit_112 rfl (lv_at hl 3 rfl) ?_
          refine m_ald X hK F 15 (by decide) rfl rfl (exe σ a) (by first | omega | (show _ < 12; omega)) (x := (σ.2 15 (exe σ a))) rfl dX10_credit_113 ?_
          refine lv_iconst (v := 2) X.ex X.co dX10_credit_114 (by decide) ?_
          refine lv_icmp_ne (tgt := 139) X.ex X.co dX10_credit_115 (by decide) (fun c_7 => ?_) (fun c_7 => ?_)
          · refine lv_iconst (v := 0) X.ex X.co dX10_credit_139 (by decide) ?_
            exact r_i X rfl rfl (by simp only [cred, credR, gapS, moreS, ← emr]; clear emr; simp [*]) dX10_credit_140
          · exact absurd (c_3.symm.trans c_7) (by decide)
        · refine lv_aload_n X.ex X.co dX10_credit_96 rfl (lv_at hl 4 rfl) ?_
          refine m_getA X hK F 18 (by decide) rfl m_1369 rfl dX10_credit_97 ?_
          refine lv_iload X.ex X.co dX10_credit_100 (lv_at hl 2 rfl) ?_
          refine m_ald X hK F 18 (by decide) rfl rfl ((6 * (exe σ a)) + k) (by first | omega | (show _ < 72; omega)) (x := nI (wei σ ((6 * (exe σ a)) + k))) rfl dX10_credit_102 ?_
          refine lv_iconst (v := 2) X.ex X.co dX10_credit_103 (by decide) ?_
          refine lv_idiv X.ex X.co dX10_credit_104 (by decide) ?_
          refine lv_goto (tgt := 140) X.ex X.co dX10_credit_105 (by decide) ?_
          exact r_i X rfl rfl (by simp only [cred, credR, gapS, moreS, ← emr]; clear emr; simp [*]) dX10_credit_140
    · refine lv_aload_n X.ex X.co dX10_credit_72 rfl (lv_at hl 4 rfl) ?_
      refine m_getA X hK F 18 (by decide) rfl m_1369 rfl dX10_credit_73 ?_
      refine lv_iload X.ex X.co dX10_credit_76 (lv_at hl 2 rfl) ?_
      refine m_ald X hK F 18 (by decide) rfl rfl ((6 * (exe σ a)) + k) (by first | omega | (show _ < 72; omega)) (x := nI (wei σ ((6 * (exe σ a)) + k))) rfl dX10_credit_78 ?_
      exact r_i X rfl rfl (by simp only [cred, credR, gapS, moreS, ← emr]; clear emr; simp [*]) dX10_credit_79
  · refine lv_iload X.ex X.co dX10_credit_57 (lv_at hl 0 rfl) ?_
    refine lv_ineg X.ex X.co dX10_credit_59 ?_
    refine lv_goto (tgt := 65) X.ex X.co dX10_credit_60 (by decide) ?_
    refine lv_istore (lv' := [(6, .int (-mr)), (5, .int mr), (4, .int (nI ((6 * (exe σ a)) + k))), (3, .int (nI (exe σ a))), (0, .ref (mad (0, 0))), (1, .int (nI a)), (2, .int (nI k))]) X.ex X.co dX10_credit_65 hl (by decide) rfl (fun ls hl => ?_)
    refine lv_iload X.ex X.co dX10_credit_67 (lv_at hl 0 rfl) ?_
    refine lv_if_ne (tgt := 80) X.ex X.co dX10_credit_69 (by decide) (fun c_8 => ?_) (fun c_8 => ?_)
    · refine lv_aload_n X.ex X.co dX10_credit_80 rfl (lv_at hl 4 rfl) ?_
      refine m_getA X hK F 15 (by decide) rfl m_1366 rfl dX10_credit_81 ?_
      refine lv_iload_n X.ex X.co dX10_credit_84 rfl (lv_at hl 3 rfl) ?_
      refine m_ald X hK F 15 (by decide) rfl rfl (exe σ a) (by first | omega | (show _ < 12; omega)) (x := (σ.2 15 (exe σ a))) rfl dX10_credit_85 ?_
      refine lv_iconst (v := 1) X.ex X.co dX10_credit_86 (by decide) ?_
      refine lv_icmp_ne (tgt := 108) X.ex X.co dX10_credit_87 (by decide) (fun c_9 => ?_) (fun c_9 => ?_)
      · refine lv_aload_n X.ex X.co dX10_credit_108 rfl (lv_at hl 4 rfl) ?_
        refine m_getA X hK F 15 (by decide) rfl m_1366 rfl dX10_credit_109 ?_
        refine lv_iload_n X.ex X.co dX10_credit_112 rfl (lv_at hl 3 rfl) ?_
        refine m_ald X hK F 15 (by decide) rfl rfl (exe σ a) (by first | omega | (show _ < 12; omega)) (x := (σ.2 15 (exe σ a))) rfl dX10_credit_113 ?_
        refine lv_iconst (v := 2) X.ex X.co dX10_credit_114 (by decide) ?_
        refine lv_icmp_ne (tgt := 139) X.ex X.co dX10_credit_115 (by decide) (fun c_10 => ?_) (fun c_10 => ?_)
        · refine lv_iconst (v := 0) X.ex X.co dX10_credit_139 (by decide) ?_
          exact r_i X rfl rfl (by simp only [cred, credR, gapS, moreS, ← emr]; clear emr; simp [*]) dX10_credit_140
        · refine lv_iload X.ex X.co dX10_credit_118 (lv_at hl 0 rfl) ?_
          refine lv_bipush (v := 9) X.ex X.co dX10_credit_120 (by decide) ?_
          refine lv_icmp_gt (tgt := 139) X.ex X.co dX10_credit_122 (by decide) (fun c_11 => ?_) (fun c_11 => ?_)
          · refine lv_iconst (v := 0) X.ex X.co dX10_credit_139 (by decide) ?_
            exact r_i X rfl rfl (by simp only [cred, credR, gapS, moreS, ← emr]; clear emr; simp [*]) dX10_credit_140
          · refine lv_iconst (v := 2) X.ex X.co dX10_credit_125 (by decide) ?_
            refine lv_aload_n X.ex X.co dX10_credit_126 rfl (lv_at hl 4 rfl) ?_
            refine m_getA X hK F 18 (by decide) rfl m_1369 rfl dX10_credit_127 ?_
            refine lv_iload X.ex X.co dX10_credit_130 (lv_at hl 2 rfl) ?_
            refine m_ald X hK F 18 (by decide) rfl rfl ((6 * (exe σ a)) + k) (by first | omega | (show _ < 72; omega)) (x := nI (wei σ ((6 * (exe σ a)) + k))) rfl dX10_credit_132 ?_
            refine n_mul X (x := 2) (y := wei σ ((6 * (exe σ a)) + k)) dX10_credit_133 ?_
            refine lv_iconst (v := 3) X.ex X.co dX10_credit_134 (by decide) ?_
            refine lv_idiv X.ex X.co dX10_credit_135 (by decide) ?_
            refine lv_goto (tgt := 140) X.ex X.co dX10_credit_136 (by decide) ?_
            exact r_i X rfl rfl (by simp only [cred, credR, gapS, moreS, ← emr]; clear emr; simp [*]) dX10_credit_140
      · refine lv_iload X.ex X.co dX10_credit_90 (lv_at hl 0 rfl) ?_
        refine lv_iconst (v := 2) X.ex X.co dX10_credit_92 (by decide) ?_
        refine lv_icmp_gt (tgt := 108) X.ex X.co dX10_credit_93 (by decide) (fun c_12 => ?_) (fun c_12 => ?_)
        · refine lv_aload_n X.ex X.co dX10_credit_108 rfl (lv_at hl 4 rfl) ?_
          refine m_getA X hK F 15 (by decide) rfl m_1366 rfl dX10_credit_109 ?_
          refine lv_iload_n X.ex X.co dX10_credit_112 rfl (lv_at hl 3 rfl) ?_
          refine m_ald X hK F 15 (by decide) rfl rfl (exe σ a) (by first | omega | (show _ < 12; omega)) (x := (σ.2 15 (exe σ a))) rfl dX10_credit_113 ?_
          refine lv_iconst (v := 2) X.ex X.co dX10_credit_114 (by decide) ?_
          refine lv_icmp_ne (tgt := 139) X.ex X.co dX10_credit_115 (by decide) (fun c_13 => ?_) (fun c_13 => ?_)
          · refine lv_iconst (v := 0) X.ex X.co dX10_credit_139 (by decide) ?_
            exact r_i X rfl rfl (by simp only [cred, credR, gapS, moreS, ← emr]; clear emr; simp [*]) dX10_credit_140
          · exact absurd (c_9.symm.trans c_13) (by decide)
        · refine lv_aload_n X.ex X.co dX10_credit_96 rfl (lv_at hl 4 rfl) ?_
          refine m_getA X hK F 18 (by decide) rfl m_1369 rfl dX10_credit_97 ?_
          refine lv_iload X.ex X.co dX10_credit_100 (lv_at hl 2 rfl) ?_
          refine m_ald X hK F 18 (by decide) rfl rfl ((6 * (exe σ a)) + k) (by first | omega | (show _ < 72; omega)) (x := nI (wei σ ((6 * (exe σ a)) + k))) rfl dX10_credit_102 ?_
          refine lv_iconst (v := 2) X.ex X.co dX10_credit_103 (by decide) ?_
          refine lv_idiv X.ex X.co dX10_credit_104 (by decide) ?_
          refine lv_goto (tgt := 140) X.ex X.co dX10_credit_105 (by decide) ?_
          exact r_i X rfl rfl (by simp only [cred, credR, gapS, moreS, ← emr]; clear emr; simp [*]) dX10_credit_140
    · refine lv_aload_n X.ex X.co dX10_credit_72 rfl (lv_at hl 4 rfl) ?_
      refine m_getA X hK F 18 (by decide) rfl m_1369 rfl dX10_credit_73 ?_
      refine lv_iload X.ex X.co dX10_credit_76 (lv_at hl 2 rfl) ?_
      refine m_ald X hK F 18 (by decide) rfl rfl ((6 * (exe σ a)) + k) (by first | omega | (show _ < 72; omega)) (x := nI (wei σ ((6 * (exe σ a)) + k))) rfl dX10_credit_78 ?_
      exact r_i X rfl rfl (by simp only [cred, credR, gapS, moreS, ← emr]; clear emr; simp [*]) dX10_credit_79
set_option maxHeartbeats 4000000 in
set_option maxRecDepth 100000 in
theorem c_X10_isAnswered (l : Launch) (G : GT) (mad : I2 → Nat) (A : Nat → Prop) (σ : Sg) (hI0 : MI0 σ) (x : Nat) (hx : x < 2 ^ 31) : rM l yX10_isAnswered cX10_isAnswered 4 ((Option.some FieldType.boolean)) 0 G [.ref (mad (0, 0)), .int (nI x)] (mw G mad A σ) (some (.int (bI (ansS σ x (nAn σ))))) := by
  refine mk_m (by decide) (Nat.le_of_ble_eq_true rfl) ?_
  intro p e s m args below meth c X ls hl g0 F hnm
  have hK := g0.1
  obtain ⟨b1, b2, b3, b4, b5, b6, b7⟩ := hI0.1
  have hl : lv_has ls 4 [(0, .ref (mad (0, 0))), (1, .int (nI x))] := hl
  show Wr p l e 0 s m args below meth c (some (.int (bI (ansS σ x (nAn σ))))) 0 ls []
  refine lv_iconst (v := 0) X.ex X.co dX10_isAnswered_0 (by decide) ?_
  refine lv_istore_n (lv' := [(2, .int 0), (0, .ref (mad (0, 0))), (1, .int (nI x))]) X.ex X.co dX10_isAnswered_1 rfl hl (by decide) rfl (fun ls hl => ?_)
  refine lv_iconst (v := 0) X.ex X.co dX10_isAnswered_2 (by decide) ?_
  refine lv_istore_n (lv' := [(3, .int 0), (2, .int 0), (0, .ref (mad (0, 0))), (1, .int (nI x))]) X.ex X.co dX10_isAnswered_3 rfl hl (by decide) rfl (fun ls hl => ?_)
  have loop_2 : ∀ (fu_1 i : Nat), i ≤ nAn σ → nAn σ < i + fu_1 → ∀ ls : Array Slot, lv_has ls 4 [(3, .int (nI i)), (2, .int (bI (ansS σ x i))), (0, .ref (mad (0, 0))), (1, .int (nI x))] → Wr p l e 0 s m args below meth c (some (.int (bI (ansS σ x (nAn σ))))) 4 ls [] := by
    intro fu_1
    induction fu_1 with
    | zero => intro i h_4 h_5; exact absurd h_5 (by omega)
    | succ fu_1 ih_3 =>
      intro i h_4 h_5 ls hl
      refine lv_iload_n X.ex X.co dX10_isAnswered_4 rfl (lv_at hl 0 rfl) ?_
      refine lv_aload_n X.ex X.co dX10_isAnswered_5 rfl (lv_at hl 2 rfl) ?_
      refine m_getN X hK F 19 (by decide) rfl rfl (x := nAn σ) rfl m_1370 rfl dX10_isAnswered_6 ?_
      refine n_cmp_ge X (x := i) (y := nAn σ) (tgt := 38) (by omega) (by omega) dX10_isAnswered_9 (by decide) (fun c_6 => ?_) (fun c_6 => ?_)
      · have hq_7 : i = nAn σ := by omega
        rw [hq_7] at hl
        refine lv_iload_n X.ex X.co dX10_isAnswered_38 rfl (lv_at hl 1 rfl) ?_
        exact r_i X rfl (bI_nar _) rfl dX10_isAnswered_39
      · refine lv_iload_n X.ex X.co dX10_isAnswered_12 rfl (lv_at hl 1 rfl) ?_
        refine b_if_ne X (x := ansS σ x i) (tgt := 26) dX10_isAnswered_13 (by decide) (fun c_8 => ?_) (fun c_8 => ?_)
        · refine lv_iconst (v := 1) X.ex X.co dX10_isAnswered_26 (by decide) ?_
          refine lv_goto (tgt := 31) X.ex X.co dX10_isAnswered_27 (by decide) ?_
          refine lv_istore_n (lv' := [(2, .int 1), (3, .int (nI i)), (0, .ref (mad (0, 0))), (1, .int (nI x))]) X.ex X.co dX10_isAnswered_31 rfl hl (by decide) rfl (fun ls hl => ?_)
          refine lv_iinc (v := nI (i + 1)) (lv' := [(3, .int (nI (i + 1))), (2, .int 1), (0, .ref (mad (0, 0))), (1, .int (nI x))]) X.ex X.co dX10_isAnswered_32 hl (k := 1) rfl (n_inc _) (by decide) rfl (fun ls hl => ?_)
          refine lv_goto (tgt := 4) X.ex X.co dX10_isAnswered_35 (by decide) ?_
          have q_9 : bI (ansS σ x (i + 1)) = 1 := by first | rfl | simp [ansS, bI, *]
          exact ih_3 (i + 1) (by omega) (by omega) ls (lv_sub hl [0, 1, 2, 3] (by first | rfl | (rw [q_9] <;> rfl)))
        · refine lv_aload_n X.ex X.co dX10_isAnswered_16 rfl (lv_at hl 2 rfl) ?_
          refine m_getA X hK F 21 (by decide) rfl m_1372 rfl dX10_isAnswered_17 ?_
          refine lv_iload_n X.ex X.co dX10_isAnswered_20 rfl (lv_at hl 0 rfl) ?_
          refine m_ald X hK F 21 (by decide) rfl rfl i (by first | omega | (show _ < 100; omega)) (x := nI (exe σ i)) rfl dX10_isAnswered_21 ?_
          have hf := hI0.an (i := i) (by omega); have hf2 := hI0.ex (i := exe σ i) (by omega)
          refine lv_iload_n X.ex X.co dX10_isAnswered_22 rfl (lv_at hl 3 rfl) ?_
          refine n_cmp_ne X (x := exe σ i) (y := x) (tgt := 30) (by omega) (by omega) dX10_isAnswered_23 (by decide) (fun c_10 => ?_) (fun c_10 => ?_)
          · refine lv_iconst (v := 0) X.ex X.co dX10_isAnswered_30 (by decide) ?_
            refine lv_istore_n (lv' := [(2, .int 0), (3, .int (nI i)), (0, .ref (mad (0, 0))), (1, .int (nI x))]) X.ex X.co dX10_isAnswered_31 rfl hl (by decide) rfl (fun ls hl => ?_)
            refine lv_iinc (v := nI (i + 1)) (lv' := [(3, .int (nI (i + 1))), (2, .int 0), (0, .ref (mad (0, 0))), (1, .int (nI x))]) X.ex X.co dX10_isAnswered_32 hl (k := 1) rfl (n_inc _) (by decide) rfl (fun ls hl => ?_)
            refine lv_goto (tgt := 4) X.ex X.co dX10_isAnswered_35 (by decide) ?_
            have q_11 : bI (ansS σ x (i + 1)) = 0 := by first | rfl | simp [ansS, bI, *]
            exact ih_3 (i + 1) (by omega) (by omega) ls (lv_sub hl [0, 1, 2, 3] (by first | rfl | (rw [q_11] <;> rfl)))
          · refine lv_iconst (v := 1) X.ex X.co dX10_isAnswered_26 (by decide) ?_
            refine lv_goto (tgt := 31) X.ex X.co dX10_isAnswered_27 (by decide) ?_
            refine lv_istore_n (lv' := [(2, .int 1), (3, .int (nI i)), (0, .ref (mad (0, 0))), (1, .int (nI x))]) X.ex X.co dX10_isAnswered_31 rfl hl (by decide) rfl (fun ls hl => ?_)
            refine lv_iinc (v := nI (i + 1)) (lv' := [(3, .int (nI (i + 1))), (2, .int 1), (0, .ref (mad (0, 0))), (1, .int (nI x))]) X.ex X.co dX10_isAnswered_32 hl (k := 1) rfl (n_inc _) (by decide) rfl (fun ls hl => ?_)
            refine lv_goto (tgt := 4) X.ex X.co dX10_isAnswered_35 (by decide) ?_
            have q_12 : bI (ansS σ x (i + 1)) = 1 := by first | rfl | simp [ansS, bI, *]
            exact ih_3 (i + 1) (by omega) (by omega) ls (lv_sub hl [0, 1, 2, 3] (by first | rfl | (rw [q_12] <;> rfl)))
  exact loop_2 (nAn σ + 1) 0 (by omega) (by omega) ls (lv_sub hl [0, 1, 2, 3] rfl)
set_option maxHeartbeats 4000000 in
set_option maxRecDepth 100000 in
theorem c_X10_grade (l : Launch) (G : GT) (mad : I2 → Nat) (A : Nat → Prop) (σ : Sg) (hI0 : MI0 σ) (a : Nat) (ha : a < nAn σ) : rM l yX10_grade cX10_grade 6 ((Option.some FieldType.int)) 1 G [.ref (mad (0, 0)), .int (nI a)] (mw G mad A σ) (some (.int (grade σ a))) := by
  refine mk_m (by decide) (Nat.le_of_ble_eq_true rfl) ?_
  intro p e s m args below meth c X ls hl g0 F hnm
  have hK := g0.1
  obtain ⟨b1, b2, b3, b4, b5, b6, b7⟩ := hI0.1
  have hl : lv_has ls 6 [(0, .ref (mad (0, 0))), (1, .int (nI a))] := hl
  show Wr p l e 1 s m args below meth c (some (.int (grade σ a))) 0 ls []
  refine lv_aload_n X.ex X.co dX10_grade_0 rfl (lv_at hl 0 rfl) ?_
  refine m_getA X hK F 21 (by decide) rfl m_1372 rfl dX10_grade_1 ?_
  refine lv_iload_n X.ex X.co dX10_grade_4 rfl (lv_at hl 1 rfl) ?_
  refine m_ald X hK F 21 (by decide) rfl rfl a (by first | omega | (show _ < 100; omega)) (x := nI (exe σ a)) rfl dX10_grade_5 ?_
  have hf := hI0.an (i := a) (by omega); have hf2 := hI0.ex (i := exe σ a) (by omega)
  refine lv_istore_n (lv' := [(2, .int (nI (exe σ a))), (0, .ref (mad (0, 0))), (1, .int (nI a))]) X.ex X.co dX10_grade_6 rfl hl (by decide) rfl (fun ls hl => ?_)
  refine lv_iconst (v := 0) X.ex X.co dX10_grade_7 (by decide) ?_
  refine lv_istore_n (lv' := [(3, .int 0), (2, .int (nI (exe σ a))), (0, .ref (mad (0, 0))), (1, .int (nI a))]) X.ex X.co dX10_grade_8 rfl hl (by decide) rfl (fun ls hl => ?_)
  refine lv_iconst (v := 0) X.ex X.co dX10_grade_9 (by decide) ?_
  refine lv_istore (lv' := [(4, .int 0), (3, .int 0), (2, .int (nI (exe σ a))), (0, .ref (mad (0, 0))), (1, .int (nI a))]) X.ex X.co dX10_grade_10 hl (by decide) rfl (fun ls hl => ?_)
  refine lv_iconst (v := 0) X.ex X.co dX10_grade_12 (by decide) ?_
  refine lv_istore (lv' := [(5, .int 0), (4, .int 0), (3, .int 0), (2, .int (nI (exe σ a))), (0, .ref (mad (0, 0))), (1, .int (nI a))]) X.ex X.co dX10_grade_13 hl (by decide) rfl (fun ls hl => ?_)
  have loop_2 : ∀ (fu_1 k : Nat), k ≤ cas σ (exe σ a) → cas σ (exe σ a) < k + fu_1 → ∀ ls : Array Slot, lv_has ls 6 [(5, .int (nI k)), (4, .int (sumS σ a k)), (3, .int (nI (allS σ (exe σ a) k))), (2, .int (nI (exe σ a))), (0, .ref (mad (0, 0))), (1, .int (nI a))] → Wr p l e 1 s m args below meth c (some (.int (grade σ a))) 15 ls [] := by
    intro fu_1
    induction fu_1 with
    | zero => intro k h_4 h_5; exact absurd h_5 (by omega)
    | succ fu_1 ih_3 =>
      intro k h_4 h_5 ls hl
      have hf := hI0.an ha; have hf2 := hI0.ex hf.2.1; have hf3 := allS_b hI0 hf.2.1 k h_4
      refine lv_iload X.ex X.co dX10_grade_15 (lv_at hl 0 rfl) ?_
      refine lv_aload_n X.ex X.co dX10_grade_17 rfl (lv_at hl 4 rfl) ?_
      refine m_getA X hK F 16 (by decide) rfl m_1367 rfl dX10_grade_18 ?_
      refine lv_iload_n X.ex X.co dX10_grade_21 rfl (lv_at hl 3 rfl) ?_
      refine m_ald X hK F 16 (by decide) rfl rfl (exe σ a) (by first | omega | (show _ < 12; omega)) (x := nI (cas σ (exe σ a))) rfl dX10_grade_22 ?_
      have hf := hI0.ex (i := exe σ a) (by omega)
      refine n_cmp_ge X (x := k) (y := cas σ (exe σ a)) (tgt := 59) (by omega) (by omega) dX10_grade_23 (by decide) (fun c_6 => ?_) (fun c_6 => ?_)
      · have hq_7 : k = cas σ (exe σ a) := by omega
        rw [hq_7] at hl
        refine lv_bipush (v := 100) X.ex X.co dX10_grade_59 (by decide) ?_
        refine lv_iload X.ex X.co dX10_grade_61 (lv_at hl 1 rfl) ?_
        refine lv_imul X.ex X.co dX10_grade_63 ?_
        refine lv_iload_n X.ex X.co dX10_grade_64 rfl (lv_at hl 2 rfl) ?_
        refine lv_idiv X.ex X.co dX10_grade_65 (allS_nz hI0 ha) ?_
        refine lv_aload_n X.ex X.co dX10_grade_66 rfl (lv_at hl 4 rfl) ?_
        refine m_getA X hK F 25 (by decide) rfl m_1376 rfl dX10_grade_67 ?_
        refine lv_iload_n X.ex X.co dX10_grade_70 rfl (lv_at hl 5 rfl) ?_
        refine m_ald X hK F 25 (by decide) rfl rfl a (by first | omega | (show _ < 100; omega)) (x := (σ.2 25 a)) rfl dX10_grade_71 ?_
        refine lv_iadd X.ex X.co dX10_grade_72 ?_
        refine lv_topi (fun it eit => ?_)
        refine lv_istore (lv' := [(5, .int it), (4, .int (sumS σ a (cas σ (exe σ a)))), (3, .int (nI (allS σ (exe σ a) (cas σ (exe σ a))))), (2, .int (nI (exe σ a))), (0, .ref (mad (0, 0))), (1, .int (nI a))]) X.ex X.co dX10_grade_73 hl (by decide) rfl (fun ls hl => ?_)
        refine lv_iload X.ex X.co dX10_grade_75 (lv_at hl 0 rfl) ?_
        refine lv_bipush (v := 100) X.ex X.co dX10_grade_77 (by decide) ?_
        refine lv_icmp_le (tgt := 87) X.ex X.co dX10_grade_79 (by decide) (fun c_8 => ?_) (fun c_8 => ?_)
        · refine lv_iload X.ex X.co dX10_grade_87 (lv_at hl 0 rfl) ?_
          exact r_i X rfl rfl (by simp only [grade, grade0, ← eit]; clear eit; simp [*]) dX10_grade_89
        · refine lv_bipush (v := 100) X.ex X.co dX10_grade_82 (by decide) ?_
          refine lv_goto (tgt := 89) X.ex X.co dX10_grade_84 (by decide) ?_
          exact r_i X rfl rfl (by simp only [grade, grade0, ← eit]; clear eit; simp [*]) dX10_grade_89
      · refine lv_iload_n X.ex X.co dX10_grade_26 rfl (lv_at hl 2 rfl) ?_
        refine lv_aload_n X.ex X.co dX10_grade_27 rfl (lv_at hl 4 rfl) ?_
        refine m_getA X hK F 18 (by decide) rfl m_1369 rfl dX10_grade_28 ?_
        refine lv_bipush (v := 6) X.ex X.co dX10_grade_31 (by decide) ?_
        refine lv_iload_n X.ex X.co dX10_grade_33 rfl (lv_at hl 3 rfl) ?_
        refine n_mul X (x := 6) (y := exe σ a) dX10_grade_34 ?_
        refine lv_iload X.ex X.co dX10_grade_35 (lv_at hl 0 rfl) ?_
        refine n_add X (x := 6 * (exe σ a)) (y := k) dX10_grade_37 ?_
        refine m_ald X hK F 18 (by decide) rfl rfl ((6 * (exe σ a)) + k) (by first | omega | (show _ < 72; omega)) (x := nI (wei σ ((6 * (exe σ a)) + k))) rfl dX10_grade_38 ?_
        refine n_add X (x := allS σ (exe σ a) k) (y := wei σ ((6 * (exe σ a)) + k)) dX10_grade_39 ?_
        refine lv_istore_n (lv' := [(3, .int (nI ((allS σ (exe σ a) k) + (wei σ ((6 * (exe σ a)) + k))))), (5, .int (nI k)), (4, .int (sumS σ a k)), (2, .int (nI (exe σ a))), (0, .ref (mad (0, 0))), (1, .int (nI a))]) X.ex X.co dX10_grade_40 rfl hl (by decide) rfl (fun ls hl => ?_)
        refine lv_iload X.ex X.co dX10_grade_41 (lv_at hl 2 rfl) ?_
        refine lv_aload_n X.ex X.co dX10_grade_43 rfl (lv_at hl 4 rfl) ?_
        refine lv_iload_n X.ex X.co dX10_grade_44 rfl (lv_at hl 5 rfl) ?_
        refine lv_iload X.ex X.co dX10_grade_45 (lv_at hl 1 rfl) ?_
        refine q_rV X ce_X10_credit m_1568 (c_X10_credit l G mad A σ hI0 a k (by omega) (by omega)) g0 F (mo F) rfl (by decide) rfl hl.1 rfl (Nat.le_of_ble_eq_true rfl) dX10_grade_47 (by omega) (by omega) ?_
        refine lv_iadd X.ex X.co dX10_grade_50 ?_
        refine lv_istore (lv' := [(4, .int ((sumS σ a k) + (cred σ a k))), (3, .int (nI ((allS σ (exe σ a) k) + (wei σ ((6 * (exe σ a)) + k))))), (5, .int (nI k)), (2, .int (nI (exe σ a))), (0, .ref (mad (0, 0))), (1, .int (nI a))]) X.ex X.co dX10_grade_51 hl (by decide) rfl (fun ls hl => ?_)
        refine lv_iinc (v := nI (k + 1)) (lv' := [(5, .int (nI (k + 1))), (4, .int ((sumS σ a k) + (cred σ a k))), (3, .int (nI ((allS σ (exe σ a) k) + (wei σ ((6 * (exe σ a)) + k))))), (2, .int (nI (exe σ a))), (0, .ref (mad (0, 0))), (1, .int (nI a))]) X.ex X.co dX10_grade_53 hl (k := 2) rfl (n_inc _) (by decide) rfl (fun ls hl => ?_)
        refine lv_goto (tgt := 15) X.ex X.co dX10_grade_56 (by decide) ?_
        have q_9 : (sumS σ a (k + 1)) = ((sumS σ a k) + (cred σ a k)) := by first | rfl | simp [allS, sumS, *]
        have q_10 : nI (allS σ (exe σ a) (k + 1)) = nI ((allS σ (exe σ a) k) + (wei σ ((6 * (exe σ a)) + k))) := by first | rfl | simp [allS, sumS, *]
        exact ih_3 (k + 1) (by omega) (by omega) ls (lv_sub hl [0, 1, 2, 3, 4, 5] (by first | rfl | (rw [q_9, q_10] <;> rfl)))
  exact loop_2 (cas σ (exe σ a) + 1) 0 (by omega) (by omega) ls (lv_sub hl [0, 1, 2, 3, 4, 5] rfl)
set_option maxHeartbeats 4000000 in
set_option maxRecDepth 100000 in
theorem c_X10_worth (l : Launch) (G : GT) (mad : I2 → Nat) (A : Nat → Prop) (σ : Sg) (hI0 : MI0 σ) (a : Nat) (on : Int32) (ha : a < nAn σ) : rM l yX10_worth cX10_worth 4 ((Option.some FieldType.int)) 2 G [.ref (mad (0, 0)), .int (nI a), .int on] (mw G mad A σ) (some (.int (worth σ a on))) := by
  refine mk_m (by decide) (Nat.le_of_ble_eq_true rfl) ?_
  intro p e s m args below meth c X ls hl g0 F hnm
  have hK := g0.1
  obtain ⟨b1, b2, b3, b4, b5, b6, b7⟩ := hI0.1
  have hl : lv_has ls 4 [(0, .ref (mad (0, 0))), (1, .int (nI a)), (2, .int on)] := hl
  show Wr p l e 2 s m args below meth c (some (.int (worth σ a on))) 0 ls []
  refine lv_aload_n X.ex X.co dX10_worth_0 rfl (lv_at hl 0 rfl) ?_
  refine lv_iload_n X.ex X.co dX10_worth_1 rfl (lv_at hl 1 rfl) ?_
  refine q_rV X ce_X10_grade m_1564 (c_X10_grade l G mad A σ hI0 a (by omega)) g0 F (mo F) rfl (by decide) rfl hl.1 rfl (Nat.le_of_ble_eq_true rfl) dX10_worth_2 (by omega) (by omega) ?_
  refine lv_aload_n X.ex X.co dX10_worth_5 rfl (lv_at hl 0 rfl) ?_
  refine m_getA X hK F 9 (by decide) rfl m_1360 rfl dX10_worth_6 ?_
  refine lv_aload_n X.ex X.co dX10_worth_9 rfl (lv_at hl 0 rfl) ?_
  refine m_getA X hK F 12 (by decide) rfl m_1363 rfl dX10_worth_10 ?_
  refine lv_aload_n X.ex X.co dX10_worth_13 rfl (lv_at hl 0 rfl) ?_
  refine m_getA X hK F 21 (by decide) rfl m_1372 rfl dX10_worth_14 ?_
  refine lv_iload_n X.ex X.co dX10_worth_17 rfl (lv_at hl 1 rfl) ?_
  refine m_ald X hK F 21 (by decide) rfl rfl a (by first | omega | (show _ < 100; omega)) (x := nI (exe σ a)) rfl dX10_worth_18 ?_
  have hf := hI0.an (i := a) (by omega); have hf2 := hI0.ex (i := exe σ a) (by omega)
  refine m_ald X hK F 12 (by decide) rfl rfl (exe σ a) (by first | omega | (show _ < 12; omega)) (x := nI (les σ (exe σ a))) rfl dX10_worth_19 ?_
  have hf := hI0.ex (i := exe σ a) (by omega)
  refine m_ald X hK F 9 (by decide) rfl rfl (les σ (exe σ a)) (by first | omega | (show _ < 8; omega)) (x := (σ.2 9 (les σ (exe σ a)))) rfl dX10_worth_20 ?_
  refine lv_iload_n X.ex X.co dX10_worth_21 rfl (lv_at hl 2 rfl) ?_
  refine lv_aload_n X.ex X.co dX10_worth_22 rfl (lv_at hl 0 rfl) ?_
  refine m_getA X hK F 24 (by decide) rfl m_1375 rfl dX10_worth_23 ?_
  refine lv_iload_n X.ex X.co dX10_worth_26 rfl (lv_at hl 1 rfl) ?_
  refine m_ald X hK F 24 (by decide) rfl rfl a (by first | omega | (show _ < 100; omega)) (x := (σ.2 24 a)) rfl dX10_worth_27 ?_
  refine lv_isub X.ex X.co dX10_worth_28 ?_
  refine lv_imul X.ex X.co dX10_worth_29 ?_
  refine lv_isub X.ex X.co dX10_worth_30 ?_
  refine lv_topi (fun it eit => ?_)
  refine lv_istore_n (lv' := [(3, .int it), (0, .ref (mad (0, 0))), (1, .int (nI a)), (2, .int on)]) X.ex X.co dX10_worth_31 rfl hl (by decide) rfl (fun ls hl => ?_)
  refine lv_iload_n X.ex X.co dX10_worth_32 rfl (lv_at hl 0 rfl) ?_
  refine lv_if_le (tgt := 40) X.ex X.co dX10_worth_33 (by decide) (fun c_1 => ?_) (fun c_1 => ?_)
  · refine lv_iconst (v := 0) X.ex X.co dX10_worth_40 (by decide) ?_
    exact r_i X rfl rfl (by simp only [worth, worth0, ← eit]; clear eit; simp [*]) dX10_worth_41
  · refine lv_iload_n X.ex X.co dX10_worth_36 rfl (lv_at hl 0 rfl) ?_
    refine lv_goto (tgt := 41) X.ex X.co dX10_worth_37 (by decide) ?_
    exact r_i X rfl rfl (by simp only [worth, worth0, ← eit]; clear eit; simp [*]) dX10_worth_41
set_option maxHeartbeats 4000000 in
set_option maxRecDepth 100000 in
theorem c_X10_best (l : Launch) (G : GT) (mad : I2 → Nat) (A : Nat → Prop) (σ : Sg) (hI0 : MI0 σ) (u x : Nat) (on : Int32) (n : Nat) (hu : u < 2 ^ 31) (hx : x < 2 ^ 31) (hn : n ≤ nAn σ) : rM l yX10_best cX10_best 8 ((Option.some FieldType.int)) 3 G [.ref (mad (0, 0)), .int (nI u), .int (nI x), .int on, .int (nI n)] (mw G mad A σ) (some (.int (oI (bestS σ u x on n)))) := by
  refine mk_m (by decide) (Nat.le_of_ble_eq_true rfl) ?_
  intro p e s m args below meth c X ls hl g0 F hnm
  have hK := g0.1
  obtain ⟨b1, b2, b3, b4, b5, b6, b7⟩ := hI0.1
  have hl : lv_has ls 8 [(0, .ref (mad (0, 0))), (1, .int (nI u)), (2, .int (nI x)), (3, .int on), (4, .int (nI n))] := hl
  show Wr p l e 3 s m args below meth c (some (.int (oI (bestS σ u x on n)))) 0 ls []
  refine lv_iconst (v := (-1)) X.ex X.co dX10_best_0 (by decide) ?_
  refine lv_istore (lv' := [(5, .int (-1)), (0, .ref (mad (0, 0))), (1, .int (nI u)), (2, .int (nI x)), (3, .int on), (4, .int (nI n))]) X.ex X.co dX10_best_1 hl (by decide) rfl (fun ls hl => ?_)
  refine lv_iconst (v := 0) X.ex X.co dX10_best_3 (by decide) ?_
  refine lv_istore (lv' := [(6, .int 0), (5, .int (-1)), (0, .ref (mad (0, 0))), (1, .int (nI u)), (2, .int (nI x)), (3, .int on), (4, .int (nI n))]) X.ex X.co dX10_best_4 hl (by decide) rfl (fun ls hl => ?_)
  have loop_2 : ∀ (fu_1 i : Nat), i ≤ n → n < i + fu_1 → ∀ ls : Array Slot, lv_has ls 8 [(6, .int (nI i)), (5, .int (oI (bestS σ u x on i))), (0, .ref (mad (0, 0))), (1, .int (nI u)), (2, .int (nI x)), (3, .int on), (4, .int (nI n))] → Wr p l e 3 s m args below meth c (some (.int (oI (bestS σ u x on n)))) 6 ls [] := by
    intro fu_1
    induction fu_1 with
    | zero => intro i h_4 h_5; exact absurd h_5 (by omega)
    | succ fu_1 ih_3 =>
      intro i h_4 h_5 ls hl
      refine lv_iload X.ex X.co dX10_best_6 (lv_at hl 0 rfl) ?_
      refine lv_iload X.ex X.co dX10_best_8 (lv_at hl 6 rfl) ?_
      refine n_cmp_ge X (x := i) (y := n) (tgt := 85) (by omega) (by omega) dX10_best_10 (by decide) (fun c_6 => ?_) (fun c_6 => ?_)
      · have hq_7 : i = n := by omega
        rw [hq_7] at hl
        refine lv_iload X.ex X.co dX10_best_85 (lv_at hl 1 rfl) ?_
        exact r_i X rfl rfl rfl dX10_best_87
      · rcases hb_8 : bestS σ u x on i with _ | b_9
        · rw [hb_8] at hl
          dsimp only [oI] at hl
          refine lv_aload_n X.ex X.co dX10_best_13 rfl (lv_at hl 2 rfl) ?_
          refine m_getA X hK F 20 (by decide) rfl m_1371 rfl dX10_best_14 ?_
          refine lv_iload X.ex X.co dX10_best_17 (lv_at hl 0 rfl) ?_
          refine m_ald X hK F 20 (by decide) rfl rfl i (by first | omega | (show _ < 100; omega)) (x := nI (stu σ i)) rfl dX10_best_19 ?_
          have hf := hI0.an (i := i) (by omega)
          refine lv_iload_n X.ex X.co dX10_best_20 rfl (lv_at hl 3 rfl) ?_
          refine n_cmp_ne X (x := stu σ i) (y := u) (tgt := 39) (by omega) (by omega) dX10_best_21 (by decide) (fun c_10 => ?_) (fun c_10 => ?_)
          · refine lv_iconst (v := 0) X.ex X.co dX10_best_39 (by decide) ?_
            refine lv_istore (lv' := [(7, .int 0), (6, .int (nI i)), (5, .int (-1)), (0, .ref (mad (0, 0))), (1, .int (nI u)), (2, .int (nI x)), (3, .int on), (4, .int (nI n))]) X.ex X.co dX10_best_40 hl (by decide) rfl (fun ls hl => ?_)
            refine lv_iload X.ex X.co dX10_best_42 (lv_at hl 0 rfl) ?_
            refine lv_if_eq (tgt := 75) X.ex X.co dX10_best_44 (by decide) (fun c_11 => ?_) (fun c_11 => ?_)
            · refine lv_iload X.ex X.co dX10_best_75 (lv_at hl 2 rfl) ?_
              refine lv_istore (lv' := [(5, .int (-1)), (7, .int 0), (6, .int (nI i)), (0, .ref (mad (0, 0))), (1, .int (nI u)), (2, .int (nI x)), (3, .int on), (4, .int (nI n))]) X.ex X.co dX10_best_77 hl (by decide) rfl (fun ls hl => ?_)
              refine lv_iinc (v := nI (i + 1)) (lv' := [(6, .int (nI (i + 1))), (5, .int (-1)), (7, .int 0), (0, .ref (mad (0, 0))), (1, .int (nI u)), (2, .int (nI x)), (3, .int on), (4, .int (nI n))]) X.ex X.co dX10_best_79 hl (k := 2) rfl (n_inc _) (by decide) rfl (fun ls hl => ?_)
              refine lv_goto (tgt := 6) X.ex X.co dX10_best_82 (by decide) ?_
              have q_12 : oI (bestS σ u x on (i + 1)) = (-1) := by first | rfl | simp [bestS, oI, *]
              exact ih_3 (i + 1) (by omega) (by omega) ls (lv_sub hl [0, 1, 3, 4, 5, 6, 7] (by first | rfl | (rw [q_12] <;> rfl)))
            · exact absurd (by decide) c_11
          · refine lv_aload_n X.ex X.co dX10_best_24 rfl (lv_at hl 2 rfl) ?_
            refine m_getA X hK F 21 (by decide) rfl m_1372 rfl dX10_best_25 ?_
            refine lv_iload X.ex X.co dX10_best_28 (lv_at hl 0 rfl) ?_
            refine m_ald X hK F 21 (by decide) rfl rfl i (by first | omega | (show _ < 100; omega)) (x := nI (exe σ i)) rfl dX10_best_30 ?_
            have hf := hI0.an (i := i) (by omega); have hf2 := hI0.ex (i := exe σ i) (by omega)
            refine lv_iload_n X.ex X.co dX10_best_31 rfl (lv_at hl 4 rfl) ?_
            refine n_cmp_ne X (x := exe σ i) (y := x) (tgt := 39) (by omega) (by omega) dX10_best_32 (by decide) (fun c_13 => ?_) (fun c_13 => ?_)
            · refine lv_iconst (v := 0) X.ex X.co dX10_best_39 (by decide) ?_
              refine lv_istore (lv' := [(7, .int 0), (6, .int (nI i)), (5, .int (-1)), (0, .ref (mad (0, 0))), (1, .int (nI u)), (2, .int (nI x)), (3, .int on), (4, .int (nI n))]) X.ex X.co dX10_best_40 hl (by decide) rfl (fun ls hl => ?_)
              refine lv_iload X.ex X.co dX10_best_42 (lv_at hl 0 rfl) ?_
              refine lv_if_eq (tgt := 75) X.ex X.co dX10_best_44 (by decide) (fun c_14 => ?_) (fun c_14 => ?_)
              · refine lv_iload X.ex X.co dX10_best_75 (lv_at hl 2 rfl) ?_
                refine lv_istore (lv' := [(5, .int (-1)), (7, .int 0), (6, .int (nI i)), (0, .ref (mad (0, 0))), (1, .int (nI u)), (2, .int (nI x)), (3, .int on), (4, .int (nI n))]) X.ex X.co dX10_best_77 hl (by decide) rfl (fun ls hl => ?_)
                refine lv_iinc (v := nI (i + 1)) (lv' := [(6, .int (nI (i + 1))), (5, .int (-1)), (7, .int 0), (0, .ref (mad (0, 0))), (1, .int (nI u)), (2, .int (nI x)), (3, .int on), (4, .int (nI n))]) X.ex X.co dX10_best_79 hl (k := 2) rfl (n_inc _) (by decide) rfl (fun ls hl => ?_)
                refine lv_goto (tgt := 6) X.ex X.co dX10_best_82 (by decide) ?_
                have q_15 : oI (bestS σ u x on (i + 1)) = (-1) := by first | rfl | simp [bestS, oI, *]
                exact ih_3 (i + 1) (by omega) (by omega) ls (lv_sub hl [0, 1, 3, 4, 5, 6, 7] (by first | rfl | (rw [q_15] <;> rfl)))
              · exact absurd (by decide) c_14
            · refine lv_iconst (v := 1) X.ex X.co dX10_best_35 (by decide) ?_
              refine lv_goto (tgt := 40) X.ex X.co dX10_best_36 (by decide) ?_
              refine lv_istore (lv' := [(7, .int 1), (6, .int (nI i)), (5, .int (-1)), (0, .ref (mad (0, 0))), (1, .int (nI u)), (2, .int (nI x)), (3, .int on), (4, .int (nI n))]) X.ex X.co dX10_best_40 hl (by decide) rfl (fun ls hl => ?_)
              refine lv_iload X.ex X.co dX10_best_42 (lv_at hl 0 rfl) ?_
              refine lv_if_eq (tgt := 75) X.ex X.co dX10_best_44 (by decide) (fun c_16 => ?_) (fun c_16 => ?_)
              · exact absurd c_16 (by decide)
              · refine lv_iload X.ex X.co dX10_best_47 (lv_at hl 2 rfl) ?_
                refine lv_iconst (v := (-1)) X.ex X.co dX10_best_49 (by decide) ?_
                refine lv_icmp_eq (tgt := 70) X.ex X.co dX10_best_50 (by decide) (fun c_17 => ?_) (fun c_17 => ?_)
                · refine lv_iload X.ex X.co dX10_best_70 (lv_at hl 1 rfl) ?_
                  refine lv_goto (tgt := 77) X.ex X.co dX10_best_72 (by decide) ?_
                  refine lv_istore (lv' := [(5, .int (nI i)), (7, .int 1), (6, .int (nI i)), (0, .ref (mad (0, 0))), (1, .int (nI u)), (2, .int (nI x)), (3, .int on), (4, .int (nI n))]) X.ex X.co dX10_best_77 hl (by decide) rfl (fun ls hl => ?_)
                  refine lv_iinc (v := nI (i + 1)) (lv' := [(6, .int (nI (i + 1))), (5, .int (nI i)), (7, .int 1), (0, .ref (mad (0, 0))), (1, .int (nI u)), (2, .int (nI x)), (3, .int on), (4, .int (nI n))]) X.ex X.co dX10_best_79 hl (k := 2) rfl (n_inc _) (by decide) rfl (fun ls hl => ?_)
                  refine lv_goto (tgt := 6) X.ex X.co dX10_best_82 (by decide) ?_
                  have q_18 : oI (bestS σ u x on (i + 1)) = nI i := by first | rfl | simp [bestS, oI, *]
                  exact ih_3 (i + 1) (by omega) (by omega) ls (lv_sub hl [0, 1, 3, 4, 5, 6, 7] (by first | rfl | (rw [q_18] <;> rfl)))
                · exact absurd (by decide) c_17
        · rw [hb_8] at hl
          dsimp only [oI] at hl
          have hb_8_b := bestS_b hb_8
          refine lv_aload_n X.ex X.co dX10_best_13 rfl (lv_at hl 2 rfl) ?_
          refine m_getA X hK F 20 (by decide) rfl m_1371 rfl dX10_best_14 ?_
          refine lv_iload X.ex X.co dX10_best_17 (lv_at hl 0 rfl) ?_
          refine m_ald X hK F 20 (by decide) rfl rfl i (by first | omega | (show _ < 100; omega)) (x := nI (stu σ i)) rfl dX10_best_19 ?_
          have hf := hI0.an (i := i) (by omega)
          refine lv_iload_n X.ex X.co dX10_best_20 rfl (lv_at hl 3 rfl) ?_
          refine n_cmp_ne X (x := stu σ i) (y := u) (tgt := 39) (by omega) (by omega) dX10_best_21 (by decide) (fun c_19 => ?_) (fun c_19 => ?_)
          · refine lv_iconst (v := 0) X.ex X.co dX10_best_39 (by decide) ?_
            refine lv_istore (lv' := [(7, .int 0), (6, .int (nI i)), (5, .int (nI b_9)), (0, .ref (mad (0, 0))), (1, .int (nI u)), (2, .int (nI x)), (3, .int on), (4, .int (nI n))]) X.ex X.co dX10_best_40 hl (by decide) rfl (fun ls hl => ?_)
            refine lv_iload X.ex X.co dX10_best_42 (lv_at hl 0 rfl) ?_
            refine lv_if_eq (tgt := 75) X.ex X.co dX10_best_44 (by decide) (fun c_20 => ?_) (fun c_20 => ?_)
            · refine lv_iload X.ex X.co dX10_best_75 (lv_at hl 2 rfl) ?_
              refine lv_istore (lv' := [(5, .int (nI b_9)), (7, .int 0), (6, .int (nI i)), (0, .ref (mad (0, 0))), (1, .int (nI u)), (2, .int (nI x)), (3, .int on), (4, .int (nI n))]) X.ex X.co dX10_best_77 hl (by decide) rfl (fun ls hl => ?_)
              refine lv_iinc (v := nI (i + 1)) (lv' := [(6, .int (nI (i + 1))), (5, .int (nI b_9)), (7, .int 0), (0, .ref (mad (0, 0))), (1, .int (nI u)), (2, .int (nI x)), (3, .int on), (4, .int (nI n))]) X.ex X.co dX10_best_79 hl (k := 2) rfl (n_inc _) (by decide) rfl (fun ls hl => ?_)
              refine lv_goto (tgt := 6) X.ex X.co dX10_best_82 (by decide) ?_
              have q_21 : oI (bestS σ u x on (i + 1)) = nI b_9 := by first | rfl | simp [bestS, oI, *]
              exact ih_3 (i + 1) (by omega) (by omega) ls (lv_sub hl [0, 1, 3, 4, 5, 6, 7] (by first | rfl | (rw [q_21] <;> rfl)))
            · exact absurd (by decide) c_20
          · refine lv_aload_n X.ex X.co dX10_best_24 rfl (lv_at hl 2 rfl) ?_
            refine m_getA X hK F 21 (by decide) rfl m_1372 rfl dX10_best_25 ?_
            refine lv_iload X.ex X.co dX10_best_28 (lv_at hl 0 rfl) ?_
            refine m_ald X hK F 21 (by decide) rfl rfl i (by first | omega | (show _ < 100; omega)) (x := nI (exe σ i)) rfl dX10_best_30 ?_
            have hf := hI0.an (i := i) (by omega); have hf2 := hI0.ex (i := exe σ i) (by omega)
            refine lv_iload_n X.ex X.co dX10_best_31 rfl (lv_at hl 4 rfl) ?_
            refine n_cmp_ne X (x := exe σ i) (y := x) (tgt := 39) (by omega) (by omega) dX10_best_32 (by decide) (fun c_22 => ?_) (fun c_22 => ?_)
            · refine lv_iconst (v := 0) X.ex X.co dX10_best_39 (by decide) ?_
              refine lv_istore (lv' := [(7, .int 0), (6, .int (nI i)), (5, .int (nI b_9)), (0, .ref (mad (0, 0))), (1, .int (nI u)), (2, .int (nI x)), (3, .int on), (4, .int (nI n))]) X.ex X.co dX10_best_40 hl (by decide) rfl (fun ls hl => ?_)
              refine lv_iload X.ex X.co dX10_best_42 (lv_at hl 0 rfl) ?_
              refine lv_if_eq (tgt := 75) X.ex X.co dX10_best_44 (by decide) (fun c_23 => ?_) (fun c_23 => ?_)
              · refine lv_iload X.ex X.co dX10_best_75 (lv_at hl 2 rfl) ?_
                refine lv_istore (lv' := [(5, .int (nI b_9)), (7, .int 0), (6, .int (nI i)), (0, .ref (mad (0, 0))), (1, .int (nI u)), (2, .int (nI x)), (3, .int on), (4, .int (nI n))]) X.ex X.co dX10_best_77 hl (by decide) rfl (fun ls hl => ?_)
                refine lv_iinc (v := nI (i + 1)) (lv' := [(6, .int (nI (i + 1))), (5, .int (nI b_9)), (7, .int 0), (0, .ref (mad (0, 0))), (1, .int (nI u)), (2, .int (nI x)), (3, .int on), (4, .int (nI n))]) X.ex X.co dX10_best_79 hl (k := 2) rfl (n_inc _) (by decide) rfl (fun ls hl => ?_)
                refine lv_goto (tgt := 6) X.ex X.co dX10_best_82 (by decide) ?_
                have q_24 : oI (bestS σ u x on (i + 1)) = nI b_9 := by first | rfl | simp [bestS, oI, *]
                exact ih_3 (i + 1) (by omega) (by omega) ls (lv_sub hl [0, 1, 3, 4, 5, 6, 7] (by first | rfl | (rw [q_24] <;> rfl)))
              · exact absurd (by decide) c_23
            · refine lv_iconst (v := 1) X.ex X.co dX10_best_35 (by decide) ?_
              refine lv_goto (tgt := 40) X.ex X.co dX10_best_36 (by decide) ?_
              refine lv_istore (lv' := [(7, .int 1), (6, .int (nI i)), (5, .int (nI b_9)), (0, .ref (mad (0, 0))), (1, .int (nI u)), (2, .int (nI x)), (3, .int on), (4, .int (nI n))]) X.ex X.co dX10_best_40 hl (by decide) rfl (fun ls hl => ?_)
              refine lv_iload X.ex X.co dX10_best_42 (lv_at hl 0 rfl) ?_
              refine lv_if_eq (tgt := 75) X.ex X.co dX10_best_44 (by decide) (fun c_25 => ?_) (fun c_25 => ?_)
              · exact absurd c_25 (by decide)
              · refine lv_iload X.ex X.co dX10_best_47 (lv_at hl 2 rfl) ?_
                refine lv_iconst (v := (-1)) X.ex X.co dX10_best_49 (by decide) ?_
                refine lv_icmp_eq (tgt := 70) X.ex X.co dX10_best_50 (by decide) (fun c_26 => ?_) (fun c_26 => ?_)
                · exact absurd c_26 (nI_m1 (by omega))
                · refine lv_aload_n X.ex X.co dX10_best_53 rfl (lv_at hl 3 rfl) ?_
                  refine lv_iload X.ex X.co dX10_best_54 (lv_at hl 1 rfl) ?_
                  refine lv_iload_n X.ex X.co dX10_best_56 rfl (lv_at hl 6 rfl) ?_
                  refine q_rV X ce_X10_worth m_1560 (c_X10_worth l G mad A σ hI0 i on (by omega)) g0 F (mo F) rfl (by decide) rfl hl.1 rfl (Nat.le_of_ble_eq_true rfl) dX10_best_57 (by omega) (by omega) ?_
                  refine lv_aload_n X.ex X.co dX10_best_60 rfl (lv_at hl 3 rfl) ?_
                  refine lv_iload X.ex X.co dX10_best_61 (lv_at hl 2 rfl) ?_
                  refine lv_iload_n X.ex X.co dX10_best_63 rfl (lv_at hl 6 rfl) ?_
                  refine q_rV X ce_X10_worth m_1560 (c_X10_worth l G mad A σ hI0 b_9 on (by omega)) g0 F (mo F) rfl (by decide) rfl hl.1 rfl (Nat.le_of_ble_eq_true rfl) dX10_best_64 (by omega) (by omega) ?_
                  refine lv_icmp_le (tgt := 75) X.ex X.co dX10_best_67 (by decide) (fun c_27 => ?_) (fun c_27 => ?_)
                  · refine lv_iload X.ex X.co dX10_best_75 (lv_at hl 2 rfl) ?_
                    refine lv_istore (lv' := [(5, .int (nI b_9)), (7, .int 1), (6, .int (nI i)), (0, .ref (mad (0, 0))), (1, .int (nI u)), (2, .int (nI x)), (3, .int on), (4, .int (nI n))]) X.ex X.co dX10_best_77 hl (by decide) rfl (fun ls hl => ?_)
                    refine lv_iinc (v := nI (i + 1)) (lv' := [(6, .int (nI (i + 1))), (5, .int (nI b_9)), (7, .int 1), (0, .ref (mad (0, 0))), (1, .int (nI u)), (2, .int (nI x)), (3, .int on), (4, .int (nI n))]) X.ex X.co dX10_best_79 hl (k := 2) rfl (n_inc _) (by decide) rfl (fun ls hl => ?_)
                    refine lv_goto (tgt := 6) X.ex X.co dX10_best_82 (by decide) ?_
                    have q_28 : oI (bestS σ u x on (i + 1)) = nI b_9 := by first | rfl | simp [bestS, oI, *]
                    exact ih_3 (i + 1) (by omega) (by omega) ls (lv_sub hl [0, 1, 3, 4, 5, 6, 7] (by first | rfl | (rw [q_28] <;> rfl)))
                  · refine lv_iload X.ex X.co dX10_best_70 (lv_at hl 1 rfl) ?_
                    refine lv_goto (tgt := 77) X.ex X.co dX10_best_72 (by decide) ?_
                    refine lv_istore (lv' := [(5, .int (nI i)), (7, .int 1), (6, .int (nI i)), (0, .ref (mad (0, 0))), (1, .int (nI u)), (2, .int (nI x)), (3, .int on), (4, .int (nI n))]) X.ex X.co dX10_best_77 hl (by decide) rfl (fun ls hl => ?_)
                    refine lv_iinc (v := nI (i + 1)) (lv' := [(6, .int (nI (i + 1))), (5, .int (nI i)), (7, .int 1), (0, .ref (mad (0, 0))), (1, .int (nI u)), (2, .int (nI x)), (3, .int on), (4, .int (nI n))]) X.ex X.co dX10_best_79 hl (k := 2) rfl (n_inc _) (by decide) rfl (fun ls hl => ?_)
                    refine lv_goto (tgt := 6) X.ex X.co dX10_best_82 (by decide) ?_
                    have q_29 : oI (bestS σ u x on (i + 1)) = nI i := by first | rfl | simp [bestS, oI, *]
                    exact ih_3 (i + 1) (by omega) (by omega) ls (lv_sub hl [0, 1, 3, 4, 5, 6, 7] (by first | rfl | (rw [q_29] <;> rfl)))
  exact loop_2 (n + 1) 0 (by omega) (by omega) ls (lv_sub hl [0, 1, 2, 3, 4, 5, 6] rfl)
set_option maxHeartbeats 4000000 in
set_option maxRecDepth 100000 in
theorem c_X10_masteryBy (l : Launch) (G : GT) (mad : I2 → Nat) (A : Nat → Prop) (σ : Sg) (hI0 : MI0 σ) (u x : Nat) (on : Int32) (mE mA : Nat) (hu : u < 2 ^ 31) (hx : x < 2 ^ 31) (hE : mE ≤ nEx σ) (hn : mA ≤ nAn σ) : rM l yX10_masteryBy cX10_masteryBy 10 ((Option.some FieldType.int)) 4 G [.ref (mad (0, 0)), .int (nI u), .int (nI x), .int on, .int (nI mE), .int (nI mA)] (mw G mad A σ) (some (.int (masBy σ u x on mE mA))) := by
  refine mk_m (by decide) (Nat.le_of_ble_eq_true rfl) ?_
  intro p e s m args below meth c X ls hl g0 F hnm
  have hK := g0.1
  obtain ⟨b1, b2, b3, b4, b5, b6, b7⟩ := hI0.1
  have hl : lv_has ls 10 [(0, .ref (mad (0, 0))), (1, .int (nI u)), (2, .int (nI x)), (3, .int on), (4, .int (nI mE)), (5, .int (nI mA))] := hl
  show Wr p l e 4 s m args below meth c (some (.int (masBy σ u x on mE mA))) 0 ls []
  refine lv_iconst (v := 0) X.ex X.co dX10_masteryBy_0 (by decide) ?_
  refine lv_istore (lv' := [(6, .int 0), (0, .ref (mad (0, 0))), (1, .int (nI u)), (2, .int (nI x)), (3, .int on), (4, .int (nI mE)), (5, .int (nI mA))]) X.ex X.co dX10_masteryBy_1 hl (by decide) rfl (fun ls hl => ?_)
  refine lv_iconst (v := 0) X.ex X.co dX10_masteryBy_3 (by decide) ?_
  refine lv_istore (lv' := [(7, .int 0), (6, .int 0), (0, .ref (mad (0, 0))), (1, .int (nI u)), (2, .int (nI x)), (3, .int on), (4, .int (nI mE)), (5, .int (nI mA))]) X.ex X.co dX10_masteryBy_4 hl (by decide) rfl (fun ls hl => ?_)
  refine lv_iconst (v := 0) X.ex X.co dX10_masteryBy_6 (by decide) ?_
  refine lv_istore (lv' := [(8, .int 0), (7, .int 0), (6, .int 0), (0, .ref (mad (0, 0))), (1, .int (nI u)), (2, .int (nI x)), (3, .int on), (4, .int (nI mE)), (5, .int (nI mA))]) X.ex X.co dX10_masteryBy_7 hl (by decide) rfl (fun ls hl => ?_)
  have loop_2 : ∀ (fu_1 i : Nat), i ≤ mE → mE < i + fu_1 → ∀ ls : Array Slot, lv_has ls 10 [(8, .int (nI i)), (7, .int (masT σ u x on mA i)), (6, .int (nI (masN σ x i))), (0, .ref (mad (0, 0))), (1, .int (nI u)), (2, .int (nI x)), (3, .int on), (4, .int (nI mE)), (5, .int (nI mA))] → Wr p l e 4 s m args below meth c (some (.int (masBy σ u x on mE mA))) 9 ls [] := by
    intro fu_1
    induction fu_1 with
    | zero => intro i h_4 h_5; exact absurd h_5 (by omega)
    | succ fu_1 ih_3 =>
      intro i h_4 h_5 ls hl
      refine lv_iload X.ex X.co dX10_masteryBy_9 (lv_at hl 0 rfl) ?_
      refine lv_iload X.ex X.co dX10_masteryBy_11 (lv_at hl 7 rfl) ?_
      refine n_cmp_ge X (x := i) (y := mE) (tgt := 70) (by omega) (by omega) dX10_masteryBy_13 (by decide) (fun c_6 => ?_) (fun c_6 => ?_)
      · have hq_7 : i = mE := by omega
        rw [hq_7] at hl
        have hm := masN_b σ x mE
        refine lv_iload X.ex X.co dX10_masteryBy_70 (lv_at hl 2 rfl) ?_
        refine n_if_ne X (x := masN σ x mE) (tgt := 80) (by omega) dX10_masteryBy_72 (by decide) (fun c_8 => ?_) (fun c_8 => ?_)
        · refine lv_iload X.ex X.co dX10_masteryBy_80 (lv_at hl 1 rfl) ?_
          refine lv_iload X.ex X.co dX10_masteryBy_82 (lv_at hl 2 rfl) ?_
          refine lv_idiv X.ex X.co dX10_masteryBy_84 (nI_nz (by omega) (by omega)) ?_
          exact r_i X rfl rfl (by simp only [masBy]; rw [if_neg (by omega)]) dX10_masteryBy_85
        · refine lv_bipush (v := 100) X.ex X.co dX10_masteryBy_75 (by decide) ?_
          refine lv_goto (tgt := 85) X.ex X.co dX10_masteryBy_77 (by decide) ?_
          exact r_i X rfl rfl (by simp only [masBy]; rw [if_pos (by assumption)]) dX10_masteryBy_85
      · refine lv_aload_n X.ex X.co dX10_masteryBy_16 rfl (lv_at hl 3 rfl) ?_
        refine m_getA X hK F 12 (by decide) rfl m_1363 rfl dX10_masteryBy_17 ?_
        refine lv_iload X.ex X.co dX10_masteryBy_20 (lv_at hl 0 rfl) ?_
        refine m_ald X hK F 12 (by decide) rfl rfl i (by first | omega | (show _ < 12; omega)) (x := nI (les σ i)) rfl dX10_masteryBy_22 ?_
        have hf := hI0.ex (i := i) (by omega)
        refine lv_iload_n X.ex X.co dX10_masteryBy_23 rfl (lv_at hl 5 rfl) ?_
        refine n_cmp_ne X (x := les σ i) (y := x) (tgt := 64) (by omega) (by omega) dX10_masteryBy_24 (by decide) (fun c_9 => ?_) (fun c_9 => ?_)
        · refine lv_iinc (v := nI (i + 1)) (lv' := [(8, .int (nI (i + 1))), (7, .int (masT σ u x on mA i)), (6, .int (nI (masN σ x i))), (0, .ref (mad (0, 0))), (1, .int (nI u)), (2, .int (nI x)), (3, .int on), (4, .int (nI mE)), (5, .int (nI mA))]) X.ex X.co dX10_masteryBy_64 hl (k := 0) rfl (n_inc _) (by decide) rfl (fun ls hl => ?_)
          refine lv_goto (tgt := 9) X.ex X.co dX10_masteryBy_67 (by decide) ?_
          have q_10 : (masT σ u x on mA (i + 1)) = (masT σ u x on mA i) := by first | rfl | simp [masN, masT, oW, *]
          have q_11 : nI (masN σ x (i + 1)) = nI (masN σ x i) := by first | rfl | simp [masN, masT, oW, *]
          exact ih_3 (i + 1) (by omega) (by omega) ls (lv_sub hl [0, 1, 2, 3, 4, 5, 6, 7, 8] (by first | rfl | (rw [q_10, q_11] <;> rfl)))
        · refine lv_aload_n X.ex X.co dX10_masteryBy_27 rfl (lv_at hl 3 rfl) ?_
          refine lv_iload_n X.ex X.co dX10_masteryBy_28 rfl (lv_at hl 4 rfl) ?_
          refine lv_iload X.ex X.co dX10_masteryBy_29 (lv_at hl 0 rfl) ?_
          refine lv_iload_n X.ex X.co dX10_masteryBy_31 rfl (lv_at hl 6 rfl) ?_
          refine lv_iload X.ex X.co dX10_masteryBy_32 (lv_at hl 8 rfl) ?_
          refine q_rV X ce_X10_best m_1556 (c_X10_best l G mad A σ hI0 u i on mA (by omega) (by omega) (by omega)) g0 F (mo F) rfl (by decide) rfl hl.1 rfl (Nat.le_of_ble_eq_true rfl) dX10_masteryBy_34 (by omega) (by omega) ?_
          rcases hb_12 : bestS σ u i on mA with _ | b_13
          · refine lv_istore (lv' := [(9, .int (-1)), (8, .int (nI i)), (7, .int (masT σ u x on mA i)), (6, .int (nI (masN σ x i))), (0, .ref (mad (0, 0))), (1, .int (nI u)), (2, .int (nI x)), (3, .int on), (4, .int (nI mE)), (5, .int (nI mA))]) X.ex X.co dX10_masteryBy_37 hl (by decide) rfl (fun ls hl => ?_)
            refine lv_iload X.ex X.co dX10_masteryBy_39 (lv_at hl 2 rfl) ?_
            refine lv_iload X.ex X.co dX10_masteryBy_41 (lv_at hl 0 rfl) ?_
            refine lv_iconst (v := (-1)) X.ex X.co dX10_masteryBy_43 (by decide) ?_
            refine lv_icmp_ne (tgt := 51) X.ex X.co dX10_masteryBy_44 (by decide) (fun c_14 => ?_) (fun c_14 => ?_)
            · exact absurd (by decide) c_14
            · refine lv_iconst (v := 0) X.ex X.co dX10_masteryBy_47 (by decide) ?_
              refine lv_goto (tgt := 58) X.ex X.co dX10_masteryBy_48 (by decide) ?_
              refine lv_iadd X.ex X.co dX10_masteryBy_58 ?_
              refine lv_istore (lv' := [(7, .int ((masT σ u x on mA i) + 0)), (9, .int (-1)), (8, .int (nI i)), (6, .int (nI (masN σ x i))), (0, .ref (mad (0, 0))), (1, .int (nI u)), (2, .int (nI x)), (3, .int on), (4, .int (nI mE)), (5, .int (nI mA))]) X.ex X.co dX10_masteryBy_59 hl (by decide) rfl (fun ls hl => ?_)
              refine lv_iinc (v := nI ((masN σ x i) + 1)) (lv' := [(6, .int (nI ((masN σ x i) + 1))), (7, .int ((masT σ u x on mA i) + 0)), (9, .int (-1)), (8, .int (nI i)), (0, .ref (mad (0, 0))), (1, .int (nI u)), (2, .int (nI x)), (3, .int on), (4, .int (nI mE)), (5, .int (nI mA))]) X.ex X.co dX10_masteryBy_61 hl (k := 3) rfl (n_inc _) (by decide) rfl (fun ls hl => ?_)
              refine lv_iinc (v := nI (i + 1)) (lv' := [(8, .int (nI (i + 1))), (6, .int (nI ((masN σ x i) + 1))), (7, .int ((masT σ u x on mA i) + 0)), (9, .int (-1)), (0, .ref (mad (0, 0))), (1, .int (nI u)), (2, .int (nI x)), (3, .int on), (4, .int (nI mE)), (5, .int (nI mA))]) X.ex X.co dX10_masteryBy_64 hl (k := 3) rfl (n_inc _) (by decide) rfl (fun ls hl => ?_)
              refine lv_goto (tgt := 9) X.ex X.co dX10_masteryBy_67 (by decide) ?_
              have q_15 : (masT σ u x on mA (i + 1)) = ((masT σ u x on mA i) + 0) := by first | rfl | simp [masN, masT, oW, *]
              have q_16 : nI (masN σ x (i + 1)) = nI ((masN σ x i) + 1) := by first | rfl | simp [masN, masT, oW, *]
              exact ih_3 (i + 1) (by omega) (by omega) ls (lv_sub hl [0, 2, 1, 4, 5, 6, 7, 8, 9] (by first | rfl | (rw [q_15, q_16] <;> rfl)))
          · have hb_12_b := bestS_b hb_12
            refine lv_istore (lv' := [(9, .int (nI b_13)), (8, .int (nI i)), (7, .int (masT σ u x on mA i)), (6, .int (nI (masN σ x i))), (0, .ref (mad (0, 0))), (1, .int (nI u)), (2, .int (nI x)), (3, .int on), (4, .int (nI mE)), (5, .int (nI mA))]) X.ex X.co dX10_masteryBy_37 hl (by decide) rfl (fun ls hl => ?_)
            refine lv_iload X.ex X.co dX10_masteryBy_39 (lv_at hl 2 rfl) ?_
            refine lv_iload X.ex X.co dX10_masteryBy_41 (lv_at hl 0 rfl) ?_
            refine lv_iconst (v := (-1)) X.ex X.co dX10_masteryBy_43 (by decide) ?_
            refine lv_icmp_ne (tgt := 51) X.ex X.co dX10_masteryBy_44 (by decide) (fun c_17 => ?_) (fun c_17 => ?_)
            · refine lv_aload_n X.ex X.co dX10_masteryBy_51 rfl (lv_at hl 4 rfl) ?_
              refine lv_iload X.ex X.co dX10_masteryBy_52 (lv_at hl 0 rfl) ?_
              refine lv_iload_n X.ex X.co dX10_masteryBy_54 rfl (lv_at hl 7 rfl) ?_
              refine q_rV X ce_X10_worth m_1560 (c_X10_worth l G mad A σ hI0 b_13 on (by omega)) g0 F (mo F) rfl (by decide) rfl hl.1 rfl (Nat.le_of_ble_eq_true rfl) dX10_masteryBy_55 (by omega) (by omega) ?_
              refine lv_iadd X.ex X.co dX10_masteryBy_58 ?_
              refine lv_istore (lv' := [(7, .int ((masT σ u x on mA i) + (worth σ b_13 on))), (9, .int (nI b_13)), (8, .int (nI i)), (6, .int (nI (masN σ x i))), (0, .ref (mad (0, 0))), (1, .int (nI u)), (2, .int (nI x)), (3, .int on), (4, .int (nI mE)), (5, .int (nI mA))]) X.ex X.co dX10_masteryBy_59 hl (by decide) rfl (fun ls hl => ?_)
              refine lv_iinc (v := nI ((masN σ x i) + 1)) (lv' := [(6, .int (nI ((masN σ x i) + 1))), (7, .int ((masT σ u x on mA i) + (worth σ b_13 on))), (9, .int (nI b_13)), (8, .int (nI i)), (0, .ref (mad (0, 0))), (1, .int (nI u)), (2, .int (nI x)), (3, .int on), (4, .int (nI mE)), (5, .int (nI mA))]) X.ex X.co dX10_masteryBy_61 hl (k := 3) rfl (n_inc _) (by decide) rfl (fun ls hl => ?_)
              refine lv_iinc (v := nI (i + 1)) (lv' := [(8, .int (nI (i + 1))), (6, .int (nI ((masN σ x i) + 1))), (7, .int ((masT σ u x on mA i) + (worth σ b_13 on))), (9, .int (nI b_13)), (0, .ref (mad (0, 0))), (1, .int (nI u)), (2, .int (nI x)), (3, .int on), (4, .int (nI mE)), (5, .int (nI mA))]) X.ex X.co dX10_masteryBy_64 hl (k := 3) rfl (n_inc _) (by decide) rfl (fun ls hl => ?_)
              refine lv_goto (tgt := 9) X.ex X.co dX10_masteryBy_67 (by decide) ?_
              have q_18 : (masT σ u x on mA (i + 1)) = ((masT σ u x on mA i) + (worth σ b_13 on)) := by first | rfl | simp [masN, masT, oW, *]
              have q_19 : nI (masN σ x (i + 1)) = nI ((masN σ x i) + 1) := by first | rfl | simp [masN, masT, oW, *]
              exact ih_3 (i + 1) (by omega) (by omega) ls (lv_sub hl [0, 2, 1, 4, 5, 6, 7, 8, 9] (by first | rfl | (rw [q_18, q_19] <;> rfl)))
            · exact absurd c_17 (nI_m1 (by omega))
  exact loop_2 (mE + 1) 0 (by omega) (by omega) ls (lv_sub hl [0, 1, 2, 3, 4, 5, 6, 7, 8] rfl)
set_option maxHeartbeats 4000000 in
set_option maxRecDepth 100000 in
theorem c_X10_masteryNow (l : Launch) (G : GT) (mad : I2 → Nat) (A : Nat → Prop) (σ : Sg) (hI0 : MI0 σ) (u x : Nat) (hu : u < 2 ^ 31) (hx : x < 2 ^ 31) : rM l yX10_masteryNow cX10_masteryNow 3 ((Option.some FieldType.int)) 5 G [.ref (mad (0, 0)), .int (nI u), .int (nI x)] (mw G mad A σ) (some (.int (masNow σ u x))) := by
  refine mk_m (by decide) (Nat.le_of_ble_eq_true rfl) ?_
  intro p e s m args below meth c X ls hl g0 F hnm
  have hK := g0.1
  obtain ⟨b1, b2, b3, b4, b5, b6, b7⟩ := hI0.1
  have hl : lv_has ls 3 [(0, .ref (mad (0, 0))), (1, .int (nI u)), (2, .int (nI x))] := hl
  show Wr p l e 5 s m args below meth c (some (.int (masNow σ u x))) 0 ls []
  refine lv_aload_n X.ex X.co dX10_masteryNow_0 rfl (lv_at hl 0 rfl) ?_
  refine lv_iload_n X.ex X.co dX10_masteryNow_1 rfl (lv_at hl 1 rfl) ?_
  refine lv_iload_n X.ex X.co dX10_masteryNow_2 rfl (lv_at hl 2 rfl) ?_
  refine lv_aload_n X.ex X.co dX10_masteryNow_3 rfl (lv_at hl 0 rfl) ?_
  refine m_getV X hK F 1 (by decide) rfl rfl (x := dayV σ) rfl m_1352 rfl dX10_masteryNow_4 ?_
  refine lv_aload_n X.ex X.co dX10_masteryNow_7 rfl (lv_at hl 0 rfl) ?_
  refine m_getN X hK F 11 (by decide) rfl rfl (x := nEx σ) rfl m_1362 rfl dX10_masteryNow_8 ?_
  refine lv_aload_n X.ex X.co dX10_masteryNow_11 rfl (lv_at hl 0 rfl) ?_
  refine m_getN X hK F 19 (by decide) rfl rfl (x := nAn σ) rfl m_1370 rfl dX10_masteryNow_12 ?_
  refine q_rV X ce_X10_masteryBy m_1552 (c_X10_masteryBy l G mad A σ hI0 u x (dayV σ) (nEx σ) (nAn σ) (by omega) (by omega) (by omega) (by omega)) g0 F (mo F) rfl (by decide) rfl hl.1 rfl (Nat.le_of_ble_eq_true rfl) dX10_masteryNow_15 (by omega) (by omega) ?_
  exact r_i X rfl rfl rfl dX10_masteryNow_18
set_option maxHeartbeats 4000000 in
set_option maxRecDepth 100000 in
theorem c_X10_isOpen (l : Launch) (G : GT) (mad : I2 → Nat) (A : Nat → Prop) (σ : Sg) (hI0 : MI0 σ) (u x : Nat) (hu : u < 2 ^ 31) (hx : x < nLe σ) : rM l yX10_isOpen cX10_isOpen 5 ((Option.some FieldType.boolean)) 6 G [.ref (mad (0, 0)), .int (nI u), .int (nI x)] (mw G mad A σ) (some (.int (bI (openS σ u x x)))) := by
  refine mk_m (by decide) (Nat.le_of_ble_eq_true rfl) ?_
  intro p e s m args below meth c X ls hl g0 F hnm
  have hK := g0.1
  obtain ⟨b1, b2, b3, b4, b5, b6, b7⟩ := hI0.1
  have hl : lv_has ls 5 [(0, .ref (mad (0, 0))), (1, .int (nI u)), (2, .int (nI x))] := hl
  show Wr p l e 6 s m args below meth c (some (.int (bI (openS σ u x x)))) 0 ls []
  refine lv_iconst (v := 1) X.ex X.co dX10_isOpen_0 (by decide) ?_
  refine lv_istore_n (lv' := [(3, .int 1), (0, .ref (mad (0, 0))), (1, .int (nI u)), (2, .int (nI x))]) X.ex X.co dX10_isOpen_1 rfl hl (by decide) rfl (fun ls hl => ?_)
  refine lv_iconst (v := 0) X.ex X.co dX10_isOpen_2 (by decide) ?_
  refine lv_istore (lv' := [(4, .int 0), (3, .int 1), (0, .ref (mad (0, 0))), (1, .int (nI u)), (2, .int (nI x))]) X.ex X.co dX10_isOpen_3 hl (by decide) rfl (fun ls hl => ?_)
  have loop_2 : ∀ (fu_1 i : Nat), i ≤ x → x < i + fu_1 → ∀ ls : Array Slot, lv_has ls 5 [(4, .int (nI i)), (3, .int (bI (openS σ u x i))), (0, .ref (mad (0, 0))), (1, .int (nI u)), (2, .int (nI x))] → Wr p l e 6 s m args below meth c (some (.int (bI (openS σ u x x)))) 5 ls [] := by
    intro fu_1
    induction fu_1 with
    | zero => intro i h_4 h_5; exact absurd h_5 (by omega)
    | succ fu_1 ih_3 =>
      intro i h_4 h_5 ls hl
      refine lv_iload X.ex X.co dX10_isOpen_5 (lv_at hl 0 rfl) ?_
      refine lv_iload_n X.ex X.co dX10_isOpen_7 rfl (lv_at hl 4 rfl) ?_
      refine n_cmp_ge X (x := i) (y := x) (tgt := 53) (by omega) (by omega) dX10_isOpen_8 (by decide) (fun c_6 => ?_) (fun c_6 => ?_)
      · have hq_7 : i = x := by omega
        rw [hq_7] at hl
        refine lv_iload_n X.ex X.co dX10_isOpen_53 rfl (lv_at hl 1 rfl) ?_
        exact r_i X rfl (bI_nar _) rfl dX10_isOpen_54
      · refine lv_iload_n X.ex X.co dX10_isOpen_11 rfl (lv_at hl 1 rfl) ?_
        refine b_if_eq X (x := openS σ u x i) (tgt := 45) dX10_isOpen_12 (by decide) (fun c_8 => ?_) (fun c_8 => ?_)
        · refine lv_iconst (v := 0) X.ex X.co dX10_isOpen_45 (by decide) ?_
          refine lv_istore_n (lv' := [(3, .int 0), (4, .int (nI i)), (0, .ref (mad (0, 0))), (1, .int (nI u)), (2, .int (nI x))]) X.ex X.co dX10_isOpen_46 rfl hl (by decide) rfl (fun ls hl => ?_)
          refine lv_iinc (v := nI (i + 1)) (lv' := [(4, .int (nI (i + 1))), (3, .int 0), (0, .ref (mad (0, 0))), (1, .int (nI u)), (2, .int (nI x))]) X.ex X.co dX10_isOpen_47 hl (k := 1) rfl (n_inc _) (by decide) rfl (fun ls hl => ?_)
          refine lv_goto (tgt := 5) X.ex X.co dX10_isOpen_50 (by decide) ?_
          have q_9 : bI (openS σ u x (i + 1)) = 0 := by first | rfl | simp [openS, needB, bI, *]
          exact ih_3 (i + 1) (by omega) (by omega) ls (lv_sub hl [0, 1, 2, 3, 4] (by first | rfl | (rw [q_9] <;> rfl)))
        · refine lv_aload_n X.ex X.co dX10_isOpen_15 rfl (lv_at hl 2 rfl) ?_
          refine m_getA X hK F 8 (by decide) rfl m_1359 rfl dX10_isOpen_16 ?_
          refine lv_iload_n X.ex X.co dX10_isOpen_19 rfl (lv_at hl 4 rfl) ?_
          refine m_ald X hK F 8 (by decide) rfl rfl x (by first | omega | (show _ < 8; omega)) (x := (σ.2 8 x)) rfl dX10_isOpen_20 ?_
          refine lv_iload X.ex X.co dX10_isOpen_21 (lv_at hl 0 rfl) ?_
          refine lv_ishr X.ex X.co dX10_isOpen_23 ?_
          refine lv_iconst (v := 1) X.ex X.co dX10_isOpen_24 (by decide) ?_
          refine lv_iand X.ex X.co dX10_isOpen_25 ?_
          refine lv_if_eq (tgt := 41) X.ex X.co dX10_isOpen_26 (by decide) (fun c_10 => ?_) (fun c_10 => ?_)
          · refine lv_iconst (v := 1) X.ex X.co dX10_isOpen_41 (by decide) ?_
            refine lv_goto (tgt := 46) X.ex X.co dX10_isOpen_42 (by decide) ?_
            refine lv_istore_n (lv' := [(3, .int 1), (4, .int (nI i)), (0, .ref (mad (0, 0))), (1, .int (nI u)), (2, .int (nI x))]) X.ex X.co dX10_isOpen_46 rfl hl (by decide) rfl (fun ls hl => ?_)
            refine lv_iinc (v := nI (i + 1)) (lv' := [(4, .int (nI (i + 1))), (3, .int 1), (0, .ref (mad (0, 0))), (1, .int (nI u)), (2, .int (nI x))]) X.ex X.co dX10_isOpen_47 hl (k := 1) rfl (n_inc _) (by decide) rfl (fun ls hl => ?_)
            refine lv_goto (tgt := 5) X.ex X.co dX10_isOpen_50 (by decide) ?_
            have q_11 : bI (openS σ u x (i + 1)) = 1 := by first | rfl | simp [openS, needB, bI, *]
            exact ih_3 (i + 1) (by omega) (by omega) ls (lv_sub hl [0, 1, 2, 3, 4] (by first | rfl | (rw [q_11] <;> rfl)))
          · refine lv_aload_n X.ex X.co dX10_isOpen_29 rfl (lv_at hl 2 rfl) ?_
            refine lv_iload_n X.ex X.co dX10_isOpen_30 rfl (lv_at hl 3 rfl) ?_
            refine lv_iload X.ex X.co dX10_isOpen_31 (lv_at hl 0 rfl) ?_
            refine q_rV X ce_X10_masteryNow m_1548 (c_X10_masteryNow l G mad A σ hI0 u i (by omega) (by omega)) g0 F (mo F) rfl (by decide) rfl hl.1 rfl (Nat.le_of_ble_eq_true rfl) dX10_isOpen_33 (by omega) (by omega) ?_
            refine lv_bipush (v := 50) X.ex X.co dX10_isOpen_36 (by decide) ?_
            refine lv_icmp_lt (tgt := 45) X.ex X.co dX10_isOpen_38 (by decide) (fun c_12 => ?_) (fun c_12 => ?_)
            · refine lv_iconst (v := 0) X.ex X.co dX10_isOpen_45 (by decide) ?_
              refine lv_istore_n (lv' := [(3, .int 0), (4, .int (nI i)), (0, .ref (mad (0, 0))), (1, .int (nI u)), (2, .int (nI x))]) X.ex X.co dX10_isOpen_46 rfl hl (by decide) rfl (fun ls hl => ?_)
              refine lv_iinc (v := nI (i + 1)) (lv' := [(4, .int (nI (i + 1))), (3, .int 0), (0, .ref (mad (0, 0))), (1, .int (nI u)), (2, .int (nI x))]) X.ex X.co dX10_isOpen_47 hl (k := 1) rfl (n_inc _) (by decide) rfl (fun ls hl => ?_)
              refine lv_goto (tgt := 5) X.ex X.co dX10_isOpen_50 (by decide) ?_
              have q_13 : bI (openS σ u x (i + 1)) = 0 := by first | rfl | simp [openS, needB, bI, *]
              exact ih_3 (i + 1) (by omega) (by omega) ls (lv_sub hl [0, 1, 2, 3, 4] (by first | rfl | (rw [q_13] <;> rfl)))
            · refine lv_iconst (v := 1) X.ex X.co dX10_isOpen_41 (by decide) ?_
              refine lv_goto (tgt := 46) X.ex X.co dX10_isOpen_42 (by decide) ?_
              refine lv_istore_n (lv' := [(3, .int 1), (4, .int (nI i)), (0, .ref (mad (0, 0))), (1, .int (nI u)), (2, .int (nI x))]) X.ex X.co dX10_isOpen_46 rfl hl (by decide) rfl (fun ls hl => ?_)
              refine lv_iinc (v := nI (i + 1)) (lv' := [(4, .int (nI (i + 1))), (3, .int 1), (0, .ref (mad (0, 0))), (1, .int (nI u)), (2, .int (nI x))]) X.ex X.co dX10_isOpen_47 hl (k := 1) rfl (n_inc _) (by decide) rfl (fun ls hl => ?_)
              refine lv_goto (tgt := 5) X.ex X.co dX10_isOpen_50 (by decide) ?_
              have q_14 : bI (openS σ u x (i + 1)) = 1 := by first | rfl | simp [openS, needB, bI, *]
              exact ih_3 (i + 1) (by omega) (by omega) ls (lv_sub hl [0, 1, 2, 3, 4] (by first | rfl | (rw [q_14] <;> rfl)))
  exact loop_2 (x + 1) 0 (by omega) (by omega) ls (lv_sub hl [0, 1, 2, 3, 4] rfl)
set_option maxHeartbeats 4000000 in
set_option maxRecDepth 100000 in
theorem c_X10_why (l : Launch) (G : GT) (mad : I2 → Nat) (A : Nat → Prop) (σ : Sg) (hI0 : MI0 σ) (u x : Nat) (hu : u < nSt σ) (hx : x < nEx σ) : rM l yX10_why cX10_why 3 ((Option.some FieldType.char)) 7 G [.ref (mad (0, 0)), .int (nI u), .int (nI x)] (mw G mad A σ) (some (.int (whyS σ u x))) := by
  refine mk_m (by decide) (Nat.le_of_ble_eq_true rfl) ?_
  intro p e s m args below meth c X ls hl g0 F hnm
  have hK := g0.1
  obtain ⟨b1, b2, b3, b4, b5, b6, b7⟩ := hI0.1
  have hl : lv_has ls 3 [(0, .ref (mad (0, 0))), (1, .int (nI u)), (2, .int (nI x))] := hl
  have hf0 := hI0.st hu; have hf9 := hI0.ex hx
  show Wr p l e 7 s m args below meth c (some (.int (whyS σ u x))) 0 ls []
  refine lv_aload_n X.ex X.co dX10_why_0 rfl (lv_at hl 0 rfl) ?_
  refine m_getV X hK F 1 (by decide) rfl rfl (x := dayV σ) rfl m_1352 rfl dX10_why_1 ?_
  refine lv_aload_n X.ex X.co dX10_why_4 rfl (lv_at hl 0 rfl) ?_
  refine m_getA X hK F 3 (by decide) rfl m_1354 rfl dX10_why_5 ?_
  refine lv_aload_n X.ex X.co dX10_why_8 rfl (lv_at hl 0 rfl) ?_
  refine m_getA X hK F 6 (by decide) rfl m_1357 rfl dX10_why_9 ?_
  refine lv_iload_n X.ex X.co dX10_why_12 rfl (lv_at hl 1 rfl) ?_
  refine m_ald X hK F 6 (by decide) rfl rfl u (by first | omega | (show _ < 8; omega)) (x := nI (coh σ u)) rfl dX10_why_13 ?_
  have hf := hI0.st (i := u) (by omega)
  refine m_ald X hK F 3 (by decide) rfl rfl (coh σ u) (by first | omega | (show _ < 4; omega)) (x := (σ.2 3 (coh σ u))) rfl dX10_why_14 ?_
  refine lv_aload_n X.ex X.co dX10_why_15 rfl (lv_at hl 0 rfl) ?_
  refine m_getA X hK F 4 (by decide) rfl m_1355 rfl dX10_why_16 ?_
  refine lv_aload_n X.ex X.co dX10_why_19 rfl (lv_at hl 0 rfl) ?_
  refine m_getA X hK F 6 (by decide) rfl m_1357 rfl dX10_why_20 ?_
  refine lv_iload_n X.ex X.co dX10_why_23 rfl (lv_at hl 1 rfl) ?_
  refine m_ald X hK F 6 (by decide) rfl rfl u (by first | omega | (show _ < 8; omega)) (x := nI (coh σ u)) rfl dX10_why_24 ?_
  have hf := hI0.st (i := u) (by omega)
  refine m_ald X hK F 4 (by decide) rfl rfl (coh σ u) (by first | omega | (show _ < 4; omega)) (x := (σ.2 4 (coh σ u))) rfl dX10_why_25 ?_
  refine q_rS X ce_X10_in m_1494 (c_X10_in l G (dayV σ) (σ.2 3 (coh σ u)) (σ.2 4 (coh σ u))) g0 trivial (by decide) rfl hl.1 rfl (Nat.le_of_ble_eq_true rfl) dX10_why_26 (by omega) (by omega) ?_
  refine b_if_ne X (x := inB (dayV σ) (σ.2 3 (coh σ u)) (σ.2 4 (coh σ u))) (tgt := 35) dX10_why_29 (by decide) (fun c_1 => ?_) (fun c_1 => ?_)
  · refine lv_aload_n X.ex X.co dX10_why_35 rfl (lv_at hl 0 rfl) ?_
    refine m_getA X hK F 16 (by decide) rfl m_1367 rfl dX10_why_36 ?_
    refine lv_iload_n X.ex X.co dX10_why_39 rfl (lv_at hl 2 rfl) ?_
    refine m_ald X hK F 16 (by decide) rfl rfl x (by first | omega | (show _ < 12; omega)) (x := nI (cas σ x)) rfl dX10_why_40 ?_
    have hf := hI0.ex (i := x) (by omega)
    refine n_if_ne X (x := cas σ x) (tgt := 49) (by omega) dX10_why_41 (by decide) (fun c_2 => ?_) (fun c_2 => ?_)
    · refine lv_aload_n X.ex X.co dX10_why_49 rfl (lv_at hl 0 rfl) ?_
      refine lv_iload_n X.ex X.co dX10_why_50 rfl (lv_at hl 1 rfl) ?_
      refine lv_aload_n X.ex X.co dX10_why_51 rfl (lv_at hl 0 rfl) ?_
      refine m_getA X hK F 12 (by decide) rfl m_1363 rfl dX10_why_52 ?_
      refine lv_iload_n X.ex X.co dX10_why_55 rfl (lv_at hl 2 rfl) ?_
      refine m_ald X hK F 12 (by decide) rfl rfl x (by first | omega | (show _ < 12; omega)) (x := nI (les σ x)) rfl dX10_why_56 ?_
      have hf := hI0.ex (i := x) (by omega)
      refine q_rV X ce_X10_isOpen m_1544 (c_X10_isOpen l G mad A σ hI0 u (les σ x) (by omega) (by omega)) g0 F (mo F) rfl (by decide) rfl hl.1 rfl (Nat.le_of_ble_eq_true rfl) dX10_why_57 (by omega) (by omega) ?_
      refine b_if_eq X (x := openS σ u (les σ x) (les σ x)) (tgt := 68) dX10_why_60 (by decide) (fun c_3 => ?_) (fun c_3 => ?_)
      · refine lv_bipush (v := 112) X.ex X.co dX10_why_68 (by decide) ?_
        exact r_i X rfl (by decide) (by simp [whyS, *] <;> omega) dX10_why_70
      · refine lv_bipush (v := 45) X.ex X.co dX10_why_63 (by decide) ?_
        refine lv_goto (tgt := 70) X.ex X.co dX10_why_65 (by decide) ?_
        exact r_i X rfl (by decide) (by simp [whyS, *] <;> omega) dX10_why_70
    · refine lv_bipush (v := 99) X.ex X.co dX10_why_44 (by decide) ?_
      refine lv_goto (tgt := 70) X.ex X.co dX10_why_46 (by decide) ?_
      exact r_i X rfl (by decide) (by simp [whyS, *] <;> omega) dX10_why_70
  · refine lv_bipush (v := 100) X.ex X.co dX10_why_32 (by decide) ?_
    exact r_i X rfl (by decide) (by simp [whyS, *] <;> omega) dX10_why_34
set_option maxHeartbeats 4000000 in
set_option maxRecDepth 100000 in
theorem c_X10_isWaiting (l : Launch) (G : GT) (mad : I2 → Nat) (A : Nat → Prop) (σ : Sg) (hI0 : MI0 σ) (x : Nat) (hx : x < 2 ^ 31) (hap : nAp σ ≤ 100) (happ : ∀ i, i < nAp σ → app σ i < 2 ^ 31) : rM l yX10_isWaiting cX10_isWaiting 4 ((Option.some FieldType.boolean)) 0 G [.ref (mad (0, 0)), .int (nI x)] (mw G mad A σ) (some (.int (bI (waitS σ x (nAp σ))))) := by
  refine mk_m (by decide) (Nat.le_of_ble_eq_true rfl) ?_
  intro p e s m args below meth c X ls hl g0 F hnm
  have hK := g0.1
  obtain ⟨b1, b2, b3, b4, b5, b6, b7⟩ := hI0.1
  have hl : lv_has ls 4 [(0, .ref (mad (0, 0))), (1, .int (nI x))] := hl
  show Wr p l e 0 s m args below meth c (some (.int (bI (waitS σ x (nAp σ))))) 0 ls []
  refine lv_iconst (v := 0) X.ex X.co dX10_isWaiting_0 (by decide) ?_
  refine lv_istore_n (lv' := [(2, .int 0), (0, .ref (mad (0, 0))), (1, .int (nI x))]) X.ex X.co dX10_isWaiting_1 rfl hl (by decide) rfl (fun ls hl => ?_)
  refine lv_iconst (v := 0) X.ex X.co dX10_isWaiting_2 (by decide) ?_
  refine lv_istore_n (lv' := [(3, .int 0), (2, .int 0), (0, .ref (mad (0, 0))), (1, .int (nI x))]) X.ex X.co dX10_isWaiting_3 rfl hl (by decide) rfl (fun ls hl => ?_)
  have loop_2 : ∀ (fu_1 i : Nat), i ≤ nAp σ → nAp σ < i + fu_1 → ∀ ls : Array Slot, lv_has ls 4 [(3, .int (nI i)), (2, .int (bI (waitS σ x i))), (0, .ref (mad (0, 0))), (1, .int (nI x))] → Wr p l e 0 s m args below meth c (some (.int (bI (waitS σ x (nAp σ))))) 4 ls [] := by
    intro fu_1
    induction fu_1 with
    | zero => intro i h_4 h_5; exact absurd h_5 (by omega)
    | succ fu_1 ih_3 =>
      intro i h_4 h_5 ls hl
      refine lv_iload_n X.ex X.co dX10_isWaiting_4 rfl (lv_at hl 0 rfl) ?_
      refine lv_aload_n X.ex X.co dX10_isWaiting_5 rfl (lv_at hl 2 rfl) ?_
      refine m_getN X hK F 27 (by decide) rfl rfl (x := nAp σ) rfl m_1378 rfl dX10_isWaiting_6 ?_
      refine n_cmp_ge X (x := i) (y := nAp σ) (tgt := 38) (by omega) (by omega) dX10_isWaiting_9 (by decide) (fun c_6 => ?_) (fun c_6 => ?_)
      · have hq_7 : i = nAp σ := by omega
        rw [hq_7] at hl
        refine lv_iload_n X.ex X.co dX10_isWaiting_38 rfl (lv_at hl 1 rfl) ?_
        exact r_i X rfl (bI_nar _) rfl dX10_isWaiting_39
      · refine lv_iload_n X.ex X.co dX10_isWaiting_12 rfl (lv_at hl 1 rfl) ?_
        refine b_if_ne X (x := waitS σ x i) (tgt := 26) dX10_isWaiting_13 (by decide) (fun c_8 => ?_) (fun c_8 => ?_)
        · refine lv_iconst (v := 1) X.ex X.co dX10_isWaiting_26 (by decide) ?_
          refine lv_goto (tgt := 31) X.ex X.co dX10_isWaiting_27 (by decide) ?_
          refine lv_istore_n (lv' := [(2, .int 1), (3, .int (nI i)), (0, .ref (mad (0, 0))), (1, .int (nI x))]) X.ex X.co dX10_isWaiting_31 rfl hl (by decide) rfl (fun ls hl => ?_)
          refine lv_iinc (v := nI (i + 1)) (lv' := [(3, .int (nI (i + 1))), (2, .int 1), (0, .ref (mad (0, 0))), (1, .int (nI x))]) X.ex X.co dX10_isWaiting_32 hl (k := 1) rfl (n_inc _) (by decide) rfl (fun ls hl => ?_)
          refine lv_goto (tgt := 4) X.ex X.co dX10_isWaiting_35 (by decide) ?_
          have q_9 : bI (waitS σ x (i + 1)) = 1 := by first | rfl | simp [waitS, bI, *]
          exact ih_3 (i + 1) (by omega) (by omega) ls (lv_sub hl [0, 1, 2, 3] (by first | rfl | (rw [q_9] <;> rfl)))
        · have ha1 := happ i (by omega)
          refine lv_aload_n X.ex X.co dX10_isWaiting_16 rfl (lv_at hl 2 rfl) ?_
          refine m_getA X hK F 28 (by decide) rfl m_1379 rfl dX10_isWaiting_17 ?_
          refine lv_iload_n X.ex X.co dX10_isWaiting_20 rfl (lv_at hl 0 rfl) ?_
          refine m_ald X hK F 28 (by decide) rfl rfl i (by first | omega | (show _ < 100; omega)) (x := nI (app σ i)) rfl dX10_isWaiting_21 ?_
          refine lv_iload_n X.ex X.co dX10_isWaiting_22 rfl (lv_at hl 3 rfl) ?_
          refine n_cmp_ne X (x := app σ i) (y := x) (tgt := 30) (by omega) (by omega) dX10_isWaiting_23 (by decide) (fun c_10 => ?_) (fun c_10 => ?_)
          · refine lv_iconst (v := 0) X.ex X.co dX10_isWaiting_30 (by decide) ?_
            refine lv_istore_n (lv' := [(2, .int 0), (3, .int (nI i)), (0, .ref (mad (0, 0))), (1, .int (nI x))]) X.ex X.co dX10_isWaiting_31 rfl hl (by decide) rfl (fun ls hl => ?_)
            refine lv_iinc (v := nI (i + 1)) (lv' := [(3, .int (nI (i + 1))), (2, .int 0), (0, .ref (mad (0, 0))), (1, .int (nI x))]) X.ex X.co dX10_isWaiting_32 hl (k := 1) rfl (n_inc _) (by decide) rfl (fun ls hl => ?_)
            refine lv_goto (tgt := 4) X.ex X.co dX10_isWaiting_35 (by decide) ?_
            have q_11 : bI (waitS σ x (i + 1)) = 0 := by first | rfl | simp [waitS, bI, *]
            exact ih_3 (i + 1) (by omega) (by omega) ls (lv_sub hl [0, 1, 2, 3] (by first | rfl | (rw [q_11] <;> rfl)))
          · refine lv_iconst (v := 1) X.ex X.co dX10_isWaiting_26 (by decide) ?_
            refine lv_goto (tgt := 31) X.ex X.co dX10_isWaiting_27 (by decide) ?_
            refine lv_istore_n (lv' := [(2, .int 1), (3, .int (nI i)), (0, .ref (mad (0, 0))), (1, .int (nI x))]) X.ex X.co dX10_isWaiting_31 rfl hl (by decide) rfl (fun ls hl => ?_)
            refine lv_iinc (v := nI (i + 1)) (lv' := [(3, .int (nI (i + 1))), (2, .int 1), (0, .ref (mad (0, 0))), (1, .int (nI x))]) X.ex X.co dX10_isWaiting_32 hl (k := 1) rfl (n_inc _) (by decide) rfl (fun ls hl => ?_)
            refine lv_goto (tgt := 4) X.ex X.co dX10_isWaiting_35 (by decide) ?_
            have q_12 : bI (waitS σ x (i + 1)) = 1 := by first | rfl | simp [waitS, bI, *]
            exact ih_3 (i + 1) (by omega) (by omega) ls (lv_sub hl [0, 1, 2, 3] (by first | rfl | (rw [q_12] <;> rfl)))
  exact loop_2 (nAp σ + 1) 0 (by omega) (by omega) ls (lv_sub hl [0, 1, 2, 3] rfl)
set_option maxHeartbeats 4000000 in
set_option maxRecDepth 100000 in
theorem c_X10_isEnough (l : Launch) (G : GT) (mad : I2 → Nat) (A : Nat → Prop) (σ : Sg) (hI0 : MI0 σ) (x : Nat) (hx : x < 30) (h1 : cou σ x < 4) (h2 : hol σ x < 2 ^ 31) (h3 : eTh σ x ≤ nEx σ) (h4 : aTh σ x ≤ nAn σ) : rM l yX10_isEnough cX10_isEnough 5 ((Option.some FieldType.boolean)) 5 G [.ref (mad (0, 0)), .int (nI x)] (mw G mad A σ) (some (.int (bI (enoS σ x (nLe σ))))) := by
  refine mk_m (by decide) (Nat.le_of_ble_eq_true rfl) ?_
  intro p e s m args below meth c X ls hl g0 F hnm
  have hK := g0.1
  obtain ⟨b1, b2, b3, b4, b5, b6, b7⟩ := hI0.1
  have hl : lv_has ls 5 [(0, .ref (mad (0, 0))), (1, .int (nI x))] := hl
  show Wr p l e 5 s m args below meth c (some (.int (bI (enoS σ x (nLe σ))))) 0 ls []
  refine lv_iconst (v := 1) X.ex X.co dX10_isEnough_0 (by decide) ?_
  refine lv_istore_n (lv' := [(2, .int 1), (0, .ref (mad (0, 0))), (1, .int (nI x))]) X.ex X.co dX10_isEnough_1 rfl hl (by decide) rfl (fun ls hl => ?_)
  refine lv_iconst (v := 0) X.ex X.co dX10_isEnough_2 (by decide) ?_
  refine lv_istore_n (lv' := [(3, .int 0), (2, .int 1), (0, .ref (mad (0, 0))), (1, .int (nI x))]) X.ex X.co dX10_isEnough_3 rfl hl (by decide) rfl (fun ls hl => ?_)
  have loop_2 : ∀ (fu_1 i : Nat), i ≤ nLe σ → nLe σ < i + fu_1 → ∀ ls : Array Slot, lv_has ls 5 [(3, .int (nI i)), (2, .int (bI (enoS σ x i))), (0, .ref (mad (0, 0))), (1, .int (nI x))] → Wr p l e 5 s m args below meth c (some (.int (bI (enoS σ x (nLe σ))))) 4 ls [] := by
    intro fu_1
    induction fu_1 with
    | zero => intro i h_4 h_5; exact absurd h_5 (by omega)
    | succ fu_1 ih_3 =>
      intro i h_4 h_5 ls hl
      refine lv_iload_n X.ex X.co dX10_isEnough_4 rfl (lv_at hl 0 rfl) ?_
      refine lv_aload_n X.ex X.co dX10_isEnough_5 rfl (lv_at hl 2 rfl) ?_
      refine m_getN X hK F 7 (by decide) rfl rfl (x := nLe σ) rfl m_1358 rfl dX10_isEnough_6 ?_
      refine n_cmp_ge X (x := i) (y := nLe σ) (tgt := 102) (by omega) (by omega) dX10_isEnough_9 (by decide) (fun c_6 => ?_) (fun c_6 => ?_)
      · have hq_7 : i = nLe σ := by omega
        rw [hq_7] at hl
        refine lv_iload_n X.ex X.co dX10_isEnough_102 rfl (lv_at hl 1 rfl) ?_
        exact r_i X rfl (bI_nar _) rfl dX10_isEnough_103
      · refine lv_aload_n X.ex X.co dX10_isEnough_12 rfl (lv_at hl 2 rfl) ?_
        refine m_getA X hK F 33 (by decide) rfl m_1384 rfl dX10_isEnough_13 ?_
        refine lv_aload_n X.ex X.co dX10_isEnough_16 rfl (lv_at hl 2 rfl) ?_
        refine m_getA X hK F 37 (by decide) rfl m_1388 rfl dX10_isEnough_17 ?_
        refine lv_iload_n X.ex X.co dX10_isEnough_20 rfl (lv_at hl 3 rfl) ?_
        refine m_ald X hK F 37 (by decide) rfl rfl x (by first | omega | (show _ < 30; omega)) (x := nI (cou σ x)) rfl dX10_isEnough_21 ?_
        refine m_ald X hK F 33 (by decide) rfl rfl (cou σ x) (by first | omega | (show _ < 4; omega)) (x := (σ.2 33 (cou σ x))) rfl dX10_isEnough_22 ?_
        refine lv_iload_n X.ex X.co dX10_isEnough_23 rfl (lv_at hl 0 rfl) ?_
        refine lv_ishr X.ex X.co dX10_isEnough_24 ?_
        refine lv_iconst (v := 1) X.ex X.co dX10_isEnough_25 (by decide) ?_
        refine lv_iand X.ex X.co dX10_isEnough_26 ?_
        refine lv_iconst (v := 1) X.ex X.co dX10_isEnough_27 (by decide) ?_
        refine lv_icmp_ne (tgt := 35) X.ex X.co dX10_isEnough_28 (by decide) (fun c_8 => ?_) (fun c_8 => ?_)
        · refine lv_iconst (v := 0) X.ex X.co dX10_isEnough_35 (by decide) ?_
          refine lv_istore (lv' := [(4, .int 0), (3, .int (nI i)), (2, .int (bI (enoS σ x i))), (0, .ref (mad (0, 0))), (1, .int (nI x))]) X.ex X.co dX10_isEnough_36 hl (by decide) rfl (fun ls hl => ?_)
          refine lv_iload_n X.ex X.co dX10_isEnough_38 rfl (lv_at hl 2 rfl) ?_
          refine b_if_eq X (x := enoS σ x i) (tgt := 94) dX10_isEnough_39 (by decide) (fun c_9 => ?_) (fun c_9 => ?_)
          · refine lv_iconst (v := 0) X.ex X.co dX10_isEnough_94 (by decide) ?_
            refine lv_istore_n (lv' := [(2, .int 0), (4, .int 0), (3, .int (nI i)), (0, .ref (mad (0, 0))), (1, .int (nI x))]) X.ex X.co dX10_isEnough_95 rfl hl (by decide) rfl (fun ls hl => ?_)
            refine lv_iinc (v := nI (i + 1)) (lv' := [(3, .int (nI (i + 1))), (2, .int 0), (4, .int 0), (0, .ref (mad (0, 0))), (1, .int (nI x))]) X.ex X.co dX10_isEnough_96 hl (k := 2) rfl (n_inc _) (by decide) rfl (fun ls hl => ?_)
            refine lv_goto (tgt := 4) X.ex X.co dX10_isEnough_99 (by decide) ?_
            have q_10 : bI (enoS σ x (i + 1)) = 0 := by first | rfl | simp [enoS, hasB, bI, *]
            exact ih_3 (i + 1) (by omega) (by omega) ls (lv_sub hl [0, 1, 3, 4] (by first | rfl | (rw [q_10] <;> rfl)))
          · refine lv_iload X.ex X.co dX10_isEnough_42 (lv_at hl 0 rfl) ?_
            refine lv_if_eq (tgt := 90) X.ex X.co dX10_isEnough_44 (by decide) (fun c_11 => ?_) (fun c_11 => ?_)
            · refine lv_iconst (v := 1) X.ex X.co dX10_isEnough_90 (by decide) ?_
              refine lv_goto (tgt := 95) X.ex X.co dX10_isEnough_91 (by decide) ?_
              refine lv_istore_n (lv' := [(2, .int 1), (4, .int 0), (3, .int (nI i)), (0, .ref (mad (0, 0))), (1, .int (nI x))]) X.ex X.co dX10_isEnough_95 rfl hl (by decide) rfl (fun ls hl => ?_)
              refine lv_iinc (v := nI (i + 1)) (lv' := [(3, .int (nI (i + 1))), (2, .int 1), (4, .int 0), (0, .ref (mad (0, 0))), (1, .int (nI x))]) X.ex X.co dX10_isEnough_96 hl (k := 2) rfl (n_inc _) (by decide) rfl (fun ls hl => ?_)
              refine lv_goto (tgt := 4) X.ex X.co dX10_isEnough_99 (by decide) ?_
              have q_12 : bI (enoS σ x (i + 1)) = 1 := by first | rfl | simp [enoS, hasB, bI, *]
              exact ih_3 (i + 1) (by omega) (by omega) ls (lv_sub hl [0, 1, 3, 4] (by first | rfl | (rw [q_12] <;> rfl)))
            · exact absurd (by decide) c_11
        · refine lv_iconst (v := 1) X.ex X.co dX10_isEnough_31 (by decide) ?_
          refine lv_goto (tgt := 36) X.ex X.co dX10_isEnough_32 (by decide) ?_
          refine lv_istore (lv' := [(4, .int 1), (3, .int (nI i)), (2, .int (bI (enoS σ x i))), (0, .ref (mad (0, 0))), (1, .int (nI x))]) X.ex X.co dX10_isEnough_36 hl (by decide) rfl (fun ls hl => ?_)
          refine lv_iload_n X.ex X.co dX10_isEnough_38 rfl (lv_at hl 2 rfl) ?_
          refine b_if_eq X (x := enoS σ x i) (tgt := 94) dX10_isEnough_39 (by decide) (fun c_13 => ?_) (fun c_13 => ?_)
          · refine lv_iconst (v := 0) X.ex X.co dX10_isEnough_94 (by decide) ?_
            refine lv_istore_n (lv' := [(2, .int 0), (4, .int 1), (3, .int (nI i)), (0, .ref (mad (0, 0))), (1, .int (nI x))]) X.ex X.co dX10_isEnough_95 rfl hl (by decide) rfl (fun ls hl => ?_)
            refine lv_iinc (v := nI (i + 1)) (lv' := [(3, .int (nI (i + 1))), (2, .int 0), (4, .int 1), (0, .ref (mad (0, 0))), (1, .int (nI x))]) X.ex X.co dX10_isEnough_96 hl (k := 2) rfl (n_inc _) (by decide) rfl (fun ls hl => ?_)
            refine lv_goto (tgt := 4) X.ex X.co dX10_isEnough_99 (by decide) ?_
            have q_14 : bI (enoS σ x (i + 1)) = 0 := by first | rfl | simp [enoS, hasB, bI, *]
            exact ih_3 (i + 1) (by omega) (by omega) ls (lv_sub hl [0, 1, 3, 4] (by first | rfl | (rw [q_14] <;> rfl)))
          · refine lv_iload X.ex X.co dX10_isEnough_42 (lv_at hl 0 rfl) ?_
            refine lv_if_eq (tgt := 90) X.ex X.co dX10_isEnough_44 (by decide) (fun c_15 => ?_) (fun c_15 => ?_)
            · exact absurd c_15 (by decide)
            · refine lv_aload_n X.ex X.co dX10_isEnough_47 rfl (lv_at hl 3 rfl) ?_
              refine lv_aload_n X.ex X.co dX10_isEnough_48 rfl (lv_at hl 3 rfl) ?_
              refine m_getA X hK F 36 (by decide) rfl m_1387 rfl dX10_isEnough_49 ?_
              refine lv_iload_n X.ex X.co dX10_isEnough_52 rfl (lv_at hl 4 rfl) ?_
              refine m_ald X hK F 36 (by decide) rfl rfl x (by first | omega | (show _ < 30; omega)) (x := nI (hol σ x)) rfl dX10_isEnough_53 ?_
              refine lv_iload_n X.ex X.co dX10_isEnough_54 rfl (lv_at hl 1 rfl) ?_
              refine lv_aload_n X.ex X.co dX10_isEnough_55 rfl (lv_at hl 3 rfl) ?_
              refine m_getA X hK F 38 (by decide) rfl m_1389 rfl dX10_isEnough_56 ?_
              refine lv_iload_n X.ex X.co dX10_isEnough_59 rfl (lv_at hl 4 rfl) ?_
              refine m_ald X hK F 38 (by decide) rfl rfl x (by first | omega | (show _ < 30; omega)) (x := (σ.2 38 x)) rfl dX10_isEnough_60 ?_
              refine lv_aload_n X.ex X.co dX10_isEnough_61 rfl (lv_at hl 3 rfl) ?_
              refine m_getA X hK F 39 (by decide) rfl m_1390 rfl dX10_isEnough_62 ?_
              refine lv_iload_n X.ex X.co dX10_isEnough_65 rfl (lv_at hl 4 rfl) ?_
              refine m_ald X hK F 39 (by decide) rfl rfl x (by first | omega | (show _ < 30; omega)) (x := nI (eTh σ x)) rfl dX10_isEnough_66 ?_
              refine lv_aload_n X.ex X.co dX10_isEnough_67 rfl (lv_at hl 3 rfl) ?_
              refine m_getA X hK F 40 (by decide) rfl m_1391 rfl dX10_isEnough_68 ?_
              refine lv_iload_n X.ex X.co dX10_isEnough_71 rfl (lv_at hl 4 rfl) ?_
              refine m_ald X hK F 40 (by decide) rfl rfl x (by first | omega | (show _ < 30; omega)) (x := nI (aTh σ x)) rfl dX10_isEnough_72 ?_
              refine q_rV X ce_X10_masteryBy m_1552 (c_X10_masteryBy l G mad A σ hI0 (hol σ x) i (σ.2 38 x) (eTh σ x) (aTh σ x) (by omega) (by omega) (by omega) (by omega)) g0 F (mo F) rfl (by decide) rfl hl.1 rfl (Nat.le_of_ble_eq_true rfl) dX10_isEnough_73 (by omega) (by omega) ?_
              refine lv_aload_n X.ex X.co dX10_isEnough_76 rfl (lv_at hl 3 rfl) ?_
              refine m_getA X hK F 34 (by decide) rfl m_1385 rfl dX10_isEnough_77 ?_
              refine lv_aload_n X.ex X.co dX10_isEnough_80 rfl (lv_at hl 3 rfl) ?_
              refine m_getA X hK F 37 (by decide) rfl m_1388 rfl dX10_isEnough_81 ?_
              refine lv_iload_n X.ex X.co dX10_isEnough_84 rfl (lv_at hl 4 rfl) ?_
              refine m_ald X hK F 37 (by decide) rfl rfl x (by first | omega | (show _ < 30; omega)) (x := nI (cou σ x)) rfl dX10_isEnough_85 ?_
              refine m_ald X hK F 34 (by decide) rfl rfl (cou σ x) (by first | omega | (show _ < 4; omega)) (x := (σ.2 34 (cou σ x))) rfl dX10_isEnough_86 ?_
              refine lv_icmp_lt (tgt := 94) X.ex X.co dX10_isEnough_87 (by decide) (fun c_16 => ?_) (fun c_16 => ?_)
              · refine lv_iconst (v := 0) X.ex X.co dX10_isEnough_94 (by decide) ?_
                refine lv_istore_n (lv' := [(2, .int 0), (4, .int 1), (3, .int (nI i)), (0, .ref (mad (0, 0))), (1, .int (nI x))]) X.ex X.co dX10_isEnough_95 rfl hl (by decide) rfl (fun ls hl => ?_)
                refine lv_iinc (v := nI (i + 1)) (lv' := [(3, .int (nI (i + 1))), (2, .int 0), (4, .int 1), (0, .ref (mad (0, 0))), (1, .int (nI x))]) X.ex X.co dX10_isEnough_96 hl (k := 2) rfl (n_inc _) (by decide) rfl (fun ls hl => ?_)
                refine lv_goto (tgt := 4) X.ex X.co dX10_isEnough_99 (by decide) ?_
                have q_17 : bI (enoS σ x (i + 1)) = 0 := by first | rfl | simp [enoS, hasB, bI, *]
                exact ih_3 (i + 1) (by omega) (by omega) ls (lv_sub hl [0, 1, 3, 4] (by first | rfl | (rw [q_17] <;> rfl)))
              · refine lv_iconst (v := 1) X.ex X.co dX10_isEnough_90 (by decide) ?_
                refine lv_goto (tgt := 95) X.ex X.co dX10_isEnough_91 (by decide) ?_
                refine lv_istore_n (lv' := [(2, .int 1), (4, .int 1), (3, .int (nI i)), (0, .ref (mad (0, 0))), (1, .int (nI x))]) X.ex X.co dX10_isEnough_95 rfl hl (by decide) rfl (fun ls hl => ?_)
                refine lv_iinc (v := nI (i + 1)) (lv' := [(3, .int (nI (i + 1))), (2, .int 1), (4, .int 1), (0, .ref (mad (0, 0))), (1, .int (nI x))]) X.ex X.co dX10_isEnough_96 hl (k := 2) rfl (n_inc _) (by decide) rfl (fun ls hl => ?_)
                refine lv_goto (tgt := 4) X.ex X.co dX10_isEnough_99 (by decide) ?_
                have q_18 : bI (enoS σ x (i + 1)) = 1 := by first | rfl | simp [enoS, hasB, bI, *]
                exact ih_3 (i + 1) (by omega) (by omega) ls (lv_sub hl [0, 1, 3, 4] (by first | rfl | (rw [q_18] <;> rfl)))
  exact loop_2 (nLe σ + 1) 0 (by omega) (by omega) ls (lv_sub hl [0, 1, 2, 3] rfl)
set_option maxHeartbeats 4000000 in
set_option maxRecDepth 100000 in
theorem c_X10_standing (l : Launch) (G : GT) (mad : I2 → Nat) (A : Nat → Prop) (σ : Sg) (hI0 : MI0 σ) (u x : Nat) (hu : u < 2 ^ 31) (hx : x < 2 ^ 31) : rM l yX10_standing cX10_standing 5 ((Option.some FieldType.int)) 0 G [.ref (mad (0, 0)), .int (nI u), .int (nI x)] (mw G mad A σ) (some (.int (oI (stdS σ u x (nCe σ))))) := by
  refine mk_m (by decide) (Nat.le_of_ble_eq_true rfl) ?_
  intro p e s m args below meth c X ls hl g0 F hnm
  have hK := g0.1
  obtain ⟨b1, b2, b3, b4, b5, b6, b7⟩ := hI0.1
  have hl : lv_has ls 5 [(0, .ref (mad (0, 0))), (1, .int (nI u)), (2, .int (nI x))] := hl
  show Wr p l e 0 s m args below meth c (some (.int (oI (stdS σ u x (nCe σ))))) 0 ls []
  refine lv_iconst (v := (-1)) X.ex X.co dX10_standing_0 (by decide) ?_
  refine lv_istore_n (lv' := [(3, .int (-1)), (0, .ref (mad (0, 0))), (1, .int (nI u)), (2, .int (nI x))]) X.ex X.co dX10_standing_1 rfl hl (by decide) rfl (fun ls hl => ?_)
  refine lv_iconst (v := 0) X.ex X.co dX10_standing_2 (by decide) ?_
  refine lv_istore (lv' := [(4, .int 0), (3, .int (-1)), (0, .ref (mad (0, 0))), (1, .int (nI u)), (2, .int (nI x))]) X.ex X.co dX10_standing_3 hl (by decide) rfl (fun ls hl => ?_)
  have loop_2 : ∀ (fu_1 i : Nat), i ≤ nCe σ → nCe σ < i + fu_1 → ∀ ls : Array Slot, lv_has ls 5 [(4, .int (nI i)), (3, .int (oI (stdS σ u x i))), (0, .ref (mad (0, 0))), (1, .int (nI u)), (2, .int (nI x))] → Wr p l e 0 s m args below meth c (some (.int (oI (stdS σ u x (nCe σ))))) 5 ls [] := by
    intro fu_1
    induction fu_1 with
    | zero => intro i h_4 h_5; exact absurd h_5 (by omega)
    | succ fu_1 ih_3 =>
      intro i h_4 h_5 ls hl
      refine lv_iload X.ex X.co dX10_standing_5 (lv_at hl 0 rfl) ?_
      refine lv_aload_n X.ex X.co dX10_standing_7 rfl (lv_at hl 2 rfl) ?_
      refine m_getN X hK F 35 (by decide) rfl rfl (x := nCe σ) rfl m_1386 rfl dX10_standing_8 ?_
      refine n_cmp_ge X (x := i) (y := nCe σ) (tgt := 59) (by omega) (by omega) dX10_standing_11 (by decide) (fun c_6 => ?_) (fun c_6 => ?_)
      · have hq_7 : i = nCe σ := by omega
        rw [hq_7] at hl
        refine lv_iload_n X.ex X.co dX10_standing_59 rfl (lv_at hl 1 rfl) ?_
        exact r_i X rfl rfl rfl dX10_standing_60
      · refine lv_aload_n X.ex X.co dX10_standing_14 rfl (lv_at hl 2 rfl) ?_
        refine m_getA X hK F 36 (by decide) rfl m_1387 rfl dX10_standing_15 ?_
        refine lv_iload X.ex X.co dX10_standing_18 (lv_at hl 0 rfl) ?_
        refine m_ald X hK F 36 (by decide) rfl rfl i (by first | omega | (show _ < 30; omega)) (x := nI (hol σ i)) rfl dX10_standing_20 ?_
        have hf := hI0.ce (i := i) (by omega)
        refine lv_iload_n X.ex X.co dX10_standing_21 rfl (lv_at hl 3 rfl) ?_
        refine n_cmp_ne X (x := hol σ i) (y := u) (tgt := 51) (by omega) (by omega) dX10_standing_22 (by decide) (fun c_8 => ?_) (fun c_8 => ?_)
        · refine lv_iload_n X.ex X.co dX10_standing_51 rfl (lv_at hl 1 rfl) ?_
          refine lv_istore_n (lv' := [(3, .int (oI (stdS σ u x i))), (4, .int (nI i)), (0, .ref (mad (0, 0))), (1, .int (nI u)), (2, .int (nI x))]) X.ex X.co dX10_standing_52 rfl hl (by decide) rfl (fun ls hl => ?_)
          refine lv_iinc (v := nI (i + 1)) (lv' := [(4, .int (nI (i + 1))), (3, .int (oI (stdS σ u x i))), (0, .ref (mad (0, 0))), (1, .int (nI u)), (2, .int (nI x))]) X.ex X.co dX10_standing_53 hl (k := 1) rfl (n_inc _) (by decide) rfl (fun ls hl => ?_)
          refine lv_goto (tgt := 5) X.ex X.co dX10_standing_56 (by decide) ?_
          have q_9 : oI (stdS σ u x (i + 1)) = oI (stdS σ u x i) := by first | rfl | simp [stdS, oI, *]
          exact ih_3 (i + 1) (by omega) (by omega) ls (lv_sub hl [0, 1, 2, 3, 4] (by first | rfl | (rw [q_9] <;> rfl)))
        · refine lv_aload_n X.ex X.co dX10_standing_25 rfl (lv_at hl 2 rfl) ?_
          refine m_getA X hK F 37 (by decide) rfl m_1388 rfl dX10_standing_26 ?_
          refine lv_iload X.ex X.co dX10_standing_29 (lv_at hl 0 rfl) ?_
          refine m_ald X hK F 37 (by decide) rfl rfl i (by first | omega | (show _ < 30; omega)) (x := nI (cou σ i)) rfl dX10_standing_31 ?_
          have hf := hI0.ce (i := i) (by omega)
          refine lv_iload_n X.ex X.co dX10_standing_32 rfl (lv_at hl 4 rfl) ?_
          refine n_cmp_ne X (x := cou σ i) (y := x) (tgt := 51) (by omega) (by omega) dX10_standing_33 (by decide) (fun c_10 => ?_) (fun c_10 => ?_)
          · refine lv_iload_n X.ex X.co dX10_standing_51 rfl (lv_at hl 1 rfl) ?_
            refine lv_istore_n (lv' := [(3, .int (oI (stdS σ u x i))), (4, .int (nI i)), (0, .ref (mad (0, 0))), (1, .int (nI u)), (2, .int (nI x))]) X.ex X.co dX10_standing_52 rfl hl (by decide) rfl (fun ls hl => ?_)
            refine lv_iinc (v := nI (i + 1)) (lv' := [(4, .int (nI (i + 1))), (3, .int (oI (stdS σ u x i))), (0, .ref (mad (0, 0))), (1, .int (nI u)), (2, .int (nI x))]) X.ex X.co dX10_standing_53 hl (k := 1) rfl (n_inc _) (by decide) rfl (fun ls hl => ?_)
            refine lv_goto (tgt := 5) X.ex X.co dX10_standing_56 (by decide) ?_
            have q_11 : oI (stdS σ u x (i + 1)) = oI (stdS σ u x i) := by first | rfl | simp [stdS, oI, *]
            exact ih_3 (i + 1) (by omega) (by omega) ls (lv_sub hl [0, 1, 2, 3, 4] (by first | rfl | (rw [q_11] <;> rfl)))
          · refine lv_aload_n X.ex X.co dX10_standing_36 rfl (lv_at hl 2 rfl) ?_
            refine m_getA X hK F 41 (by decide) rfl m_1392 rfl dX10_standing_37 ?_
            refine lv_iload X.ex X.co dX10_standing_40 (lv_at hl 0 rfl) ?_
            refine m_zald X hK F 41 (by decide) rfl rfl i (by first | omega | (show _ < 30; omega)) (x := (σ.2 41 i)) rfl dX10_standing_42 ?_
            refine lv_if_ne (tgt := 51) X.ex X.co dX10_standing_43 (by decide) (fun c_12 => ?_) (fun c_12 => ?_)
            · refine lv_iload_n X.ex X.co dX10_standing_51 rfl (lv_at hl 1 rfl) ?_
              refine lv_istore_n (lv' := [(3, .int (oI (stdS σ u x i))), (4, .int (nI i)), (0, .ref (mad (0, 0))), (1, .int (nI u)), (2, .int (nI x))]) X.ex X.co dX10_standing_52 rfl hl (by decide) rfl (fun ls hl => ?_)
              refine lv_iinc (v := nI (i + 1)) (lv' := [(4, .int (nI (i + 1))), (3, .int (oI (stdS σ u x i))), (0, .ref (mad (0, 0))), (1, .int (nI u)), (2, .int (nI x))]) X.ex X.co dX10_standing_53 hl (k := 1) rfl (n_inc _) (by decide) rfl (fun ls hl => ?_)
              refine lv_goto (tgt := 5) X.ex X.co dX10_standing_56 (by decide) ?_
              have q_13 : oI (stdS σ u x (i + 1)) = oI (stdS σ u x i) := by first | rfl | simp [stdS, oI, *]
              exact ih_3 (i + 1) (by omega) (by omega) ls (lv_sub hl [0, 1, 2, 3, 4] (by first | rfl | (rw [q_13] <;> rfl)))
            · refine lv_iload X.ex X.co dX10_standing_46 (lv_at hl 0 rfl) ?_
              refine lv_goto (tgt := 52) X.ex X.co dX10_standing_48 (by decide) ?_
              refine lv_istore_n (lv' := [(3, .int (nI i)), (4, .int (nI i)), (0, .ref (mad (0, 0))), (1, .int (nI u)), (2, .int (nI x))]) X.ex X.co dX10_standing_52 rfl hl (by decide) rfl (fun ls hl => ?_)
              refine lv_iinc (v := nI (i + 1)) (lv' := [(4, .int (nI (i + 1))), (3, .int (nI i)), (0, .ref (mad (0, 0))), (1, .int (nI u)), (2, .int (nI x))]) X.ex X.co dX10_standing_53 hl (k := 1) rfl (n_inc _) (by decide) rfl (fun ls hl => ?_)
              refine lv_goto (tgt := 5) X.ex X.co dX10_standing_56 (by decide) ?_
              have q_14 : oI (stdS σ u x (i + 1)) = nI i := by first | rfl | simp [stdS, oI, *]
              exact ih_3 (i + 1) (by omega) (by omega) ls (lv_sub hl [0, 1, 2, 3, 4] (by first | rfl | (rw [q_14] <;> rfl)))
  exact loop_2 (nCe σ + 1) 0 (by omega) (by omega) ls (lv_sub hl [0, 1, 2, 3, 4] rfl)
set_option maxHeartbeats 4000000 in
set_option maxRecDepth 100000 in
theorem c_X10_revokedNow (l : Launch) (G : GT) (mad : I2 → Nat) (A : Nat → Prop) (σ : Sg) (hI0 : MI0 σ) : rM l yX10_revokedNow cX10_revokedNow 3 ((Option.some FieldType.int)) 0 G [.ref (mad (0, 0))] (mw G mad A σ) (some (.int (nI (revS σ (nCe σ))))) := by
  refine mk_m (by decide) (Nat.le_of_ble_eq_true rfl) ?_
  intro p e s m args below meth c X ls hl g0 F hnm
  have hK := g0.1
  obtain ⟨b1, b2, b3, b4, b5, b6, b7⟩ := hI0.1
  have hl : lv_has ls 3 [(0, .ref (mad (0, 0)))] := hl
  show Wr p l e 0 s m args below meth c (some (.int (nI (revS σ (nCe σ))))) 0 ls []
  refine lv_iconst (v := 0) X.ex X.co dX10_revokedNow_0 (by decide) ?_
  refine lv_istore_n (lv' := [(1, .int 0), (0, .ref (mad (0, 0)))]) X.ex X.co dX10_revokedNow_1 rfl hl (by decide) rfl (fun ls hl => ?_)
  refine lv_iconst (v := 0) X.ex X.co dX10_revokedNow_2 (by decide) ?_
  refine lv_istore_n (lv' := [(2, .int 0), (1, .int 0), (0, .ref (mad (0, 0)))]) X.ex X.co dX10_revokedNow_3 rfl hl (by decide) rfl (fun ls hl => ?_)
  have loop_2 : ∀ (fu_1 i : Nat), i ≤ nCe σ → nCe σ < i + fu_1 → ∀ ls : Array Slot, lv_has ls 3 [(2, .int (nI i)), (1, .int (nI (revS σ i))), (0, .ref (mad (0, 0)))] → Wr p l e 0 s m args below meth c (some (.int (nI (revS σ (nCe σ))))) 4 ls [] := by
    intro fu_1
    induction fu_1 with
    | zero => intro i h_4 h_5; exact absurd h_5 (by omega)
    | succ fu_1 ih_3 =>
      intro i h_4 h_5 ls hl
      have hr := revS_b σ i
      refine lv_iload_n X.ex X.co dX10_revokedNow_4 rfl (lv_at hl 0 rfl) ?_
      refine lv_aload_n X.ex X.co dX10_revokedNow_5 rfl (lv_at hl 2 rfl) ?_
      refine m_getN X hK F 35 (by decide) rfl rfl (x := nCe σ) rfl m_1386 rfl dX10_revokedNow_6 ?_
      refine n_cmp_ge X (x := i) (y := nCe σ) (tgt := 35) (by omega) (by omega) dX10_revokedNow_9 (by decide) (fun c_6 => ?_) (fun c_6 => ?_)
      · have hq_7 : i = nCe σ := by omega
        rw [hq_7] at hl
        refine lv_iload_n X.ex X.co dX10_revokedNow_35 rfl (lv_at hl 1 rfl) ?_
        exact r_i X rfl rfl rfl dX10_revokedNow_36
      · refine lv_iload_n X.ex X.co dX10_revokedNow_12 rfl (lv_at hl 1 rfl) ?_
        refine lv_aload_n X.ex X.co dX10_revokedNow_13 rfl (lv_at hl 2 rfl) ?_
        refine m_getA X hK F 41 (by decide) rfl m_1392 rfl dX10_revokedNow_14 ?_
        refine lv_iload_n X.ex X.co dX10_revokedNow_17 rfl (lv_at hl 0 rfl) ?_
        refine m_zald X hK F 41 (by decide) rfl rfl i (by first | omega | (show _ < 30; omega)) (x := (σ.2 41 i)) rfl dX10_revokedNow_18 ?_
        refine lv_if_eq (tgt := 26) X.ex X.co dX10_revokedNow_19 (by decide) (fun c_8 => ?_) (fun c_8 => ?_)
        · refine lv_iconst (v := 0) X.ex X.co dX10_revokedNow_26 (by decide) ?_
          refine n_add X (x := revS σ i) (y := 0) dX10_revokedNow_27 ?_
          refine lv_istore_n (lv' := [(1, .int (nI ((revS σ i) + 0))), (2, .int (nI i)), (0, .ref (mad (0, 0)))]) X.ex X.co dX10_revokedNow_28 rfl hl (by decide) rfl (fun ls hl => ?_)
          refine lv_iinc (v := nI (i + 1)) (lv' := [(2, .int (nI (i + 1))), (1, .int (nI ((revS σ i) + 0))), (0, .ref (mad (0, 0)))]) X.ex X.co dX10_revokedNow_29 hl (k := 1) rfl (n_inc _) (by decide) rfl (fun ls hl => ?_)
          refine lv_goto (tgt := 4) X.ex X.co dX10_revokedNow_32 (by decide) ?_
          have q_9 : nI (revS σ (i + 1)) = nI ((revS σ i) + 0) := by first | rfl | simp [revS, *]
          exact ih_3 (i + 1) (by omega) (by omega) ls (lv_sub hl [0, 1, 2] (by first | rfl | (rw [q_9] <;> rfl)))
        · refine lv_iconst (v := 1) X.ex X.co dX10_revokedNow_22 (by decide) ?_
          refine lv_goto (tgt := 27) X.ex X.co dX10_revokedNow_23 (by decide) ?_
          refine n_add X (x := revS σ i) (y := 1) dX10_revokedNow_27 ?_
          refine lv_istore_n (lv' := [(1, .int (nI ((revS σ i) + 1))), (2, .int (nI i)), (0, .ref (mad (0, 0)))]) X.ex X.co dX10_revokedNow_28 rfl hl (by decide) rfl (fun ls hl => ?_)
          refine lv_iinc (v := nI (i + 1)) (lv' := [(2, .int (nI (i + 1))), (1, .int (nI ((revS σ i) + 1))), (0, .ref (mad (0, 0)))]) X.ex X.co dX10_revokedNow_29 hl (k := 1) rfl (n_inc _) (by decide) rfl (fun ls hl => ?_)
          refine lv_goto (tgt := 4) X.ex X.co dX10_revokedNow_32 (by decide) ?_
          have q_10 : nI (revS σ (i + 1)) = nI ((revS σ i) + 1) := by first | rfl | simp [revS, *]
          exact ih_3 (i + 1) (by omega) (by omega) ls (lv_sub hl [0, 1, 2] (by first | rfl | (rw [q_10] <;> rfl)))
  exact loop_2 (nCe σ + 1) 0 (by omega) (by omega) ls (lv_sub hl [0, 1, 2] rfl)
