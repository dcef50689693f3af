theorem ce_X10_in : ceS yX10_in cX10_in 3 ((Option.some FieldType.boolean)) 3 := ⟨m_1495, m_9, m_1496, ⟨by decide, by decide, by decide +kernel⟩, by decide⟩
theorem ce_X10_isRule : ceS yX10_isRule cX10_isRule 2 ((Option.some FieldType.boolean)) 2 := ⟨m_1518, m_9, m_1519, ⟨by decide, by decide, by decide +kernel⟩, by decide⟩
theorem ce_X10_fails : ceV yX10_fails cX10_fails 3 ((Option.some FieldType.boolean)) 2 := ⟨m_1499, mp_25, m_9, m_1500, ⟨by decide, by decide, by decide +kernel⟩, by decide⟩
theorem ce_X10_noStudent : ceV yX10_noStudent cX10_noStudent 2 ((Option.some FieldType.boolean)) 1 := ⟨m_1542, mp_29, m_9, m_1543, ⟨by decide, by decide, by decide +kernel⟩, by decide⟩
theorem ce_X10_noLesson : ceV yX10_noLesson cX10_noLesson 2 ((Option.some FieldType.boolean)) 1 := ⟨m_1515, mp_26, m_9, m_1516, ⟨by decide, by decide, by decide +kernel⟩, by decide⟩
theorem ce_X10_noExercise : ceV yX10_noExercise cX10_noExercise 2 ((Option.some FieldType.boolean)) 1 := ⟨m_1526, mp_27, m_9, m_1527, ⟨by decide, by decide, by decide +kernel⟩, by decide⟩
theorem ce_X10_noAnswer : ceV yX10_noAnswer cX10_noAnswer 2 ((Option.some FieldType.boolean)) 1 := ⟨m_1594, mp_38, m_9, m_1595, ⟨by decide, by decide, by decide +kernel⟩, by decide⟩
theorem ce_X10_noCourse : ceV yX10_noCourse cX10_noCourse 2 ((Option.some FieldType.boolean)) 1 := ⟨m_1680, mp_42, m_9, m_1681, ⟨by decide, by decide, by decide +kernel⟩, by decide⟩
theorem ce_X10_isAnswered : ceV yX10_isAnswered cX10_isAnswered 4 ((Option.some FieldType.boolean)) 1 := ⟨m_1530, mp_28, m_9, m_1531, ⟨by decide, by decide, by decide +kernel⟩, by decide⟩
theorem ce_X10_credit : ceV yX10_credit cX10_credit 7 ((Option.some FieldType.int)) 2 := ⟨m_1570, mp_36, m_9, m_1571, ⟨by decide, by decide, by decide +kernel⟩, by decide⟩
theorem ce_X10_grade : ceV yX10_grade cX10_grade 6 ((Option.some FieldType.int)) 1 := ⟨m_1566, mp_35, m_9, m_1567, ⟨by decide, by decide, by decide +kernel⟩, by decide⟩
theorem ce_X10_worth : ceV yX10_worth cX10_worth 4 ((Option.some FieldType.int)) 2 := ⟨m_1562, mp_34, m_9, m_1563, ⟨by decide, by decide, by decide +kernel⟩, by decide⟩
theorem ce_X10_best : ceV yX10_best cX10_best 8 ((Option.some FieldType.int)) 4 := ⟨m_1558, mp_33, m_9, m_1559, ⟨by decide, by decide, by decide +kernel⟩, by decide⟩
theorem ce_X10_masteryBy : ceV yX10_masteryBy cX10_masteryBy 10 ((Option.some FieldType.int)) 5 := ⟨m_1554, mp_32, m_9, m_1555, ⟨by decide, by decide, by decide +kernel⟩, by decide⟩
theorem ce_X10_masteryNow : ceV yX10_masteryNow cX10_masteryNow 3 ((Option.some FieldType.int)) 2 := ⟨m_1550, mp_31, m_9, m_1551, ⟨by decide, by decide, by decide +kernel⟩, by decide⟩
theorem ce_X10_isOpen : ceV yX10_isOpen cX10_isOpen 5 ((Option.some FieldType.boolean)) 2 := ⟨m_1546, mp_30, m_9, m_1547, ⟨by decide, by decide, by decide +kernel⟩, by decide⟩
theorem ce_X10_why : ceV yX10_why cX10_why 3 ((Option.some FieldType.char)) 2 := ⟨m_1578, mp_37, m_9, m_1579, ⟨by decide, by decide, by decide +kernel⟩, by decide⟩
theorem ce_X10_isWaiting : ceV yX10_isWaiting cX10_isWaiting 4 ((Option.some FieldType.boolean)) 1 := ⟨m_1632, mp_39, m_9, m_1633, ⟨by decide, by decide, by decide +kernel⟩, by decide⟩
theorem ce_X10_drop : ceV yX10_drop cX10_drop 4 ((Option.none : Option FieldType)) 1 := ⟨m_1640, mp_40, m_9, m_1641, ⟨by decide, by decide, by decide +kernel⟩, by decide⟩
theorem ce_X10_isEnough : ceV yX10_isEnough cX10_isEnough 5 ((Option.some FieldType.boolean)) 1 := ⟨m_1660, mp_41, m_9, m_1661, ⟨by decide, by decide, by decide +kernel⟩, by decide⟩
theorem ce_X10_standing : ceV yX10_standing cX10_standing 5 ((Option.some FieldType.int)) 2 := ⟨m_1684, mp_43, m_9, m_1685, ⟨by decide, by decide, by decide +kernel⟩, by decide⟩
theorem ce_X10_revokedNow : ceV yX10_revokedNow cX10_revokedNow 3 ((Option.some FieldType.int)) 0 := ⟨m_1700, mp_44, m_9, m_1701, ⟨by decide, by decide, by decide +kernel⟩, by decide⟩
theorem ce_X10_put : ceV yX10_put cX10_put 2 ((Option.none : Option FieldType)) 1 := ⟨m_1732, mp_46, m_9, m_1733, ⟨by decide, by decide, by decide +kernel⟩, by decide⟩
theorem ce_X10_putNumber : ceV yX10_putNumber cX10_putNumber 3 ((Option.none : Option FieldType)) 1 := ⟨m_1736, mp_47, m_9, m_1737, ⟨by decide, by decide, by decide +kernel⟩, by decide⟩
theorem ce_X10_putAnswer : ceV yX10_putAnswer cX10_putAnswer 1 ((Option.none : Option FieldType)) 0 := ⟨m_1728, mp_45, m_9, m_1729, ⟨by decide, by decide, by decide +kernel⟩, by decide⟩
theorem ce_X10_putPassed : ceV yX10_putPassed cX10_putPassed 2 ((Option.none : Option FieldType)) 1 := ⟨m_1740, mp_48, m_9, m_1741, ⟨by decide, by decide, by decide +kernel⟩, by decide⟩
set_option maxHeartbeats 4000000 in
set_option maxRecDepth 100000 in
theorem c_X10_in (l : Launch) (G : GT) (v lo hi : Int32) : rM l yX10_in cX10_in 3 ((Option.some FieldType.boolean)) 0 G [.int v, .int lo, .int hi] (fun _ => True) (some (.int (bI (inB v lo hi)))) := by
  refine mk_m (by decide) (Nat.le_of_ble_eq_true rfl) ?_
  intro p e s m args below meth c X ls hl g0 F hnm
  have hK := g0.1
  have hl : lv_has ls 3 [(0, .int v), (1, .int lo), (2, .int hi)] := hl
  show Wr p l e 0 s m args below meth c (some (.int (bI (inB v lo hi)))) 0 ls []
  refine lv_iload_n X.ex X.co dX10_in_0 rfl (lv_at hl 0 rfl) ?_
  refine lv_iload_n X.ex X.co dX10_in_1 rfl (lv_at hl 1 rfl) ?_
  refine lv_icmp_lt (tgt := 14) X.ex X.co dX10_in_2 (by decide) (fun c_1 => ?_) (fun c_1 => ?_)
  · refine lv_iconst (v := 0) X.ex X.co dX10_in_14 (by decide) ?_
    exact r_i X rfl (by decide) (by simp [inB, bI, *]) dX10_in_15
  · refine lv_iload_n X.ex X.co dX10_in_5 rfl (lv_at hl 0 rfl) ?_
    refine lv_iload_n X.ex X.co dX10_in_6 rfl (lv_at hl 2 rfl) ?_
    refine lv_icmp_gt (tgt := 14) X.ex X.co dX10_in_7 (by decide) (fun c_2 => ?_) (fun c_2 => ?_)
    · refine lv_iconst (v := 0) X.ex X.co dX10_in_14 (by decide) ?_
      exact r_i X rfl (by decide) (by simp [inB, bI, *]) dX10_in_15
    · refine lv_iconst (v := 1) X.ex X.co dX10_in_10 (by decide) ?_
      refine lv_goto (tgt := 15) X.ex X.co dX10_in_11 (by decide) ?_
      exact r_i X rfl (by decide) (by simp [inB, bI, *]) dX10_in_15
set_option maxHeartbeats 4000000 in
set_option maxRecDepth 100000 in
theorem c_X10_isRule (l : Launch) (G : GT) (f a : Int32) : rM l yX10_isRule cX10_isRule 2 ((Option.some FieldType.boolean)) 1 G [.int f, .int a] (fun _ => True) (some (.int (bI (isR f a)))) := by
  refine mk_m (by decide) (Nat.le_of_ble_eq_true rfl) ?_
  intro p e s m args below meth c X ls hl g0 F hnm
  have hK := g0.1
  have hl : lv_has ls 2 [(0, .int f), (1, .int a)] := hl
  show Wr p l e 1 s m args below meth c (some (.int (bI (isR f a)))) 0 ls []
  refine lv_iload_n X.ex X.co dX10_isRule_0 rfl (lv_at hl 0 rfl) ?_
  refine lv_bipush (v := (-9)) X.ex X.co dX10_isRule_1 (by decide) ?_
  refine lv_bipush (v := 9) X.ex X.co dX10_isRule_3 (by decide) ?_
  refine q_rS X ce_X10_in m_1494 (c_X10_in l G f (-9) 9) g0 trivial (by decide) rfl hl.1 rfl (Nat.le_of_ble_eq_true rfl) dX10_isRule_5 (by omega) (by omega) ?_
  refine b_if_eq X (x := inB f (-9) 9) (tgt := 26) dX10_isRule_8 (by decide) (fun c_1 => ?_) (fun c_1 => ?_)
  · refine lv_iconst (v := 0) X.ex X.co dX10_isRule_26 (by decide) ?_
    exact r_i X rfl (by decide) (by simp [isR, bI, *]) dX10_isRule_27
  · refine lv_iload_n X.ex X.co dX10_isRule_11 rfl (lv_at hl 1 rfl) ?_
    refine lv_bipush (v := (-99)) X.ex X.co dX10_isRule_12 (by decide) ?_
    refine lv_bipush (v := 99) X.ex X.co dX10_isRule_14 (by decide) ?_
    refine q_rS X ce_X10_in m_1494 (c_X10_in l G a (-99) 99) g0 trivial (by decide) rfl hl.1 rfl (Nat.le_of_ble_eq_true rfl) dX10_isRule_16 (by omega) (by omega) ?_
    refine b_if_eq X (x := inB a (-99) 99) (tgt := 26) dX10_isRule_19 (by decide) (fun c_2 => ?_) (fun c_2 => ?_)
    · refine lv_iconst (v := 0) X.ex X.co dX10_isRule_26 (by decide) ?_
      exact r_i X rfl (by decide) (by simp [isR, bI, *]) dX10_isRule_27
    · refine lv_iconst (v := 1) X.ex X.co dX10_isRule_22 (by decide) ?_
      refine lv_goto (tgt := 27) X.ex X.co dX10_isRule_23 (by decide) ?_
      exact r_i X rfl (by decide) (by simp [isR, bI, *]) dX10_isRule_27
set_option maxHeartbeats 4000000 in
set_option maxRecDepth 100000 in
theorem c_X10_noStudent (l : Launch) (G : GT) (mad : I2 → Nat) (A : Nat → Prop) (σ : Sg) (hI : MI σ) (v : Int32) : rM l yX10_noStudent cX10_noStudent 2 ((Option.some FieldType.boolean)) 1 G [.ref (mad (0, 0)), .int v] (mw G mad A σ) (some (.int (bI (!(inB v 0 (nI (nSt σ) - 1)))))) := by
  refine mk_m (by decide) (Nat.le_of_ble_eq_true rfl) ?_
  intro p e s m args below meth c X ls hl g0 F hnm
  have hK := g0.1
  obtain ⟨b1, b2, b3, b4, b5, b6, b7, b8, b9, b10⟩ := hI.1
  have hl : lv_has ls 2 [(0, .ref (mad (0, 0))), (1, .int v)] := hl
  show Wr p l e 1 s m args below meth c (some (.int (bI (!(inB v 0 (nI (nSt σ) - 1)))))) 0 ls []
  refine lv_iload_n X.ex X.co dX10_noStudent_0 rfl (lv_at hl 1 rfl) ?_
  refine lv_iconst (v := 0) X.ex X.co dX10_noStudent_1 (by decide) ?_
  refine lv_aload_n X.ex X.co dX10_noStudent_2 rfl (lv_at hl 0 rfl) ?_
  refine m_getN X hK F 5 (by decide) rfl rfl (x := nSt σ) rfl m_1356 rfl dX10_noStudent_3 ?_
  refine lv_iconst (v := 1) X.ex X.co dX10_noStudent_6 (by decide) ?_
  refine lv_isub X.ex X.co dX10_noStudent_7 ?_
  refine q_rS X ce_X10_in m_1494 (c_X10_in l G v 0 (nI (nSt σ) - 1)) g0 trivial (by decide) rfl hl.1 rfl (Nat.le_of_ble_eq_true rfl) dX10_noStudent_8 (by omega) (by omega) ?_
  refine b_if_ne X (x := inB v 0 (nI (nSt σ) - 1)) (tgt := 18) dX10_noStudent_11 (by decide) (fun c_1 => ?_) (fun c_1 => ?_)
  · refine lv_iconst (v := 0) X.ex X.co dX10_noStudent_18 (by decide) ?_
    exact r_i X rfl (by decide) (by simp [bI, *]) dX10_noStudent_19
  · refine lv_iconst (v := 1) X.ex X.co dX10_noStudent_14 (by decide) ?_
    refine lv_goto (tgt := 19) X.ex X.co dX10_noStudent_15 (by decide) ?_
    exact r_i X rfl (by decide) (by simp [bI, *]) dX10_noStudent_19
set_option maxHeartbeats 4000000 in
set_option maxRecDepth 100000 in
theorem c_X10_noLesson (l : Launch) (G : GT) (mad : I2 → Nat) (A : Nat → Prop) (σ : Sg) (hI : MI σ) (v : Int32) : rM l yX10_noLesson cX10_noLesson 2 ((Option.some FieldType.boolean)) 1 G [.ref (mad (0, 0)), .int v] (mw G mad A σ) (some (.int (bI (!(inB v 0 (nI (nLe σ) - 1)))))) := by
  refine mk_m (by decide) (Nat.le_of_ble_eq_true rfl) ?_
  intro p e s m args below meth c X ls hl g0 F hnm
  have hK := g0.1
  obtain ⟨b1, b2, b3, b4, b5, b6, b7, b8, b9, b10⟩ := hI.1
  have hl : lv_has ls 2 [(0, .ref (mad (0, 0))), (1, .int v)] := hl
  show Wr p l e 1 s m args below meth c (some (.int (bI (!(inB v 0 (nI (nLe σ) - 1)))))) 0 ls []
  refine lv_iload_n X.ex X.co dX10_noLesson_0 rfl (lv_at hl 1 rfl) ?_
  refine lv_iconst (v := 0) X.ex X.co dX10_noLesson_1 (by decide) ?_
  refine lv_aload_n X.ex X.co dX10_noLesson_2 rfl (lv_at hl 0 rfl) ?_
  refine m_getN X hK F 7 (by decide) rfl rfl (x := nLe σ) rfl m_1358 rfl dX10_noLesson_3 ?_
  refine lv_iconst (v := 1) X.ex X.co dX10_noLesson_6 (by decide) ?_
  refine lv_isub X.ex X.co dX10_noLesson_7 ?_
  refine q_rS X ce_X10_in m_1494 (c_X10_in l G v 0 (nI (nLe σ) - 1)) g0 trivial (by decide) rfl hl.1 rfl (Nat.le_of_ble_eq_true rfl) dX10_noLesson_8 (by omega) (by omega) ?_
  refine b_if_ne X (x := inB v 0 (nI (nLe σ) - 1)) (tgt := 18) dX10_noLesson_11 (by decide) (fun c_1 => ?_) (fun c_1 => ?_)
  · refine lv_iconst (v := 0) X.ex X.co dX10_noLesson_18 (by decide) ?_
    exact r_i X rfl (by decide) (by simp [bI, *]) dX10_noLesson_19
  · refine lv_iconst (v := 1) X.ex X.co dX10_noLesson_14 (by decide) ?_
    refine lv_goto (tgt := 19) X.ex X.co dX10_noLesson_15 (by decide) ?_
    exact r_i X rfl (by decide) (by simp [bI, *]) dX10_noLesson_19
set_option maxHeartbeats 4000000 in
set_option maxRecDepth 100000 in
theorem c_X10_noExercise (l : Launch) (G : GT) (mad : I2 → Nat) (A : Nat → Prop) (σ : Sg) (hI : MI σ) (v : Int32) : rM l yX10_noExercise cX10_noExercise 2 ((Option.some FieldType.boolean)) 1 G [.ref (mad (0, 0)), .int v] (mw G mad A σ) (some (.int (bI (!(inB v 0 (nI (nEx σ) - 1)))))) := by
  refine mk_m (by decide) (Nat.le_of_ble_eq_true rfl) ?_
  intro p e s m args below meth c X ls hl g0 F hnm
  have hK := g0.1
  obtain ⟨b1, b2, b3, b4, b5, b6, b7, b8, b9, b10⟩ := hI.1
  have hl : lv_has ls 2 [(0, .ref (mad (0, 0))), (1, .int v)] := hl
  show Wr p l e 1 s m args below meth c (some (.int (bI (!(inB v 0 (nI (nEx σ) - 1)))))) 0 ls []
  refine lv_iload_n X.ex X.co dX10_noExercise_0 rfl (lv_at hl 1 rfl) ?_
  refine lv_iconst (v := 0) X.ex X.co dX10_noExercise_1 (by decide) ?_
  refine lv_aload_n X.ex X.co dX10_noExercise_2 rfl (lv_at hl 0 rfl) ?_
  refine m_getN X hK F 11 (by decide) rfl rfl (x := nEx σ) rfl m_1362 rfl dX10_noExercise_3 ?_
  refine lv_iconst (v := 1) X.ex X.co dX10_noExercise_6 (by decide) ?_
  refine lv_isub X.ex X.co dX10_noExercise_7 ?_
  refine q_rS X ce_X10_in m_1494 (c_X10_in l G v 0 (nI (nEx σ) - 1)) g0 trivial (by decide) rfl hl.1 rfl (Nat.le_of_ble_eq_true rfl) dX10_noExercise_8 (by omega) (by omega) ?_
  refine b_if_ne X (x := inB v 0 (nI (nEx σ) - 1)) (tgt := 18) dX10_noExercise_11 (by decide) (fun c_1 => ?_) (fun c_1 => ?_)
  · refine lv_iconst (v := 0) X.ex X.co dX10_noExercise_18 (by decide) ?_
    exact r_i X rfl (by decide) (by simp [bI, *]) dX10_noExercise_19
  · refine lv_iconst (v := 1) X.ex X.co dX10_noExercise_14 (by decide) ?_
    refine lv_goto (tgt := 19) X.ex X.co dX10_noExercise_15 (by decide) ?_
    exact r_i X rfl (by decide) (by simp [bI, *]) dX10_noExercise_19
set_option maxHeartbeats 4000000 in
set_option maxRecDepth 100000 in
theorem c_X10_noAnswer (l : Launch) (G : GT) (mad : I2 → Nat) (A : Nat → Prop) (σ : Sg) (hI : MI σ) (v : Int32) : rM l yX10_noAnswer cX10_noAnswer 2 ((Option.some FieldType.boolean)) 1 G [.ref (mad (0, 0)), .int v] (mw G mad A σ) (some (.int (bI (!(inB v 0 (nI (nAn σ) - 1)))))) := by
  refine mk_m (by decide) (Nat.le_of_ble_eq_true rfl) ?_
  intro p e s m args below meth c X ls hl g0 F hnm
  have hK := g0.1
  obtain ⟨b1, b2, b3, b4, b5, b6, b7, b8, b9, b10⟩ := hI.1
  have hl : lv_has ls 2 [(0, .ref (mad (0, 0))), (1, .int v)] := hl
  show Wr p l e 1 s m args below meth c (some (.int (bI (!(inB v 0 (nI (nAn σ) - 1)))))) 0 ls []
  refine lv_iload_n X.ex X.co dX10_noAnswer_0 rfl (lv_at hl 1 rfl) ?_
  refine lv_iconst (v := 0) X.ex X.co dX10_noAnswer_1 (by decide) ?_
  refine lv_aload_n X.ex X.co dX10_noAnswer_2 rfl (lv_at hl 0 rfl) ?_
  refine m_getN X hK F 19 (by decide) rfl rfl (x := nAn σ) rfl m_1370 rfl dX10_noAnswer_3 ?_
  refine lv_iconst (v := 1) X.ex X.co dX10_noAnswer_6 (by decide) ?_
  refine lv_isub X.ex X.co dX10_noAnswer_7 ?_
  refine q_rS X ce_X10_in m_1494 (c_X10_in l G v 0 (nI (nAn σ) - 1)) g0 trivial (by decide) rfl hl.1 rfl (Nat.le_of_ble_eq_true rfl) dX10_noAnswer_8 (by omega) (by omega) ?_
  refine b_if_ne X (x := inB v 0 (nI (nAn σ) - 1)) (tgt := 18) dX10_noAnswer_11 (by decide) (fun c_1 => ?_) (fun c_1 => ?_)
  · refine lv_iconst (v := 0) X.ex X.co dX10_noAnswer_18 (by decide) ?_
    exact r_i X rfl (by decide) (by simp [bI, *]) dX10_noAnswer_19
  · refine lv_iconst (v := 1) X.ex X.co dX10_noAnswer_14 (by decide) ?_
    refine lv_goto (tgt := 19) X.ex X.co dX10_noAnswer_15 (by decide) ?_
    exact r_i X rfl (by decide) (by simp [bI, *]) dX10_noAnswer_19
set_option maxHeartbeats 4000000 in
set_option maxRecDepth 100000 in
theorem c_X10_noCourse (l : Launch) (G : GT) (mad : I2 → Nat) (A : Nat → Prop) (σ : Sg) (hI : MI σ) (v : Int32) : rM l yX10_noCourse cX10_noCourse 2 ((Option.some FieldType.boolean)) 1 G [.ref (mad (0, 0)), .int v] (mw G mad A σ) (some (.int (bI (!(inB v 0 (nI (nCr σ) - 1)))))) := by
  refine mk_m (by decide) (Nat.le_of_ble_eq_true rfl) ?_
  intro p e s m args below meth c X ls hl g0 F hnm
  have hK := g0.1
  obtain ⟨b1, b2, b3, b4, b5, b6, b7, b8, b9, b10⟩ := hI.1
  have hl : lv_has ls 2 [(0, .ref (mad (0, 0))), (1, .int v)] := hl
  show Wr p l e 1 s m args below meth c (some (.int (bI (!(inB v 0 (nI (nCr σ) - 1)))))) 0 ls []
  refine lv_iload_n X.ex X.co dX10_noCourse_0 rfl (lv_at hl 1 rfl) ?_
  refine lv_iconst (v := 0) X.ex X.co dX10_noCourse_1 (by decide) ?_
  refine lv_aload_n X.ex X.co dX10_noCourse_2 rfl (lv_at hl 0 rfl) ?_
  refine m_getN X hK F 32 (by decide) rfl rfl (x := nCr σ) rfl m_1383 rfl dX10_noCourse_3 ?_
  refine lv_iconst (v := 1) X.ex X.co dX10_noCourse_6 (by decide) ?_
  refine lv_isub X.ex X.co dX10_noCourse_7 ?_
  refine q_rS X ce_X10_in m_1494 (c_X10_in l G v 0 (nI (nCr σ) - 1)) g0 trivial (by decide) rfl hl.1 rfl (Nat.le_of_ble_eq_true rfl) dX10_noCourse_8 (by omega) (by omega) ?_
  refine b_if_ne X (x := inB v 0 (nI (nCr σ) - 1)) (tgt := 18) dX10_noCourse_11 (by decide) (fun c_1 => ?_) (fun c_1 => ?_)
  · refine lv_iconst (v := 0) X.ex X.co dX10_noCourse_18 (by decide) ?_
    exact r_i X rfl (by decide) (by simp [bI, *]) dX10_noCourse_19
  · refine lv_iconst (v := 1) X.ex X.co dX10_noCourse_14 (by decide) ?_
    refine lv_goto (tgt := 19) X.ex X.co dX10_noCourse_15 (by decide) ?_
    exact r_i X rfl (by decide) (by simp [bI, *]) dX10_noCourse_19
set_option maxHeartbeats 4000000 in
set_option maxRecDepth 100000 in
theorem c_X10_credit (l : Launch) (G : GT) (mad : I2 → Nat) (A : Nat → Prop) (σ : Sg) (hI : MI σ) (a k : Nat) (ha : a < nAn σ) (hk : k < cas σ (exe σ a)) : rM l yX10_credit cX10_credit 7 ((Option.some FieldType.int)) 0 G [.ref (mad (0, 0)), .int (nI a), .int (nI k)] (mw G mad A σ) (some (.int (cred σ a k))) := by
  refine mk_m (by decide) (Nat.le_of_ble_eq_true rfl) ?_
  intro p e s m args below meth c X ls hl g0 F hnm
  have hK := g0.1
  obtain ⟨b1, b2, b3, b4, b5, b6, b7, b8, b9, b10⟩ := hI.1
  have hl : lv_has ls 7 [(0, .ref (mad (0, 0))), (1, .int (nI a)), (2, .int (nI k))] := hl
  show Wr p l e 0 s m args below meth c (some (.int (cred σ a k))) 0 ls []
  refine lv_aload_n X.ex X.co dX10_credit_0 rfl (lv_at hl 0 rfl) ?_
  refine m_getA X hK F 21 (by decide) rfl m_1372 rfl dX10_credit_1 ?_
  refine lv_iload_n X.ex X.co dX10_credit_4 rfl (lv_at hl 1 rfl) ?_
  refine m_ald X hK F 21 (by decide) rfl rfl a (by first | omega | (show _ < 100; omega)) (x := nI (exe σ a)) rfl dX10_credit_5 ?_
  have hf := hI.an (i := a) (by omega); have hf2 := hI.ex (i := exe σ a) (by omega)
  refine lv_istore_n (lv' := [(3, .int (nI (exe σ a))), (0, .ref (mad (0, 0))), (1, .int (nI a)), (2, .int (nI k))]) X.ex X.co dX10_credit_6 rfl hl (by decide) rfl (fun ls hl => ?_)
  refine lv_bipush (v := 6) X.ex X.co dX10_credit_7 (by decide) ?_
  refine lv_iload_n X.ex X.co dX10_credit_9 rfl (lv_at hl 0 rfl) ?_
  refine n_mul X (x := 6) (y := exe σ a) dX10_credit_10 ?_
  refine lv_iload_n X.ex X.co dX10_credit_11 rfl (lv_at hl 3 rfl) ?_
  refine n_add X (x := 6 * (exe σ a)) (y := k) dX10_credit_12 ?_
  refine lv_istore (lv' := [(4, .int (nI ((6 * (exe σ a)) + k))), (3, .int (nI (exe σ a))), (0, .ref (mad (0, 0))), (1, .int (nI a)), (2, .int (nI k))]) X.ex X.co dX10_credit_13 hl (by decide) rfl (fun ls hl => ?_)
  refine lv_aload_n X.ex X.co dX10_credit_15 rfl (lv_at hl 2 rfl) ?_
  refine m_getA X hK F 13 (by decide) rfl m_1364 rfl dX10_credit_16 ?_
  refine lv_iload_n X.ex X.co dX10_credit_19 rfl (lv_at hl 1 rfl) ?_
  refine m_ald X hK F 13 (by decide) rfl rfl (exe σ a) (by first | omega | (show _ < 12; omega)) (x := (σ.2 13 (exe σ a))) rfl dX10_credit_20 ?_
  refine lv_aload_n X.ex X.co dX10_credit_21 rfl (lv_at hl 2 rfl) ?_
  refine m_getA X hK F 22 (by decide) rfl m_1373 rfl dX10_credit_22 ?_
  refine lv_iload_n X.ex X.co dX10_credit_25 rfl (lv_at hl 3 rfl) ?_
  refine m_ald X hK F 22 (by decide) rfl rfl a (by first | omega | (show _ < 100; omega)) (x := (σ.2 22 a)) rfl dX10_credit_26 ?_
  refine lv_isub X.ex X.co dX10_credit_27 ?_
  refine lv_aload_n X.ex X.co dX10_credit_28 rfl (lv_at hl 2 rfl) ?_
  refine m_getA X hK F 17 (by decide) rfl m_1368 rfl dX10_credit_29 ?_
  refine lv_iload X.ex X.co dX10_credit_32 (lv_at hl 0 rfl) ?_
  refine m_ald X hK F 17 (by decide) rfl rfl ((6 * (exe σ a)) + k) (by first | omega | (show _ < 72; omega)) (x := (σ.2 17 ((6 * (exe σ a)) + k))) rfl dX10_credit_34 ?_
  refine lv_imul X.ex X.co dX10_credit_35 ?_
  refine lv_aload_n X.ex X.co dX10_credit_36 rfl (lv_at hl 2 rfl) ?_
  refine m_getA X hK F 14 (by decide) rfl m_1365 rfl dX10_credit_37 ?_
  refine lv_iload_n X.ex X.co dX10_credit_40 rfl (lv_at hl 1 rfl) ?_
  refine m_ald X hK F 14 (by decide) rfl rfl (exe σ a) (by first | omega | (show _ < 12; omega)) (x := (σ.2 14 (exe σ a))) rfl dX10_credit_41 ?_
  refine lv_iadd X.ex X.co dX10_credit_42 ?_
  refine lv_aload_n X.ex X.co dX10_credit_43 rfl (lv_at hl 2 rfl) ?_
  refine m_getA X hK F 23 (by decide) rfl m_1374 rfl dX10_credit_44 ?_
  refine lv_iload_n X.ex X.co dX10_credit_47 rfl (lv_at hl 3 rfl) ?_
  refine m_ald X hK F 23 (by decide) rfl rfl a (by first | omega | (show _ < 100; omega)) (x := (σ.2 23 a)) rfl dX10_credit_48 ?_
  refine lv_isub X.ex X.co dX10_credit_49 ?_
  refine lv_topi (fun mr emr => ?_)
  refine lv_istore (lv' := [(5, .int mr), (4, .int (nI ((6 * (exe σ a)) + k))), (3, .int (nI (exe σ a))), (0, .ref (mad (0, 0))), (1, .int (nI a)), (2, .int (nI k))]) X.ex X.co dX10_credit_50 hl (by decide) rfl (fun ls hl => ?_)
  refine lv_iload X.ex X.co dX10_credit_52 (lv_at hl 0 rfl) ?_
  refine lv_if_ge (tgt := 63) X.ex X.co dX10_credit_54 (by decide) (fun c_1 => ?_) (fun c_1 => ?_)
  · refine lv_iload X.ex X.co dX10_credit_63 (lv_at hl 0 rfl) ?_
    refine lv_istore (lv' := [(6, .int mr), (5, .int mr), (4, .int (nI ((6 * (exe σ a)) + k))), (3, .int (nI (exe σ a))), (0, .ref (mad (0, 0))), (1, .int (nI a)), (2, .int (nI k))]) X.ex X.co dX10_credit_65 hl (by decide) rfl (fun ls hl => ?_)
    refine lv_iload X.ex X.co dX10_credit_67 (lv_at hl 0 rfl) ?_
    refine lv_if_ne (tgt := 80) X.ex X.co dX10_credit_69 (by decide) (fun c_2 => ?_) (fun c_2 => ?_)
    · refine lv_aload_n X.ex X.co dX10_credit_80 rfl (lv_at hl 4 rfl) ?_
      refine m_getA X hK F 15 (by decide) rfl m_1366 rfl dX10_credit_81 ?_
      refine lv_iload_n X.ex X.co dX10_credit_84 rfl (lv_at hl 3 rfl) ?_
      refine m_ald X hK F 15 (by decide) rfl rfl (exe σ a) (by first | omega | (show _ < 12; omega)) (x := (σ.2 15 (exe σ a))) rfl dX10_credit_85 ?_
      refine lv_iconst (v := 1) X.ex X.co dX10_credit_86 (by decide) ?_
      refine lv_icmp_ne (tgt := 108) X.ex X.co dX10_credit_87 (by decide) (fun c_3 => ?_) (fun c_3 => ?_)
      · refine lv_aload_n X.ex X.co dX10_credit_108 rfl (lv_at hl 4 rfl) ?_
        refine m_getA X hK F 15 (by decide) rfl m_1366 rfl dX10_credit_109 ?_
        refine lv_iload_n X.ex X.co dX10_credit_112 rfl (lv_at hl 3 rfl) ?_
        refine m_ald X hK F 15 (by decide) rfl rfl (exe σ a) (by first | omega | (show _ < 12; omega)) (x := (σ.2 15 (exe σ a))) rfl dX10_credit_113 ?_
        refine lv_iconst (v := 2) X.ex X.co dX10_credit_114 (by decide) ?_
        refine lv_icmp_ne (tgt := 139) X.ex X.co dX10_credit_115 (by decide) (fun c_4 => ?_) (fun c_4 => ?_)
        · refine lv_iconst (v := 0) X.ex X.co dX10_credit_139 (by decide) ?_
          exact r_i X rfl rfl (by simp only [cred, credR, gapS, moreS, ← emr]; clear emr; simp [*]) dX10_credit_140
        · refine lv_iload X.ex X.co dX10_credit_118 (lv_at hl 0 rfl) ?_
          refine lv_bipush (v := 9) X.ex X.co dX10_credit_120 (by decide) ?_
          refine lv_icmp_gt (tgt := 139) X.ex X.co dX10_credit_122 (by decide) (fun c_5 => ?_) (fun c_5 => ?_)
          · refine lv_iconst (v := 0) X.ex X.co dX10_credit_139 (by decide) ?_
            exact r_i X rfl rfl (by simp only [cred, credR, gapS, moreS, ← emr]; clear emr; simp [*]) dX10_credit_140
          · refine lv_iconst (v := 2) X.ex X.co dX10_credit_125 (by decide) ?_
            refine lv_aload_n X.ex X.co dX10_credit_126 rfl (lv_at hl 4 rfl) ?_
            refine m_getA X hK F 18 (by decide) rfl m_1369 rfl dX10_credit_127 ?_
            refine lv_iload X.ex X.co dX10_credit_130 (lv_at hl 2 rfl) ?_
            refine m_ald X hK F 18 (by decide) rfl rfl ((6 * (exe σ a)) + k) (by first | omega | (show _ < 72; omega)) (x := nI (wei σ ((6 * (exe σ a)) + k))) rfl dX10_credit_132 ?_
            refine n_mul X (x := 2) (y := wei σ ((6 * (exe σ a)) + k)) dX10_credit_133 ?_
            refine lv_iconst (v := 3) X.ex X.co dX10_credit_134 (by decide) ?_
            refine lv_idiv X.ex X.co dX10_credit_135 (by decide) ?_
            refine lv_goto (tgt := 140) X.ex X.co dX10_credit_136 (by decide) ?_
            exact r_i X rfl rfl (by simp only [cred, credR, gapS, moreS, ← emr]; clear emr; simp [*]) dX10_credit_140
      · refine lv_iload X.ex X.co dX10_credit_90 (lv_at hl 0 rfl) ?_
        refine lv_iconst (v := 2) X.ex X.co dX10_credit_92 (by decide) ?_
        refine lv_icmp_gt (tgt := 108) X.ex X.co dX10_credit_93 (by decide) (fun c_6 => ?_) (fun c_6 => ?_)
        · refine lv_aload_n X.ex X.co dX10_credit_108 rfl (lv_at hl 4 rfl) ?_
          refine m_getA X hK F 15 (by decide) rfl m_1366 rfl dX10_credit_109 ?_
          refine lv_iload_n X.ex X.co dX10_credit_112 rfl (lv_at hl 3 rfl) ?_
          refine m_ald X hK F 15 (by decide) rfl rfl (exe σ a) (by first | omega | (show _ < 12; omega)) (x := (σ.2 15 (exe σ a))) rfl dX10_credit_113 ?_
          refine lv_iconst (v := 2) X.ex X.co dX10_credit_114 (by decide) ?_
          refine lv_icmp_ne (tgt := 139) X.ex X.co dX10_credit_115 (by decide) (fun c_7 => ?_) (fun c_7 => ?_)
          · refine lv_iconst (v := 0) X.ex X.co dX10_credit_139 (by decide) ?_
            exact r_i X rfl rfl (by simp only [cred, credR, gapS, moreS, ← emr]; clear emr; simp [*]) dX10_credit_140
          · exact absurd (c_3.symm.trans c_7) (by decide)
        · refine lv_aload_n X.ex X.co dX10_credit_96 rfl (lv_at hl 4 rfl) ?_
          refine m_getA X hK F 18 (by decide) rfl m_1369 rfl dX10_credit_97 ?_
          refine lv_iload X.ex X.co dX10_credit_100 (lv_at hl 2 rfl) ?_
          refine m_ald X hK F 18 (by decide) rfl rfl ((6 * (exe σ a)) + k) (by first | omega | (show _ < 72; omega)) (x := nI (wei σ ((6 * (exe σ a)) + k))) rfl dX10_credit_102 ?_
          refine lv_iconst (v := 2) X.ex X.co dX10_credit_103 (by decide) ?_
          refine lv_idiv X.ex X.co dX10_credit_104 (by decide) ?_
          refine lv_goto (tgt := 140) X.ex X.co dX10_credit_105 (by decide) ?_
          exact r_i X rfl rfl (by simp only [cred, credR, gapS, moreS, ← emr]; clear emr; simp [*]) dX10_credit_140
    · refine lv_aload_n X.ex X.co dX10_credit_72 rfl (lv_at hl 4 rfl) ?_
      refine m_getA X hK F 18 (by decide) rfl m_1369 rfl dX10_credit_73 ?_
      refine lv_iload X.ex X.co dX10_credit_76 (lv_at hl 2 rfl) ?_
      refine m_ald X hK F 18 (by decide) rfl rfl ((6 * (exe σ a)) + k) (by first | omega | (show _ < 72; omega)) (x := nI (wei σ ((6 * (exe σ a)) + k))) rfl dX10_credit_78 ?_
      exact r_i X rfl rfl (by simp only [cred, credR, gapS, moreS, ← emr]; clear emr; simp [*]) dX10_credit_79
  · refine lv_iload X.ex X.co dX10_credit_57 (lv_at hl 0 rfl) ?_
    refine lv_ineg X.ex X.co dX10_credit_59 ?_
    refine lv_goto (tgt := 65) X.ex X.co dX10_credit_60 (by decide) ?_
    refine lv_istore (lv' := [(6, .int (-mr)), (5, .int mr), (4, .int (nI ((6 * (exe σ a)) + k))), (3, .int (nI (exe σ a))), (0, .ref (mad (0, 0))), (1, .int (nI a)), (2, .int (nI k))]) X.ex X.co dX10_credit_65 hl (by decide) rfl (fun ls hl => ?_)
    refine lv_iload X.ex X.co dX10_credit_67 (lv_at hl 0 rfl) ?_
    refine lv_if_ne (tgt := 80) X.ex X.co dX10_credit_69 (by decide) (fun c_8 => ?_) (fun c_8 => ?_)
    · refine lv_aload_n X.ex X.co dX10_credit_80 rfl (lv_at hl 4 rfl) ?_
      refine m_getA X hK F 15 (by decide) rfl m_1366 rfl dX10_credit_81 ?_
      refine lv_iload_n X.ex X.co dX10_credit_84 rfl (lv_at hl 3 rfl) ?_
      refine m_ald X hK F 15 (by decide) rfl rfl (exe σ a) (by first | omega | (show _ < 12; omega)) (x := (σ.2 15 (exe σ a))) rfl dX10_credit_85 ?_
      refine lv_iconst (v := 1) X.ex X.co dX10_credit_86 (by decide) ?_
      refine lv_icmp_ne (tgt := 108) X.ex X.co dX10_credit_87 (by decide) (fun c_9 => ?_) (fun c_9 => ?_)
      · refine lv_aload_n X.ex X.co dX10_credit_108 rfl (lv_at hl 4 rfl) ?_
        refine m_getA X hK F 15 (by decide) rfl m_1366 rfl dX10_credit_109 ?_
        refine lv_iload_n X.ex X.co dX10_credit_112 rfl (lv_at hl 3 rfl) ?_
        refine m_ald X hK F 15 (by decide) rfl rfl (exe σ a) (by first | omega | (show _ < 12; omega)) (x := (σ.2 15 (exe σ a))) rfl dX10_credit_113 ?_
        refine lv_iconst (v := 2) X.ex X.co dX10_credit_114 (by decide) ?_
        refine lv_icmp_ne (tgt := 139) X.ex X.co dX10_credit_115 (by decide) (fun c_10 => ?_) (fun c_10 => ?_)
        · refine lv_iconst (v := 0) X.ex X.co dX10_credit_139 (by decide) ?_
          exact r_i X rfl rfl (by simp only [cred, credR, gapS, moreS, ← emr]; clear emr; simp [*]) dX10_credit_140
        · refine lv_iload X.ex X.co dX10_credit_118 (lv_at hl 0 rfl) ?_
          refine lv_bipush (v := 9) X.ex X.co dX10_credit_120 (by decide) ?_
          refine lv_icmp_gt (tgt := 139) X.ex X.co dX10_credit_122 (by decide) (fun c_11 => ?_) (fun c_11 => ?_)
          · refine lv_iconst (v := 0) X.ex X.co dX10_credit_139 (by decide) ?_
            exact r_i X rfl rfl (by simp only [cred, credR, gapS, moreS, ← emr]; clear emr; simp [*]) dX10_credit_140
          · refine lv_iconst (v := 2) X.ex X.co dX10_credit_125 (by decide) ?_
            refine lv_aload_n X.ex X.co dX10_credit_126 rfl (lv_at hl 4 rfl) ?_
            refine m_getA X hK F 18 (by decide) rfl m_1369 rfl dX10_credit_127 ?_
            refine lv_iload X.ex X.co dX10_credit_130 (lv_at hl 2 rfl) ?_
            refine m_ald X hK F 18 (by decide) rfl rfl ((6 * (exe σ a)) + k) (by first | omega | (show _ < 72; omega)) (x := nI (wei σ ((6 * (exe σ a)) + k))) rfl dX10_credit_132 ?_
            refine n_mul X (x := 2) (y := wei σ ((6 * (exe σ a)) + k)) dX10_credit_133 ?_
            refine lv_iconst (v := 3) X.ex X.co dX10_credit_134 (by decide) ?_
            refine lv_idiv X.ex X.co dX10_credit_135 (by decide) ?_
            refine lv_goto (tgt := 140) X.ex X.co dX10_credit_136 (by decide) ?_
            exact r_i X rfl rfl (by simp only [cred, credR, gapS, moreS, ← emr]; clear emr; simp [*]) dX10_credit_140
      · refine lv_iload X.ex X.co dX10_credit_90 (lv_at hl 0 rfl) ?_
        refine lv_iconst (v := 2) X.ex X.co dX10_credit_92 (by decide) ?_
        refine lv_icmp_gt (tgt := 108) X.ex X.co dX10_credit_93 (by decide) (fun c_12 => ?_) (fun c_12 => ?_)
        · refine lv_aload_n X.ex X.co dX10_credit_108 rfl (lv_at hl 4 rfl) ?_
          refine m_getA X hK F 15 (by decide) rfl m_1366 rfl dX10_credit_109 ?_
          refine lv_iload_n X.ex X.co dX10_credit_112 rfl (lv_at hl 3 rfl) ?_
          refine m_ald X hK F 15 (by decide) rfl rfl (exe σ a) (by first | omega | (show _ < 12; omega)) (x := (σ.2 15 (exe σ a))) rfl dX10_credit_113 ?_
          refine lv_iconst (v := 2) X.ex X.co dX10_credit_114 (by decide) ?_
          refine lv_icmp_ne (tgt := 139) X.ex X.co dX10_credit_115 (by decide) (fun c_13 => ?_) (fun c_13 => ?_)
          · refine lv_iconst (v := 0) X.ex X.co dX10_credit_139 (by decide) ?_
            exact r_i X rfl rfl (by simp only [cred, credR, gapS, moreS, ← emr]; clear emr; simp [*]) dX10_credit_140
          · exact absurd (c_9.symm.trans c_13) (by decide)
        · refine lv_aload_n X.ex X.co dX10_credit_96 rfl (lv_at hl 4 rfl) ?_
          refine m_getA X hK F 18 (by decide) rfl m_1369 rfl dX10_credit_97 ?_
          refine lv_iload X.ex X.co dX10_credit_100 (lv_at hl 2 rfl) ?_
          refine m_ald X hK F 18 (by decide) rfl rfl ((6 * (exe σ a)) + k) (by first | omega | (show _ < 72; omega)) (x := nI (wei σ ((6 * (exe σ a)) + k))) rfl dX10_credit_102 ?_
          refine lv_iconst (v := 2) X.ex X.co dX10_credit_103 (by decide) ?_
          refine lv_idiv X.ex X.co dX10_credit_104 (by decide) ?_
          refine lv_goto (tgt := 140) X.ex X.co dX10_credit_105 (by decide) ?_
          exact r_i X rfl rfl (by simp only [cred, credR, gapS, moreS, ← emr]; clear emr; simp [*]) dX10_credit_140
    · refine lv_aload_n X.ex X.co dX10_credit_72 rfl (lv_at hl 4 rfl) ?_
      refine m_getA X hK F 18 (by decide) rfl m_1369 rfl dX10_credit_73 ?_
      refine lv_iload X.ex X.co dX10_credit_76 (lv_at hl 2 rfl) ?_
      refine m_ald X hK F 18 (by decide) rfl rfl ((6 * (exe σ a)) + k) (by first | omega | (show _ < 72; omega)) (x := nI (wei σ ((6 * (exe σ a)) + k))) rfl dX10_credit_78 ?_
      exact r_i X rfl rfl (by simp only [cred, credR, gapS, moreS, ← emr]; clear emr; simp [*]) dX10_credit_79
