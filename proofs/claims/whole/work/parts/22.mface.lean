theorem ce_X10_thrown : ceV yX10_thrown cX10_thrown 1 ((Option.some FieldType.int)) 0 := ⟨m_1487, m_1488, m_9, m_1489, ⟨by decide, by decide, by decide +kernel⟩, by decide⟩
theorem ce_X10_addCohort : ceV yX10_addCohort cX10_addCohort 3 ((Option.some FieldType.int)) 2 := ⟨m_1491, m_1492, m_9, m_1493, ⟨by decide, by decide, by decide +kernel⟩, by decide⟩
theorem ce_X10_addStudent : ceV yX10_addStudent cX10_addStudent 2 ((Option.some FieldType.int)) 1 := ⟨m_1502, m_1503, m_9, m_1504, ⟨by decide, by decide, by decide +kernel⟩, by decide⟩
theorem ce_X10_addLesson : ceV yX10_addLesson cX10_addLesson 3 ((Option.some FieldType.int)) 2 := ⟨m_1506, m_1507, m_9, m_1508, ⟨by decide, by decide, by decide +kernel⟩, by decide⟩
theorem ce_X10_addExercise : ceV yX10_addExercise cX10_addExercise 5 ((Option.some FieldType.int)) 4 := ⟨m_1510, m_1511, m_9, m_1512, ⟨by decide, by decide, by decide +kernel⟩, by decide⟩
theorem ce_X10_addCase : ceV yX10_addCase cX10_addCase 4 ((Option.some FieldType.int)) 3 := ⟨m_1521, m_1522, m_9, m_1523, ⟨by decide, by decide, by decide +kernel⟩, by decide⟩
theorem ce_X10_versionOf : ceV yX10_versionOf cX10_versionOf 2 ((Option.some FieldType.int)) 1 := ⟨m_1533, m_1534, m_9, m_1535, ⟨by decide, by decide, by decide +kernel⟩, by decide⟩
theorem ce_X10_openLessons : ceV yX10_openLessons cX10_openLessons 4 ((Option.some FieldType.int)) 1 := ⟨m_1537, m_1538, m_9, m_1539, ⟨by decide, by decide, by decide +kernel⟩, by decide⟩
theorem ce_X10_reason : ceV yX10_reason cX10_reason 3 ((Option.some FieldType.char)) 2 := ⟨m_1573, m_1574, m_9, m_1575, ⟨by decide, by decide, by decide +kernel⟩, by decide⟩
theorem ce_X10_answer : ceV yX10_answer cX10_answer 5 ((Option.some FieldType.int)) 4 := ⟨m_1581, m_1582, m_9, m_1583, ⟨by decide, by decide, by decide +kernel⟩, by decide⟩
theorem ce_X10_answerCount : ceV yX10_answerCount cX10_answerCount 1 ((Option.some FieldType.int)) 0 := ⟨m_1585, m_1586, m_9, m_1587, ⟨by decide, by decide, by decide +kernel⟩, by decide⟩
theorem ce_X10_gradeOf : ceV yX10_gradeOf cX10_gradeOf 2 ((Option.some FieldType.int)) 1 := ⟨m_1589, m_1590, m_9, m_1591, ⟨by decide, by decide, by decide +kernel⟩, by decide⟩
theorem ce_X10_gradeAnew : ceV yX10_gradeAnew cX10_gradeAnew 2 ((Option.some FieldType.int)) 1 := ⟨m_1597, m_1598, m_9, m_1599, ⟨by decide, by decide, by decide +kernel⟩, by decide⟩
theorem ce_X10_creditOf : ceV yX10_creditOf cX10_creditOf 3 ((Option.some FieldType.int)) 2 := ⟨m_1602, m_1603, m_9, m_1604, ⟨by decide, by decide, by decide +kernel⟩, by decide⟩
theorem ce_X10_studentOf : ceV yX10_studentOf cX10_studentOf 2 ((Option.some FieldType.int)) 1 := ⟨m_1606, m_1607, m_9, m_1608, ⟨by decide, by decide, by decide +kernel⟩, by decide⟩
theorem ce_X10_dayOf : ceV yX10_dayOf cX10_dayOf 2 ((Option.some FieldType.int)) 1 := ⟨m_1610, m_1611, m_9, m_1612, ⟨by decide, by decide, by decide +kernel⟩, by decide⟩
theorem ce_X10_bestAnswer : ceV yX10_bestAnswer cX10_bestAnswer 4 ((Option.some FieldType.int)) 2 := ⟨m_1614, m_1615, m_9, m_1616, ⟨by decide, by decide, by decide +kernel⟩, by decide⟩
theorem ce_X10_mastery : ceV yX10_mastery cX10_mastery 3 ((Option.some FieldType.int)) 2 := ⟨m_1618, m_1619, m_9, m_1620, ⟨by decide, by decide, by decide +kernel⟩, by decide⟩
theorem ce_X10_masteryAnew : ceV yX10_masteryAnew cX10_masteryAnew 3 ((Option.some FieldType.int)) 2 := ⟨m_1622, m_1623, m_9, m_1624, ⟨by decide, by decide, by decide +kernel⟩, by decide⟩
theorem ce_X10_appeal : ceV yX10_appeal cX10_appeal 2 ((Option.some FieldType.int)) 1 := ⟨m_1627, m_1628, m_9, m_1629, ⟨by decide, by decide, by decide +kernel⟩, by decide⟩
theorem ce_X10_withdraw : ceV yX10_withdraw cX10_withdraw 2 ((Option.some FieldType.int)) 1 := ⟨m_1635, m_1636, m_9, m_1637, ⟨by decide, by decide, by decide +kernel⟩, by decide⟩
theorem ce_X10_decide : ceV yX10_decide cX10_decide 3 ((Option.some FieldType.int)) 1 := ⟨m_1643, m_1644, m_9, m_1645, ⟨by decide, by decide, by decide +kernel⟩, by decide⟩
theorem ce_X10_appealCount : ceV yX10_appealCount cX10_appealCount 1 ((Option.some FieldType.int)) 0 := ⟨m_1647, m_1648, m_9, m_1649, ⟨by decide, by decide, by decide +kernel⟩, by decide⟩
theorem ce_X10_appealAt : ceV yX10_appealAt cX10_appealAt 2 ((Option.some FieldType.int)) 1 := ⟨m_1651, m_1652, m_9, m_1653, ⟨by decide, by decide, by decide +kernel⟩, by decide⟩
theorem ce_X10_mend : ceV yX10_mend cX10_mend 7 ((Option.some FieldType.int)) 3 := ⟨m_1655, m_1656, m_9, m_1657, ⟨by decide, by decide, by decide +kernel⟩, by decide⟩
theorem ce_X10_harmedCount : ceV yX10_harmedCount cX10_harmedCount 1 ((Option.some FieldType.int)) 0 := ⟨m_1663, m_1664, m_9, m_1665, ⟨by decide, by decide, by decide +kernel⟩, by decide⟩
theorem ce_X10_harmedAt : ceV yX10_harmedAt cX10_harmedAt 2 ((Option.some FieldType.int)) 1 := ⟨m_1667, m_1668, m_9, m_1669, ⟨by decide, by decide, by decide +kernel⟩, by decide⟩
theorem ce_X10_addCourse : ceV yX10_addCourse cX10_addCourse 3 ((Option.some FieldType.int)) 2 := ⟨m_1671, m_1672, m_9, m_1673, ⟨by decide, by decide, by decide +kernel⟩, by decide⟩
theorem ce_X10_issue : ceV yX10_issue cX10_issue 3 ((Option.some FieldType.int)) 2 := ⟨m_1675, m_1676, m_9, m_1677, ⟨by decide, by decide, by decide +kernel⟩, by decide⟩
theorem ce_X10_doesStand : ceV yX10_doesStand cX10_doesStand 2 ((Option.some FieldType.boolean)) 1 := ⟨m_1687, m_1688, m_9, m_1689, ⟨by decide, by decide, by decide +kernel⟩, by decide⟩
theorem ce_X10_certificateOf : ceV yX10_certificateOf cX10_certificateOf 4 ((Option.some FieldType.int)) 2 := ⟨m_1691, m_1692, m_9, m_1693, ⟨by decide, by decide, by decide +kernel⟩, by decide⟩
theorem ce_X10_revoked : ceV yX10_revoked cX10_revoked 1 ((Option.some FieldType.int)) 0 := ⟨m_1695, m_1696, m_9, m_1697, ⟨by decide, by decide, by decide +kernel⟩, by decide⟩
theorem ce_X10_pass : ceV yX10_pass cX10_pass 2 ((Option.some FieldType.int)) 1 := ⟨m_1703, m_1704, m_9, m_1705, ⟨by decide, by decide, by decide +kernel⟩, by decide⟩
theorem ce_X10_today : ceV yX10_today cX10_today 1 ((Option.some FieldType.int)) 0 := ⟨m_1707, m_1708, m_9, m_1709, ⟨by decide, by decide, by decide +kernel⟩, by decide⟩
theorem ce_X10_meanGrade : ceV yX10_meanGrade cX10_meanGrade 3 ((Option.some FieldType.double)) 0 := ⟨m_1711, m_1712, m_9, m_1713, ⟨by decide, by decide, by decide +kernel⟩, by decide⟩
theorem ce_X10_standingShare : ceV yX10_standingShare cX10_standingShare 1 ((Option.some FieldType.float)) 0 := ⟨m_1715, m_1716, m_9, m_1717, ⟨by decide, by decide, by decide +kernel⟩, by decide⟩
theorem ce_X10_isConsistent : ceV yX10_isConsistent cX10_isConsistent 1 ((Option.some FieldType.boolean)) 0 := ⟨m_1719, m_1720, m_9, m_1721, ⟨by decide, by decide, by decide +kernel⟩, by decide⟩
theorem ce_X10_writeAnswer : ceV yX10_writeAnswer cX10_writeAnswer 2 ((Option.some FieldType.int)) 1 := ⟨m_1723, m_1724, m_9, m_1725, ⟨by decide, by decide, by decide +kernel⟩, by decide⟩
theorem ce_X10_lineAt : ceV yX10_lineAt cX10_lineAt 2 ((Option.some FieldType.char)) 1 := ⟨m_1743, m_1744, m_9, m_1745, ⟨by decide, by decide, by decide +kernel⟩, by decide⟩
set_option maxHeartbeats 4000000 in
set_option maxRecDepth 100000 in
theorem c_X10_addCohort (l : Launch) (G : GT) (mad : I2 → Nat) (A : Nat → Prop) (hAg : ∀ q, A q → gA G q) (τ σ : Sg) (hσ : σ = sN τ 0 0 0) (hI : MI σ) (a b : Int32) : cM l yX10_addCohort cX10_addCohort 3 ((Option.some FieldType.int)) 1 0 0 G [.ref (mad (0, 0)), .int a, .int b] (mw G mad A τ) (eB (some (.int (fAddCohort σ a b).1)) (mw G mad A (fAddCohort σ a b).2)) A := by
  refine mk_m (by decide) (Nat.le_of_ble_eq_true rfl) ?_
  intro p e s m args below meth c X ls hl g0 F hnm
  have hK := g0.1
  have hS : va_S A s.heap s.heap [] := va_S.rf
  have hI0 := hI.1
  obtain ⟨b1, b2, b3, b4, b5, b6, b7⟩ := hI0.1
  obtain ⟨b8, b9, b10⟩ := hI.2.1
  have hapb := hI.apb
  have h0 : σ.1 0 0 = 0 := by rw [hσ]; simp [sN]
  have hl : lv_has ls 3 [(0, .ref (mad (0, 0))), (1, .int a), (2, .int b)] := hl
  show Wc p l e 1 0 0 s m args below meth c (eB (some (.int (fAddCohort σ a b).1)) (mw G mad A (fAddCohort σ a b).2)) A s.heap [] 0 0 0 ls []
  refine lv_aload_n X.ex X.co dX10_addCohort_0 rfl (lv_at hl 0 rfl) ?_
  refine lv_iconst (v := 0) X.ex X.co dX10_addCohort_1 (by decide) ?_
  refine m_putN X hK F hS 0 (by decide) rfl rfl (v := 0) m_1351 rfl rfl (by decide) dX10_addCohort_2 (fun H locs F hS => ?_)
  rw [← hσ] at F
  clear hσ
  refine lv_aload_n X.ex X.co dX10_addCohort_5 rfl (lv_at hl 0 rfl) ?_
  refine lv_iload_n X.ex X.co dX10_addCohort_6 rfl (lv_at hl 1 rfl) ?_
  refine lv_iconst (v := 0) X.ex X.co dX10_addCohort_7 (by decide) ?_
  refine lv_sipush (v := 999) X.ex X.co dX10_addCohort_8 (by decide) ?_
  refine q_rS X ce_X10_in m_1494 (c_X10_in l G a 0 999) (g0.step hS hAg) trivial (by decide) rfl hl.1 rfl (Nat.le_of_ble_eq_true rfl) dX10_addCohort_11 (by omega) (by omega) ?_
  refine b_if_eq X (x := inB a 0 999) (tgt := 28) dX10_addCohort_14 (by decide) (fun c_1 => ?_) (fun c_1 => ?_)
  · refine lv_iconst (v := 1) X.ex X.co dX10_addCohort_28 (by decide) ?_
    refine lv_goto (tgt := 33) X.ex X.co dX10_addCohort_29 (by decide) ?_
    refine lv_iconst (v := 1) X.ex X.co dX10_addCohort_33 (by decide) ?_
    refine q_eV X ce_X10_fails m_1497 (c_X10_fails l G mad A hAg σ h0 true 1 (by decide) (by decide)) (g0.step hS hAg) F (mo F) rfl (by decide) rfl hl.1 rfl (Nat.le_of_ble_eq_true rfl) dX10_addCohort_34 (by omega) (by omega) hS (fun _ h => h) (fun H locs F hz hk hS => ?_)
    have F : mw G mad A (sN σ 0 0 1) H := F
    refine lv_if_ne (tgt := 61) X.ex X.co dX10_addCohort_37 (by decide) (fun c_2 => ?_) (fun c_2 => ?_)
    · refine lv_iconst (v := 0) X.ex X.co dX10_addCohort_61 (by decide) ?_
      exact c_i X hS rfl rfl (by have q : fAddCohort σ a b = (0, (sN σ 0 0 1)) := (by simp only [fAddCohort, c_1]; simp [err, *]); unfold eB; rw [q]; exact ⟨rfl, F⟩) (by omega) (by omega) dX10_addCohort_62
    · exact absurd c_2 (by decide)
  · refine lv_iload_n X.ex X.co dX10_addCohort_17 rfl (lv_at hl 2 rfl) ?_
    refine lv_iload_n X.ex X.co dX10_addCohort_18 rfl (lv_at hl 1 rfl) ?_
    refine lv_sipush (v := 999) X.ex X.co dX10_addCohort_19 (by decide) ?_
    refine q_rS X ce_X10_in m_1494 (c_X10_in l G b a 999) (g0.step hS hAg) trivial (by decide) rfl hl.1 rfl (Nat.le_of_ble_eq_true rfl) dX10_addCohort_22 (by omega) (by omega) ?_
    refine b_if_ne X (x := inB b a 999) (tgt := 32) dX10_addCohort_25 (by decide) (fun c_3 => ?_) (fun c_3 => ?_)
    · refine lv_iconst (v := 0) X.ex X.co dX10_addCohort_32 (by decide) ?_
      refine lv_iconst (v := 1) X.ex X.co dX10_addCohort_33 (by decide) ?_
      refine q_eV X ce_X10_fails m_1497 (c_X10_fails l G mad A hAg σ h0 false 1 (by decide) (by decide)) (g0.step hS hAg) F (mo F) rfl (by decide) rfl hl.1 rfl (Nat.le_of_ble_eq_true rfl) dX10_addCohort_34 (by omega) (by omega) hS (fun _ h => h) (fun H locs F hz hk hS => ?_)
      have F : mw G mad A σ H := F
      refine lv_if_ne (tgt := 61) X.ex X.co dX10_addCohort_37 (by decide) (fun c_4 => ?_) (fun c_4 => ?_)
      · exact absurd (by decide) c_4
      · refine lv_aload_n X.ex X.co dX10_addCohort_40 rfl (lv_at hl 0 rfl) ?_
        refine lv_aload_n X.ex X.co dX10_addCohort_41 rfl (lv_at hl 0 rfl) ?_
        refine m_getN X hK F 2 (by decide) rfl rfl (x := nCo σ) rfl m_1353 rfl dX10_addCohort_42 ?_
        refine lv_iconst (v := 4) X.ex X.co dX10_addCohort_45 (by decide) ?_
        refine n_cmp_ne X (x := nCo σ) (y := 4) (tgt := 53) (by omega) (by omega) dX10_addCohort_46 (by decide) (fun c_5 => ?_) (fun c_5 => ?_)
        · refine lv_iconst (v := 0) X.ex X.co dX10_addCohort_53 (by decide) ?_
          refine lv_iconst (v := 2) X.ex X.co dX10_addCohort_54 (by decide) ?_
          refine q_eV X ce_X10_fails m_1497 (c_X10_fails l G mad A hAg σ h0 false 2 (by decide) (by decide)) (g0.step hS hAg) F (mo F) rfl (by decide) rfl hl.1 rfl (Nat.le_of_ble_eq_true rfl) dX10_addCohort_55 (by omega) (by omega) hS (fun _ h => h) (fun H locs F hz hk hS => ?_)
          have F : mw G mad A σ H := F
          refine lv_if_eq (tgt := 63) X.ex X.co dX10_addCohort_58 (by decide) (fun c_6 => ?_) (fun c_6 => ?_)
          · refine lv_aload_n X.ex X.co dX10_addCohort_63 rfl (lv_at hl 0 rfl) ?_
            refine m_getA X hK F 3 (by decide) rfl m_1354 rfl dX10_addCohort_64 ?_
            refine lv_aload_n X.ex X.co dX10_addCohort_67 rfl (lv_at hl 0 rfl) ?_
            refine m_getN X hK F 2 (by decide) rfl rfl (x := nCo σ) rfl m_1353 rfl dX10_addCohort_68 ?_
            refine lv_iload_n X.ex X.co dX10_addCohort_71 rfl (lv_at hl 1 rfl) ?_
            refine m_astV X hK F hS 3 (by decide) rfl rfl rfl (nCo σ) (v := a) (by first | omega | (show _ < 4; omega)) dX10_addCohort_72 (fun H locs F hS => ?_)
            refine lv_aload_n X.ex X.co dX10_addCohort_73 rfl (lv_at hl 0 rfl) ?_
            refine m_getA X hK F 4 (by decide) rfl m_1355 rfl dX10_addCohort_74 ?_
            refine lv_aload_n X.ex X.co dX10_addCohort_77 rfl (lv_at hl 0 rfl) ?_
            refine m_getN X hK F 2 (by decide) rfl rfl (x := nCo σ) rfl m_1353 rfl dX10_addCohort_78 ?_
            refine lv_iload_n X.ex X.co dX10_addCohort_81 rfl (lv_at hl 2 rfl) ?_
            refine m_astV X hK F hS 4 (by decide) rfl rfl rfl (nCo σ) (v := b) (by first | omega | (show _ < 4; omega)) dX10_addCohort_82 (fun H locs F hS => ?_)
            refine lv_aload_n X.ex X.co dX10_addCohort_83 rfl (lv_at hl 0 rfl) ?_
            refine lv_dup X.ex X.co dX10_addCohort_84 rfl ?_
            refine m_getN X hK F 2 (by decide) rfl rfl (x := nCo σ) rfl m_1353 rfl dX10_addCohort_85 ?_
            refine lv_iconst (v := 1) X.ex X.co dX10_addCohort_88 (by decide) ?_
            refine n_add X (x := nCo σ) (y := 1) dX10_addCohort_89 ?_
            refine m_putN X hK F hS 2 (by decide) rfl rfl (v := (nCo σ) + 1) m_1353 rfl rfl (by decide) dX10_addCohort_90 (fun H locs F hS => ?_)
            refine lv_aload_n X.ex X.co dX10_addCohort_93 rfl (lv_at hl 0 rfl) ?_
            refine m_getN X hK F 2 (by decide) rfl rfl (x := (nCo σ) + 1) rfl m_1353 rfl dX10_addCohort_94 ?_
            refine lv_iconst (v := 1) X.ex X.co dX10_addCohort_97 (by decide) ?_
            refine n_sub X (x := (nCo σ) + 1) (y := 1) (by omega) dX10_addCohort_98 ?_
            exact c_i X hS rfl rfl (by have q : fAddCohort σ a b = (nI (((nCo σ) + 1) - 1), (sN (sV (sV σ 3 (nCo σ) a) 4 (nCo σ) b) 2 0 ((nCo σ) + 1))) := (by simp only [fAddCohort, c_1, c_3]; simp [err, *]); unfold eB; rw [q]; exact ⟨rfl, F⟩) (by omega) (by omega) dX10_addCohort_99
          · exact absurd (by decide) c_6
        · refine lv_iconst (v := 1) X.ex X.co dX10_addCohort_49 (by decide) ?_
          refine lv_goto (tgt := 54) X.ex X.co dX10_addCohort_50 (by decide) ?_
          refine lv_iconst (v := 2) X.ex X.co dX10_addCohort_54 (by decide) ?_
          refine q_eV X ce_X10_fails m_1497 (c_X10_fails l G mad A hAg σ h0 true 2 (by decide) (by decide)) (g0.step hS hAg) F (mo F) rfl (by decide) rfl hl.1 rfl (Nat.le_of_ble_eq_true rfl) dX10_addCohort_55 (by omega) (by omega) hS (fun _ h => h) (fun H locs F hz hk hS => ?_)
          have F : mw G mad A (sN σ 0 0 2) H := F
          refine lv_if_eq (tgt := 63) X.ex X.co dX10_addCohort_58 (by decide) (fun c_7 => ?_) (fun c_7 => ?_)
          · exact absurd c_7 (by decide)
          · refine lv_iconst (v := 0) X.ex X.co dX10_addCohort_61 (by decide) ?_
            exact c_i X hS rfl rfl (by have q : fAddCohort σ a b = (0, (sN σ 0 0 2)) := (by simp only [fAddCohort, c_1, c_3]; simp [err, *]); unfold eB; rw [q]; exact ⟨rfl, F⟩) (by omega) (by omega) dX10_addCohort_62
    · refine lv_iconst (v := 1) X.ex X.co dX10_addCohort_28 (by decide) ?_
      refine lv_goto (tgt := 33) X.ex X.co dX10_addCohort_29 (by decide) ?_
      refine lv_iconst (v := 1) X.ex X.co dX10_addCohort_33 (by decide) ?_
      refine q_eV X ce_X10_fails m_1497 (c_X10_fails l G mad A hAg σ h0 true 1 (by decide) (by decide)) (g0.step hS hAg) F (mo F) rfl (by decide) rfl hl.1 rfl (Nat.le_of_ble_eq_true rfl) dX10_addCohort_34 (by omega) (by omega) hS (fun _ h => h) (fun H locs F hz hk hS => ?_)
      have F : mw G mad A (sN σ 0 0 1) H := F
      refine lv_if_ne (tgt := 61) X.ex X.co dX10_addCohort_37 (by decide) (fun c_8 => ?_) (fun c_8 => ?_)
      · refine lv_iconst (v := 0) X.ex X.co dX10_addCohort_61 (by decide) ?_
        exact c_i X hS rfl rfl (by have q : fAddCohort σ a b = (0, (sN σ 0 0 1)) := (by simp only [fAddCohort, c_1, c_3]; simp [err, *]); unfold eB; rw [q]; exact ⟨rfl, F⟩) (by omega) (by omega) dX10_addCohort_62
      · exact absurd c_8 (by decide)
set_option maxHeartbeats 4000000 in
set_option maxRecDepth 100000 in
theorem c_X10_addStudent (l : Launch) (G : GT) (mad : I2 → Nat) (A : Nat → Prop) (hAg : ∀ q, A q → gA G q) (τ σ : Sg) (hσ : σ = sN τ 0 0 0) (hI : MI σ) (v : Int32) : cM l yX10_addStudent cX10_addStudent 2 ((Option.some FieldType.int)) 1 0 0 G [.ref (mad (0, 0)), .int v] (mw G mad A τ) (eB (some (.int (fAddStudent σ v).1)) (mw G mad A (fAddStudent σ v).2)) A := by
  refine mk_m (by decide) (Nat.le_of_ble_eq_true rfl) ?_
  intro p e s m args below meth c X ls hl g0 F hnm
  have hK := g0.1
  have hS : va_S A s.heap s.heap [] := va_S.rf
  have hI0 := hI.1
  obtain ⟨b1, b2, b3, b4, b5, b6, b7⟩ := hI0.1
  obtain ⟨b8, b9, b10⟩ := hI.2.1
  have hapb := hI.apb
  have h0 : σ.1 0 0 = 0 := by rw [hσ]; simp [sN]
  have hl : lv_has ls 2 [(0, .ref (mad (0, 0))), (1, .int v)] := hl
  show Wc p l e 1 0 0 s m args below meth c (eB (some (.int (fAddStudent σ v).1)) (mw G mad A (fAddStudent σ v).2)) A s.heap [] 0 0 0 ls []
  refine lv_aload_n X.ex X.co dX10_addStudent_0 rfl (lv_at hl 0 rfl) ?_
  refine lv_iconst (v := 0) X.ex X.co dX10_addStudent_1 (by decide) ?_
  refine m_putN X hK F hS 0 (by decide) rfl rfl (v := 0) m_1351 rfl rfl (by decide) dX10_addStudent_2 (fun H locs F hS => ?_)
  rw [← hσ] at F
  clear hσ
  refine lv_aload_n X.ex X.co dX10_addStudent_5 rfl (lv_at hl 0 rfl) ?_
  refine lv_iload_n X.ex X.co dX10_addStudent_6 rfl (lv_at hl 1 rfl) ?_
  refine lv_iconst (v := 0) X.ex X.co dX10_addStudent_7 (by decide) ?_
  refine lv_aload_n X.ex X.co dX10_addStudent_8 rfl (lv_at hl 0 rfl) ?_
  refine m_getN X hK F 2 (by decide) rfl rfl (x := nCo σ) rfl m_1353 rfl dX10_addStudent_9 ?_
  refine lv_iconst (v := 1) X.ex X.co dX10_addStudent_12 (by decide) ?_
  refine lv_isub X.ex X.co dX10_addStudent_13 ?_
  refine q_rS X ce_X10_in m_1494 (c_X10_in l G v 0 (nI (nCo σ) - 1)) (g0.step hS hAg) trivial (by decide) rfl hl.1 rfl (Nat.le_of_ble_eq_true rfl) dX10_addStudent_14 (by omega) (by omega) ?_
  refine b_if_ne X (x := okP v (nCo σ)) (tgt := 24) dX10_addStudent_17 (by decide) (fun c_1 => ?_) (fun c_1 => ?_)
  · have ok_v : okP v (nCo σ) = true := by simpa using c_1
    obtain ⟨j_v, hj_v, rfl⟩ := (okP_ix (by omega)).mp ok_v
    have ex_v := ix_nI (j := j_v) (by omega)
    refine lv_iconst (v := 0) X.ex X.co dX10_addStudent_24 (by decide) ?_
    refine lv_iconst (v := 1) X.ex X.co dX10_addStudent_25 (by decide) ?_
    refine q_eV X ce_X10_fails m_1497 (c_X10_fails l G mad A hAg σ h0 false 1 (by decide) (by decide)) (g0.step hS hAg) F (mo F) rfl (by decide) rfl hl.1 rfl (Nat.le_of_ble_eq_true rfl) dX10_addStudent_26 (by omega) (by omega) hS (fun _ h => h) (fun H locs F hz hk hS => ?_)
    have F : mw G mad A σ H := F
    refine lv_if_ne (tgt := 54) X.ex X.co dX10_addStudent_29 (by decide) (fun c_2 => ?_) (fun c_2 => ?_)
    · exact absurd (by decide) c_2
    · refine lv_aload_n X.ex X.co dX10_addStudent_32 rfl (lv_at hl 0 rfl) ?_
      refine lv_aload_n X.ex X.co dX10_addStudent_33 rfl (lv_at hl 0 rfl) ?_
      refine m_getN X hK F 5 (by decide) rfl rfl (x := nSt σ) rfl m_1356 rfl dX10_addStudent_34 ?_
      refine lv_bipush (v := 8) X.ex X.co dX10_addStudent_37 (by decide) ?_
      refine n_cmp_ne X (x := nSt σ) (y := 8) (tgt := 46) (by omega) (by omega) dX10_addStudent_39 (by decide) (fun c_3 => ?_) (fun c_3 => ?_)
      · refine lv_iconst (v := 0) X.ex X.co dX10_addStudent_46 (by decide) ?_
        refine lv_iconst (v := 2) X.ex X.co dX10_addStudent_47 (by decide) ?_
        refine q_eV X ce_X10_fails m_1497 (c_X10_fails l G mad A hAg σ h0 false 2 (by decide) (by decide)) (g0.step hS hAg) F (mo F) rfl (by decide) rfl hl.1 rfl (Nat.le_of_ble_eq_true rfl) dX10_addStudent_48 (by omega) (by omega) hS (fun _ h => h) (fun H locs F hz hk hS => ?_)
        have F : mw G mad A σ H := F
        refine lv_if_eq (tgt := 56) X.ex X.co dX10_addStudent_51 (by decide) (fun c_4 => ?_) (fun c_4 => ?_)
        · refine lv_aload_n X.ex X.co dX10_addStudent_56 rfl (lv_at hl 0 rfl) ?_
          refine m_getA X hK F 6 (by decide) rfl m_1357 rfl dX10_addStudent_57 ?_
          refine lv_aload_n X.ex X.co dX10_addStudent_60 rfl (lv_at hl 0 rfl) ?_
          refine m_getN X hK F 5 (by decide) rfl rfl (x := nSt σ) rfl m_1356 rfl dX10_addStudent_61 ?_
          refine lv_iload_n X.ex X.co dX10_addStudent_64 rfl (lv_at hl 1 rfl) ?_
          refine m_astN X hK F hS 6 (by decide) rfl rfl rfl (nSt σ) j_v (by first | omega | (show _ < 8; omega)) dX10_addStudent_65 (fun H locs F hS => ?_)
          refine lv_aload_n X.ex X.co dX10_addStudent_66 rfl (lv_at hl 0 rfl) ?_
          refine lv_dup X.ex X.co dX10_addStudent_67 rfl ?_
          refine m_getN X hK F 5 (by decide) rfl rfl (x := nSt σ) rfl m_1356 rfl dX10_addStudent_68 ?_
          refine lv_iconst (v := 1) X.ex X.co dX10_addStudent_71 (by decide) ?_
          refine n_add X (x := nSt σ) (y := 1) dX10_addStudent_72 ?_
          refine m_putN X hK F hS 5 (by decide) rfl rfl (v := (nSt σ) + 1) m_1356 rfl rfl (by decide) dX10_addStudent_73 (fun H locs F hS => ?_)
          refine lv_aload_n X.ex X.co dX10_addStudent_76 rfl (lv_at hl 0 rfl) ?_
          refine m_getN X hK F 5 (by decide) rfl rfl (x := (nSt σ) + 1) rfl m_1356 rfl dX10_addStudent_77 ?_
          refine lv_iconst (v := 1) X.ex X.co dX10_addStudent_80 (by decide) ?_
          refine n_sub X (x := (nSt σ) + 1) (y := 1) (by omega) dX10_addStudent_81 ?_
          exact c_i X hS rfl rfl (by have q : fAddStudent σ (nI j_v) = (nI (((nSt σ) + 1) - 1), (sN (sN σ 6 (nSt σ) j_v) 5 0 ((nSt σ) + 1))) := (by simp only [fAddStudent, c_1, ok_v]; simp [err, *]); unfold eB; rw [q]; exact ⟨rfl, F⟩) (by omega) (by omega) dX10_addStudent_82
        · exact absurd (by decide) c_4
      · refine lv_iconst (v := 1) X.ex X.co dX10_addStudent_42 (by decide) ?_
        refine lv_goto (tgt := 47) X.ex X.co dX10_addStudent_43 (by decide) ?_
        refine lv_iconst (v := 2) X.ex X.co dX10_addStudent_47 (by decide) ?_
        refine q_eV X ce_X10_fails m_1497 (c_X10_fails l G mad A hAg σ h0 true 2 (by decide) (by decide)) (g0.step hS hAg) F (mo F) rfl (by decide) rfl hl.1 rfl (Nat.le_of_ble_eq_true rfl) dX10_addStudent_48 (by omega) (by omega) hS (fun _ h => h) (fun H locs F hz hk hS => ?_)
        have F : mw G mad A (sN σ 0 0 2) H := F
        refine lv_if_eq (tgt := 56) X.ex X.co dX10_addStudent_51 (by decide) (fun c_5 => ?_) (fun c_5 => ?_)
        · exact absurd c_5 (by decide)
        · refine lv_iconst (v := 0) X.ex X.co dX10_addStudent_54 (by decide) ?_
          exact c_i X hS rfl rfl (by have q : fAddStudent σ (nI j_v) = (0, (sN σ 0 0 2)) := (by simp only [fAddStudent, c_1, ok_v]; simp [err, *]); unfold eB; rw [q]; exact ⟨rfl, F⟩) (by omega) (by omega) dX10_addStudent_55
  · refine lv_iconst (v := 1) X.ex X.co dX10_addStudent_20 (by decide) ?_
    refine lv_goto (tgt := 25) X.ex X.co dX10_addStudent_21 (by decide) ?_
    refine lv_iconst (v := 1) X.ex X.co dX10_addStudent_25 (by decide) ?_
    refine q_eV X ce_X10_fails m_1497 (c_X10_fails l G mad A hAg σ h0 true 1 (by decide) (by decide)) (g0.step hS hAg) F (mo F) rfl (by decide) rfl hl.1 rfl (Nat.le_of_ble_eq_true rfl) dX10_addStudent_26 (by omega) (by omega) hS (fun _ h => h) (fun H locs F hz hk hS => ?_)
    have F : mw G mad A (sN σ 0 0 1) H := F
    refine lv_if_ne (tgt := 54) X.ex X.co dX10_addStudent_29 (by decide) (fun c_6 => ?_) (fun c_6 => ?_)
    · refine lv_iconst (v := 0) X.ex X.co dX10_addStudent_54 (by decide) ?_
      exact c_i X hS rfl rfl (by have q : fAddStudent σ v = (0, (sN σ 0 0 1)) := (by simp only [fAddStudent, c_1]; simp [err, *]); unfold eB; rw [q]; exact ⟨rfl, F⟩) (by omega) (by omega) dX10_addStudent_55
    · exact absurd c_6 (by decide)
set_option maxHeartbeats 4000000 in
set_option maxRecDepth 100000 in
theorem c_X10_addLesson (l : Launch) (G : GT) (mad : I2 → Nat) (A : Nat → Prop) (hAg : ∀ q, A q → gA G q) (τ σ : Sg) (hσ : σ = sN τ 0 0 0) (hI : MI σ) (n d : Int32) : cM l yX10_addLesson cX10_addLesson 3 ((Option.some FieldType.int)) 1 0 0 G [.ref (mad (0, 0)), .int n, .int d] (mw G mad A τ) (eB (some (.int (fAddLesson σ n d).1)) (mw G mad A (fAddLesson σ n d).2)) A := by
  refine mk_m (by decide) (Nat.le_of_ble_eq_true rfl) ?_
  intro p e s m args below meth c X ls hl g0 F hnm
  have hK := g0.1
  have hS : va_S A s.heap s.heap [] := va_S.rf
  have hI0 := hI.1
  obtain ⟨b1, b2, b3, b4, b5, b6, b7⟩ := hI0.1
  obtain ⟨b8, b9, b10⟩ := hI.2.1
  have hapb := hI.apb
  have h0 : σ.1 0 0 = 0 := by rw [hσ]; simp [sN]
  have hl : lv_has ls 3 [(0, .ref (mad (0, 0))), (1, .int n), (2, .int d)] := hl
  show Wc p l e 1 0 0 s m args below meth c (eB (some (.int (fAddLesson σ n d).1)) (mw G mad A (fAddLesson σ n d).2)) A s.heap [] 0 0 0 ls []
  refine lv_aload_n X.ex X.co dX10_addLesson_0 rfl (lv_at hl 0 rfl) ?_
  refine lv_iconst (v := 0) X.ex X.co dX10_addLesson_1 (by decide) ?_
  refine m_putN X hK F hS 0 (by decide) rfl rfl (v := 0) m_1351 rfl rfl (by decide) dX10_addLesson_2 (fun H locs F hS => ?_)
  rw [← hσ] at F
  clear hσ
  refine lv_aload_n X.ex X.co dX10_addLesson_5 rfl (lv_at hl 0 rfl) ?_
  refine lv_iload_n X.ex X.co dX10_addLesson_6 rfl (lv_at hl 1 rfl) ?_
  refine lv_iconst (v := 0) X.ex X.co dX10_addLesson_7 (by decide) ?_
  refine lv_iconst (v := 1) X.ex X.co dX10_addLesson_8 (by decide) ?_
  refine lv_aload_n X.ex X.co dX10_addLesson_9 rfl (lv_at hl 0 rfl) ?_
  refine m_getN X hK F 7 (by decide) rfl rfl (x := nLe σ) rfl m_1358 rfl dX10_addLesson_10 ?_
  refine lv_ishl X.ex X.co dX10_addLesson_13 ?_
  refine lv_iconst (v := 1) X.ex X.co dX10_addLesson_14 (by decide) ?_
  refine lv_isub X.ex X.co dX10_addLesson_15 ?_
  refine q_rS X ce_X10_in m_1494 (c_X10_in l G n 0 ((1 <<< (nI (nLe σ) &&& 31)) - 1)) (g0.step hS hAg) trivial (by decide) rfl hl.1 rfl (Nat.le_of_ble_eq_true rfl) dX10_addLesson_16 (by omega) (by omega) ?_
  refine b_if_eq X (x := inB n 0 ((1 <<< (nI (nLe σ) &&& 31)) - 1)) (tgt := 32) dX10_addLesson_19 (by decide) (fun c_1 => ?_) (fun c_1 => ?_)
  · refine lv_iconst (v := 1) X.ex X.co dX10_addLesson_32 (by decide) ?_
    refine lv_goto (tgt := 37) X.ex X.co dX10_addLesson_33 (by decide) ?_
    refine lv_iconst (v := 1) X.ex X.co dX10_addLesson_37 (by decide) ?_
    refine q_eV X ce_X10_fails m_1497 (c_X10_fails l G mad A hAg σ h0 true 1 (by decide) (by decide)) (g0.step hS hAg) F (mo F) rfl (by decide) rfl hl.1 rfl (Nat.le_of_ble_eq_true rfl) dX10_addLesson_38 (by omega) (by omega) hS (fun _ h => h) (fun H locs F hz hk hS => ?_)
    have F : mw G mad A (sN σ 0 0 1) H := F
    refine lv_if_ne (tgt := 66) X.ex X.co dX10_addLesson_41 (by decide) (fun c_2 => ?_) (fun c_2 => ?_)
    · refine lv_iconst (v := 0) X.ex X.co dX10_addLesson_66 (by decide) ?_
      exact c_i X hS rfl rfl (by have q : fAddLesson σ n d = (0, (sN σ 0 0 1)) := (by simp only [fAddLesson, c_1]; simp [err, *]); unfold eB; rw [q]; exact ⟨rfl, F⟩) (by omega) (by omega) dX10_addLesson_67
    · exact absurd c_2 (by decide)
  · refine lv_iload_n X.ex X.co dX10_addLesson_22 rfl (lv_at hl 2 rfl) ?_
    refine lv_iconst (v := 0) X.ex X.co dX10_addLesson_23 (by decide) ?_
    refine lv_bipush (v := 9) X.ex X.co dX10_addLesson_24 (by decide) ?_
    refine q_rS X ce_X10_in m_1494 (c_X10_in l G d 0 9) (g0.step hS hAg) trivial (by decide) rfl hl.1 rfl (Nat.le_of_ble_eq_true rfl) dX10_addLesson_26 (by omega) (by omega) ?_
    refine b_if_ne X (x := inB d 0 9) (tgt := 36) dX10_addLesson_29 (by decide) (fun c_3 => ?_) (fun c_3 => ?_)
    · refine lv_iconst (v := 0) X.ex X.co dX10_addLesson_36 (by decide) ?_
      refine lv_iconst (v := 1) X.ex X.co dX10_addLesson_37 (by decide) ?_
      refine q_eV X ce_X10_fails m_1497 (c_X10_fails l G mad A hAg σ h0 false 1 (by decide) (by decide)) (g0.step hS hAg) F (mo F) rfl (by decide) rfl hl.1 rfl (Nat.le_of_ble_eq_true rfl) dX10_addLesson_38 (by omega) (by omega) hS (fun _ h => h) (fun H locs F hz hk hS => ?_)
      have F : mw G mad A σ H := F
      refine lv_if_ne (tgt := 66) X.ex X.co dX10_addLesson_41 (by decide) (fun c_4 => ?_) (fun c_4 => ?_)
      · exact absurd (by decide) c_4
      · refine lv_aload_n X.ex X.co dX10_addLesson_44 rfl (lv_at hl 0 rfl) ?_
        refine lv_aload_n X.ex X.co dX10_addLesson_45 rfl (lv_at hl 0 rfl) ?_
        refine m_getN X hK F 7 (by decide) rfl rfl (x := nLe σ) rfl m_1358 rfl dX10_addLesson_46 ?_
        refine lv_bipush (v := 8) X.ex X.co dX10_addLesson_49 (by decide) ?_
        refine n_cmp_ne X (x := nLe σ) (y := 8) (tgt := 58) (by omega) (by omega) dX10_addLesson_51 (by decide) (fun c_5 => ?_) (fun c_5 => ?_)
        · refine lv_iconst (v := 0) X.ex X.co dX10_addLesson_58 (by decide) ?_
          refine lv_iconst (v := 2) X.ex X.co dX10_addLesson_59 (by decide) ?_
          refine q_eV X ce_X10_fails m_1497 (c_X10_fails l G mad A hAg σ h0 false 2 (by decide) (by decide)) (g0.step hS hAg) F (mo F) rfl (by decide) rfl hl.1 rfl (Nat.le_of_ble_eq_true rfl) dX10_addLesson_60 (by omega) (by omega) hS (fun _ h => h) (fun H locs F hz hk hS => ?_)
          have F : mw G mad A σ H := F
          refine lv_if_eq (tgt := 68) X.ex X.co dX10_addLesson_63 (by decide) (fun c_6 => ?_) (fun c_6 => ?_)
          · refine lv_aload_n X.ex X.co dX10_addLesson_68 rfl (lv_at hl 0 rfl) ?_
            refine m_getA X hK F 8 (by decide) rfl m_1359 rfl dX10_addLesson_69 ?_
            refine lv_aload_n X.ex X.co dX10_addLesson_72 rfl (lv_at hl 0 rfl) ?_
            refine m_getN X hK F 7 (by decide) rfl rfl (x := nLe σ) rfl m_1358 rfl dX10_addLesson_73 ?_
            refine lv_iload_n X.ex X.co dX10_addLesson_76 rfl (lv_at hl 1 rfl) ?_
            refine m_astV X hK F hS 8 (by decide) rfl rfl rfl (nLe σ) (v := n) (by first | omega | (show _ < 8; omega)) dX10_addLesson_77 (fun H locs F hS => ?_)
            refine lv_aload_n X.ex X.co dX10_addLesson_78 rfl (lv_at hl 0 rfl) ?_
            refine m_getA X hK F 9 (by decide) rfl m_1360 rfl dX10_addLesson_79 ?_
            refine lv_aload_n X.ex X.co dX10_addLesson_82 rfl (lv_at hl 0 rfl) ?_
            refine m_getN X hK F 7 (by decide) rfl rfl (x := nLe σ) rfl m_1358 rfl dX10_addLesson_83 ?_
            refine lv_iload_n X.ex X.co dX10_addLesson_86 rfl (lv_at hl 2 rfl) ?_
            refine m_astV X hK F hS 9 (by decide) rfl rfl rfl (nLe σ) (v := d) (by first | omega | (show _ < 8; omega)) dX10_addLesson_87 (fun H locs F hS => ?_)
            refine lv_aload_n X.ex X.co dX10_addLesson_88 rfl (lv_at hl 0 rfl) ?_
            refine lv_dup X.ex X.co dX10_addLesson_89 rfl ?_
            refine m_getN X hK F 7 (by decide) rfl rfl (x := nLe σ) rfl m_1358 rfl dX10_addLesson_90 ?_
            refine lv_iconst (v := 1) X.ex X.co dX10_addLesson_93 (by decide) ?_
            refine n_add X (x := nLe σ) (y := 1) dX10_addLesson_94 ?_
            refine m_putN X hK F hS 7 (by decide) rfl rfl (v := (nLe σ) + 1) m_1358 rfl rfl (by decide) dX10_addLesson_95 (fun H locs F hS => ?_)
            refine lv_aload_n X.ex X.co dX10_addLesson_98 rfl (lv_at hl 0 rfl) ?_
            refine m_getN X hK F 7 (by decide) rfl rfl (x := (nLe σ) + 1) rfl m_1358 rfl dX10_addLesson_99 ?_
            refine lv_iconst (v := 1) X.ex X.co dX10_addLesson_102 (by decide) ?_
            refine n_sub X (x := (nLe σ) + 1) (y := 1) (by omega) dX10_addLesson_103 ?_
            exact c_i X hS rfl rfl (by have q : fAddLesson σ n d = (nI (((nLe σ) + 1) - 1), (sN (sV (sV σ 8 (nLe σ) n) 9 (nLe σ) d) 7 0 ((nLe σ) + 1))) := (by simp only [fAddLesson, c_1, c_3]; simp [err, *]); unfold eB; rw [q]; exact ⟨rfl, F⟩) (by omega) (by omega) dX10_addLesson_104
          · exact absurd (by decide) c_6
        · refine lv_iconst (v := 1) X.ex X.co dX10_addLesson_54 (by decide) ?_
          refine lv_goto (tgt := 59) X.ex X.co dX10_addLesson_55 (by decide) ?_
          refine lv_iconst (v := 2) X.ex X.co dX10_addLesson_59 (by decide) ?_
          refine q_eV X ce_X10_fails m_1497 (c_X10_fails l G mad A hAg σ h0 true 2 (by decide) (by decide)) (g0.step hS hAg) F (mo F) rfl (by decide) rfl hl.1 rfl (Nat.le_of_ble_eq_true rfl) dX10_addLesson_60 (by omega) (by omega) hS (fun _ h => h) (fun H locs F hz hk hS => ?_)
          have F : mw G mad A (sN σ 0 0 2) H := F
          refine lv_if_eq (tgt := 68) X.ex X.co dX10_addLesson_63 (by decide) (fun c_7 => ?_) (fun c_7 => ?_)
          · exact absurd c_7 (by decide)
          · refine lv_iconst (v := 0) X.ex X.co dX10_addLesson_66 (by decide) ?_
            exact c_i X hS rfl rfl (by have q : fAddLesson σ n d = (0, (sN σ 0 0 2)) := (by simp only [fAddLesson, c_1, c_3]; simp [err, *]); unfold eB; rw [q]; exact ⟨rfl, F⟩) (by omega) (by omega) dX10_addLesson_67
    · refine lv_iconst (v := 1) X.ex X.co dX10_addLesson_32 (by decide) ?_
      refine lv_goto (tgt := 37) X.ex X.co dX10_addLesson_33 (by decide) ?_
      refine lv_iconst (v := 1) X.ex X.co dX10_addLesson_37 (by decide) ?_
      refine q_eV X ce_X10_fails m_1497 (c_X10_fails l G mad A hAg σ h0 true 1 (by decide) (by decide)) (g0.step hS hAg) F (mo F) rfl (by decide) rfl hl.1 rfl (Nat.le_of_ble_eq_true rfl) dX10_addLesson_38 (by omega) (by omega) hS (fun _ h => h) (fun H locs F hz hk hS => ?_)
      have F : mw G mad A (sN σ 0 0 1) H := F
      refine lv_if_ne (tgt := 66) X.ex X.co dX10_addLesson_41 (by decide) (fun c_8 => ?_) (fun c_8 => ?_)
      · refine lv_iconst (v := 0) X.ex X.co dX10_addLesson_66 (by decide) ?_
        exact c_i X hS rfl rfl (by have q : fAddLesson σ n d = (0, (sN σ 0 0 1)) := (by simp only [fAddLesson, c_1, c_3]; simp [err, *]); unfold eB; rw [q]; exact ⟨rfl, F⟩) (by omega) (by omega) dX10_addLesson_67
      · exact absurd c_8 (by decide)
set_option maxHeartbeats 4000000 in
set_option maxRecDepth 100000 in
theorem c_X10_addExercise (l : Launch) (G : GT) (mad : I2 → Nat) (A : Nat → Prop) (hAg : ∀ q, A q → gA G q) (τ σ : Sg) (hσ : σ = sN τ 0 0 0) (hI : MI σ) (v f a g : Int32) : cM l yX10_addExercise cX10_addExercise 5 ((Option.some FieldType.int)) 2 0 0 G [.ref (mad (0, 0)), .int v, .int f, .int a, .int g] (mw G mad A τ) (eB (some (.int (fAddExercise σ v f a g).1)) (mw G mad A (fAddExercise σ v f a g).2)) A := by
  refine mk_m (by decide) (Nat.le_of_ble_eq_true rfl) ?_
  intro p e s m args below meth c X ls hl g0 F hnm
  have hK := g0.1
  have hS : va_S A s.heap s.heap [] := va_S.rf
  have hI0 := hI.1
  obtain ⟨b1, b2, b3, b4, b5, b6, b7⟩ := hI0.1
  obtain ⟨b8, b9, b10⟩ := hI.2.1
  have hapb := hI.apb
  have h0 : σ.1 0 0 = 0 := by rw [hσ]; simp [sN]
  have hl : lv_has ls 5 [(0, .ref (mad (0, 0))), (1, .int v), (2, .int f), (3, .int a), (4, .int g)] := hl
  show Wc p l e 2 0 0 s m args below meth c (eB (some (.int (fAddExercise σ v f a g).1)) (mw G mad A (fAddExercise σ v f a g).2)) A s.heap [] 0 0 0 ls []
  refine lv_aload_n X.ex X.co dX10_addExercise_0 rfl (lv_at hl 0 rfl) ?_
  refine lv_iconst (v := 0) X.ex X.co dX10_addExercise_1 (by decide) ?_
  refine m_putN X hK F hS 0 (by decide) rfl rfl (v := 0) m_1351 rfl rfl (by decide) dX10_addExercise_2 (fun H locs F hS => ?_)
  rw [← hσ] at F
  clear hσ
  refine lv_aload_n X.ex X.co dX10_addExercise_5 rfl (lv_at hl 0 rfl) ?_
  refine lv_aload_n X.ex X.co dX10_addExercise_6 rfl (lv_at hl 0 rfl) ?_
  refine lv_iload_n X.ex X.co dX10_addExercise_7 rfl (lv_at hl 1 rfl) ?_
  refine q_rV X ce_X10_noLesson m_1513 (c_X10_noLesson l G mad A σ hI0 v) (g0.step hS hAg) F (mo F) rfl (by decide) rfl hl.1 rfl (Nat.le_of_ble_eq_true rfl) dX10_addExercise_8 (by omega) (by omega) ?_
  refine lv_iconst (v := 1) X.ex X.co dX10_addExercise_11 (by decide) ?_
  rcases hb_1 : !(okP v (nLe σ)) with _ | _
  · have hc_2 : (okP v (nLe σ)) = true := by simpa using hb_1
    have ok_v : okP v (nLe σ) = true := by simpa using hb_1
    obtain ⟨j_v, hj_v, rfl⟩ := (okP_ix (by omega)).mp ok_v
    have ex_v := ix_nI (j := j_v) (by omega)
    refine q_eV X ce_X10_fails m_1497 (c_X10_fails l G mad A hAg σ h0 false 1 (by decide) (by decide)) (g0.step hS hAg) F (mo F) rfl (by decide) rfl hl.1 rfl (Nat.le_of_ble_eq_true rfl) dX10_addExercise_12 (by omega) (by omega) hS (fun _ h => h) (fun H locs F hz hk hS => ?_)
    have F : mw G mad A σ H := F
    refine lv_if_ne (tgt := 71) X.ex X.co dX10_addExercise_15 (by decide) (fun c_3 => ?_) (fun c_3 => ?_)
    · exact absurd (by decide) c_3
    · refine lv_aload_n X.ex X.co dX10_addExercise_18 rfl (lv_at hl 0 rfl) ?_
      refine lv_iload_n X.ex X.co dX10_addExercise_19 rfl (lv_at hl 2 rfl) ?_
      refine lv_iload_n X.ex X.co dX10_addExercise_20 rfl (lv_at hl 3 rfl) ?_
      refine q_rS X ce_X10_isRule m_1517 (c_X10_isRule l G f a) (g0.step hS hAg) trivial (by decide) rfl hl.1 rfl (Nat.le_of_ble_eq_true rfl) dX10_addExercise_21 (by omega) (by omega) ?_
      refine b_if_eq X (x := isR f a) (tgt := 37) dX10_addExercise_24 (by decide) (fun c_4 => ?_) (fun c_4 => ?_)
      · refine lv_iconst (v := 1) X.ex X.co dX10_addExercise_37 (by decide) ?_
        refine lv_goto (tgt := 42) X.ex X.co dX10_addExercise_38 (by decide) ?_
        refine lv_iconst (v := 2) X.ex X.co dX10_addExercise_42 (by decide) ?_
        refine q_eV X ce_X10_fails m_1497 (c_X10_fails l G mad A hAg σ h0 true 2 (by decide) (by decide)) (g0.step hS hAg) F (mo F) rfl (by decide) rfl hl.1 rfl (Nat.le_of_ble_eq_true rfl) dX10_addExercise_43 (by omega) (by omega) hS (fun _ h => h) (fun H locs F hz hk hS => ?_)
        have F : mw G mad A (sN σ 0 0 2) H := F
        refine lv_if_ne (tgt := 71) X.ex X.co dX10_addExercise_46 (by decide) (fun c_5 => ?_) (fun c_5 => ?_)
        · refine lv_iconst (v := 0) X.ex X.co dX10_addExercise_71 (by decide) ?_
          exact c_i X hS rfl rfl (by have q : fAddExercise σ (nI j_v) f a g = (0, (sN σ 0 0 2)) := (by simp only [fAddExercise, hc_2, c_4, ok_v]; simp [err, *]); unfold eB; rw [q]; exact ⟨rfl, F⟩) (by omega) (by omega) dX10_addExercise_72
        · exact absurd c_5 (by decide)
      · refine lv_iload X.ex X.co dX10_addExercise_27 (lv_at hl 4 rfl) ?_
        refine lv_iconst (v := 0) X.ex X.co dX10_addExercise_29 (by decide) ?_
        refine lv_iconst (v := 2) X.ex X.co dX10_addExercise_30 (by decide) ?_
        refine q_rS X ce_X10_in m_1494 (c_X10_in l G g 0 2) (g0.step hS hAg) trivial (by decide) rfl hl.1 rfl (Nat.le_of_ble_eq_true rfl) dX10_addExercise_31 (by omega) (by omega) ?_
        refine b_if_ne X (x := inB g 0 2) (tgt := 41) dX10_addExercise_34 (by decide) (fun c_6 => ?_) (fun c_6 => ?_)
        · refine lv_iconst (v := 0) X.ex X.co dX10_addExercise_41 (by decide) ?_
          refine lv_iconst (v := 2) X.ex X.co dX10_addExercise_42 (by decide) ?_
          refine q_eV X ce_X10_fails m_1497 (c_X10_fails l G mad A hAg σ h0 false 2 (by decide) (by decide)) (g0.step hS hAg) F (mo F) rfl (by decide) rfl hl.1 rfl (Nat.le_of_ble_eq_true rfl) dX10_addExercise_43 (by omega) (by omega) hS (fun _ h => h) (fun H locs F hz hk hS => ?_)
          have F : mw G mad A σ H := F
          refine lv_if_ne (tgt := 71) X.ex X.co dX10_addExercise_46 (by decide) (fun c_7 => ?_) (fun c_7 => ?_)
          · exact absurd (by decide) c_7
          · refine lv_aload_n X.ex X.co dX10_addExercise_49 rfl (lv_at hl 0 rfl) ?_
            refine lv_aload_n X.ex X.co dX10_addExercise_50 rfl (lv_at hl 0 rfl) ?_
            refine m_getN X hK F 11 (by decide) rfl rfl (x := nEx σ) rfl m_1362 rfl dX10_addExercise_51 ?_
            refine lv_bipush (v := 12) X.ex X.co dX10_addExercise_54 (by decide) ?_
            refine n_cmp_ne X (x := nEx σ) (y := 12) (tgt := 63) (by omega) (by omega) dX10_addExercise_56 (by decide) (fun c_8 => ?_) (fun c_8 => ?_)
            · refine lv_iconst (v := 0) X.ex X.co dX10_addExercise_63 (by decide) ?_
              refine lv_iconst (v := 3) X.ex X.co dX10_addExercise_64 (by decide) ?_
              refine q_eV X ce_X10_fails m_1497 (c_X10_fails l G mad A hAg σ h0 false 3 (by decide) (by decide)) (g0.step hS hAg) F (mo F) rfl (by decide) rfl hl.1 rfl (Nat.le_of_ble_eq_true rfl) dX10_addExercise_65 (by omega) (by omega) hS (fun _ h => h) (fun H locs F hz hk hS => ?_)
              have F : mw G mad A σ H := F
              refine lv_if_eq (tgt := 73) X.ex X.co dX10_addExercise_68 (by decide) (fun c_9 => ?_) (fun c_9 => ?_)
              · refine lv_aload_n X.ex X.co dX10_addExercise_73 rfl (lv_at hl 0 rfl) ?_
                refine m_getA X hK F 12 (by decide) rfl m_1363 rfl dX10_addExercise_74 ?_
                refine lv_aload_n X.ex X.co dX10_addExercise_77 rfl (lv_at hl 0 rfl) ?_
                refine m_getN X hK F 11 (by decide) rfl rfl (x := nEx σ) rfl m_1362 rfl dX10_addExercise_78 ?_
                refine lv_iload_n X.ex X.co dX10_addExercise_81 rfl (lv_at hl 1 rfl) ?_
                refine m_astN X hK F hS 12 (by decide) rfl rfl rfl (nEx σ) j_v (by first | omega | (show _ < 12; omega)) dX10_addExercise_82 (fun H locs F hS => ?_)
                refine lv_aload_n X.ex X.co dX10_addExercise_83 rfl (lv_at hl 0 rfl) ?_
                refine m_getA X hK F 13 (by decide) rfl m_1364 rfl dX10_addExercise_84 ?_
                refine lv_aload_n X.ex X.co dX10_addExercise_87 rfl (lv_at hl 0 rfl) ?_
                refine m_getN X hK F 11 (by decide) rfl rfl (x := nEx σ) rfl m_1362 rfl dX10_addExercise_88 ?_
                refine lv_iload_n X.ex X.co dX10_addExercise_91 rfl (lv_at hl 2 rfl) ?_
                refine m_astV X hK F hS 13 (by decide) rfl rfl rfl (nEx σ) (v := f) (by first | omega | (show _ < 12; omega)) dX10_addExercise_92 (fun H locs F hS => ?_)
                refine lv_aload_n X.ex X.co dX10_addExercise_93 rfl (lv_at hl 0 rfl) ?_
                refine m_getA X hK F 14 (by decide) rfl m_1365 rfl dX10_addExercise_94 ?_
                refine lv_aload_n X.ex X.co dX10_addExercise_97 rfl (lv_at hl 0 rfl) ?_
                refine m_getN X hK F 11 (by decide) rfl rfl (x := nEx σ) rfl m_1362 rfl dX10_addExercise_98 ?_
                refine lv_iload_n X.ex X.co dX10_addExercise_101 rfl (lv_at hl 3 rfl) ?_
                refine m_astV X hK F hS 14 (by decide) rfl rfl rfl (nEx σ) (v := a) (by first | omega | (show _ < 12; omega)) dX10_addExercise_102 (fun H locs F hS => ?_)
                refine lv_aload_n X.ex X.co dX10_addExercise_103 rfl (lv_at hl 0 rfl) ?_
                refine m_getA X hK F 15 (by decide) rfl m_1366 rfl dX10_addExercise_104 ?_
                refine lv_aload_n X.ex X.co dX10_addExercise_107 rfl (lv_at hl 0 rfl) ?_
                refine m_getN X hK F 11 (by decide) rfl rfl (x := nEx σ) rfl m_1362 rfl dX10_addExercise_108 ?_
                refine lv_iload X.ex X.co dX10_addExercise_111 (lv_at hl 4 rfl) ?_
                refine m_astV X hK F hS 15 (by decide) rfl rfl rfl (nEx σ) (v := g) (by first | omega | (show _ < 12; omega)) dX10_addExercise_113 (fun H locs F hS => ?_)
                refine lv_aload_n X.ex X.co dX10_addExercise_114 rfl (lv_at hl 0 rfl) ?_
                refine lv_dup X.ex X.co dX10_addExercise_115 rfl ?_
                refine m_getN X hK F 11 (by decide) rfl rfl (x := nEx σ) rfl m_1362 rfl dX10_addExercise_116 ?_
                refine lv_iconst (v := 1) X.ex X.co dX10_addExercise_119 (by decide) ?_
                refine n_add X (x := nEx σ) (y := 1) dX10_addExercise_120 ?_
                refine m_putN X hK F hS 11 (by decide) rfl rfl (v := (nEx σ) + 1) m_1362 rfl rfl (by decide) dX10_addExercise_121 (fun H locs F hS => ?_)
                refine lv_aload_n X.ex X.co dX10_addExercise_124 rfl (lv_at hl 0 rfl) ?_
                refine m_getN X hK F 11 (by decide) rfl rfl (x := (nEx σ) + 1) rfl m_1362 rfl dX10_addExercise_125 ?_
                refine lv_iconst (v := 1) X.ex X.co dX10_addExercise_128 (by decide) ?_
                refine n_sub X (x := (nEx σ) + 1) (y := 1) (by omega) dX10_addExercise_129 ?_
                exact c_i X hS rfl rfl (by have q : fAddExercise σ (nI j_v) f a g = (nI (((nEx σ) + 1) - 1), (sN (sV (sV (sV (sN σ 12 (nEx σ) j_v) 13 (nEx σ) f) 14 (nEx σ) a) 15 (nEx σ) g) 11 0 ((nEx σ) + 1))) := (by simp only [fAddExercise, hc_2, c_4, c_6, ok_v]; simp [err, *]); unfold eB; rw [q]; exact ⟨rfl, F⟩) (by omega) (by omega) dX10_addExercise_130
              · exact absurd (by decide) c_9
            · refine lv_iconst (v := 1) X.ex X.co dX10_addExercise_59 (by decide) ?_
              refine lv_goto (tgt := 64) X.ex X.co dX10_addExercise_60 (by decide) ?_
              refine lv_iconst (v := 3) X.ex X.co dX10_addExercise_64 (by decide) ?_
              refine q_eV X ce_X10_fails m_1497 (c_X10_fails l G mad A hAg σ h0 true 3 (by decide) (by decide)) (g0.step hS hAg) F (mo F) rfl (by decide) rfl hl.1 rfl (Nat.le_of_ble_eq_true rfl) dX10_addExercise_65 (by omega) (by omega) hS (fun _ h => h) (fun H locs F hz hk hS => ?_)
              have F : mw G mad A (sN σ 0 0 3) H := F
              refine lv_if_eq (tgt := 73) X.ex X.co dX10_addExercise_68 (by decide) (fun c_10 => ?_) (fun c_10 => ?_)
              · exact absurd c_10 (by decide)
              · refine lv_iconst (v := 0) X.ex X.co dX10_addExercise_71 (by decide) ?_
                exact c_i X hS rfl rfl (by have q : fAddExercise σ (nI j_v) f a g = (0, (sN σ 0 0 3)) := (by simp only [fAddExercise, hc_2, c_4, c_6, ok_v]; simp [err, *]); unfold eB; rw [q]; exact ⟨rfl, F⟩) (by omega) (by omega) dX10_addExercise_72
        · refine lv_iconst (v := 1) X.ex X.co dX10_addExercise_37 (by decide) ?_
          refine lv_goto (tgt := 42) X.ex X.co dX10_addExercise_38 (by decide) ?_
          refine lv_iconst (v := 2) X.ex X.co dX10_addExercise_42 (by decide) ?_
          refine q_eV X ce_X10_fails m_1497 (c_X10_fails l G mad A hAg σ h0 true 2 (by decide) (by decide)) (g0.step hS hAg) F (mo F) rfl (by decide) rfl hl.1 rfl (Nat.le_of_ble_eq_true rfl) dX10_addExercise_43 (by omega) (by omega) hS (fun _ h => h) (fun H locs F hz hk hS => ?_)
          have F : mw G mad A (sN σ 0 0 2) H := F
          refine lv_if_ne (tgt := 71) X.ex X.co dX10_addExercise_46 (by decide) (fun c_11 => ?_) (fun c_11 => ?_)
          · refine lv_iconst (v := 0) X.ex X.co dX10_addExercise_71 (by decide) ?_
            exact c_i X hS rfl rfl (by have q : fAddExercise σ (nI j_v) f a g = (0, (sN σ 0 0 2)) := (by simp only [fAddExercise, hc_2, c_4, c_6, ok_v]; simp [err, *]); unfold eB; rw [q]; exact ⟨rfl, F⟩) (by omega) (by omega) dX10_addExercise_72
          · exact absurd c_11 (by decide)
  · have hc_12 : (okP v (nLe σ)) = false := by simpa using hb_1
    refine q_eV X ce_X10_fails m_1497 (c_X10_fails l G mad A hAg σ h0 true 1 (by decide) (by decide)) (g0.step hS hAg) F (mo F) rfl (by decide) rfl hl.1 rfl (Nat.le_of_ble_eq_true rfl) dX10_addExercise_12 (by omega) (by omega) hS (fun _ h => h) (fun H locs F hz hk hS => ?_)
    have F : mw G mad A (sN σ 0 0 1) H := F
    refine lv_if_ne (tgt := 71) X.ex X.co dX10_addExercise_15 (by decide) (fun c_13 => ?_) (fun c_13 => ?_)
    · refine lv_iconst (v := 0) X.ex X.co dX10_addExercise_71 (by decide) ?_
      exact c_i X hS rfl rfl (by have q : fAddExercise σ v f a g = (0, (sN σ 0 0 1)) := (by simp only [fAddExercise, hc_12]; simp [err, *]); unfold eB; rw [q]; exact ⟨rfl, F⟩) (by omega) (by omega) dX10_addExercise_72
    · exact absurd c_13 (by decide)
set_option maxHeartbeats 4000000 in
set_option maxRecDepth 100000 in
theorem c_X10_versionOf (l : Launch) (G : GT) (mad : I2 → Nat) (A : Nat → Prop) (hAg : ∀ q, A q → gA G q) (τ σ : Sg) (hσ : σ = sN τ 0 0 0) (hI : MI σ) (v : Int32) : cM l yX10_versionOf cX10_versionOf 2 ((Option.some FieldType.int)) 2 0 0 G [.ref (mad (0, 0)), .int v] (mw G mad A τ) (eB (some (.int (fVersionOf σ v).1)) (mw G mad A (fVersionOf σ v).2)) A := by
  refine mk_m (by decide) (Nat.le_of_ble_eq_true rfl) ?_
  intro p e s m args below meth c X ls hl g0 F hnm
  have hK := g0.1
  have hS : va_S A s.heap s.heap [] := va_S.rf
  have hI0 := hI.1
  obtain ⟨b1, b2, b3, b4, b5, b6, b7⟩ := hI0.1
  obtain ⟨b8, b9, b10⟩ := hI.2.1
  have hapb := hI.apb
  have h0 : σ.1 0 0 = 0 := by rw [hσ]; simp [sN]
  have hl : lv_has ls 2 [(0, .ref (mad (0, 0))), (1, .int v)] := hl
  show Wc p l e 2 0 0 s m args below meth c (eB (some (.int (fVersionOf σ v).1)) (mw G mad A (fVersionOf σ v).2)) A s.heap [] 0 0 0 ls []
  refine lv_aload_n X.ex X.co dX10_versionOf_0 rfl (lv_at hl 0 rfl) ?_
  refine lv_iconst (v := 0) X.ex X.co dX10_versionOf_1 (by decide) ?_
  refine m_putN X hK F hS 0 (by decide) rfl rfl (v := 0) m_1351 rfl rfl (by decide) dX10_versionOf_2 (fun H locs F hS => ?_)
  rw [← hσ] at F
  clear hσ
  refine lv_aload_n X.ex X.co dX10_versionOf_5 rfl (lv_at hl 0 rfl) ?_
  refine lv_aload_n X.ex X.co dX10_versionOf_6 rfl (lv_at hl 0 rfl) ?_
  refine lv_iload_n X.ex X.co dX10_versionOf_7 rfl (lv_at hl 1 rfl) ?_
  refine q_rV X ce_X10_noLesson m_1513 (c_X10_noLesson l G mad A σ hI0 v) (g0.step hS hAg) F (mo F) rfl (by decide) rfl hl.1 rfl (Nat.le_of_ble_eq_true rfl) dX10_versionOf_8 (by omega) (by omega) ?_
  refine lv_iconst (v := 1) X.ex X.co dX10_versionOf_11 (by decide) ?_
  rcases hb_1 : !(okP v (nLe σ)) with _ | _
  · have hc_2 : (okP v (nLe σ)) = true := by simpa using hb_1
    have ok_v : okP v (nLe σ) = true := by simpa using hb_1
    obtain ⟨j_v, hj_v, rfl⟩ := (okP_ix (by omega)).mp ok_v
    have ex_v := ix_nI (j := j_v) (by omega)
    refine q_eV X ce_X10_fails m_1497 (c_X10_fails l G mad A hAg σ h0 false 1 (by decide) (by decide)) (g0.step hS hAg) F (mo F) rfl (by decide) rfl hl.1 rfl (Nat.le_of_ble_eq_true rfl) dX10_versionOf_12 (by omega) (by omega) hS (fun _ h => h) (fun H locs F hz hk hS => ?_)
    have F : mw G mad A σ H := F
    refine lv_if_eq (tgt := 22) X.ex X.co dX10_versionOf_15 (by decide) (fun c_3 => ?_) (fun c_3 => ?_)
    · refine lv_aload_n X.ex X.co dX10_versionOf_22 rfl (lv_at hl 0 rfl) ?_
      refine m_getA X hK F 10 (by decide) rfl m_1361 rfl dX10_versionOf_23 ?_
      refine lv_iload_n X.ex X.co dX10_versionOf_26 rfl (lv_at hl 1 rfl) ?_
      refine m_ald X hK F 10 (by decide) rfl rfl j_v (by first | omega | (show _ < 8; omega)) (x := (σ.2 10 j_v)) rfl dX10_versionOf_27 ?_
      exact c_i X hS rfl rfl (by have q : fVersionOf σ (nI j_v) = ((σ.2 10 j_v), σ) := (by simp only [fVersionOf, hc_2, ok_v]; simp [err, *]); unfold eB; rw [q]; exact ⟨rfl, F⟩) (by omega) (by omega) dX10_versionOf_28
    · exact absurd (by decide) c_3
  · have hc_4 : (okP v (nLe σ)) = false := by simpa using hb_1
    refine q_eV X ce_X10_fails m_1497 (c_X10_fails l G mad A hAg σ h0 true 1 (by decide) (by decide)) (g0.step hS hAg) F (mo F) rfl (by decide) rfl hl.1 rfl (Nat.le_of_ble_eq_true rfl) dX10_versionOf_12 (by omega) (by omega) hS (fun _ h => h) (fun H locs F hz hk hS => ?_)
    have F : mw G mad A (sN σ 0 0 1) H := F
    refine lv_if_eq (tgt := 22) X.ex X.co dX10_versionOf_15 (by decide) (fun c_5 => ?_) (fun c_5 => ?_)
    · exact absurd c_5 (by decide)
    · refine lv_iconst (v := 0) X.ex X.co dX10_versionOf_18 (by decide) ?_
      refine lv_goto (tgt := 28) X.ex X.co dX10_versionOf_19 (by decide) ?_
      exact c_i X hS rfl rfl (by have q : fVersionOf σ v = (0, (sN σ 0 0 1)) := (by simp only [fVersionOf, hc_4]; simp [err, *]); unfold eB; rw [q]; exact ⟨rfl, F⟩) (by omega) (by omega) dX10_versionOf_28
set_option maxHeartbeats 4000000 in
set_option maxRecDepth 100000 in
theorem c_X10_reason (l : Launch) (G : GT) (mad : I2 → Nat) (A : Nat → Prop) (hAg : ∀ q, A q → gA G q) (τ σ : Sg) (hσ : σ = sN τ 0 0 0) (hI : MI σ) (v w : Int32) : cM l yX10_reason cX10_reason 3 ((Option.some FieldType.char)) 8 0 0 G [.ref (mad (0, 0)), .int v, .int w] (mw G mad A τ) (eB (some (.int (fReason σ v w).1)) (mw G mad A (fReason σ v w).2)) A := by
  refine mk_m (by decide) (Nat.le_of_ble_eq_true rfl) ?_
  intro p e s m args below meth c X ls hl g0 F hnm
  have hK := g0.1
  have hS : va_S A s.heap s.heap [] := va_S.rf
  have hI0 := hI.1
  obtain ⟨b1, b2, b3, b4, b5, b6, b7⟩ := hI0.1
  obtain ⟨b8, b9, b10⟩ := hI.2.1
  have hapb := hI.apb
  have h0 : σ.1 0 0 = 0 := by rw [hσ]; simp [sN]
  have hl : lv_has ls 3 [(0, .ref (mad (0, 0))), (1, .int v), (2, .int w)] := hl
  show Wc p l e 8 0 0 s m args below meth c (eB (some (.int (fReason σ v w).1)) (mw G mad A (fReason σ v w).2)) A s.heap [] 0 0 0 ls []
  refine lv_aload_n X.ex X.co dX10_reason_0 rfl (lv_at hl 0 rfl) ?_
  refine lv_iconst (v := 0) X.ex X.co dX10_reason_1 (by decide) ?_
  refine m_putN X hK F hS 0 (by decide) rfl rfl (v := 0) m_1351 rfl rfl (by decide) dX10_reason_2 (fun H locs F hS => ?_)
  rw [← hσ] at F
  clear hσ
  refine lv_aload_n X.ex X.co dX10_reason_5 rfl (lv_at hl 0 rfl) ?_
  refine lv_aload_n X.ex X.co dX10_reason_6 rfl (lv_at hl 0 rfl) ?_
  refine lv_iload_n X.ex X.co dX10_reason_7 rfl (lv_at hl 1 rfl) ?_
  refine q_rV X ce_X10_noStudent m_1540 (c_X10_noStudent l G mad A σ hI0 v) (g0.step hS hAg) F (mo F) rfl (by decide) rfl hl.1 rfl (Nat.le_of_ble_eq_true rfl) dX10_reason_8 (by omega) (by omega) ?_
  refine b_if_ne X (x := !(okP v (nSt σ))) (tgt := 22) dX10_reason_11 (by decide) (fun c_1 => ?_) (fun c_1 => ?_)
  · have hc_2 : (okP v (nSt σ)) = false := by simpa using c_1
    refine lv_iconst (v := 1) X.ex X.co dX10_reason_22 (by decide) ?_
    refine lv_goto (tgt := 27) X.ex X.co dX10_reason_23 (by decide) ?_
    refine lv_iconst (v := 1) X.ex X.co dX10_reason_27 (by decide) ?_
    refine q_eV X ce_X10_fails m_1497 (c_X10_fails l G mad A hAg σ h0 true 1 (by decide) (by decide)) (g0.step hS hAg) F (mo F) rfl (by decide) rfl hl.1 rfl (Nat.le_of_ble_eq_true rfl) dX10_reason_28 (by omega) (by omega) hS (fun _ h => h) (fun H locs F hz hk hS => ?_)
    have F : mw G mad A (sN σ 0 0 1) H := F
    refine lv_if_eq (tgt := 38) X.ex X.co dX10_reason_31 (by decide) (fun c_3 => ?_) (fun c_3 => ?_)
    · exact absurd c_3 (by decide)
    · refine lv_iconst (v := 0) X.ex X.co dX10_reason_34 (by decide) ?_
      refine lv_goto (tgt := 44) X.ex X.co dX10_reason_35 (by decide) ?_
      exact c_i X hS rfl (by decide) (by have q : fReason σ v w = (0, (sN σ 0 0 1)) := (by simp only [fReason, hc_2]; simp [err, *]); unfold eB; rw [q]; exact ⟨rfl, F⟩) (by omega) (by omega) dX10_reason_44
  · have hc_4 : (okP v (nSt σ)) = true := by simpa using c_1
    refine lv_aload_n X.ex X.co dX10_reason_14 rfl (lv_at hl 0 rfl) ?_
    refine lv_iload_n X.ex X.co dX10_reason_15 rfl (lv_at hl 2 rfl) ?_
    refine q_rV X ce_X10_noExercise m_1524 (c_X10_noExercise l G mad A σ hI0 w) (g0.step hS hAg) F (mo F) rfl (by decide) rfl hl.1 rfl (Nat.le_of_ble_eq_true rfl) dX10_reason_16 (by omega) (by omega) ?_
    refine b_if_eq X (x := !(okP w (nEx σ))) (tgt := 26) dX10_reason_19 (by decide) (fun c_5 => ?_) (fun c_5 => ?_)
    · have hc_6 : (okP w (nEx σ)) = true := by simpa using c_5
      have ok_v : okP v (nSt σ) = true := by simpa using c_1
      obtain ⟨j_v, hj_v, rfl⟩ := (okP_ix (by omega)).mp ok_v
      have ex_v := ix_nI (j := j_v) (by omega)
      have ok_w : okP w (nEx σ) = true := by simpa using c_5
      obtain ⟨j_w, hj_w, rfl⟩ := (okP_ix (by omega)).mp ok_w
      have ex_w := ix_nI (j := j_w) (by omega)
      refine lv_iconst (v := 0) X.ex X.co dX10_reason_26 (by decide) ?_
      refine lv_iconst (v := 1) X.ex X.co dX10_reason_27 (by decide) ?_
      refine q_eV X ce_X10_fails m_1497 (c_X10_fails l G mad A hAg σ h0 false 1 (by decide) (by decide)) (g0.step hS hAg) F (mo F) rfl (by decide) rfl hl.1 rfl (Nat.le_of_ble_eq_true rfl) dX10_reason_28 (by omega) (by omega) hS (fun _ h => h) (fun H locs F hz hk hS => ?_)
      have F : mw G mad A σ H := F
      refine lv_if_eq (tgt := 38) X.ex X.co dX10_reason_31 (by decide) (fun c_7 => ?_) (fun c_7 => ?_)
      · refine lv_aload_n X.ex X.co dX10_reason_38 rfl (lv_at hl 0 rfl) ?_
        refine lv_iload_n X.ex X.co dX10_reason_39 rfl (lv_at hl 1 rfl) ?_
        refine lv_iload_n X.ex X.co dX10_reason_40 rfl (lv_at hl 2 rfl) ?_
        refine q_rV X ce_X10_why m_1576 (c_X10_why l G mad A σ hI0 j_v j_w (by omega) (by omega)) (g0.step hS hAg) F (mo F) rfl (by decide) rfl hl.1 rfl (Nat.le_of_ble_eq_true rfl) dX10_reason_41 (by omega) (by omega) ?_
        exact c_i X hS rfl (whyS_nar _ _ _) (by have q : fReason σ (nI j_v) (nI j_w) = ((whyS σ j_v j_w), σ) := (by simp only [fReason, hc_4, hc_6, ok_v, ok_w]; simp [err, *]); unfold eB; rw [q]; exact ⟨rfl, F⟩) (by omega) (by omega) dX10_reason_44
      · exact absurd (by decide) c_7
    · have hc_8 : (okP w (nEx σ)) = false := by simpa using c_5
      refine lv_iconst (v := 1) X.ex X.co dX10_reason_22 (by decide) ?_
      refine lv_goto (tgt := 27) X.ex X.co dX10_reason_23 (by decide) ?_
      refine lv_iconst (v := 1) X.ex X.co dX10_reason_27 (by decide) ?_
      refine q_eV X ce_X10_fails m_1497 (c_X10_fails l G mad A hAg σ h0 true 1 (by decide) (by decide)) (g0.step hS hAg) F (mo F) rfl (by decide) rfl hl.1 rfl (Nat.le_of_ble_eq_true rfl) dX10_reason_28 (by omega) (by omega) hS (fun _ h => h) (fun H locs F hz hk hS => ?_)
      have F : mw G mad A (sN σ 0 0 1) H := F
      refine lv_if_eq (tgt := 38) X.ex X.co dX10_reason_31 (by decide) (fun c_9 => ?_) (fun c_9 => ?_)
      · exact absurd c_9 (by decide)
      · refine lv_iconst (v := 0) X.ex X.co dX10_reason_34 (by decide) ?_
        refine lv_goto (tgt := 44) X.ex X.co dX10_reason_35 (by decide) ?_
        exact c_i X hS rfl (by decide) (by have q : fReason σ v w = (0, (sN σ 0 0 1)) := (by simp only [fReason, hc_4, hc_8]; simp [err, *]); unfold eB; rw [q]; exact ⟨rfl, F⟩) (by omega) (by omega) dX10_reason_44
set_option maxHeartbeats 4000000 in
set_option maxRecDepth 100000 in
theorem c_X10_answer (l : Launch) (G : GT) (mad : I2 → Nat) (A : Nat → Prop) (hAg : ∀ q, A q → gA G q) (τ σ : Sg) (hσ : σ = sN τ 0 0 0) (hI : MI σ) (v w f a : Int32) : cM l yX10_answer cX10_answer 5 ((Option.some FieldType.int)) 8 0 0 G [.ref (mad (0, 0)), .int v, .int w, .int f, .int a] (mw G mad A τ) (eB (some (.int (fAnswer σ v w f a).1)) (mw G mad A (fAnswer σ v w f a).2)) A := by
  refine mk_m (by decide) (Nat.le_of_ble_eq_true rfl) ?_
  intro p e s m args below meth c X ls hl g0 F hnm
  have hK := g0.1
  have hS : va_S A s.heap s.heap [] := va_S.rf
  have hI0 := hI.1
  obtain ⟨b1, b2, b3, b4, b5, b6, b7⟩ := hI0.1
  obtain ⟨b8, b9, b10⟩ := hI.2.1
  have hapb := hI.apb
  have h0 : σ.1 0 0 = 0 := by rw [hσ]; simp [sN]
  have hl : lv_has ls 5 [(0, .ref (mad (0, 0))), (1, .int v), (2, .int w), (3, .int f), (4, .int a)] := hl
  show Wc p l e 8 0 0 s m args below meth c (eB (some (.int (fAnswer σ v w f a).1)) (mw G mad A (fAnswer σ v w f a).2)) A s.heap [] 0 0 0 ls []
  refine lv_aload_n X.ex X.co dX10_answer_0 rfl (lv_at hl 0 rfl) ?_
  refine lv_iconst (v := 0) X.ex X.co dX10_answer_1 (by decide) ?_
  refine m_putN X hK F hS 0 (by decide) rfl rfl (v := 0) m_1351 rfl rfl (by decide) dX10_answer_2 (fun H locs F hS => ?_)
  rw [← hσ] at F
  clear hσ
  refine lv_aload_n X.ex X.co dX10_answer_5 rfl (lv_at hl 0 rfl) ?_
  refine lv_aload_n X.ex X.co dX10_answer_6 rfl (lv_at hl 0 rfl) ?_
  refine lv_iload_n X.ex X.co dX10_answer_7 rfl (lv_at hl 1 rfl) ?_
  refine q_rV X ce_X10_noStudent m_1540 (c_X10_noStudent l G mad A σ hI0 v) (g0.step hS hAg) F (mo F) rfl (by decide) rfl hl.1 rfl (Nat.le_of_ble_eq_true rfl) dX10_answer_8 (by omega) (by omega) ?_
  refine b_if_ne X (x := !(okP v (nSt σ))) (tgt := 22) dX10_answer_11 (by decide) (fun c_1 => ?_) (fun c_1 => ?_)
  · have hc_2 : (okP v (nSt σ)) = false := by simpa using c_1
    refine lv_iconst (v := 1) X.ex X.co dX10_answer_22 (by decide) ?_
    refine lv_goto (tgt := 27) X.ex X.co dX10_answer_23 (by decide) ?_
    refine lv_iconst (v := 1) X.ex X.co dX10_answer_27 (by decide) ?_
    refine q_eV X ce_X10_fails m_1497 (c_X10_fails l G mad A hAg σ h0 true 1 (by decide) (by decide)) (g0.step hS hAg) F (mo F) rfl (by decide) rfl hl.1 rfl (Nat.le_of_ble_eq_true rfl) dX10_answer_28 (by omega) (by omega) hS (fun _ h => h) (fun H locs F hz hk hS => ?_)
    have F : mw G mad A (sN σ 0 0 1) H := F
    refine lv_if_ne (tgt := 102) X.ex X.co dX10_answer_31 (by decide) (fun c_3 => ?_) (fun c_3 => ?_)
    · refine lv_iconst (v := 0) X.ex X.co dX10_answer_102 (by decide) ?_
      exact c_i X hS rfl rfl (by have q : fAnswer σ v w f a = (0, (sN σ 0 0 1)) := (by simp only [fAnswer, hc_2]; simp [err, ne_eq, *]); unfold eB; rw [q]; exact ⟨rfl, F⟩) (by omega) (by omega) dX10_answer_103
    · exact absurd c_3 (by decide)
  · have hc_4 : (okP v (nSt σ)) = true := by simpa using c_1
    refine lv_aload_n X.ex X.co dX10_answer_14 rfl (lv_at hl 0 rfl) ?_
    refine lv_iload_n X.ex X.co dX10_answer_15 rfl (lv_at hl 2 rfl) ?_
    refine q_rV X ce_X10_noExercise m_1524 (c_X10_noExercise l G mad A σ hI0 w) (g0.step hS hAg) F (mo F) rfl (by decide) rfl hl.1 rfl (Nat.le_of_ble_eq_true rfl) dX10_answer_16 (by omega) (by omega) ?_
    refine b_if_eq X (x := !(okP w (nEx σ))) (tgt := 26) dX10_answer_19 (by decide) (fun c_5 => ?_) (fun c_5 => ?_)
    · have hc_6 : (okP w (nEx σ)) = true := by simpa using c_5
      have ok_v : okP v (nSt σ) = true := by simpa using c_1
      obtain ⟨j_v, hj_v, rfl⟩ := (okP_ix (by omega)).mp ok_v
      have ex_v := ix_nI (j := j_v) (by omega)
      have ok_w : okP w (nEx σ) = true := by simpa using c_5
      obtain ⟨j_w, hj_w, rfl⟩ := (okP_ix (by omega)).mp ok_w
      have ex_w := ix_nI (j := j_w) (by omega)
      refine lv_iconst (v := 0) X.ex X.co dX10_answer_26 (by decide) ?_
      refine lv_iconst (v := 1) X.ex X.co dX10_answer_27 (by decide) ?_
      refine q_eV X ce_X10_fails m_1497 (c_X10_fails l G mad A hAg σ h0 false 1 (by decide) (by decide)) (g0.step hS hAg) F (mo F) rfl (by decide) rfl hl.1 rfl (Nat.le_of_ble_eq_true rfl) dX10_answer_28 (by omega) (by omega) hS (fun _ h => h) (fun H locs F hz hk hS => ?_)
      have F : mw G mad A σ H := F
      refine lv_if_ne (tgt := 102) X.ex X.co dX10_answer_31 (by decide) (fun c_7 => ?_) (fun c_7 => ?_)
      · exact absurd (by decide) c_7
      · refine lv_aload_n X.ex X.co dX10_answer_34 rfl (lv_at hl 0 rfl) ?_
        refine lv_iload_n X.ex X.co dX10_answer_35 rfl (lv_at hl 3 rfl) ?_
        refine lv_iload X.ex X.co dX10_answer_36 (lv_at hl 4 rfl) ?_
        refine q_rS X ce_X10_isRule m_1517 (c_X10_isRule l G f a) (g0.step hS hAg) trivial (by decide) rfl hl.1 rfl (Nat.le_of_ble_eq_true rfl) dX10_answer_38 (by omega) (by omega) ?_
        refine b_if_ne X (x := isR f a) (tgt := 48) dX10_answer_41 (by decide) (fun c_8 => ?_) (fun c_8 => ?_)
        · refine lv_iconst (v := 0) X.ex X.co dX10_answer_48 (by decide) ?_
          refine lv_iconst (v := 2) X.ex X.co dX10_answer_49 (by decide) ?_
          refine q_eV X ce_X10_fails m_1497 (c_X10_fails l G mad A hAg σ h0 false 2 (by decide) (by decide)) (g0.step hS hAg) F (mo F) rfl (by decide) rfl hl.1 rfl (Nat.le_of_ble_eq_true rfl) dX10_answer_50 (by omega) (by omega) hS (fun _ h => h) (fun H locs F hz hk hS => ?_)
          have F : mw G mad A σ H := F
          refine lv_if_ne (tgt := 102) X.ex X.co dX10_answer_53 (by decide) (fun c_9 => ?_) (fun c_9 => ?_)
          · exact absurd (by decide) c_9
          · refine lv_aload_n X.ex X.co dX10_answer_56 rfl (lv_at hl 0 rfl) ?_
            refine lv_aload_n X.ex X.co dX10_answer_57 rfl (lv_at hl 0 rfl) ?_
            refine lv_iload_n X.ex X.co dX10_answer_58 rfl (lv_at hl 1 rfl) ?_
            refine lv_iload_n X.ex X.co dX10_answer_59 rfl (lv_at hl 2 rfl) ?_
            refine q_rV X ce_X10_why m_1576 (c_X10_why l G mad A σ hI0 j_v j_w (by omega) (by omega)) (g0.step hS hAg) F (mo F) rfl (by decide) rfl hl.1 rfl (Nat.le_of_ble_eq_true rfl) dX10_answer_60 (by omega) (by omega) ?_
            refine lv_bipush (v := 45) X.ex X.co dX10_answer_63 (by decide) ?_
            refine lv_icmp_eq (tgt := 72) X.ex X.co dX10_answer_65 (by decide) (fun c_10 => ?_) (fun c_10 => ?_)
            · refine lv_iconst (v := 0) X.ex X.co dX10_answer_72 (by decide) ?_
              refine lv_iconst (v := 3) X.ex X.co dX10_answer_73 (by decide) ?_
              refine q_eV X ce_X10_fails m_1497 (c_X10_fails l G mad A hAg σ h0 false 3 (by decide) (by decide)) (g0.step hS hAg) F (mo F) rfl (by decide) rfl hl.1 rfl (Nat.le_of_ble_eq_true rfl) dX10_answer_74 (by omega) (by omega) hS (fun _ h => h) (fun H locs F hz hk hS => ?_)
              have F : mw G mad A σ H := F
              refine lv_if_ne (tgt := 102) X.ex X.co dX10_answer_77 (by decide) (fun c_11 => ?_) (fun c_11 => ?_)
              · exact absurd (by decide) c_11
              · refine lv_aload_n X.ex X.co dX10_answer_80 rfl (lv_at hl 0 rfl) ?_
                refine lv_aload_n X.ex X.co dX10_answer_81 rfl (lv_at hl 0 rfl) ?_
                refine m_getN X hK F 19 (by decide) rfl rfl (x := nAn σ) rfl m_1370 rfl dX10_answer_82 ?_
                refine lv_bipush (v := 100) X.ex X.co dX10_answer_85 (by decide) ?_
                refine n_cmp_ne X (x := nAn σ) (y := 100) (tgt := 94) (by omega) (by omega) dX10_answer_87 (by decide) (fun c_12 => ?_) (fun c_12 => ?_)
                · refine lv_iconst (v := 0) X.ex X.co dX10_answer_94 (by decide) ?_
                  refine lv_iconst (v := 4) X.ex X.co dX10_answer_95 (by decide) ?_
                  refine q_eV X ce_X10_fails m_1497 (c_X10_fails l G mad A hAg σ h0 false 4 (by decide) (by decide)) (g0.step hS hAg) F (mo F) rfl (by decide) rfl hl.1 rfl (Nat.le_of_ble_eq_true rfl) dX10_answer_96 (by omega) (by omega) hS (fun _ h => h) (fun H locs F hz hk hS => ?_)
                  have F : mw G mad A σ H := F
                  refine lv_if_eq (tgt := 104) X.ex X.co dX10_answer_99 (by decide) (fun c_13 => ?_) (fun c_13 => ?_)
                  · refine lv_aload_n X.ex X.co dX10_answer_104 rfl (lv_at hl 0 rfl) ?_
                    refine m_getA X hK F 20 (by decide) rfl m_1371 rfl dX10_answer_105 ?_
                    refine lv_aload_n X.ex X.co dX10_answer_108 rfl (lv_at hl 0 rfl) ?_
                    refine m_getN X hK F 19 (by decide) rfl rfl (x := nAn σ) rfl m_1370 rfl dX10_answer_109 ?_
                    refine lv_iload_n X.ex X.co dX10_answer_112 rfl (lv_at hl 1 rfl) ?_
                    refine m_astN X hK F hS 20 (by decide) rfl rfl rfl (nAn σ) j_v (by first | omega | (show _ < 100; omega)) dX10_answer_113 (fun H locs F hS => ?_)
                    refine lv_aload_n X.ex X.co dX10_answer_114 rfl (lv_at hl 0 rfl) ?_
                    refine m_getA X hK F 21 (by decide) rfl m_1372 rfl dX10_answer_115 ?_
                    refine lv_aload_n X.ex X.co dX10_answer_118 rfl (lv_at hl 0 rfl) ?_
                    refine m_getN X hK F 19 (by decide) rfl rfl (x := nAn σ) rfl m_1370 rfl dX10_answer_119 ?_
                    refine lv_iload_n X.ex X.co dX10_answer_122 rfl (lv_at hl 2 rfl) ?_
                    refine m_astN X hK F hS 21 (by decide) rfl rfl rfl (nAn σ) j_w (by first | omega | (show _ < 100; omega)) dX10_answer_123 (fun H locs F hS => ?_)
                    refine lv_aload_n X.ex X.co dX10_answer_124 rfl (lv_at hl 0 rfl) ?_
                    refine m_getA X hK F 22 (by decide) rfl m_1373 rfl dX10_answer_125 ?_
                    refine lv_aload_n X.ex X.co dX10_answer_128 rfl (lv_at hl 0 rfl) ?_
                    refine m_getN X hK F 19 (by decide) rfl rfl (x := nAn σ) rfl m_1370 rfl dX10_answer_129 ?_
                    refine lv_iload_n X.ex X.co dX10_answer_132 rfl (lv_at hl 3 rfl) ?_
                    refine m_astV X hK F hS 22 (by decide) rfl rfl rfl (nAn σ) (v := f) (by first | omega | (show _ < 100; omega)) dX10_answer_133 (fun H locs F hS => ?_)
                    refine lv_aload_n X.ex X.co dX10_answer_134 rfl (lv_at hl 0 rfl) ?_
                    refine m_getA X hK F 23 (by decide) rfl m_1374 rfl dX10_answer_135 ?_
                    refine lv_aload_n X.ex X.co dX10_answer_138 rfl (lv_at hl 0 rfl) ?_
                    refine m_getN X hK F 19 (by decide) rfl rfl (x := nAn σ) rfl m_1370 rfl dX10_answer_139 ?_
                    refine lv_iload X.ex X.co dX10_answer_142 (lv_at hl 4 rfl) ?_
                    refine m_astV X hK F hS 23 (by decide) rfl rfl rfl (nAn σ) (v := a) (by first | omega | (show _ < 100; omega)) dX10_answer_144 (fun H locs F hS => ?_)
                    refine lv_aload_n X.ex X.co dX10_answer_145 rfl (lv_at hl 0 rfl) ?_
                    refine m_getA X hK F 24 (by decide) rfl m_1375 rfl dX10_answer_146 ?_
                    refine lv_aload_n X.ex X.co dX10_answer_149 rfl (lv_at hl 0 rfl) ?_
                    refine m_getN X hK F 19 (by decide) rfl rfl (x := nAn σ) rfl m_1370 rfl dX10_answer_150 ?_
                    refine lv_aload_n X.ex X.co dX10_answer_153 rfl (lv_at hl 0 rfl) ?_
                    refine m_getV X hK F 1 (by decide) rfl rfl (x := dayV σ) rfl m_1352 rfl dX10_answer_154 ?_
                    refine m_astV X hK F hS 24 (by decide) rfl rfl rfl (nAn σ) (v := (dayV σ)) (by first | omega | (show _ < 100; omega)) dX10_answer_157 (fun H locs F hS => ?_)
                    refine lv_aload_n X.ex X.co dX10_answer_158 rfl (lv_at hl 0 rfl) ?_
                    refine lv_dup X.ex X.co dX10_answer_159 rfl ?_
                    refine m_getN X hK F 19 (by decide) rfl rfl (x := nAn σ) rfl m_1370 rfl dX10_answer_160 ?_
                    refine lv_iconst (v := 1) X.ex X.co dX10_answer_163 (by decide) ?_
                    refine n_add X (x := nAn σ) (y := 1) dX10_answer_164 ?_
                    refine m_putN X hK F hS 19 (by decide) rfl rfl (v := (nAn σ) + 1) m_1370 rfl rfl (by decide) dX10_answer_165 (fun H locs F hS => ?_)
                    refine lv_aload_n X.ex X.co dX10_answer_168 rfl (lv_at hl 0 rfl) ?_
                    refine m_getN X hK F 19 (by decide) rfl rfl (x := (nAn σ) + 1) rfl m_1370 rfl dX10_answer_169 ?_
                    refine lv_iconst (v := 1) X.ex X.co dX10_answer_172 (by decide) ?_
                    refine n_sub X (x := (nAn σ) + 1) (y := 1) (by omega) dX10_answer_173 ?_
                    exact c_i X hS rfl rfl (by have q : fAnswer σ (nI j_v) (nI j_w) f a = (nI (((nAn σ) + 1) - 1), (sN (sV (sV (sV (sN (sN σ 20 (nAn σ) j_v) 21 (nAn σ) j_w) 22 (nAn σ) f) 23 (nAn σ) a) 24 (nAn σ) (dayV σ)) 19 0 ((nAn σ) + 1))) := (by simp only [fAnswer, hc_4, hc_6, c_8, ok_v, ok_w]; simp [err, ne_eq, *]); unfold eB; rw [q]; exact ⟨rfl, F⟩) (by omega) (by omega) dX10_answer_174
                  · exact absurd (by decide) c_13
                · refine lv_iconst (v := 1) X.ex X.co dX10_answer_90 (by decide) ?_
                  refine lv_goto (tgt := 95) X.ex X.co dX10_answer_91 (by decide) ?_
                  refine lv_iconst (v := 4) X.ex X.co dX10_answer_95 (by decide) ?_
                  refine q_eV X ce_X10_fails m_1497 (c_X10_fails l G mad A hAg σ h0 true 4 (by decide) (by decide)) (g0.step hS hAg) F (mo F) rfl (by decide) rfl hl.1 rfl (Nat.le_of_ble_eq_true rfl) dX10_answer_96 (by omega) (by omega) hS (fun _ h => h) (fun H locs F hz hk hS => ?_)
                  have F : mw G mad A (sN σ 0 0 4) H := F
                  refine lv_if_eq (tgt := 104) X.ex X.co dX10_answer_99 (by decide) (fun c_14 => ?_) (fun c_14 => ?_)
                  · exact absurd c_14 (by decide)
                  · refine lv_iconst (v := 0) X.ex X.co dX10_answer_102 (by decide) ?_
                    exact c_i X hS rfl rfl (by have q : fAnswer σ (nI j_v) (nI j_w) f a = (0, (sN σ 0 0 4)) := (by simp only [fAnswer, hc_4, hc_6, c_8, ok_v, ok_w]; simp [err, ne_eq, *]); unfold eB; rw [q]; exact ⟨rfl, F⟩) (by omega) (by omega) dX10_answer_103
            · refine lv_iconst (v := 1) X.ex X.co dX10_answer_68 (by decide) ?_
              refine lv_goto (tgt := 73) X.ex X.co dX10_answer_69 (by decide) ?_
              refine lv_iconst (v := 3) X.ex X.co dX10_answer_73 (by decide) ?_
              refine q_eV X ce_X10_fails m_1497 (c_X10_fails l G mad A hAg σ h0 true 3 (by decide) (by decide)) (g0.step hS hAg) F (mo F) rfl (by decide) rfl hl.1 rfl (Nat.le_of_ble_eq_true rfl) dX10_answer_74 (by omega) (by omega) hS (fun _ h => h) (fun H locs F hz hk hS => ?_)
              have F : mw G mad A (sN σ 0 0 3) H := F
              refine lv_if_ne (tgt := 102) X.ex X.co dX10_answer_77 (by decide) (fun c_15 => ?_) (fun c_15 => ?_)
              · refine lv_iconst (v := 0) X.ex X.co dX10_answer_102 (by decide) ?_
                exact c_i X hS rfl rfl (by have q : fAnswer σ (nI j_v) (nI j_w) f a = (0, (sN σ 0 0 3)) := (by simp only [fAnswer, hc_4, hc_6, c_8, ok_v, ok_w]; simp [err, ne_eq, *]); unfold eB; rw [q]; exact ⟨rfl, F⟩) (by omega) (by omega) dX10_answer_103
              · exact absurd c_15 (by decide)
        · refine lv_iconst (v := 1) X.ex X.co dX10_answer_44 (by decide) ?_
          refine lv_goto (tgt := 49) X.ex X.co dX10_answer_45 (by decide) ?_
          refine lv_iconst (v := 2) X.ex X.co dX10_answer_49 (by decide) ?_
          refine q_eV X ce_X10_fails m_1497 (c_X10_fails l G mad A hAg σ h0 true 2 (by decide) (by decide)) (g0.step hS hAg) F (mo F) rfl (by decide) rfl hl.1 rfl (Nat.le_of_ble_eq_true rfl) dX10_answer_50 (by omega) (by omega) hS (fun _ h => h) (fun H locs F hz hk hS => ?_)
          have F : mw G mad A (sN σ 0 0 2) H := F
          refine lv_if_ne (tgt := 102) X.ex X.co dX10_answer_53 (by decide) (fun c_16 => ?_) (fun c_16 => ?_)
          · refine lv_iconst (v := 0) X.ex X.co dX10_answer_102 (by decide) ?_
            exact c_i X hS rfl rfl (by have q : fAnswer σ (nI j_v) (nI j_w) f a = (0, (sN σ 0 0 2)) := (by simp only [fAnswer, hc_4, hc_6, c_8, ok_v, ok_w]; simp [err, ne_eq, *]); unfold eB; rw [q]; exact ⟨rfl, F⟩) (by omega) (by omega) dX10_answer_103
          · exact absurd c_16 (by decide)
    · have hc_17 : (okP w (nEx σ)) = false := by simpa using c_5
      refine lv_iconst (v := 1) X.ex X.co dX10_answer_22 (by decide) ?_
      refine lv_goto (tgt := 27) X.ex X.co dX10_answer_23 (by decide) ?_
      refine lv_iconst (v := 1) X.ex X.co dX10_answer_27 (by decide) ?_
      refine q_eV X ce_X10_fails m_1497 (c_X10_fails l G mad A hAg σ h0 true 1 (by decide) (by decide)) (g0.step hS hAg) F (mo F) rfl (by decide) rfl hl.1 rfl (Nat.le_of_ble_eq_true rfl) dX10_answer_28 (by omega) (by omega) hS (fun _ h => h) (fun H locs F hz hk hS => ?_)
      have F : mw G mad A (sN σ 0 0 1) H := F
      refine lv_if_ne (tgt := 102) X.ex X.co dX10_answer_31 (by decide) (fun c_18 => ?_) (fun c_18 => ?_)
      · refine lv_iconst (v := 0) X.ex X.co dX10_answer_102 (by decide) ?_
        exact c_i X hS rfl rfl (by have q : fAnswer σ v w f a = (0, (sN σ 0 0 1)) := (by simp only [fAnswer, hc_4, hc_17]; simp [err, ne_eq, *]); unfold eB; rw [q]; exact ⟨rfl, F⟩) (by omega) (by omega) dX10_answer_103
      · exact absurd c_18 (by decide)
set_option maxHeartbeats 4000000 in
set_option maxRecDepth 100000 in
theorem c_X10_answerCount (l : Launch) (G : GT) (mad : I2 → Nat) (A : Nat → Prop) (hAg : ∀ q, A q → gA G q) (τ σ : Sg) (hσ : σ = sN τ 0 0 0) (hI : MI σ) : cM l yX10_answerCount cX10_answerCount 1 ((Option.some FieldType.int)) 0 0 0 G [.ref (mad (0, 0))] (mw G mad A τ) (eB (some (.int (fAnswerCount σ).1)) (mw G mad A (fAnswerCount σ).2)) A := by
  refine mk_m (by decide) (Nat.le_of_ble_eq_true rfl) ?_
  intro p e s m args below meth c X ls hl g0 F hnm
  have hK := g0.1
  have hS : va_S A s.heap s.heap [] := va_S.rf
  have hI0 := hI.1
  obtain ⟨b1, b2, b3, b4, b5, b6, b7⟩ := hI0.1
  obtain ⟨b8, b9, b10⟩ := hI.2.1
  have hapb := hI.apb
  have h0 : σ.1 0 0 = 0 := by rw [hσ]; simp [sN]
  have hl : lv_has ls 1 [(0, .ref (mad (0, 0)))] := hl
  show Wc p l e 0 0 0 s m args below meth c (eB (some (.int (fAnswerCount σ).1)) (mw G mad A (fAnswerCount σ).2)) A s.heap [] 0 0 0 ls []
  refine lv_aload_n X.ex X.co dX10_answerCount_0 rfl (lv_at hl 0 rfl) ?_
  refine lv_iconst (v := 0) X.ex X.co dX10_answerCount_1 (by decide) ?_
  refine m_putN X hK F hS 0 (by decide) rfl rfl (v := 0) m_1351 rfl rfl (by decide) dX10_answerCount_2 (fun H locs F hS => ?_)
  rw [← hσ] at F
  clear hσ
  refine lv_aload_n X.ex X.co dX10_answerCount_5 rfl (lv_at hl 0 rfl) ?_
  refine m_getN X hK F 19 (by decide) rfl rfl (x := nAn σ) rfl m_1370 rfl dX10_answerCount_6 ?_
  exact c_i X hS rfl rfl ⟨rfl, F⟩ (by omega) (by omega) dX10_answerCount_9
set_option maxHeartbeats 4000000 in
set_option maxRecDepth 100000 in
theorem c_X10_gradeOf (l : Launch) (G : GT) (mad : I2 → Nat) (A : Nat → Prop) (hAg : ∀ q, A q → gA G q) (τ σ : Sg) (hσ : σ = sN τ 0 0 0) (hI : MI σ) (v : Int32) : cM l yX10_gradeOf cX10_gradeOf 2 ((Option.some FieldType.int)) 2 0 0 G [.ref (mad (0, 0)), .int v] (mw G mad A τ) (eB (some (.int (fGradeOf σ v).1)) (mw G mad A (fGradeOf σ v).2)) A := by
  refine mk_m (by decide) (Nat.le_of_ble_eq_true rfl) ?_
  intro p e s m args below meth c X ls hl g0 F hnm
  have hK := g0.1
  have hS : va_S A s.heap s.heap [] := va_S.rf
  have hI0 := hI.1
  obtain ⟨b1, b2, b3, b4, b5, b6, b7⟩ := hI0.1
  obtain ⟨b8, b9, b10⟩ := hI.2.1
  have hapb := hI.apb
  have h0 : σ.1 0 0 = 0 := by rw [hσ]; simp [sN]
  have hl : lv_has ls 2 [(0, .ref (mad (0, 0))), (1, .int v)] := hl
  show Wc p l e 2 0 0 s m args below meth c (eB (some (.int (fGradeOf σ v).1)) (mw G mad A (fGradeOf σ v).2)) A s.heap [] 0 0 0 ls []
  refine lv_aload_n X.ex X.co dX10_gradeOf_0 rfl (lv_at hl 0 rfl) ?_
  refine lv_iconst (v := 0) X.ex X.co dX10_gradeOf_1 (by decide) ?_
  refine m_putN X hK F hS 0 (by decide) rfl rfl (v := 0) m_1351 rfl rfl (by decide) dX10_gradeOf_2 (fun H locs F hS => ?_)
  rw [← hσ] at F
  clear hσ
  refine lv_aload_n X.ex X.co dX10_gradeOf_5 rfl (lv_at hl 0 rfl) ?_
  refine lv_aload_n X.ex X.co dX10_gradeOf_6 rfl (lv_at hl 0 rfl) ?_
  refine lv_iload_n X.ex X.co dX10_gradeOf_7 rfl (lv_at hl 1 rfl) ?_
  refine q_rV X ce_X10_noAnswer m_1592 (c_X10_noAnswer l G mad A σ hI0 v) (g0.step hS hAg) F (mo F) rfl (by decide) rfl hl.1 rfl (Nat.le_of_ble_eq_true rfl) dX10_gradeOf_8 (by omega) (by omega) ?_
  refine lv_iconst (v := 1) X.ex X.co dX10_gradeOf_11 (by decide) ?_
  rcases hb_1 : !(okP v (nAn σ)) with _ | _
  · have hc_2 : (okP v (nAn σ)) = true := by simpa using hb_1
    have ok_v : okP v (nAn σ) = true := by simpa using hb_1
    obtain ⟨j_v, hj_v, rfl⟩ := (okP_ix (by omega)).mp ok_v
    have ex_v := ix_nI (j := j_v) (by omega)
    refine q_eV X ce_X10_fails m_1497 (c_X10_fails l G mad A hAg σ h0 false 1 (by decide) (by decide)) (g0.step hS hAg) F (mo F) rfl (by decide) rfl hl.1 rfl (Nat.le_of_ble_eq_true rfl) dX10_gradeOf_12 (by omega) (by omega) hS (fun _ h => h) (fun H locs F hz hk hS => ?_)
    have F : mw G mad A σ H := F
    refine lv_if_eq (tgt := 22) X.ex X.co dX10_gradeOf_15 (by decide) (fun c_3 => ?_) (fun c_3 => ?_)
    · refine lv_aload_n X.ex X.co dX10_gradeOf_22 rfl (lv_at hl 0 rfl) ?_
      refine lv_iload_n X.ex X.co dX10_gradeOf_23 rfl (lv_at hl 1 rfl) ?_
      refine q_rV X ce_X10_grade m_1564 (c_X10_grade l G mad A σ hI0 j_v (by omega)) (g0.step hS hAg) F (mo F) rfl (by decide) rfl hl.1 rfl (Nat.le_of_ble_eq_true rfl) dX10_gradeOf_24 (by omega) (by omega) ?_
      exact c_i X hS rfl rfl (by have q : fGradeOf σ (nI j_v) = ((grade σ j_v), σ) := (by simp only [fGradeOf, hc_2, ok_v]; simp [err, *]); unfold eB; rw [q]; exact ⟨rfl, F⟩) (by omega) (by omega) dX10_gradeOf_27
    · exact absurd (by decide) c_3
  · have hc_4 : (okP v (nAn σ)) = false := by simpa using hb_1
    refine q_eV X ce_X10_fails m_1497 (c_X10_fails l G mad A hAg σ h0 true 1 (by decide) (by decide)) (g0.step hS hAg) F (mo F) rfl (by decide) rfl hl.1 rfl (Nat.le_of_ble_eq_true rfl) dX10_gradeOf_12 (by omega) (by omega) hS (fun _ h => h) (fun H locs F hz hk hS => ?_)
    have F : mw G mad A (sN σ 0 0 1) H := F
    refine lv_if_eq (tgt := 22) X.ex X.co dX10_gradeOf_15 (by decide) (fun c_5 => ?_) (fun c_5 => ?_)
    · exact absurd c_5 (by decide)
    · refine lv_iconst (v := 0) X.ex X.co dX10_gradeOf_18 (by decide) ?_
      refine lv_goto (tgt := 27) X.ex X.co dX10_gradeOf_19 (by decide) ?_
      exact c_i X hS rfl rfl (by have q : fGradeOf σ v = (0, (sN σ 0 0 1)) := (by simp only [fGradeOf, hc_4]; simp [err, *]); unfold eB; rw [q]; exact ⟨rfl, F⟩) (by omega) (by omega) dX10_gradeOf_27
set_option maxHeartbeats 4000000 in
set_option maxRecDepth 100000 in
theorem c_X10_studentOf (l : Launch) (G : GT) (mad : I2 → Nat) (A : Nat → Prop) (hAg : ∀ q, A q → gA G q) (τ σ : Sg) (hσ : σ = sN τ 0 0 0) (hI : MI σ) (v : Int32) : cM l yX10_studentOf cX10_studentOf 2 ((Option.some FieldType.int)) 2 0 0 G [.ref (mad (0, 0)), .int v] (mw G mad A τ) (eB (some (.int (fStudentOf σ v).1)) (mw G mad A (fStudentOf σ v).2)) A := by
  refine mk_m (by decide) (Nat.le_of_ble_eq_true rfl) ?_
  intro p e s m args below meth c X ls hl g0 F hnm
  have hK := g0.1
  have hS : va_S A s.heap s.heap [] := va_S.rf
  have hI0 := hI.1
  obtain ⟨b1, b2, b3, b4, b5, b6, b7⟩ := hI0.1
  obtain ⟨b8, b9, b10⟩ := hI.2.1
  have hapb := hI.apb
  have h0 : σ.1 0 0 = 0 := by rw [hσ]; simp [sN]
  have hl : lv_has ls 2 [(0, .ref (mad (0, 0))), (1, .int v)] := hl
  show Wc p l e 2 0 0 s m args below meth c (eB (some (.int (fStudentOf σ v).1)) (mw G mad A (fStudentOf σ v).2)) A s.heap [] 0 0 0 ls []
  refine lv_aload_n X.ex X.co dX10_studentOf_0 rfl (lv_at hl 0 rfl) ?_
  refine lv_iconst (v := 0) X.ex X.co dX10_studentOf_1 (by decide) ?_
  refine m_putN X hK F hS 0 (by decide) rfl rfl (v := 0) m_1351 rfl rfl (by decide) dX10_studentOf_2 (fun H locs F hS => ?_)
  rw [← hσ] at F
  clear hσ
  refine lv_aload_n X.ex X.co dX10_studentOf_5 rfl (lv_at hl 0 rfl) ?_
  refine lv_aload_n X.ex X.co dX10_studentOf_6 rfl (lv_at hl 0 rfl) ?_
  refine lv_iload_n X.ex X.co dX10_studentOf_7 rfl (lv_at hl 1 rfl) ?_
  refine q_rV X ce_X10_noAnswer m_1592 (c_X10_noAnswer l G mad A σ hI0 v) (g0.step hS hAg) F (mo F) rfl (by decide) rfl hl.1 rfl (Nat.le_of_ble_eq_true rfl) dX10_studentOf_8 (by omega) (by omega) ?_
  refine lv_iconst (v := 1) X.ex X.co dX10_studentOf_11 (by decide) ?_
  rcases hb_1 : !(okP v (nAn σ)) with _ | _
  · have hc_2 : (okP v (nAn σ)) = true := by simpa using hb_1
    have ok_v : okP v (nAn σ) = true := by simpa using hb_1
    obtain ⟨j_v, hj_v, rfl⟩ := (okP_ix (by omega)).mp ok_v
    have ex_v := ix_nI (j := j_v) (by omega)
    refine q_eV X ce_X10_fails m_1497 (c_X10_fails l G mad A hAg σ h0 false 1 (by decide) (by decide)) (g0.step hS hAg) F (mo F) rfl (by decide) rfl hl.1 rfl (Nat.le_of_ble_eq_true rfl) dX10_studentOf_12 (by omega) (by omega) hS (fun _ h => h) (fun H locs F hz hk hS => ?_)
    have F : mw G mad A σ H := F
    refine lv_if_eq (tgt := 22) X.ex X.co dX10_studentOf_15 (by decide) (fun c_3 => ?_) (fun c_3 => ?_)
    · refine lv_aload_n X.ex X.co dX10_studentOf_22 rfl (lv_at hl 0 rfl) ?_
      refine m_getA X hK F 20 (by decide) rfl m_1371 rfl dX10_studentOf_23 ?_
      refine lv_iload_n X.ex X.co dX10_studentOf_26 rfl (lv_at hl 1 rfl) ?_
      refine m_ald X hK F 20 (by decide) rfl rfl j_v (by first | omega | (show _ < 100; omega)) (x := nI (stu σ j_v)) rfl dX10_studentOf_27 ?_
      have hf := hI0.an (i := j_v) (by omega)
      exact c_i X hS rfl rfl (by have q : fStudentOf σ (nI j_v) = (nI (stu σ j_v), σ) := (by simp only [fStudentOf, hc_2, ok_v]; simp [err, *]); unfold eB; rw [q]; exact ⟨rfl, F⟩) (by omega) (by omega) dX10_studentOf_28
    · exact absurd (by decide) c_3
  · have hc_4 : (okP v (nAn σ)) = false := by simpa using hb_1
    refine q_eV X ce_X10_fails m_1497 (c_X10_fails l G mad A hAg σ h0 true 1 (by decide) (by decide)) (g0.step hS hAg) F (mo F) rfl (by decide) rfl hl.1 rfl (Nat.le_of_ble_eq_true rfl) dX10_studentOf_12 (by omega) (by omega) hS (fun _ h => h) (fun H locs F hz hk hS => ?_)
    have F : mw G mad A (sN σ 0 0 1) H := F
    refine lv_if_eq (tgt := 22) X.ex X.co dX10_studentOf_15 (by decide) (fun c_5 => ?_) (fun c_5 => ?_)
    · exact absurd c_5 (by decide)
    · refine lv_iconst (v := 0) X.ex X.co dX10_studentOf_18 (by decide) ?_
      refine lv_goto (tgt := 28) X.ex X.co dX10_studentOf_19 (by decide) ?_
      exact c_i X hS rfl rfl (by have q : fStudentOf σ v = (0, (sN σ 0 0 1)) := (by simp only [fStudentOf, hc_4]; simp [err, *]); unfold eB; rw [q]; exact ⟨rfl, F⟩) (by omega) (by omega) dX10_studentOf_28
set_option maxHeartbeats 4000000 in
set_option maxRecDepth 100000 in
theorem c_X10_dayOf (l : Launch) (G : GT) (mad : I2 → Nat) (A : Nat → Prop) (hAg : ∀ q, A q → gA G q) (τ σ : Sg) (hσ : σ = sN τ 0 0 0) (hI : MI σ) (v : Int32) : cM l yX10_dayOf cX10_dayOf 2 ((Option.some FieldType.int)) 2 0 0 G [.ref (mad (0, 0)), .int v] (mw G mad A τ) (eB (some (.int (fDayOf σ v).1)) (mw G mad A (fDayOf σ v).2)) A := by
  refine mk_m (by decide) (Nat.le_of_ble_eq_true rfl) ?_
  intro p e s m args below meth c X ls hl g0 F hnm
  have hK := g0.1
  have hS : va_S A s.heap s.heap [] := va_S.rf
  have hI0 := hI.1
  obtain ⟨b1, b2, b3, b4, b5, b6, b7⟩ := hI0.1
  obtain ⟨b8, b9, b10⟩ := hI.2.1
  have hapb := hI.apb
  have h0 : σ.1 0 0 = 0 := by rw [hσ]; simp [sN]
  have hl : lv_has ls 2 [(0, .ref (mad (0, 0))), (1, .int v)] := hl
  show Wc p l e 2 0 0 s m args below meth c (eB (some (.int (fDayOf σ v).1)) (mw G mad A (fDayOf σ v).2)) A s.heap [] 0 0 0 ls []
  refine lv_aload_n X.ex X.co dX10_dayOf_0 rfl (lv_at hl 0 rfl) ?_
  refine lv_iconst (v := 0) X.ex X.co dX10_dayOf_1 (by decide) ?_
  refine m_putN X hK F hS 0 (by decide) rfl rfl (v := 0) m_1351 rfl rfl (by decide) dX10_dayOf_2 (fun H locs F hS => ?_)
  rw [← hσ] at F
  clear hσ
  refine lv_aload_n X.ex X.co dX10_dayOf_5 rfl (lv_at hl 0 rfl) ?_
  refine lv_aload_n X.ex X.co dX10_dayOf_6 rfl (lv_at hl 0 rfl) ?_
  refine lv_iload_n X.ex X.co dX10_dayOf_7 rfl (lv_at hl 1 rfl) ?_
  refine q_rV X ce_X10_noAnswer m_1592 (c_X10_noAnswer l G mad A σ hI0 v) (g0.step hS hAg) F (mo F) rfl (by decide) rfl hl.1 rfl (Nat.le_of_ble_eq_true rfl) dX10_dayOf_8 (by omega) (by omega) ?_
  refine lv_iconst (v := 1) X.ex X.co dX10_dayOf_11 (by decide) ?_
  rcases hb_1 : !(okP v (nAn σ)) with _ | _
  · have hc_2 : (okP v (nAn σ)) = true := by simpa using hb_1
    have ok_v : okP v (nAn σ) = true := by simpa using hb_1
    obtain ⟨j_v, hj_v, rfl⟩ := (okP_ix (by omega)).mp ok_v
    have ex_v := ix_nI (j := j_v) (by omega)
    refine q_eV X ce_X10_fails m_1497 (c_X10_fails l G mad A hAg σ h0 false 1 (by decide) (by decide)) (g0.step hS hAg) F (mo F) rfl (by decide) rfl hl.1 rfl (Nat.le_of_ble_eq_true rfl) dX10_dayOf_12 (by omega) (by omega) hS (fun _ h => h) (fun H locs F hz hk hS => ?_)
    have F : mw G mad A σ H := F
    refine lv_if_eq (tgt := 22) X.ex X.co dX10_dayOf_15 (by decide) (fun c_3 => ?_) (fun c_3 => ?_)
    · refine lv_aload_n X.ex X.co dX10_dayOf_22 rfl (lv_at hl 0 rfl) ?_
      refine m_getA X hK F 24 (by decide) rfl m_1375 rfl dX10_dayOf_23 ?_
      refine lv_iload_n X.ex X.co dX10_dayOf_26 rfl (lv_at hl 1 rfl) ?_
      refine m_ald X hK F 24 (by decide) rfl rfl j_v (by first | omega | (show _ < 100; omega)) (x := (σ.2 24 j_v)) rfl dX10_dayOf_27 ?_
      exact c_i X hS rfl rfl (by have q : fDayOf σ (nI j_v) = ((σ.2 24 j_v), σ) := (by simp only [fDayOf, hc_2, ok_v]; simp [err, *]); unfold eB; rw [q]; exact ⟨rfl, F⟩) (by omega) (by omega) dX10_dayOf_28
    · exact absurd (by decide) c_3
  · have hc_4 : (okP v (nAn σ)) = false := by simpa using hb_1
    refine q_eV X ce_X10_fails m_1497 (c_X10_fails l G mad A hAg σ h0 true 1 (by decide) (by decide)) (g0.step hS hAg) F (mo F) rfl (by decide) rfl hl.1 rfl (Nat.le_of_ble_eq_true rfl) dX10_dayOf_12 (by omega) (by omega) hS (fun _ h => h) (fun H locs F hz hk hS => ?_)
    have F : mw G mad A (sN σ 0 0 1) H := F
    refine lv_if_eq (tgt := 22) X.ex X.co dX10_dayOf_15 (by decide) (fun c_5 => ?_) (fun c_5 => ?_)
    · exact absurd c_5 (by decide)
    · refine lv_iconst (v := 0) X.ex X.co dX10_dayOf_18 (by decide) ?_
      refine lv_goto (tgt := 28) X.ex X.co dX10_dayOf_19 (by decide) ?_
      exact c_i X hS rfl rfl (by have q : fDayOf σ v = (0, (sN σ 0 0 1)) := (by simp only [fDayOf, hc_4]; simp [err, *]); unfold eB; rw [q]; exact ⟨rfl, F⟩) (by omega) (by omega) dX10_dayOf_28
set_option maxHeartbeats 4000000 in
set_option maxRecDepth 100000 in
theorem c_X10_creditOf (l : Launch) (G : GT) (mad : I2 → Nat) (A : Nat → Prop) (hAg : ∀ q, A q → gA G q) (τ σ : Sg) (hσ : σ = sN τ 0 0 0) (hI : MI σ) (v w : Int32) : cM l yX10_creditOf cX10_creditOf 3 ((Option.some FieldType.int)) 2 0 0 G [.ref (mad (0, 0)), .int v, .int w] (mw G mad A τ) (eB (some (.int (fCreditOf σ v w).1)) (mw G mad A (fCreditOf σ v w).2)) A := by
  refine mk_m (by decide) (Nat.le_of_ble_eq_true rfl) ?_
  intro p e s m args below meth c X ls hl g0 F hnm
  have hK := g0.1
  have hS : va_S A s.heap s.heap [] := va_S.rf
  have hI0 := hI.1
  obtain ⟨b1, b2, b3, b4, b5, b6, b7⟩ := hI0.1
  obtain ⟨b8, b9, b10⟩ := hI.2.1
  have hapb := hI.apb
  have h0 : σ.1 0 0 = 0 := by rw [hσ]; simp [sN]
  have hl : lv_has ls 3 [(0, .ref (mad (0, 0))), (1, .int v), (2, .int w)] := hl
  show Wc p l e 2 0 0 s m args below meth c (eB (some (.int (fCreditOf σ v w).1)) (mw G mad A (fCreditOf σ v w).2)) A s.heap [] 0 0 0 ls []
  refine lv_aload_n X.ex X.co dX10_creditOf_0 rfl (lv_at hl 0 rfl) ?_
  refine lv_iconst (v := 0) X.ex X.co dX10_creditOf_1 (by decide) ?_
  refine m_putN X hK F hS 0 (by decide) rfl rfl (v := 0) m_1351 rfl rfl (by decide) dX10_creditOf_2 (fun H locs F hS => ?_)
  rw [← hσ] at F
  clear hσ
  refine lv_aload_n X.ex X.co dX10_creditOf_5 rfl (lv_at hl 0 rfl) ?_
  refine lv_aload_n X.ex X.co dX10_creditOf_6 rfl (lv_at hl 0 rfl) ?_
  refine lv_iload_n X.ex X.co dX10_creditOf_7 rfl (lv_at hl 1 rfl) ?_
  refine q_rV X ce_X10_noAnswer m_1592 (c_X10_noAnswer l G mad A σ hI0 v) (g0.step hS hAg) F (mo F) rfl (by decide) rfl hl.1 rfl (Nat.le_of_ble_eq_true rfl) dX10_creditOf_8 (by omega) (by omega) ?_
  refine lv_iconst (v := 1) X.ex X.co dX10_creditOf_11 (by decide) ?_
  rcases hb_1 : !(okP v (nAn σ)) with _ | _
  · have hc_2 : (okP v (nAn σ)) = true := by simpa using hb_1
    have ok_v : okP v (nAn σ) = true := by simpa using hb_1
    obtain ⟨j_v, hj_v, rfl⟩ := (okP_ix (by omega)).mp ok_v
    have ex_v := ix_nI (j := j_v) (by omega)
    refine q_eV X ce_X10_fails m_1497 (c_X10_fails l G mad A hAg σ h0 false 1 (by decide) (by decide)) (g0.step hS hAg) F (mo F) rfl (by decide) rfl hl.1 rfl (Nat.le_of_ble_eq_true rfl) dX10_creditOf_12 (by omega) (by omega) hS (fun _ h => h) (fun H locs F hz hk hS => ?_)
    have F : mw G mad A σ H := F
    refine lv_if_ne (tgt := 52) X.ex X.co dX10_creditOf_15 (by decide) (fun c_3 => ?_) (fun c_3 => ?_)
    · exact absurd (by decide) c_3
    · refine lv_aload_n X.ex X.co dX10_creditOf_18 rfl (lv_at hl 0 rfl) ?_
      refine lv_iload_n X.ex X.co dX10_creditOf_19 rfl (lv_at hl 2 rfl) ?_
      refine lv_iconst (v := 0) X.ex X.co dX10_creditOf_20 (by decide) ?_
      refine lv_aload_n X.ex X.co dX10_creditOf_21 rfl (lv_at hl 0 rfl) ?_
      refine m_getA X hK F 16 (by decide) rfl m_1367 rfl dX10_creditOf_22 ?_
      refine lv_aload_n X.ex X.co dX10_creditOf_25 rfl (lv_at hl 0 rfl) ?_
      refine m_getA X hK F 21 (by decide) rfl m_1372 rfl dX10_creditOf_26 ?_
      refine lv_iload_n X.ex X.co dX10_creditOf_29 rfl (lv_at hl 1 rfl) ?_
      refine m_ald X hK F 21 (by decide) rfl rfl j_v (by first | omega | (show _ < 100; omega)) (x := nI (exe σ j_v)) rfl dX10_creditOf_30 ?_
      have hf := hI0.an (i := j_v) (by omega); have hf2 := hI0.ex (i := exe σ j_v) (by omega)
      refine m_ald X hK F 16 (by decide) rfl rfl (exe σ j_v) (by first | omega | (show _ < 12; omega)) (x := nI (cas σ (exe σ j_v))) rfl dX10_creditOf_31 ?_
      have hf := hI0.ex (i := exe σ j_v) (by omega)
      refine lv_iconst (v := 1) X.ex X.co dX10_creditOf_32 (by decide) ?_
      refine lv_isub X.ex X.co dX10_creditOf_33 ?_
      refine q_rS X ce_X10_in m_1494 (c_X10_in l G w 0 (nI (cas σ (exe σ j_v)) - 1)) (g0.step hS hAg) trivial (by decide) rfl hl.1 rfl (Nat.le_of_ble_eq_true rfl) dX10_creditOf_34 (by omega) (by omega) ?_
      refine b_if_ne X (x := okP w (cas σ (exe σ j_v))) (tgt := 44) dX10_creditOf_37 (by decide) (fun c_4 => ?_) (fun c_4 => ?_)
      · have ok_w : okP w (cas σ (exe σ j_v)) = true := by simpa using c_4
        obtain ⟨j_w, hj_w, rfl⟩ := (okP_ix (by omega)).mp ok_w
        have ex_w := ix_nI (j := j_w) (by omega)
        refine lv_iconst (v := 0) X.ex X.co dX10_creditOf_44 (by decide) ?_
        refine lv_iconst (v := 2) X.ex X.co dX10_creditOf_45 (by decide) ?_
        refine q_eV X ce_X10_fails m_1497 (c_X10_fails l G mad A hAg σ h0 false 2 (by decide) (by decide)) (g0.step hS hAg) F (mo F) rfl (by decide) rfl hl.1 rfl (Nat.le_of_ble_eq_true rfl) dX10_creditOf_46 (by omega) (by omega) hS (fun _ h => h) (fun H locs F hz hk hS => ?_)
        have F : mw G mad A σ H := F
        refine lv_if_eq (tgt := 56) X.ex X.co dX10_creditOf_49 (by decide) (fun c_5 => ?_) (fun c_5 => ?_)
        · refine lv_aload_n X.ex X.co dX10_creditOf_56 rfl (lv_at hl 0 rfl) ?_
          refine lv_iload_n X.ex X.co dX10_creditOf_57 rfl (lv_at hl 1 rfl) ?_
          refine lv_iload_n X.ex X.co dX10_creditOf_58 rfl (lv_at hl 2 rfl) ?_
          refine q_rV X ce_X10_credit m_1568 (c_X10_credit l G mad A σ hI0 j_v j_w (by omega) (by omega)) (g0.step hS hAg) F (mo F) rfl (by decide) rfl hl.1 rfl (Nat.le_of_ble_eq_true rfl) dX10_creditOf_59 (by omega) (by omega) ?_
          exact c_i X hS rfl rfl (by have q : fCreditOf σ (nI j_v) (nI j_w) = ((cred σ j_v j_w), σ) := (by simp only [fCreditOf, hc_2, c_4, ok_v, ok_w]; simp [err, *]); unfold eB; rw [q]; exact ⟨rfl, F⟩) (by omega) (by omega) dX10_creditOf_62
        · exact absurd (by decide) c_5
      · refine lv_iconst (v := 1) X.ex X.co dX10_creditOf_40 (by decide) ?_
        refine lv_goto (tgt := 45) X.ex X.co dX10_creditOf_41 (by decide) ?_
        refine lv_iconst (v := 2) X.ex X.co dX10_creditOf_45 (by decide) ?_
        refine q_eV X ce_X10_fails m_1497 (c_X10_fails l G mad A hAg σ h0 true 2 (by decide) (by decide)) (g0.step hS hAg) F (mo F) rfl (by decide) rfl hl.1 rfl (Nat.le_of_ble_eq_true rfl) dX10_creditOf_46 (by omega) (by omega) hS (fun _ h => h) (fun H locs F hz hk hS => ?_)
        have F : mw G mad A (sN σ 0 0 2) H := F
        refine lv_if_eq (tgt := 56) X.ex X.co dX10_creditOf_49 (by decide) (fun c_6 => ?_) (fun c_6 => ?_)
        · exact absurd c_6 (by decide)
        · refine lv_iconst (v := 0) X.ex X.co dX10_creditOf_52 (by decide) ?_
          refine lv_goto (tgt := 62) X.ex X.co dX10_creditOf_53 (by decide) ?_
          exact c_i X hS rfl rfl (by have q : fCreditOf σ (nI j_v) w = (0, (sN σ 0 0 2)) := (by simp only [fCreditOf, hc_2, c_4, ok_v]; simp [err, *]); unfold eB; rw [q]; exact ⟨rfl, F⟩) (by omega) (by omega) dX10_creditOf_62
  · have hc_7 : (okP v (nAn σ)) = false := by simpa using hb_1
    refine q_eV X ce_X10_fails m_1497 (c_X10_fails l G mad A hAg σ h0 true 1 (by decide) (by decide)) (g0.step hS hAg) F (mo F) rfl (by decide) rfl hl.1 rfl (Nat.le_of_ble_eq_true rfl) dX10_creditOf_12 (by omega) (by omega) hS (fun _ h => h) (fun H locs F hz hk hS => ?_)
    have F : mw G mad A (sN σ 0 0 1) H := F
    refine lv_if_ne (tgt := 52) X.ex X.co dX10_creditOf_15 (by decide) (fun c_8 => ?_) (fun c_8 => ?_)
    · refine lv_iconst (v := 0) X.ex X.co dX10_creditOf_52 (by decide) ?_
      refine lv_goto (tgt := 62) X.ex X.co dX10_creditOf_53 (by decide) ?_
      exact c_i X hS rfl rfl (by have q : fCreditOf σ v w = (0, (sN σ 0 0 1)) := (by simp only [fCreditOf, hc_7]; simp [err, *]); unfold eB; rw [q]; exact ⟨rfl, F⟩) (by omega) (by omega) dX10_creditOf_62
    · exact absurd c_8 (by decide)
set_option maxHeartbeats 4000000 in
set_option maxRecDepth 100000 in
theorem c_X10_mastery (l : Launch) (G : GT) (mad : I2 → Nat) (A : Nat → Prop) (hAg : ∀ q, A q → gA G q) (τ σ : Sg) (hσ : σ = sN τ 0 0 0) (hI : MI σ) (v w : Int32) : cM l yX10_mastery cX10_mastery 3 ((Option.some FieldType.int)) 6 0 0 G [.ref (mad (0, 0)), .int v, .int w] (mw G mad A τ) (eB (some (.int (fMastery σ v w).1)) (mw G mad A (fMastery σ v w).2)) A := by
  refine mk_m (by decide) (Nat.le_of_ble_eq_true rfl) ?_
  intro p e s m args below meth c X ls hl g0 F hnm
  have hK := g0.1
  have hS : va_S A s.heap s.heap [] := va_S.rf
  have hI0 := hI.1
  obtain ⟨b1, b2, b3, b4, b5, b6, b7⟩ := hI0.1
  obtain ⟨b8, b9, b10⟩ := hI.2.1
  have hapb := hI.apb
  have h0 : σ.1 0 0 = 0 := by rw [hσ]; simp [sN]
  have hl : lv_has ls 3 [(0, .ref (mad (0, 0))), (1, .int v), (2, .int w)] := hl
  show Wc p l e 6 0 0 s m args below meth c (eB (some (.int (fMastery σ v w).1)) (mw G mad A (fMastery σ v w).2)) A s.heap [] 0 0 0 ls []
  refine lv_aload_n X.ex X.co dX10_mastery_0 rfl (lv_at hl 0 rfl) ?_
  refine lv_iconst (v := 0) X.ex X.co dX10_mastery_1 (by decide) ?_
  refine m_putN X hK F hS 0 (by decide) rfl rfl (v := 0) m_1351 rfl rfl (by decide) dX10_mastery_2 (fun H locs F hS => ?_)
  rw [← hσ] at F
  clear hσ
  refine lv_aload_n X.ex X.co dX10_mastery_5 rfl (lv_at hl 0 rfl) ?_
  refine lv_aload_n X.ex X.co dX10_mastery_6 rfl (lv_at hl 0 rfl) ?_
  refine lv_iload_n X.ex X.co dX10_mastery_7 rfl (lv_at hl 1 rfl) ?_
  refine q_rV X ce_X10_noStudent m_1540 (c_X10_noStudent l G mad A σ hI0 v) (g0.step hS hAg) F (mo F) rfl (by decide) rfl hl.1 rfl (Nat.le_of_ble_eq_true rfl) dX10_mastery_8 (by omega) (by omega) ?_
  refine b_if_ne X (x := !(okP v (nSt σ))) (tgt := 22) dX10_mastery_11 (by decide) (fun c_1 => ?_) (fun c_1 => ?_)
  · have hc_2 : (okP v (nSt σ)) = false := by simpa using c_1
    refine lv_iconst (v := 1) X.ex X.co dX10_mastery_22 (by decide) ?_
    refine lv_goto (tgt := 27) X.ex X.co dX10_mastery_23 (by decide) ?_
    refine lv_iconst (v := 1) X.ex X.co dX10_mastery_27 (by decide) ?_
    refine q_eV X ce_X10_fails m_1497 (c_X10_fails l G mad A hAg σ h0 true 1 (by decide) (by decide)) (g0.step hS hAg) F (mo F) rfl (by decide) rfl hl.1 rfl (Nat.le_of_ble_eq_true rfl) dX10_mastery_28 (by omega) (by omega) hS (fun _ h => h) (fun H locs F hz hk hS => ?_)
    have F : mw G mad A (sN σ 0 0 1) H := F
    refine lv_if_eq (tgt := 38) X.ex X.co dX10_mastery_31 (by decide) (fun c_3 => ?_) (fun c_3 => ?_)
    · exact absurd c_3 (by decide)
    · refine lv_iconst (v := 0) X.ex X.co dX10_mastery_34 (by decide) ?_
      refine lv_goto (tgt := 44) X.ex X.co dX10_mastery_35 (by decide) ?_
      exact c_i X hS rfl rfl (by have q : fMastery σ v w = (0, (sN σ 0 0 1)) := (by simp only [fMastery, hc_2]; simp [err, *]); unfold eB; rw [q]; exact ⟨rfl, F⟩) (by omega) (by omega) dX10_mastery_44
  · have hc_4 : (okP v (nSt σ)) = true := by simpa using c_1
    refine lv_aload_n X.ex X.co dX10_mastery_14 rfl (lv_at hl 0 rfl) ?_
    refine lv_iload_n X.ex X.co dX10_mastery_15 rfl (lv_at hl 2 rfl) ?_
    refine q_rV X ce_X10_noLesson m_1513 (c_X10_noLesson l G mad A σ hI0 w) (g0.step hS hAg) F (mo F) rfl (by decide) rfl hl.1 rfl (Nat.le_of_ble_eq_true rfl) dX10_mastery_16 (by omega) (by omega) ?_
    refine b_if_eq X (x := !(okP w (nLe σ))) (tgt := 26) dX10_mastery_19 (by decide) (fun c_5 => ?_) (fun c_5 => ?_)
    · have hc_6 : (okP w (nLe σ)) = true := by simpa using c_5
      have ok_v : okP v (nSt σ) = true := by simpa using c_1
      obtain ⟨j_v, hj_v, rfl⟩ := (okP_ix (by omega)).mp ok_v
      have ex_v := ix_nI (j := j_v) (by omega)
      have ok_w : okP w (nLe σ) = true := by simpa using c_5
      obtain ⟨j_w, hj_w, rfl⟩ := (okP_ix (by omega)).mp ok_w
      have ex_w := ix_nI (j := j_w) (by omega)
      refine lv_iconst (v := 0) X.ex X.co dX10_mastery_26 (by decide) ?_
      refine lv_iconst (v := 1) X.ex X.co dX10_mastery_27 (by decide) ?_
      refine q_eV X ce_X10_fails m_1497 (c_X10_fails l G mad A hAg σ h0 false 1 (by decide) (by decide)) (g0.step hS hAg) F (mo F) rfl (by decide) rfl hl.1 rfl (Nat.le_of_ble_eq_true rfl) dX10_mastery_28 (by omega) (by omega) hS (fun _ h => h) (fun H locs F hz hk hS => ?_)
      have F : mw G mad A σ H := F
      refine lv_if_eq (tgt := 38) X.ex X.co dX10_mastery_31 (by decide) (fun c_7 => ?_) (fun c_7 => ?_)
      · refine lv_aload_n X.ex X.co dX10_mastery_38 rfl (lv_at hl 0 rfl) ?_
        refine lv_iload_n X.ex X.co dX10_mastery_39 rfl (lv_at hl 1 rfl) ?_
        refine lv_iload_n X.ex X.co dX10_mastery_40 rfl (lv_at hl 2 rfl) ?_
        refine q_rV X ce_X10_masteryNow m_1548 (c_X10_masteryNow l G mad A σ hI0 j_v j_w (by omega) (by omega)) (g0.step hS hAg) F (mo F) rfl (by decide) rfl hl.1 rfl (Nat.le_of_ble_eq_true rfl) dX10_mastery_41 (by omega) (by omega) ?_
        exact c_i X hS rfl rfl (by have q : fMastery σ (nI j_v) (nI j_w) = ((masNow σ j_v j_w), σ) := (by simp only [fMastery, hc_4, hc_6, ok_v, ok_w]; simp [err, *]); unfold eB; rw [q]; exact ⟨rfl, F⟩) (by omega) (by omega) dX10_mastery_44
      · exact absurd (by decide) c_7
    · have hc_8 : (okP w (nLe σ)) = false := by simpa using c_5
      refine lv_iconst (v := 1) X.ex X.co dX10_mastery_22 (by decide) ?_
      refine lv_goto (tgt := 27) X.ex X.co dX10_mastery_23 (by decide) ?_
      refine lv_iconst (v := 1) X.ex X.co dX10_mastery_27 (by decide) ?_
      refine q_eV X ce_X10_fails m_1497 (c_X10_fails l G mad A hAg σ h0 true 1 (by decide) (by decide)) (g0.step hS hAg) F (mo F) rfl (by decide) rfl hl.1 rfl (Nat.le_of_ble_eq_true rfl) dX10_mastery_28 (by omega) (by omega) hS (fun _ h => h) (fun H locs F hz hk hS => ?_)
      have F : mw G mad A (sN σ 0 0 1) H := F
      refine lv_if_eq (tgt := 38) X.ex X.co dX10_mastery_31 (by decide) (fun c_9 => ?_) (fun c_9 => ?_)
      · exact absurd c_9 (by decide)
      · refine lv_iconst (v := 0) X.ex X.co dX10_mastery_34 (by decide) ?_
        refine lv_goto (tgt := 44) X.ex X.co dX10_mastery_35 (by decide) ?_
        exact c_i X hS rfl rfl (by have q : fMastery σ v w = (0, (sN σ 0 0 1)) := (by simp only [fMastery, hc_4, hc_8]; simp [err, *]); unfold eB; rw [q]; exact ⟨rfl, F⟩) (by omega) (by omega) dX10_mastery_44
set_option maxHeartbeats 4000000 in
set_option maxRecDepth 100000 in
theorem c_X10_appealCount (l : Launch) (G : GT) (mad : I2 → Nat) (A : Nat → Prop) (hAg : ∀ q, A q → gA G q) (τ σ : Sg) (hσ : σ = sN τ 0 0 0) (hI : MI σ) : cM l yX10_appealCount cX10_appealCount 1 ((Option.some FieldType.int)) 0 0 0 G [.ref (mad (0, 0))] (mw G mad A τ) (eB (some (.int (fAppealCount σ).1)) (mw G mad A (fAppealCount σ).2)) A := by
  refine mk_m (by decide) (Nat.le_of_ble_eq_true rfl) ?_
  intro p e s m args below meth c X ls hl g0 F hnm
  have hK := g0.1
  have hS : va_S A s.heap s.heap [] := va_S.rf
  have hI0 := hI.1
  obtain ⟨b1, b2, b3, b4, b5, b6, b7⟩ := hI0.1
  obtain ⟨b8, b9, b10⟩ := hI.2.1
  have hapb := hI.apb
  have h0 : σ.1 0 0 = 0 := by rw [hσ]; simp [sN]
  have hl : lv_has ls 1 [(0, .ref (mad (0, 0)))] := hl
  show Wc p l e 0 0 0 s m args below meth c (eB (some (.int (fAppealCount σ).1)) (mw G mad A (fAppealCount σ).2)) A s.heap [] 0 0 0 ls []
  refine lv_aload_n X.ex X.co dX10_appealCount_0 rfl (lv_at hl 0 rfl) ?_
  refine lv_iconst (v := 0) X.ex X.co dX10_appealCount_1 (by decide) ?_
  refine m_putN X hK F hS 0 (by decide) rfl rfl (v := 0) m_1351 rfl rfl (by decide) dX10_appealCount_2 (fun H locs F hS => ?_)
  rw [← hσ] at F
  clear hσ
  refine lv_aload_n X.ex X.co dX10_appealCount_5 rfl (lv_at hl 0 rfl) ?_
  refine m_getN X hK F 27 (by decide) rfl rfl (x := nAp σ) rfl m_1378 rfl dX10_appealCount_6 ?_
  exact c_i X hS rfl rfl ⟨rfl, F⟩ (by omega) (by omega) dX10_appealCount_9
set_option maxHeartbeats 4000000 in
set_option maxRecDepth 100000 in
theorem c_X10_harmedCount (l : Launch) (G : GT) (mad : I2 → Nat) (A : Nat → Prop) (hAg : ∀ q, A q → gA G q) (τ σ : Sg) (hσ : σ = sN τ 0 0 0) (hI : MI σ) : cM l yX10_harmedCount cX10_harmedCount 1 ((Option.some FieldType.int)) 0 0 0 G [.ref (mad (0, 0))] (mw G mad A τ) (eB (some (.int (fHarmedCount σ).1)) (mw G mad A (fHarmedCount σ).2)) A := by
  refine mk_m (by decide) (Nat.le_of_ble_eq_true rfl) ?_
  intro p e s m args below meth c X ls hl g0 F hnm
  have hK := g0.1
  have hS : va_S A s.heap s.heap [] := va_S.rf
  have hI0 := hI.1
  obtain ⟨b1, b2, b3, b4, b5, b6, b7⟩ := hI0.1
  obtain ⟨b8, b9, b10⟩ := hI.2.1
  have hapb := hI.apb
  have h0 : σ.1 0 0 = 0 := by rw [hσ]; simp [sN]
  have hl : lv_has ls 1 [(0, .ref (mad (0, 0)))] := hl
  show Wc p l e 0 0 0 s m args below meth c (eB (some (.int (fHarmedCount σ).1)) (mw G mad A (fHarmedCount σ).2)) A s.heap [] 0 0 0 ls []
  refine lv_aload_n X.ex X.co dX10_harmedCount_0 rfl (lv_at hl 0 rfl) ?_
  refine lv_iconst (v := 0) X.ex X.co dX10_harmedCount_1 (by decide) ?_
  refine m_putN X hK F hS 0 (by decide) rfl rfl (v := 0) m_1351 rfl rfl (by decide) dX10_harmedCount_2 (fun H locs F hS => ?_)
  rw [← hσ] at F
  clear hσ
  refine lv_aload_n X.ex X.co dX10_harmedCount_5 rfl (lv_at hl 0 rfl) ?_
  refine m_getN X hK F 29 (by decide) rfl rfl (x := nHa σ) rfl m_1380 rfl dX10_harmedCount_6 ?_
  exact c_i X hS rfl rfl ⟨rfl, F⟩ (by omega) (by omega) dX10_harmedCount_9
set_option maxHeartbeats 4000000 in
set_option maxRecDepth 100000 in
theorem c_X10_today (l : Launch) (G : GT) (mad : I2 → Nat) (A : Nat → Prop) (hAg : ∀ q, A q → gA G q) (τ σ : Sg) (hσ : σ = sN τ 0 0 0) (hI : MI σ) : cM l yX10_today cX10_today 1 ((Option.some FieldType.int)) 0 0 0 G [.ref (mad (0, 0))] (mw G mad A τ) (eB (some (.int (fToday σ).1)) (mw G mad A (fToday σ).2)) A := by
  refine mk_m (by decide) (Nat.le_of_ble_eq_true rfl) ?_
  intro p e s m args below meth c X ls hl g0 F hnm
  have hK := g0.1
  have hS : va_S A s.heap s.heap [] := va_S.rf
  have hI0 := hI.1
  obtain ⟨b1, b2, b3, b4, b5, b6, b7⟩ := hI0.1
  obtain ⟨b8, b9, b10⟩ := hI.2.1
  have hapb := hI.apb
  have h0 : σ.1 0 0 = 0 := by rw [hσ]; simp [sN]
  have hl : lv_has ls 1 [(0, .ref (mad (0, 0)))] := hl
  show Wc p l e 0 0 0 s m args below meth c (eB (some (.int (fToday σ).1)) (mw G mad A (fToday σ).2)) A s.heap [] 0 0 0 ls []
  refine lv_aload_n X.ex X.co dX10_today_0 rfl (lv_at hl 0 rfl) ?_
  refine lv_iconst (v := 0) X.ex X.co dX10_today_1 (by decide) ?_
  refine m_putN X hK F hS 0 (by decide) rfl rfl (v := 0) m_1351 rfl rfl (by decide) dX10_today_2 (fun H locs F hS => ?_)
  rw [← hσ] at F
  clear hσ
  refine lv_aload_n X.ex X.co dX10_today_5 rfl (lv_at hl 0 rfl) ?_
  refine m_getV X hK F 1 (by decide) rfl rfl (x := dayV σ) rfl m_1352 rfl dX10_today_6 ?_
  exact c_i X hS rfl rfl ⟨rfl, F⟩ (by omega) (by omega) dX10_today_9
set_option maxHeartbeats 4000000 in
set_option maxRecDepth 100000 in
theorem c_X10_isConsistent (l : Launch) (G : GT) (mad : I2 → Nat) (A : Nat → Prop) (hAg : ∀ q, A q → gA G q) (τ σ : Sg) (hσ : σ = sN τ 0 0 0) (hI : MI σ) : cM l yX10_isConsistent cX10_isConsistent 1 ((Option.some FieldType.boolean)) 0 0 0 G [.ref (mad (0, 0))] (mw G mad A τ) (eB (some (.int (fIsConsistent σ).1)) (mw G mad A (fIsConsistent σ).2)) A := by
  refine mk_m (by decide) (Nat.le_of_ble_eq_true rfl) ?_
  intro p e s m args below meth c X ls hl g0 F hnm
  have hK := g0.1
  have hS : va_S A s.heap s.heap [] := va_S.rf
  have hI0 := hI.1
  obtain ⟨b1, b2, b3, b4, b5, b6, b7⟩ := hI0.1
  obtain ⟨b8, b9, b10⟩ := hI.2.1
  have hapb := hI.apb
  have h0 : σ.1 0 0 = 0 := by rw [hσ]; simp [sN]
  have hl : lv_has ls 1 [(0, .ref (mad (0, 0)))] := hl
  show Wc p l e 0 0 0 s m args below meth c (eB (some (.int (fIsConsistent σ).1)) (mw G mad A (fIsConsistent σ).2)) A s.heap [] 0 0 0 ls []
  refine lv_aload_n X.ex X.co dX10_isConsistent_0 rfl (lv_at hl 0 rfl) ?_
  refine lv_iconst (v := 0) X.ex X.co dX10_isConsistent_1 (by decide) ?_
  refine m_putN X hK F hS 0 (by decide) rfl rfl (v := 0) m_1351 rfl rfl (by decide) dX10_isConsistent_2 (fun H locs F hS => ?_)
  rw [← hσ] at F
  clear hσ
  refine lv_iconst (v := 1) X.ex X.co dX10_isConsistent_5 (by decide) ?_
  exact c_i X hS rfl (by decide) ⟨rfl, F⟩ (by omega) (by omega) dX10_isConsistent_6
set_option maxHeartbeats 4000000 in
set_option maxRecDepth 100000 in
theorem c_X10_appealAt (l : Launch) (G : GT) (mad : I2 → Nat) (A : Nat → Prop) (hAg : ∀ q, A q → gA G q) (τ σ : Sg) (hσ : σ = sN τ 0 0 0) (hI : MI σ) (v : Int32) : cM l yX10_appealAt cX10_appealAt 2 ((Option.some FieldType.int)) 1 0 0 G [.ref (mad (0, 0)), .int v] (mw G mad A τ) (eB (some (.int (fAppealAt σ v).1)) (mw G mad A (fAppealAt σ v).2)) A := by
  refine mk_m (by decide) (Nat.le_of_ble_eq_true rfl) ?_
  intro p e s m args below meth c X ls hl g0 F hnm
  have hK := g0.1
  have hS : va_S A s.heap s.heap [] := va_S.rf
  have hI0 := hI.1
  obtain ⟨b1, b2, b3, b4, b5, b6, b7⟩ := hI0.1
  obtain ⟨b8, b9, b10⟩ := hI.2.1
  have hapb := hI.apb
  have h0 : σ.1 0 0 = 0 := by rw [hσ]; simp [sN]
  have hl : lv_has ls 2 [(0, .ref (mad (0, 0))), (1, .int v)] := hl
  show Wc p l e 1 0 0 s m args below meth c (eB (some (.int (fAppealAt σ v).1)) (mw G mad A (fAppealAt σ v).2)) A s.heap [] 0 0 0 ls []
  refine lv_aload_n X.ex X.co dX10_appealAt_0 rfl (lv_at hl 0 rfl) ?_
  refine lv_iconst (v := 0) X.ex X.co dX10_appealAt_1 (by decide) ?_
  refine m_putN X hK F hS 0 (by decide) rfl rfl (v := 0) m_1351 rfl rfl (by decide) dX10_appealAt_2 (fun H locs F hS => ?_)
  rw [← hσ] at F
  clear hσ
  refine lv_aload_n X.ex X.co dX10_appealAt_5 rfl (lv_at hl 0 rfl) ?_
  refine lv_iload_n X.ex X.co dX10_appealAt_6 rfl (lv_at hl 1 rfl) ?_
  refine lv_iconst (v := 0) X.ex X.co dX10_appealAt_7 (by decide) ?_
  refine lv_aload_n X.ex X.co dX10_appealAt_8 rfl (lv_at hl 0 rfl) ?_
  refine m_getN X hK F 27 (by decide) rfl rfl (x := nAp σ) rfl m_1378 rfl dX10_appealAt_9 ?_
  refine lv_iconst (v := 1) X.ex X.co dX10_appealAt_12 (by decide) ?_
  refine lv_isub X.ex X.co dX10_appealAt_13 ?_
  refine q_rS X ce_X10_in m_1494 (c_X10_in l G v 0 (nI (nAp σ) - 1)) (g0.step hS hAg) trivial (by decide) rfl hl.1 rfl (Nat.le_of_ble_eq_true rfl) dX10_appealAt_14 (by omega) (by omega) ?_
  refine b_if_ne X (x := okP v (nAp σ)) (tgt := 24) dX10_appealAt_17 (by decide) (fun c_1 => ?_) (fun c_1 => ?_)
  · have ok_v : okP v (nAp σ) = true := by simpa using c_1
    obtain ⟨j_v, hj_v, rfl⟩ := (okP_ix (by omega)).mp ok_v
    have ex_v := ix_nI (j := j_v) (by omega)
    refine lv_iconst (v := 0) X.ex X.co dX10_appealAt_24 (by decide) ?_
    refine lv_iconst (v := 1) X.ex X.co dX10_appealAt_25 (by decide) ?_
    refine q_eV X ce_X10_fails m_1497 (c_X10_fails l G mad A hAg σ h0 false 1 (by decide) (by decide)) (g0.step hS hAg) F (mo F) rfl (by decide) rfl hl.1 rfl (Nat.le_of_ble_eq_true rfl) dX10_appealAt_26 (by omega) (by omega) hS (fun _ h => h) (fun H locs F hz hk hS => ?_)
    have F : mw G mad A σ H := F
    refine lv_if_eq (tgt := 36) X.ex X.co dX10_appealAt_29 (by decide) (fun c_2 => ?_) (fun c_2 => ?_)
    · refine lv_aload_n X.ex X.co dX10_appealAt_36 rfl (lv_at hl 0 rfl) ?_
      refine m_getA X hK F 28 (by decide) rfl m_1379 rfl dX10_appealAt_37 ?_
      refine lv_iload_n X.ex X.co dX10_appealAt_40 rfl (lv_at hl 1 rfl) ?_
      refine m_ald X hK F 28 (by decide) rfl rfl j_v (by first | omega | (show _ < 100; omega)) (x := nI (app σ j_v)) rfl dX10_appealAt_41 ?_
      have hf := hI.ap (i := j_v) (by omega)
      exact c_i X hS rfl rfl (by have q : fAppealAt σ (nI j_v) = (nI (app σ j_v), σ) := (by simp only [fAppealAt, c_1, ok_v]; simp [err, *]); unfold eB; rw [q]; exact ⟨rfl, F⟩) (by omega) (by omega) dX10_appealAt_42
    · exact absurd (by decide) c_2
  · refine lv_iconst (v := 1) X.ex X.co dX10_appealAt_20 (by decide) ?_
    refine lv_goto (tgt := 25) X.ex X.co dX10_appealAt_21 (by decide) ?_
    refine lv_iconst (v := 1) X.ex X.co dX10_appealAt_25 (by decide) ?_
    refine q_eV X ce_X10_fails m_1497 (c_X10_fails l G mad A hAg σ h0 true 1 (by decide) (by decide)) (g0.step hS hAg) F (mo F) rfl (by decide) rfl hl.1 rfl (Nat.le_of_ble_eq_true rfl) dX10_appealAt_26 (by omega) (by omega) hS (fun _ h => h) (fun H locs F hz hk hS => ?_)
    have F : mw G mad A (sN σ 0 0 1) H := F
    refine lv_if_eq (tgt := 36) X.ex X.co dX10_appealAt_29 (by decide) (fun c_3 => ?_) (fun c_3 => ?_)
    · exact absurd c_3 (by decide)
    · refine lv_iconst (v := 0) X.ex X.co dX10_appealAt_32 (by decide) ?_
      refine lv_goto (tgt := 42) X.ex X.co dX10_appealAt_33 (by decide) ?_
      exact c_i X hS rfl rfl (by have q : fAppealAt σ v = (0, (sN σ 0 0 1)) := (by simp only [fAppealAt, c_1]; simp [err, *]); unfold eB; rw [q]; exact ⟨rfl, F⟩) (by omega) (by omega) dX10_appealAt_42
set_option maxHeartbeats 4000000 in
set_option maxRecDepth 100000 in
theorem c_X10_harmedAt (l : Launch) (G : GT) (mad : I2 → Nat) (A : Nat → Prop) (hAg : ∀ q, A q → gA G q) (τ σ : Sg) (hσ : σ = sN τ 0 0 0) (hI : MI σ) (v : Int32) : cM l yX10_harmedAt cX10_harmedAt 2 ((Option.some FieldType.int)) 1 0 0 G [.ref (mad (0, 0)), .int v] (mw G mad A τ) (eB (some (.int (fHarmedAt σ v).1)) (mw G mad A (fHarmedAt σ v).2)) A := by
  refine mk_m (by decide) (Nat.le_of_ble_eq_true rfl) ?_
  intro p e s m args below meth c X ls hl g0 F hnm
  have hK := g0.1
  have hS : va_S A s.heap s.heap [] := va_S.rf
  have hI0 := hI.1
  obtain ⟨b1, b2, b3, b4, b5, b6, b7⟩ := hI0.1
  obtain ⟨b8, b9, b10⟩ := hI.2.1
  have hapb := hI.apb
  have h0 : σ.1 0 0 = 0 := by rw [hσ]; simp [sN]
  have hl : lv_has ls 2 [(0, .ref (mad (0, 0))), (1, .int v)] := hl
  show Wc p l e 1 0 0 s m args below meth c (eB (some (.int (fHarmedAt σ v).1)) (mw G mad A (fHarmedAt σ v).2)) A s.heap [] 0 0 0 ls []
  refine lv_aload_n X.ex X.co dX10_harmedAt_0 rfl (lv_at hl 0 rfl) ?_
  refine lv_iconst (v := 0) X.ex X.co dX10_harmedAt_1 (by decide) ?_
  refine m_putN X hK F hS 0 (by decide) rfl rfl (v := 0) m_1351 rfl rfl (by decide) dX10_harmedAt_2 (fun H locs F hS => ?_)
  rw [← hσ] at F
  clear hσ
  refine lv_aload_n X.ex X.co dX10_harmedAt_5 rfl (lv_at hl 0 rfl) ?_
  refine lv_iload_n X.ex X.co dX10_harmedAt_6 rfl (lv_at hl 1 rfl) ?_
  refine lv_iconst (v := 0) X.ex X.co dX10_harmedAt_7 (by decide) ?_
  refine lv_aload_n X.ex X.co dX10_harmedAt_8 rfl (lv_at hl 0 rfl) ?_
  refine m_getN X hK F 29 (by decide) rfl rfl (x := nHa σ) rfl m_1380 rfl dX10_harmedAt_9 ?_
  refine lv_iconst (v := 1) X.ex X.co dX10_harmedAt_12 (by decide) ?_
  refine lv_isub X.ex X.co dX10_harmedAt_13 ?_
  refine q_rS X ce_X10_in m_1494 (c_X10_in l G v 0 (nI (nHa σ) - 1)) (g0.step hS hAg) trivial (by decide) rfl hl.1 rfl (Nat.le_of_ble_eq_true rfl) dX10_harmedAt_14 (by omega) (by omega) ?_
  refine b_if_ne X (x := okP v (nHa σ)) (tgt := 24) dX10_harmedAt_17 (by decide) (fun c_1 => ?_) (fun c_1 => ?_)
  · have ok_v : okP v (nHa σ) = true := by simpa using c_1
    obtain ⟨j_v, hj_v, rfl⟩ := (okP_ix (by omega)).mp ok_v
    have ex_v := ix_nI (j := j_v) (by omega)
    refine lv_iconst (v := 0) X.ex X.co dX10_harmedAt_24 (by decide) ?_
    refine lv_iconst (v := 1) X.ex X.co dX10_harmedAt_25 (by decide) ?_
    refine q_eV X ce_X10_fails m_1497 (c_X10_fails l G mad A hAg σ h0 false 1 (by decide) (by decide)) (g0.step hS hAg) F (mo F) rfl (by decide) rfl hl.1 rfl (Nat.le_of_ble_eq_true rfl) dX10_harmedAt_26 (by omega) (by omega) hS (fun _ h => h) (fun H locs F hz hk hS => ?_)
    have F : mw G mad A σ H := F
    refine lv_if_eq (tgt := 36) X.ex X.co dX10_harmedAt_29 (by decide) (fun c_2 => ?_) (fun c_2 => ?_)
    · refine lv_aload_n X.ex X.co dX10_harmedAt_36 rfl (lv_at hl 0 rfl) ?_
      refine m_getA X hK F 30 (by decide) rfl m_1381 rfl dX10_harmedAt_37 ?_
      refine lv_iload_n X.ex X.co dX10_harmedAt_40 rfl (lv_at hl 1 rfl) ?_
      refine m_ald X hK F 30 (by decide) rfl rfl j_v (by first | omega | (show _ < 100; omega)) (x := nI (har σ j_v)) rfl dX10_harmedAt_41 ?_
      have hf := hI.ha (i := j_v) (by omega)
      exact c_i X hS rfl rfl (by have q : fHarmedAt σ (nI j_v) = (nI (har σ j_v), σ) := (by simp only [fHarmedAt, c_1, ok_v]; simp [err, *]); unfold eB; rw [q]; exact ⟨rfl, F⟩) (by omega) (by omega) dX10_harmedAt_42
    · exact absurd (by decide) c_2
  · refine lv_iconst (v := 1) X.ex X.co dX10_harmedAt_20 (by decide) ?_
    refine lv_goto (tgt := 25) X.ex X.co dX10_harmedAt_21 (by decide) ?_
    refine lv_iconst (v := 1) X.ex X.co dX10_harmedAt_25 (by decide) ?_
    refine q_eV X ce_X10_fails m_1497 (c_X10_fails l G mad A hAg σ h0 true 1 (by decide) (by decide)) (g0.step hS hAg) F (mo F) rfl (by decide) rfl hl.1 rfl (Nat.le_of_ble_eq_true rfl) dX10_harmedAt_26 (by omega) (by omega) hS (fun _ h => h) (fun H locs F hz hk hS => ?_)
    have F : mw G mad A (sN σ 0 0 1) H := F
    refine lv_if_eq (tgt := 36) X.ex X.co dX10_harmedAt_29 (by decide) (fun c_3 => ?_) (fun c_3 => ?_)
    · exact absurd c_3 (by decide)
    · refine lv_iconst (v := 0) X.ex X.co dX10_harmedAt_32 (by decide) ?_
      refine lv_goto (tgt := 42) X.ex X.co dX10_harmedAt_33 (by decide) ?_
      exact c_i X hS rfl rfl (by have q : fHarmedAt σ v = (0, (sN σ 0 0 1)) := (by simp only [fHarmedAt, c_1]; simp [err, *]); unfold eB; rw [q]; exact ⟨rfl, F⟩) (by omega) (by omega) dX10_harmedAt_42
set_option maxHeartbeats 4000000 in
set_option maxRecDepth 100000 in
theorem c_X10_addCourse (l : Launch) (G : GT) (mad : I2 → Nat) (A : Nat → Prop) (hAg : ∀ q, A q → gA G q) (τ σ : Sg) (hσ : σ = sN τ 0 0 0) (hI : MI σ) (n d : Int32) : cM l yX10_addCourse cX10_addCourse 3 ((Option.some FieldType.int)) 1 0 0 G [.ref (mad (0, 0)), .int n, .int d] (mw G mad A τ) (eB (some (.int (fAddCourse σ n d).1)) (mw G mad A (fAddCourse σ n d).2)) A := by
  refine mk_m (by decide) (Nat.le_of_ble_eq_true rfl) ?_
  intro p e s m args below meth c X ls hl g0 F hnm
  have hK := g0.1
  have hS : va_S A s.heap s.heap [] := va_S.rf
  have hI0 := hI.1
  obtain ⟨b1, b2, b3, b4, b5, b6, b7⟩ := hI0.1
  obtain ⟨b8, b9, b10⟩ := hI.2.1
  have hapb := hI.apb
  have h0 : σ.1 0 0 = 0 := by rw [hσ]; simp [sN]
  have hl : lv_has ls 3 [(0, .ref (mad (0, 0))), (1, .int n), (2, .int d)] := hl
  show Wc p l e 1 0 0 s m args below meth c (eB (some (.int (fAddCourse σ n d).1)) (mw G mad A (fAddCourse σ n d).2)) A s.heap [] 0 0 0 ls []
  refine lv_aload_n X.ex X.co dX10_addCourse_0 rfl (lv_at hl 0 rfl) ?_
  refine lv_iconst (v := 0) X.ex X.co dX10_addCourse_1 (by decide) ?_
  refine m_putN X hK F hS 0 (by decide) rfl rfl (v := 0) m_1351 rfl rfl (by decide) dX10_addCourse_2 (fun H locs F hS => ?_)
  rw [← hσ] at F
  clear hσ
  refine lv_aload_n X.ex X.co dX10_addCourse_5 rfl (lv_at hl 0 rfl) ?_
  refine lv_iload_n X.ex X.co dX10_addCourse_6 rfl (lv_at hl 1 rfl) ?_
  refine lv_iconst (v := 1) X.ex X.co dX10_addCourse_7 (by decide) ?_
  refine lv_iconst (v := 1) X.ex X.co dX10_addCourse_8 (by decide) ?_
  refine lv_aload_n X.ex X.co dX10_addCourse_9 rfl (lv_at hl 0 rfl) ?_
  refine m_getN X hK F 7 (by decide) rfl rfl (x := nLe σ) rfl m_1358 rfl dX10_addCourse_10 ?_
  refine lv_ishl X.ex X.co dX10_addCourse_13 ?_
  refine lv_iconst (v := 1) X.ex X.co dX10_addCourse_14 (by decide) ?_
  refine lv_isub X.ex X.co dX10_addCourse_15 ?_
  refine q_rS X ce_X10_in m_1494 (c_X10_in l G n 1 ((1 <<< (nI (nLe σ) &&& 31)) - 1)) (g0.step hS hAg) trivial (by decide) rfl hl.1 rfl (Nat.le_of_ble_eq_true rfl) dX10_addCourse_16 (by omega) (by omega) ?_
  refine b_if_eq X (x := inB n 1 ((1 <<< (nI (nLe σ) &&& 31)) - 1)) (tgt := 32) dX10_addCourse_19 (by decide) (fun c_1 => ?_) (fun c_1 => ?_)
  · refine lv_iconst (v := 1) X.ex X.co dX10_addCourse_32 (by decide) ?_
    refine lv_goto (tgt := 37) X.ex X.co dX10_addCourse_33 (by decide) ?_
    refine lv_iconst (v := 1) X.ex X.co dX10_addCourse_37 (by decide) ?_
    refine q_eV X ce_X10_fails m_1497 (c_X10_fails l G mad A hAg σ h0 true 1 (by decide) (by decide)) (g0.step hS hAg) F (mo F) rfl (by decide) rfl hl.1 rfl (Nat.le_of_ble_eq_true rfl) dX10_addCourse_38 (by omega) (by omega) hS (fun _ h => h) (fun H locs F hz hk hS => ?_)
    have F : mw G mad A (sN σ 0 0 1) H := F
    refine lv_if_ne (tgt := 65) X.ex X.co dX10_addCourse_41 (by decide) (fun c_2 => ?_) (fun c_2 => ?_)
    · refine lv_iconst (v := 0) X.ex X.co dX10_addCourse_65 (by decide) ?_
      exact c_i X hS rfl rfl (by have q : fAddCourse σ n d = (0, (sN σ 0 0 1)) := (by simp only [fAddCourse, c_1]; simp [err, *]); unfold eB; rw [q]; exact ⟨rfl, F⟩) (by omega) (by omega) dX10_addCourse_66
    · exact absurd c_2 (by decide)
  · refine lv_iload_n X.ex X.co dX10_addCourse_22 rfl (lv_at hl 2 rfl) ?_
    refine lv_iconst (v := 1) X.ex X.co dX10_addCourse_23 (by decide) ?_
    refine lv_bipush (v := 100) X.ex X.co dX10_addCourse_24 (by decide) ?_
    refine q_rS X ce_X10_in m_1494 (c_X10_in l G d 1 100) (g0.step hS hAg) trivial (by decide) rfl hl.1 rfl (Nat.le_of_ble_eq_true rfl) dX10_addCourse_26 (by omega) (by omega) ?_
    refine b_if_ne X (x := inB d 1 100) (tgt := 36) dX10_addCourse_29 (by decide) (fun c_3 => ?_) (fun c_3 => ?_)
    · refine lv_iconst (v := 0) X.ex X.co dX10_addCourse_36 (by decide) ?_
      refine lv_iconst (v := 1) X.ex X.co dX10_addCourse_37 (by decide) ?_
      refine q_eV X ce_X10_fails m_1497 (c_X10_fails l G mad A hAg σ h0 false 1 (by decide) (by decide)) (g0.step hS hAg) F (mo F) rfl (by decide) rfl hl.1 rfl (Nat.le_of_ble_eq_true rfl) dX10_addCourse_38 (by omega) (by omega) hS (fun _ h => h) (fun H locs F hz hk hS => ?_)
      have F : mw G mad A σ H := F
      refine lv_if_ne (tgt := 65) X.ex X.co dX10_addCourse_41 (by decide) (fun c_4 => ?_) (fun c_4 => ?_)
      · exact absurd (by decide) c_4
      · refine lv_aload_n X.ex X.co dX10_addCourse_44 rfl (lv_at hl 0 rfl) ?_
        refine lv_aload_n X.ex X.co dX10_addCourse_45 rfl (lv_at hl 0 rfl) ?_
        refine m_getN X hK F 32 (by decide) rfl rfl (x := nCr σ) rfl m_1383 rfl dX10_addCourse_46 ?_
        refine lv_iconst (v := 4) X.ex X.co dX10_addCourse_49 (by decide) ?_
        refine n_cmp_ne X (x := nCr σ) (y := 4) (tgt := 57) (by omega) (by omega) dX10_addCourse_50 (by decide) (fun c_5 => ?_) (fun c_5 => ?_)
        · refine lv_iconst (v := 0) X.ex X.co dX10_addCourse_57 (by decide) ?_
          refine lv_iconst (v := 2) X.ex X.co dX10_addCourse_58 (by decide) ?_
          refine q_eV X ce_X10_fails m_1497 (c_X10_fails l G mad A hAg σ h0 false 2 (by decide) (by decide)) (g0.step hS hAg) F (mo F) rfl (by decide) rfl hl.1 rfl (Nat.le_of_ble_eq_true rfl) dX10_addCourse_59 (by omega) (by omega) hS (fun _ h => h) (fun H locs F hz hk hS => ?_)
          have F : mw G mad A σ H := F
          refine lv_if_eq (tgt := 67) X.ex X.co dX10_addCourse_62 (by decide) (fun c_6 => ?_) (fun c_6 => ?_)
          · refine lv_aload_n X.ex X.co dX10_addCourse_67 rfl (lv_at hl 0 rfl) ?_
            refine m_getA X hK F 33 (by decide) rfl m_1384 rfl dX10_addCourse_68 ?_
            refine lv_aload_n X.ex X.co dX10_addCourse_71 rfl (lv_at hl 0 rfl) ?_
            refine m_getN X hK F 32 (by decide) rfl rfl (x := nCr σ) rfl m_1383 rfl dX10_addCourse_72 ?_
            refine lv_iload_n X.ex X.co dX10_addCourse_75 rfl (lv_at hl 1 rfl) ?_
            refine m_astV X hK F hS 33 (by decide) rfl rfl rfl (nCr σ) (v := n) (by first | omega | (show _ < 4; omega)) dX10_addCourse_76 (fun H locs F hS => ?_)
            refine lv_aload_n X.ex X.co dX10_addCourse_77 rfl (lv_at hl 0 rfl) ?_
            refine m_getA X hK F 34 (by decide) rfl m_1385 rfl dX10_addCourse_78 ?_
            refine lv_aload_n X.ex X.co dX10_addCourse_81 rfl (lv_at hl 0 rfl) ?_
            refine m_getN X hK F 32 (by decide) rfl rfl (x := nCr σ) rfl m_1383 rfl dX10_addCourse_82 ?_
            refine lv_iload_n X.ex X.co dX10_addCourse_85 rfl (lv_at hl 2 rfl) ?_
            refine m_astV X hK F hS 34 (by decide) rfl rfl rfl (nCr σ) (v := d) (by first | omega | (show _ < 4; omega)) dX10_addCourse_86 (fun H locs F hS => ?_)
            refine lv_aload_n X.ex X.co dX10_addCourse_87 rfl (lv_at hl 0 rfl) ?_
            refine lv_dup X.ex X.co dX10_addCourse_88 rfl ?_
            refine m_getN X hK F 32 (by decide) rfl rfl (x := nCr σ) rfl m_1383 rfl dX10_addCourse_89 ?_
            refine lv_iconst (v := 1) X.ex X.co dX10_addCourse_92 (by decide) ?_
            refine n_add X (x := nCr σ) (y := 1) dX10_addCourse_93 ?_
            refine m_putN X hK F hS 32 (by decide) rfl rfl (v := (nCr σ) + 1) m_1383 rfl rfl (by decide) dX10_addCourse_94 (fun H locs F hS => ?_)
            refine lv_aload_n X.ex X.co dX10_addCourse_97 rfl (lv_at hl 0 rfl) ?_
            refine m_getN X hK F 32 (by decide) rfl rfl (x := (nCr σ) + 1) rfl m_1383 rfl dX10_addCourse_98 ?_
            refine lv_iconst (v := 1) X.ex X.co dX10_addCourse_101 (by decide) ?_
            refine n_sub X (x := (nCr σ) + 1) (y := 1) (by omega) dX10_addCourse_102 ?_
            exact c_i X hS rfl rfl (by have q : fAddCourse σ n d = (nI (((nCr σ) + 1) - 1), (sN (sV (sV σ 33 (nCr σ) n) 34 (nCr σ) d) 32 0 ((nCr σ) + 1))) := (by simp only [fAddCourse, c_1, c_3]; simp [err, *]); unfold eB; rw [q]; exact ⟨rfl, F⟩) (by omega) (by omega) dX10_addCourse_103
          · exact absurd (by decide) c_6
        · refine lv_iconst (v := 1) X.ex X.co dX10_addCourse_53 (by decide) ?_
          refine lv_goto (tgt := 58) X.ex X.co dX10_addCourse_54 (by decide) ?_
          refine lv_iconst (v := 2) X.ex X.co dX10_addCourse_58 (by decide) ?_
          refine q_eV X ce_X10_fails m_1497 (c_X10_fails l G mad A hAg σ h0 true 2 (by decide) (by decide)) (g0.step hS hAg) F (mo F) rfl (by decide) rfl hl.1 rfl (Nat.le_of_ble_eq_true rfl) dX10_addCourse_59 (by omega) (by omega) hS (fun _ h => h) (fun H locs F hz hk hS => ?_)
          have F : mw G mad A (sN σ 0 0 2) H := F
          refine lv_if_eq (tgt := 67) X.ex X.co dX10_addCourse_62 (by decide) (fun c_7 => ?_) (fun c_7 => ?_)
          · exact absurd c_7 (by decide)
          · refine lv_iconst (v := 0) X.ex X.co dX10_addCourse_65 (by decide) ?_
            exact c_i X hS rfl rfl (by have q : fAddCourse σ n d = (0, (sN σ 0 0 2)) := (by simp only [fAddCourse, c_1, c_3]; simp [err, *]); unfold eB; rw [q]; exact ⟨rfl, F⟩) (by omega) (by omega) dX10_addCourse_66
    · refine lv_iconst (v := 1) X.ex X.co dX10_addCourse_32 (by decide) ?_
      refine lv_goto (tgt := 37) X.ex X.co dX10_addCourse_33 (by decide) ?_
      refine lv_iconst (v := 1) X.ex X.co dX10_addCourse_37 (by decide) ?_
      refine q_eV X ce_X10_fails m_1497 (c_X10_fails l G mad A hAg σ h0 true 1 (by decide) (by decide)) (g0.step hS hAg) F (mo F) rfl (by decide) rfl hl.1 rfl (Nat.le_of_ble_eq_true rfl) dX10_addCourse_38 (by omega) (by omega) hS (fun _ h => h) (fun H locs F hz hk hS => ?_)
      have F : mw G mad A (sN σ 0 0 1) H := F
      refine lv_if_ne (tgt := 65) X.ex X.co dX10_addCourse_41 (by decide) (fun c_8 => ?_) (fun c_8 => ?_)
      · refine lv_iconst (v := 0) X.ex X.co dX10_addCourse_65 (by decide) ?_
        exact c_i X hS rfl rfl (by have q : fAddCourse σ n d = (0, (sN σ 0 0 1)) := (by simp only [fAddCourse, c_1, c_3]; simp [err, *]); unfold eB; rw [q]; exact ⟨rfl, F⟩) (by omega) (by omega) dX10_addCourse_66
      · exact absurd c_8 (by decide)
set_option maxHeartbeats 4000000 in
set_option maxRecDepth 100000 in
theorem c_X10_doesStand (l : Launch) (G : GT) (mad : I2 → Nat) (A : Nat → Prop) (hAg : ∀ q, A q → gA G q) (τ σ : Sg) (hσ : σ = sN τ 0 0 0) (hI : MI σ) (v : Int32) : cM l yX10_doesStand cX10_doesStand 2 ((Option.some FieldType.boolean)) 1 0 0 G [.ref (mad (0, 0)), .int v] (mw G mad A τ) (eB (some (.int (fDoesStand σ v).1)) (mw G mad A (fDoesStand σ v).2)) A := by
  refine mk_m (by decide) (Nat.le_of_ble_eq_true rfl) ?_
  intro p e s m args below meth c X ls hl g0 F hnm
  have hK := g0.1
  have hS : va_S A s.heap s.heap [] := va_S.rf
  have hI0 := hI.1
  obtain ⟨b1, b2, b3, b4, b5, b6, b7⟩ := hI0.1
  obtain ⟨b8, b9, b10⟩ := hI.2.1
  have hapb := hI.apb
  have h0 : σ.1 0 0 = 0 := by rw [hσ]; simp [sN]
  have hl : lv_has ls 2 [(0, .ref (mad (0, 0))), (1, .int v)] := hl
  show Wc p l e 1 0 0 s m args below meth c (eB (some (.int (fDoesStand σ v).1)) (mw G mad A (fDoesStand σ v).2)) A s.heap [] 0 0 0 ls []
  refine lv_aload_n X.ex X.co dX10_doesStand_0 rfl (lv_at hl 0 rfl) ?_
  refine lv_iconst (v := 0) X.ex X.co dX10_doesStand_1 (by decide) ?_
  refine m_putN X hK F hS 0 (by decide) rfl rfl (v := 0) m_1351 rfl rfl (by decide) dX10_doesStand_2 (fun H locs F hS => ?_)
  rw [← hσ] at F
  clear hσ
  refine lv_aload_n X.ex X.co dX10_doesStand_5 rfl (lv_at hl 0 rfl) ?_
  refine lv_iload_n X.ex X.co dX10_doesStand_6 rfl (lv_at hl 1 rfl) ?_
  refine lv_iconst (v := 0) X.ex X.co dX10_doesStand_7 (by decide) ?_
  refine lv_aload_n X.ex X.co dX10_doesStand_8 rfl (lv_at hl 0 rfl) ?_
  refine m_getN X hK F 35 (by decide) rfl rfl (x := nCe σ) rfl m_1386 rfl dX10_doesStand_9 ?_
  refine lv_iconst (v := 1) X.ex X.co dX10_doesStand_12 (by decide) ?_
  refine lv_isub X.ex X.co dX10_doesStand_13 ?_
  refine q_rS X ce_X10_in m_1494 (c_X10_in l G v 0 (nI (nCe σ) - 1)) (g0.step hS hAg) trivial (by decide) rfl hl.1 rfl (Nat.le_of_ble_eq_true rfl) dX10_doesStand_14 (by omega) (by omega) ?_
  refine b_if_ne X (x := okP v (nCe σ)) (tgt := 24) dX10_doesStand_17 (by decide) (fun c_1 => ?_) (fun c_1 => ?_)
  · have ok_v : okP v (nCe σ) = true := by simpa using c_1
    obtain ⟨j_v, hj_v, rfl⟩ := (okP_ix (by omega)).mp ok_v
    have ex_v := ix_nI (j := j_v) (by omega)
    refine lv_iconst (v := 0) X.ex X.co dX10_doesStand_24 (by decide) ?_
    refine lv_iconst (v := 1) X.ex X.co dX10_doesStand_25 (by decide) ?_
    refine q_eV X ce_X10_fails m_1497 (c_X10_fails l G mad A hAg σ h0 false 1 (by decide) (by decide)) (g0.step hS hAg) F (mo F) rfl (by decide) rfl hl.1 rfl (Nat.le_of_ble_eq_true rfl) dX10_doesStand_26 (by omega) (by omega) hS (fun _ h => h) (fun H locs F hz hk hS => ?_)
    have F : mw G mad A σ H := F
    refine lv_if_ne (tgt := 45) X.ex X.co dX10_doesStand_29 (by decide) (fun c_2 => ?_) (fun c_2 => ?_)
    · exact absurd (by decide) c_2
    · refine lv_aload_n X.ex X.co dX10_doesStand_32 rfl (lv_at hl 0 rfl) ?_
      refine m_getA X hK F 41 (by decide) rfl m_1392 rfl dX10_doesStand_33 ?_
      refine lv_iload_n X.ex X.co dX10_doesStand_36 rfl (lv_at hl 1 rfl) ?_
      refine m_zald X hK F 41 (by decide) rfl rfl j_v (by first | omega | (show _ < 30; omega)) (x := (σ.2 41 j_v)) rfl dX10_doesStand_37 ?_
      refine lv_if_ne (tgt := 45) X.ex X.co dX10_doesStand_38 (by decide) (fun c_3 => ?_) (fun c_3 => ?_)
      · refine lv_iconst (v := 0) X.ex X.co dX10_doesStand_45 (by decide) ?_
        exact c_i X hS rfl (by decide) (by have q : fDoesStand σ (nI j_v) = (0, σ) := (by simp only [fDoesStand, c_1, ok_v]; simp [err, bI, *]); unfold eB; rw [q]; exact ⟨rfl, F⟩) (by omega) (by omega) dX10_doesStand_46
      · refine lv_iconst (v := 1) X.ex X.co dX10_doesStand_41 (by decide) ?_
        refine lv_goto (tgt := 46) X.ex X.co dX10_doesStand_42 (by decide) ?_
        exact c_i X hS rfl (by decide) (by have q : fDoesStand σ (nI j_v) = (1, σ) := (by simp only [fDoesStand, c_1, ok_v]; simp [err, bI, *]); unfold eB; rw [q]; exact ⟨rfl, F⟩) (by omega) (by omega) dX10_doesStand_46
  · refine lv_iconst (v := 1) X.ex X.co dX10_doesStand_20 (by decide) ?_
    refine lv_goto (tgt := 25) X.ex X.co dX10_doesStand_21 (by decide) ?_
    refine lv_iconst (v := 1) X.ex X.co dX10_doesStand_25 (by decide) ?_
    refine q_eV X ce_X10_fails m_1497 (c_X10_fails l G mad A hAg σ h0 true 1 (by decide) (by decide)) (g0.step hS hAg) F (mo F) rfl (by decide) rfl hl.1 rfl (Nat.le_of_ble_eq_true rfl) dX10_doesStand_26 (by omega) (by omega) hS (fun _ h => h) (fun H locs F hz hk hS => ?_)
    have F : mw G mad A (sN σ 0 0 1) H := F
    refine lv_if_ne (tgt := 45) X.ex X.co dX10_doesStand_29 (by decide) (fun c_4 => ?_) (fun c_4 => ?_)
    · refine lv_iconst (v := 0) X.ex X.co dX10_doesStand_45 (by decide) ?_
      exact c_i X hS rfl (by decide) (by have q : fDoesStand σ v = (0, (sN σ 0 0 1)) := (by simp only [fDoesStand, c_1]; simp [err, bI, *]); unfold eB; rw [q]; exact ⟨rfl, F⟩) (by omega) (by omega) dX10_doesStand_46
    · exact absurd c_4 (by decide)
set_option maxHeartbeats 4000000 in
set_option maxRecDepth 100000 in
theorem c_X10_revoked (l : Launch) (G : GT) (mad : I2 → Nat) (A : Nat → Prop) (hAg : ∀ q, A q → gA G q) (τ σ : Sg) (hσ : σ = sN τ 0 0 0) (hI : MI σ) : cM l yX10_revoked cX10_revoked 1 ((Option.some FieldType.int)) 1 0 0 G [.ref (mad (0, 0))] (mw G mad A τ) (eB (some (.int (fRevoked σ).1)) (mw G mad A (fRevoked σ).2)) A := by
  refine mk_m (by decide) (Nat.le_of_ble_eq_true rfl) ?_
  intro p e s m args below meth c X ls hl g0 F hnm
  have hK := g0.1
  have hS : va_S A s.heap s.heap [] := va_S.rf
  have hI0 := hI.1
  obtain ⟨b1, b2, b3, b4, b5, b6, b7⟩ := hI0.1
  obtain ⟨b8, b9, b10⟩ := hI.2.1
  have hapb := hI.apb
  have h0 : σ.1 0 0 = 0 := by rw [hσ]; simp [sN]
  have hl : lv_has ls 1 [(0, .ref (mad (0, 0)))] := hl
  show Wc p l e 1 0 0 s m args below meth c (eB (some (.int (fRevoked σ).1)) (mw G mad A (fRevoked σ).2)) A s.heap [] 0 0 0 ls []
  refine lv_aload_n X.ex X.co dX10_revoked_0 rfl (lv_at hl 0 rfl) ?_
  refine lv_iconst (v := 0) X.ex X.co dX10_revoked_1 (by decide) ?_
  refine m_putN X hK F hS 0 (by decide) rfl rfl (v := 0) m_1351 rfl rfl (by decide) dX10_revoked_2 (fun H locs F hS => ?_)
  rw [← hσ] at F
  clear hσ
  refine lv_aload_n X.ex X.co dX10_revoked_5 rfl (lv_at hl 0 rfl) ?_
  refine q_rV X ce_X10_revokedNow m_1698 (c_X10_revokedNow l G mad A σ hI0) (g0.step hS hAg) F (mo F) rfl (by decide) rfl hl.1 rfl (Nat.le_of_ble_eq_true rfl) dX10_revoked_6 (by omega) (by omega) ?_
  exact c_i X hS rfl rfl ⟨rfl, F⟩ (by omega) (by omega) dX10_revoked_9
set_option maxHeartbeats 4000000 in
set_option maxRecDepth 100000 in
theorem c_X10_pass (l : Launch) (G : GT) (mad : I2 → Nat) (A : Nat → Prop) (hAg : ∀ q, A q → gA G q) (τ σ : Sg) (hσ : σ = sN τ 0 0 0) (hI : MI σ) (d : Int32) : cM l yX10_pass cX10_pass 2 ((Option.some FieldType.int)) 1 0 0 G [.ref (mad (0, 0)), .int d] (mw G mad A τ) (eB (some (.int (fPass σ d).1)) (mw G mad A (fPass σ d).2)) A := by
  refine mk_m (by decide) (Nat.le_of_ble_eq_true rfl) ?_
  intro p e s m args below meth c X ls hl g0 F hnm
  have hK := g0.1
  have hS : va_S A s.heap s.heap [] := va_S.rf
  have hI0 := hI.1
  obtain ⟨b1, b2, b3, b4, b5, b6, b7⟩ := hI0.1
  obtain ⟨b8, b9, b10⟩ := hI.2.1
  have hapb := hI.apb
  have h0 : σ.1 0 0 = 0 := by rw [hσ]; simp [sN]
  have hl : lv_has ls 2 [(0, .ref (mad (0, 0))), (1, .int d)] := hl
  show Wc p l e 1 0 0 s m args below meth c (eB (some (.int (fPass σ d).1)) (mw G mad A (fPass σ d).2)) A s.heap [] 0 0 0 ls []
  refine lv_aload_n X.ex X.co dX10_pass_0 rfl (lv_at hl 0 rfl) ?_
  refine lv_iconst (v := 0) X.ex X.co dX10_pass_1 (by decide) ?_
  refine m_putN X hK F hS 0 (by decide) rfl rfl (v := 0) m_1351 rfl rfl (by decide) dX10_pass_2 (fun H locs F hS => ?_)
  rw [← hσ] at F
  clear hσ
  refine lv_aload_n X.ex X.co dX10_pass_5 rfl (lv_at hl 0 rfl) ?_
  refine lv_iload_n X.ex X.co dX10_pass_6 rfl (lv_at hl 1 rfl) ?_
  refine lv_iconst (v := 1) X.ex X.co dX10_pass_7 (by decide) ?_
  refine lv_bipush (v := 99) X.ex X.co dX10_pass_8 (by decide) ?_
  refine q_rS X ce_X10_in m_1494 (c_X10_in l G d 1 99) (g0.step hS hAg) trivial (by decide) rfl hl.1 rfl (Nat.le_of_ble_eq_true rfl) dX10_pass_10 (by omega) (by omega) ?_
  refine b_if_ne X (x := inB d 1 99) (tgt := 20) dX10_pass_13 (by decide) (fun c_1 => ?_) (fun c_1 => ?_)
  · refine lv_iconst (v := 0) X.ex X.co dX10_pass_20 (by decide) ?_
    refine lv_iconst (v := 1) X.ex X.co dX10_pass_21 (by decide) ?_
    refine q_eV X ce_X10_fails m_1497 (c_X10_fails l G mad A hAg σ h0 false 1 (by decide) (by decide)) (g0.step hS hAg) F (mo F) rfl (by decide) rfl hl.1 rfl (Nat.le_of_ble_eq_true rfl) dX10_pass_22 (by omega) (by omega) hS (fun _ h => h) (fun H locs F hz hk hS => ?_)
    have F : mw G mad A σ H := F
    refine lv_if_ne (tgt := 53) X.ex X.co dX10_pass_25 (by decide) (fun c_2 => ?_) (fun c_2 => ?_)
    · exact absurd (by decide) c_2
    · refine lv_aload_n X.ex X.co dX10_pass_28 rfl (lv_at hl 0 rfl) ?_
      refine lv_aload_n X.ex X.co dX10_pass_29 rfl (lv_at hl 0 rfl) ?_
      refine m_getV X hK F 1 (by decide) rfl rfl (x := dayV σ) rfl m_1352 rfl dX10_pass_30 ?_
      refine lv_iload_n X.ex X.co dX10_pass_33 rfl (lv_at hl 1 rfl) ?_
      refine lv_iadd X.ex X.co dX10_pass_34 ?_
      refine lv_sipush (v := 999) X.ex X.co dX10_pass_35 (by decide) ?_
      refine lv_icmp_le (tgt := 45) X.ex X.co dX10_pass_38 (by decide) (fun c_3 => ?_) (fun c_3 => ?_)
      · refine lv_iconst (v := 0) X.ex X.co dX10_pass_45 (by decide) ?_
        refine lv_iconst (v := 2) X.ex X.co dX10_pass_46 (by decide) ?_
        refine q_eV X ce_X10_fails m_1497 (c_X10_fails l G mad A hAg σ h0 false 2 (by decide) (by decide)) (g0.step hS hAg) F (mo F) rfl (by decide) rfl hl.1 rfl (Nat.le_of_ble_eq_true rfl) dX10_pass_47 (by omega) (by omega) hS (fun _ h => h) (fun H locs F hz hk hS => ?_)
        have F : mw G mad A σ H := F
        refine lv_if_eq (tgt := 55) X.ex X.co dX10_pass_50 (by decide) (fun c_4 => ?_) (fun c_4 => ?_)
        · refine lv_aload_n X.ex X.co dX10_pass_55 rfl (lv_at hl 0 rfl) ?_
          refine lv_dup X.ex X.co dX10_pass_56 rfl ?_
          refine m_getV X hK F 1 (by decide) rfl rfl (x := dayV σ) rfl m_1352 rfl dX10_pass_57 ?_
          refine lv_iload_n X.ex X.co dX10_pass_60 rfl (lv_at hl 1 rfl) ?_
          refine lv_iadd X.ex X.co dX10_pass_61 ?_
          refine m_putV X hK F hS 1 (by decide) rfl rfl (v := ((dayV σ) + d)) m_1352 rfl rfl (by decide) dX10_pass_62 (fun H locs F hS => ?_)
          refine lv_aload_n X.ex X.co dX10_pass_65 rfl (lv_at hl 0 rfl) ?_
          refine m_getV X hK F 1 (by decide) rfl rfl (x := ((dayV σ) + d)) rfl m_1352 rfl dX10_pass_66 ?_
          exact c_i X hS rfl rfl (by have q : fPass σ d = (((dayV σ) + d), (sV σ 1 0 ((dayV σ) + d))) := (by simp only [fPass, c_1]; simp [err, *]); unfold eB; rw [q]; exact ⟨rfl, F⟩) (by omega) (by omega) dX10_pass_69
        · exact absurd (by decide) c_4
      · refine lv_iconst (v := 1) X.ex X.co dX10_pass_41 (by decide) ?_
        refine lv_goto (tgt := 46) X.ex X.co dX10_pass_42 (by decide) ?_
        refine lv_iconst (v := 2) X.ex X.co dX10_pass_46 (by decide) ?_
        refine q_eV X ce_X10_fails m_1497 (c_X10_fails l G mad A hAg σ h0 true 2 (by decide) (by decide)) (g0.step hS hAg) F (mo F) rfl (by decide) rfl hl.1 rfl (Nat.le_of_ble_eq_true rfl) dX10_pass_47 (by omega) (by omega) hS (fun _ h => h) (fun H locs F hz hk hS => ?_)
        have F : mw G mad A (sN σ 0 0 2) H := F
        refine lv_if_eq (tgt := 55) X.ex X.co dX10_pass_50 (by decide) (fun c_5 => ?_) (fun c_5 => ?_)
        · exact absurd c_5 (by decide)
        · refine lv_iconst (v := 0) X.ex X.co dX10_pass_53 (by decide) ?_
          exact c_i X hS rfl rfl (by have q : fPass σ d = (0, (sN σ 0 0 2)) := (by simp only [fPass, c_1]; simp [err, *]); unfold eB; rw [q]; exact ⟨rfl, F⟩) (by omega) (by omega) dX10_pass_54
  · refine lv_iconst (v := 1) X.ex X.co dX10_pass_16 (by decide) ?_
    refine lv_goto (tgt := 21) X.ex X.co dX10_pass_17 (by decide) ?_
    refine lv_iconst (v := 1) X.ex X.co dX10_pass_21 (by decide) ?_
    refine q_eV X ce_X10_fails m_1497 (c_X10_fails l G mad A hAg σ h0 true 1 (by decide) (by decide)) (g0.step hS hAg) F (mo F) rfl (by decide) rfl hl.1 rfl (Nat.le_of_ble_eq_true rfl) dX10_pass_22 (by omega) (by omega) hS (fun _ h => h) (fun H locs F hz hk hS => ?_)
    have F : mw G mad A (sN σ 0 0 1) H := F
    refine lv_if_ne (tgt := 53) X.ex X.co dX10_pass_25 (by decide) (fun c_6 => ?_) (fun c_6 => ?_)
    · refine lv_iconst (v := 0) X.ex X.co dX10_pass_53 (by decide) ?_
      exact c_i X hS rfl rfl (by have q : fPass σ d = (0, (sN σ 0 0 1)) := (by simp only [fPass, c_1]; simp [err, *]); unfold eB; rw [q]; exact ⟨rfl, F⟩) (by omega) (by omega) dX10_pass_54
    · exact absurd c_6 (by decide)
set_option maxHeartbeats 4000000 in
set_option maxRecDepth 100000 in
theorem c_X10_openLessons (l : Launch) (G : GT) (mad : I2 → Nat) (A : Nat → Prop) (hAg : ∀ q, A q → gA G q) (τ σ : Sg) (hσ : σ = sN τ 0 0 0) (hI : MI σ) (v : Int32) : cM l yX10_openLessons cX10_openLessons 4 ((Option.some FieldType.int)) 7 0 0 G [.ref (mad (0, 0)), .int v] (mw G mad A τ) (eB (some (.int (fOpenLessons σ v).1)) (mw G mad A (fOpenLessons σ v).2)) A := by
  refine mk_m (by decide) (Nat.le_of_ble_eq_true rfl) ?_
  intro p e s m args below meth c X ls hl g0 F hnm
  have hK := g0.1
  have hS : va_S A s.heap s.heap [] := va_S.rf
  have hI0 := hI.1
  obtain ⟨b1, b2, b3, b4, b5, b6, b7⟩ := hI0.1
  obtain ⟨b8, b9, b10⟩ := hI.2.1
  have hapb := hI.apb
  have h0 : σ.1 0 0 = 0 := by rw [hσ]; simp [sN]
  have hl : lv_has ls 4 [(0, .ref (mad (0, 0))), (1, .int v)] := hl
  show Wc p l e 7 0 0 s m args below meth c (eB (some (.int (fOpenLessons σ v).1)) (mw G mad A (fOpenLessons σ v).2)) A s.heap [] 0 0 0 ls []
  refine lv_aload_n X.ex X.co dX10_openLessons_0 rfl (lv_at hl 0 rfl) ?_
  refine lv_iconst (v := 0) X.ex X.co dX10_openLessons_1 (by decide) ?_
  refine m_putN X hK F hS 0 (by decide) rfl rfl (v := 0) m_1351 rfl rfl (by decide) dX10_openLessons_2 (fun H locs F hS => ?_)
  rw [← hσ] at F
  clear hσ
  refine lv_aload_n X.ex X.co dX10_openLessons_5 rfl (lv_at hl 0 rfl) ?_
  refine lv_aload_n X.ex X.co dX10_openLessons_6 rfl (lv_at hl 0 rfl) ?_
  refine lv_iload_n X.ex X.co dX10_openLessons_7 rfl (lv_at hl 1 rfl) ?_
  refine q_rV X ce_X10_noStudent m_1540 (c_X10_noStudent l G mad A σ hI0 v) (g0.step hS hAg) F (mo F) rfl (by decide) rfl hl.1 rfl (Nat.le_of_ble_eq_true rfl) dX10_openLessons_8 (by omega) (by omega) ?_
  refine lv_iconst (v := 1) X.ex X.co dX10_openLessons_11 (by decide) ?_
  rcases hb_1 : !(okP v (nSt σ)) with _ | _
  · have hc_2 : (okP v (nSt σ)) = true := by simpa using hb_1
    have ok_v : okP v (nSt σ) = true := by simpa using hb_1
    obtain ⟨j_v, hj_v, rfl⟩ := (okP_ix (by omega)).mp ok_v
    have ex_v := ix_nI (j := j_v) (by omega)
    refine q_eV X ce_X10_fails m_1497 (c_X10_fails l G mad A hAg σ h0 false 1 (by decide) (by decide)) (g0.step hS hAg) F (mo F) rfl (by decide) rfl hl.1 rfl (Nat.le_of_ble_eq_true rfl) dX10_openLessons_12 (by omega) (by omega) hS (fun _ h => h) (fun H locs F hz hk hS => ?_)
    have F : mw G mad A σ H := F
    refine lv_if_eq (tgt := 20) X.ex X.co dX10_openLessons_15 (by decide) (fun c_3 => ?_) (fun c_3 => ?_)
    · refine lv_iconst (v := 0) X.ex X.co dX10_openLessons_20 (by decide) ?_
      refine lv_istore_n (lv' := [(2, .int 0), (0, .ref (mad (0, 0))), (1, .int (nI j_v))]) X.ex X.co dX10_openLessons_21 rfl hl (by decide) rfl (fun ls hl => ?_)
      refine lv_iconst (v := 0) X.ex X.co dX10_openLessons_22 (by decide) ?_
      refine lv_istore_n (lv' := [(3, .int 0), (2, .int 0), (0, .ref (mad (0, 0))), (1, .int (nI j_v))]) X.ex X.co dX10_openLessons_23 rfl hl (by decide) rfl (fun ls hl => ?_)
      have loop_5 : ∀ (fu_4 i : Nat), i ≤ nLe σ → nLe σ < i + fu_4 → ∀ ls : Array Slot, lv_has ls 4 [(3, .int (nI i)), (2, .int (nI (opnS σ j_v i))), (0, .ref (mad (0, 0))), (1, .int (nI j_v))] → Wc p l e 7 0 0 s m args below meth c (eB (some (.int (fOpenLessons σ (nI j_v)).1)) (mw G mad A (fOpenLessons σ (nI j_v)).2)) A H locs 0 0 24 ls [] := by
        intro fu_4
        induction fu_4 with
        | zero => intro i h_7 h_8; exact absurd h_8 (by omega)
        | succ fu_4 ih_6 =>
          intro i h_7 h_8 ls hl
          have ho := opnS_b σ j_v i
          refine lv_iload_n X.ex X.co dX10_openLessons_24 rfl (lv_at hl 0 rfl) ?_
          refine lv_aload_n X.ex X.co dX10_openLessons_25 rfl (lv_at hl 2 rfl) ?_
          refine m_getN X hK F 7 (by decide) rfl rfl (x := nLe σ) rfl m_1358 rfl dX10_openLessons_26 ?_
          refine n_cmp_ge X (x := i) (y := nLe σ) (tgt := 55) (by omega) (by omega) dX10_openLessons_29 (by decide) (fun c_9 => ?_) (fun c_9 => ?_)
          · have hq_10 : i = nLe σ := by omega
            rw [hq_10] at hl
            refine lv_iload_n X.ex X.co dX10_openLessons_55 rfl (lv_at hl 1 rfl) ?_
            exact c_i X hS rfl rfl (by have q : fOpenLessons σ (nI j_v) = (nI (opnS σ j_v (nLe σ)), σ) := (by simp only [fOpenLessons, hc_2, ok_v]; simp [err, *]); unfold eB; rw [q]; exact ⟨rfl, F⟩) (by omega) (by omega) dX10_openLessons_56
          · refine lv_iload_n X.ex X.co dX10_openLessons_32 rfl (lv_at hl 1 rfl) ?_
            refine lv_aload_n X.ex X.co dX10_openLessons_33 rfl (lv_at hl 2 rfl) ?_
            refine lv_iload_n X.ex X.co dX10_openLessons_34 rfl (lv_at hl 3 rfl) ?_
            refine lv_iload_n X.ex X.co dX10_openLessons_35 rfl (lv_at hl 0 rfl) ?_
            refine q_rV X ce_X10_isOpen m_1544 (c_X10_isOpen l G mad A σ hI0 j_v i (by omega) (by omega)) (g0.step hS hAg) F (mo F) rfl (by decide) rfl hl.1 rfl (Nat.le_of_ble_eq_true rfl) dX10_openLessons_36 (by omega) (by omega) ?_
            refine b_if_eq X (x := openS σ j_v i i) (tgt := 46) dX10_openLessons_39 (by decide) (fun c_11 => ?_) (fun c_11 => ?_)
            · refine lv_iconst (v := 0) X.ex X.co dX10_openLessons_46 (by decide) ?_
              refine n_add X (x := opnS σ j_v i) (y := 0) dX10_openLessons_47 ?_
              refine lv_istore_n (lv' := [(2, .int (nI ((opnS σ j_v i) + 0))), (3, .int (nI i)), (0, .ref (mad (0, 0))), (1, .int (nI j_v))]) X.ex X.co dX10_openLessons_48 rfl hl (by decide) rfl (fun ls hl => ?_)
              refine lv_iinc (v := nI (i + 1)) (lv' := [(3, .int (nI (i + 1))), (2, .int (nI ((opnS σ j_v i) + 0))), (0, .ref (mad (0, 0))), (1, .int (nI j_v))]) X.ex X.co dX10_openLessons_49 hl (k := 1) rfl (n_inc _) (by decide) rfl (fun ls hl => ?_)
              refine lv_goto (tgt := 24) X.ex X.co dX10_openLessons_52 (by decide) ?_
              have q_12 : nI (opnS σ j_v (i + 1)) = nI ((opnS σ j_v i) + 0) := by first | rfl | simp [opnS, *]
              exact ih_6 (i + 1) (by omega) (by omega) ls (lv_sub hl [0, 1, 2, 3] (by first | rfl | (rw [q_12] <;> rfl)))
            · refine lv_iconst (v := 1) X.ex X.co dX10_openLessons_42 (by decide) ?_
              refine lv_goto (tgt := 47) X.ex X.co dX10_openLessons_43 (by decide) ?_
              refine n_add X (x := opnS σ j_v i) (y := 1) dX10_openLessons_47 ?_
              refine lv_istore_n (lv' := [(2, .int (nI ((opnS σ j_v i) + 1))), (3, .int (nI i)), (0, .ref (mad (0, 0))), (1, .int (nI j_v))]) X.ex X.co dX10_openLessons_48 rfl hl (by decide) rfl (fun ls hl => ?_)
              refine lv_iinc (v := nI (i + 1)) (lv' := [(3, .int (nI (i + 1))), (2, .int (nI ((opnS σ j_v i) + 1))), (0, .ref (mad (0, 0))), (1, .int (nI j_v))]) X.ex X.co dX10_openLessons_49 hl (k := 1) rfl (n_inc _) (by decide) rfl (fun ls hl => ?_)
              refine lv_goto (tgt := 24) X.ex X.co dX10_openLessons_52 (by decide) ?_
              have q_13 : nI (opnS σ j_v (i + 1)) = nI ((opnS σ j_v i) + 1) := by first | rfl | simp [opnS, *]
              exact ih_6 (i + 1) (by omega) (by omega) ls (lv_sub hl [0, 1, 2, 3] (by first | rfl | (rw [q_13] <;> rfl)))
      exact loop_5 (nLe σ + 1) 0 (by omega) (by omega) ls (lv_sub hl [0, 1, 2, 3] rfl)
    · exact absurd (by decide) c_3
  · have hc_14 : (okP v (nSt σ)) = false := by simpa using hb_1
    refine q_eV X ce_X10_fails m_1497 (c_X10_fails l G mad A hAg σ h0 true 1 (by decide) (by decide)) (g0.step hS hAg) F (mo F) rfl (by decide) rfl hl.1 rfl (Nat.le_of_ble_eq_true rfl) dX10_openLessons_12 (by omega) (by omega) hS (fun _ h => h) (fun H locs F hz hk hS => ?_)
    have F : mw G mad A (sN σ 0 0 1) H := F
    refine lv_if_eq (tgt := 20) X.ex X.co dX10_openLessons_15 (by decide) (fun c_15 => ?_) (fun c_15 => ?_)
    · exact absurd c_15 (by decide)
    · refine lv_iconst (v := 0) X.ex X.co dX10_openLessons_18 (by decide) ?_
      exact c_i X hS rfl rfl (by have q : fOpenLessons σ v = (0, (sN σ 0 0 1)) := (by simp only [fOpenLessons, hc_14]; simp [err, *]); unfold eB; rw [q]; exact ⟨rfl, F⟩) (by omega) (by omega) dX10_openLessons_19
set_option maxHeartbeats 4000000 in
set_option maxRecDepth 100000 in
theorem c_X10_withdraw (l : Launch) (G : GT) (mad : I2 → Nat) (A : Nat → Prop) (hAg : ∀ q, A q → gA G q) (τ σ : Sg) (hσ : σ = sN τ 0 0 0) (hI : MI σ) (v : Int32) : cM l yX10_withdraw cX10_withdraw 2 ((Option.some FieldType.int)) 2 0 0 G [.ref (mad (0, 0)), .int v] (mw G mad A τ) (eB (some (.int (fWithdraw σ v).1)) (mw G mad A (fWithdraw σ v).2)) A := by
  refine mk_m (by decide) (Nat.le_of_ble_eq_true rfl) ?_
  intro p e s m args below meth c X ls hl g0 F hnm
  have hK := g0.1
  have hS : va_S A s.heap s.heap [] := va_S.rf
  have hI0 := hI.1
  obtain ⟨b1, b2, b3, b4, b5, b6, b7⟩ := hI0.1
  obtain ⟨b8, b9, b10⟩ := hI.2.1
  have hapb := hI.apb
  have h0 : σ.1 0 0 = 0 := by rw [hσ]; simp [sN]
  have hl : lv_has ls 2 [(0, .ref (mad (0, 0))), (1, .int v)] := hl
  show Wc p l e 2 0 0 s m args below meth c (eB (some (.int (fWithdraw σ v).1)) (mw G mad A (fWithdraw σ v).2)) A s.heap [] 0 0 0 ls []
  refine lv_aload_n X.ex X.co dX10_withdraw_0 rfl (lv_at hl 0 rfl) ?_
  refine lv_iconst (v := 0) X.ex X.co dX10_withdraw_1 (by decide) ?_
  refine m_putN X hK F hS 0 (by decide) rfl rfl (v := 0) m_1351 rfl rfl (by decide) dX10_withdraw_2 (fun H locs F hS => ?_)
  rw [← hσ] at F
  clear hσ
  refine lv_aload_n X.ex X.co dX10_withdraw_5 rfl (lv_at hl 0 rfl) ?_
  refine lv_aload_n X.ex X.co dX10_withdraw_6 rfl (lv_at hl 0 rfl) ?_
  refine lv_iload_n X.ex X.co dX10_withdraw_7 rfl (lv_at hl 1 rfl) ?_
  refine q_rV X ce_X10_noAnswer m_1592 (c_X10_noAnswer l G mad A σ hI0 v) (g0.step hS hAg) F (mo F) rfl (by decide) rfl hl.1 rfl (Nat.le_of_ble_eq_true rfl) dX10_withdraw_8 (by omega) (by omega) ?_
  refine lv_iconst (v := 1) X.ex X.co dX10_withdraw_11 (by decide) ?_
  rcases hb_1 : !(okP v (nAn σ)) with _ | _
  · have hc_2 : (okP v (nAn σ)) = true := by simpa using hb_1
    have ok_v : okP v (nAn σ) = true := by simpa using hb_1
    obtain ⟨j_v, hj_v, rfl⟩ := (okP_ix (by omega)).mp ok_v
    have ex_v := ix_nI (j := j_v) (by omega)
    refine q_eV X ce_X10_fails m_1497 (c_X10_fails l G mad A hAg σ h0 false 1 (by decide) (by decide)) (g0.step hS hAg) F (mo F) rfl (by decide) rfl hl.1 rfl (Nat.le_of_ble_eq_true rfl) dX10_withdraw_12 (by omega) (by omega) hS (fun _ h => h) (fun H locs F hz hk hS => ?_)
    have F : mw G mad A σ H := F
    refine lv_if_ne (tgt := 39) X.ex X.co dX10_withdraw_15 (by decide) (fun c_3 => ?_) (fun c_3 => ?_)
    · exact absurd (by decide) c_3
    · refine lv_aload_n X.ex X.co dX10_withdraw_18 rfl (lv_at hl 0 rfl) ?_
      refine lv_aload_n X.ex X.co dX10_withdraw_19 rfl (lv_at hl 0 rfl) ?_
      refine lv_iload_n X.ex X.co dX10_withdraw_20 rfl (lv_at hl 1 rfl) ?_
      refine q_rV X ce_X10_isWaiting m_1630 (c_X10_isWaiting l G mad A σ hI0 j_v (by omega) (by omega) hapb) (g0.step hS hAg) F (mo F) rfl (by decide) rfl hl.1 rfl (Nat.le_of_ble_eq_true rfl) dX10_withdraw_21 (by omega) (by omega) ?_
      refine b_if_ne X (x := waitS σ j_v (nAp σ)) (tgt := 31) dX10_withdraw_24 (by decide) (fun c_4 => ?_) (fun c_4 => ?_)
      · refine lv_iconst (v := 0) X.ex X.co dX10_withdraw_31 (by decide) ?_
        refine lv_iconst (v := 2) X.ex X.co dX10_withdraw_32 (by decide) ?_
        refine q_eV X ce_X10_fails m_1497 (c_X10_fails l G mad A hAg σ h0 false 2 (by decide) (by decide)) (g0.step hS hAg) F (mo F) rfl (by decide) rfl hl.1 rfl (Nat.le_of_ble_eq_true rfl) dX10_withdraw_33 (by omega) (by omega) hS (fun _ h => h) (fun H locs F hz hk hS => ?_)
        have F : mw G mad A σ H := F
        refine lv_if_eq (tgt := 41) X.ex X.co dX10_withdraw_36 (by decide) (fun c_5 => ?_) (fun c_5 => ?_)
        · refine lv_aload_n X.ex X.co dX10_withdraw_41 rfl (lv_at hl 0 rfl) ?_
          refine lv_iload_n X.ex X.co dX10_withdraw_42 rfl (lv_at hl 1 rfl) ?_
          refine q_vV X ce_X10_drop m_1638 (c_X10_drop l G mad A hAg σ (by omega) hapb j_v (by omega)) (g0.step hS hAg) F (mo F) rfl (by decide) rfl hl.1 rfl (Nat.le_of_ble_eq_true rfl) dX10_withdraw_43 (by omega) (by omega) hS (fun _ h => h) (fun H locs F hz hk hS => ?_)
          refine lv_aload_n X.ex X.co dX10_withdraw_46 rfl (lv_at hl 0 rfl) ?_
          refine m_getN X hK F 27 (by decide) rfl rfl (x := nAp (dropS σ j_v)) rfl m_1378 rfl dX10_withdraw_47 ?_
          exact c_i X hS rfl rfl (by have q : fWithdraw σ (nI j_v) = (nI (nAp (dropS σ j_v)), (dropS σ j_v)) := (by simp only [fWithdraw, hc_2, c_4, ok_v]; simp [err, *]); unfold eB; rw [q]; exact ⟨rfl, F⟩) (by omega) (by omega) dX10_withdraw_50
        · exact absurd (by decide) c_5
      · refine lv_iconst (v := 1) X.ex X.co dX10_withdraw_27 (by decide) ?_
        refine lv_goto (tgt := 32) X.ex X.co dX10_withdraw_28 (by decide) ?_
        refine lv_iconst (v := 2) X.ex X.co dX10_withdraw_32 (by decide) ?_
        refine q_eV X ce_X10_fails m_1497 (c_X10_fails l G mad A hAg σ h0 true 2 (by decide) (by decide)) (g0.step hS hAg) F (mo F) rfl (by decide) rfl hl.1 rfl (Nat.le_of_ble_eq_true rfl) dX10_withdraw_33 (by omega) (by omega) hS (fun _ h => h) (fun H locs F hz hk hS => ?_)
        have F : mw G mad A (sN σ 0 0 2) H := F
        refine lv_if_eq (tgt := 41) X.ex X.co dX10_withdraw_36 (by decide) (fun c_6 => ?_) (fun c_6 => ?_)
        · exact absurd c_6 (by decide)
        · refine lv_iconst (v := 0) X.ex X.co dX10_withdraw_39 (by decide) ?_
          exact c_i X hS rfl rfl (by have q : fWithdraw σ (nI j_v) = (0, (sN σ 0 0 2)) := (by simp only [fWithdraw, hc_2, c_4, ok_v]; simp [err, *]); unfold eB; rw [q]; exact ⟨rfl, F⟩) (by omega) (by omega) dX10_withdraw_40
  · have hc_7 : (okP v (nAn σ)) = false := by simpa using hb_1
    refine q_eV X ce_X10_fails m_1497 (c_X10_fails l G mad A hAg σ h0 true 1 (by decide) (by decide)) (g0.step hS hAg) F (mo F) rfl (by decide) rfl hl.1 rfl (Nat.le_of_ble_eq_true rfl) dX10_withdraw_12 (by omega) (by omega) hS (fun _ h => h) (fun H locs F hz hk hS => ?_)
    have F : mw G mad A (sN σ 0 0 1) H := F
    refine lv_if_ne (tgt := 39) X.ex X.co dX10_withdraw_15 (by decide) (fun c_8 => ?_) (fun c_8 => ?_)
    · refine lv_iconst (v := 0) X.ex X.co dX10_withdraw_39 (by decide) ?_
      exact c_i X hS rfl rfl (by have q : fWithdraw σ v = (0, (sN σ 0 0 1)) := (by simp only [fWithdraw, hc_7]; simp [err, *]); unfold eB; rw [q]; exact ⟨rfl, F⟩) (by omega) (by omega) dX10_withdraw_40
    · exact absurd c_8 (by decide)
