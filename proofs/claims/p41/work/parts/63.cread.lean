theorem ce_X7_valueFor : ceV yX7_valueFor cX7_valueFor 2 ((Option.some FieldType.int)) 1 := ⟨m_197, m_198, m_27, m_199, ⟨by decide, by decide, by decide +kernel⟩, by decide⟩
theorem ce_X4_creditFor : ceV yX4_creditFor cX4_creditFor 5 ((Option.some FieldType.int)) 2 := ⟨m_193, m_194, m_26, m_195, ⟨by decide, by decide, by decide +kernel⟩, by decide⟩
theorem ce_X0_gradeByRule : ceV yX0_gradeByRule cX0_gradeByRule 3 ((Option.some FieldType.int)) 0 := ⟨m_189, m_190, m_30, m_191, ⟨by decide, by decide, by decide +kernel⟩, by decide⟩
theorem ce_X0_worth : ceV yX0_worth cX0_worth 3 ((Option.some FieldType.int)) 2 := ⟨m_247, m_248, m_30, m_249, ⟨by decide, by decide, by decide +kernel⟩, by decide⟩
theorem ce_X4_bestOf : ceV yX4_bestOf cX4_bestOf 8 ((Option.some (FieldType.object "CourseForge$Answer"))) 2 := ⟨m_240, m_241, m_26, m_242, ⟨by decide, by decide, by decide +kernel⟩, by decide⟩
theorem ce_X5_masteryAt : ceV yX5_masteryAt cX5_masteryAt 8 ((Option.some FieldType.int)) 2 := ⟨m_233, m_234, m_25, m_235, ⟨by decide, by decide, by decide +kernel⟩, by decide⟩
theorem ce_X9_isWithin : ceS yX9_isWithin cX9_isWithin 3 ((Option.some FieldType.boolean)) 3 := ⟨m_514, m_1, m_515, ⟨by decide, by decide, by decide +kernel⟩, by decide⟩
theorem ce_X9_hasLesson : ceS yX9_hasLesson cX9_hasLesson 2 ((Option.some FieldType.boolean)) 2 := ⟨m_669, m_1, m_670, ⟨by decide, by decide, by decide +kernel⟩, by decide⟩
theorem ce_X9_areLessons : ceV yX9_areLessons cX9_areLessons 2 ((Option.some FieldType.boolean)) 1 := ⟨m_510, mp_8, m_1, m_511, ⟨by decide, by decide, by decide +kernel⟩, by decide⟩
theorem ce_X9_isOpen : ceV yX9_isOpen cX9_isOpen 4 ((Option.some FieldType.boolean)) 3 := ⟨m_662, mp_12, m_1, m_663, ⟨by decide, by decide, by decide +kernel⟩, by decide⟩
theorem ce_X9_hasMastery : ceV yX9_hasMastery cX9_hasMastery 6 ((Option.some FieldType.boolean)) 4 := ⟨m_666, mp_13, m_1, m_667, ⟨by decide, by decide, by decide +kernel⟩, by decide⟩
theorem ce_X9_bestWorthByRules : ceV yX9_bestWorthByRules cX9_bestWorthByRules 6 ((Option.some FieldType.int)) 2 := ⟨m_261, mp_3, m_1, m_262, ⟨by decide, by decide, by decide +kernel⟩, by decide⟩
theorem ce_X9_masteryByRules : ceV yX9_masteryByRules cX9_masteryByRules 6 ((Option.some FieldType.int)) 2 := ⟨m_256, mp_2, m_1, m_257, ⟨by decide, by decide, by decide +kernel⟩, by decide⟩
theorem ce_X9_standingCertificate : ceV yX9_standingCertificate cX9_standingCertificate 5 ((Option.some (FieldType.object "CourseForge$Certificate"))) 2 := ⟨m_1170, mp_24, m_1, m_1171, ⟨by decide, by decide, by decide +kernel⟩, by decide⟩
theorem ce_X9_countStanding : ceV yX9_countStanding cX9_countStanding 3 ((Option.some FieldType.int)) 0 := ⟨m_162, mp_0, m_1, m_163, ⟨by decide, by decide, by decide +kernel⟩, by decide⟩
set_option maxHeartbeats 4000000 in
set_option maxRecDepth 100000 in
theorem c_X7_valueFor (l : Launch) (G : GT) (r : Nat) (f a x : Int32) : rM l yX7_valueFor cX7_valueFor 2 ((Option.some FieldType.int)) 0 G [.ref r, .int x] (fun H => va_at G.1 vwCl (r, eRu f a) H) (some (.int (f * x + a))) := by
  refine mk_m (by decide) (Nat.le_of_ble_eq_true rfl) ?_
  intro p e s m args below meth c X ls hl g0 F hnm
  have hK := g0.1
  have hl : lv_has ls 2 [(0, .ref r), (1, .int x)] := hl
  show Wr p l e 0 s m args below meth c (some (.int (f * x + a))) 0 ls []
  refine lv_aload_n X.ex X.co dX7_valueFor_0 rfl (lv_at hl 0 rfl) ?_
  refine f_get X hK F okX7 rfl 0 (by decide) m_566 (fun _ h => h) (v := .int f) rfl dX7_valueFor_1 ?_
  refine lv_iload_n X.ex X.co dX7_valueFor_4 rfl (lv_at hl 1 rfl) ?_
  refine lv_imul X.ex X.co dX7_valueFor_5 ?_
  refine lv_aload_n X.ex X.co dX7_valueFor_6 rfl (lv_at hl 0 rfl) ?_
  refine f_get X hK F okX7 rfl 1 (by decide) m_568 (fun _ h => h) (v := .int a) rfl dX7_valueFor_7 ?_
  refine lv_iadd X.ex X.co dX7_valueFor_10 ?_
  exact r_i X rfl rfl rfl dX7_valueFor_11
def exC (G : GT) (ad : I2 → Nat) (σ : Sg) (ex : Nat) (H : Heap) : Prop := va_at G.1 vwCl (ad (6, ex), eEx ad σ ex) H ∧ va_at G.1 vwCl (ad (11, ex), eRu (σ.2 13 ex) (σ.2 14 ex)) H ∧ va_at G.1 vwCl (ad (13, ex), .inl (G.2.1 0, 6, .inl (inpF σ ex))) H ∧ va_at G.1 vwCl (ad (14, ex), .inl (G.2.1 0, 6, .inl (weiF σ ex))) H
theorem cw_exC {G : GT} {g : CG} {A : Nat → Prop} {ad : I2 → Nat} {σ : Sg} {L : Nat → List I2} {H : Heap} (F : cwL G g A ad σ L H) {i : Nat} (h : i < nEx σ) : exC G ad σ i H := ⟨cw_ex F h, cw_re F h, cw_in F h, cw_we F h⟩
set_option maxHeartbeats 4000000 in
set_option maxRecDepth 100000 in
theorem c_X4_creditFor (l : Launch) (G : GT) (ad : I2 → Nat) (σ : Sg) (r ex k : Nat) (f a : Int32) (hk : k < cas σ ex) (hcs : cas σ ex ≤ 6) : rM l yX4_creditFor cX4_creditFor 5 ((Option.some FieldType.int)) 1 G [.ref (ad (6, ex)), .ref r, .int (nI k)] (fun H => exC G ad σ ex H ∧ va_at G.1 vwCl (r, eRu f a) H) (some (.int (credR σ f a ex k))) := by
  refine mk_m (by decide) (Nat.le_of_ble_eq_true rfl) ?_
  intro p e s m args below meth c X ls hl g0 F hnm
  have hK := g0.1
  obtain ⟨⟨hx6, hx11, hx13, hx14⟩, hr⟩ := F
  have hl : lv_has ls 5 [(0, .ref (ad (6, ex))), (1, .ref r), (2, .int (nI k))] := hl
  show Wr p l e 1 s m args below meth c (some (.int (credR σ f a ex k))) 0 ls []
  refine lv_iload_n X.ex X.co dX4_creditFor_0 rfl (lv_at hl 2 rfl) ?_
  refine n_if_lt X (x := k) (tgt := 12) (by omega) dX4_creditFor_1 (by decide) (fun c_1 => ?_) (fun c_1 => ?_)
  · exact c_1.elim
  · refine lv_iload_n X.ex X.co dX4_creditFor_4 rfl (lv_at hl 2 rfl) ?_
    refine lv_aload_n X.ex X.co dX4_creditFor_5 rfl (lv_at hl 0 rfl) ?_
    refine f_get X hK hx6 okX4 rfl 7 (by decide) m_594 (fun _ h => h) (v := .int (nI (cas σ ex))) rfl dX4_creditFor_6 ?_
    refine n_cmp_lt X (x := k) (y := cas σ ex) (tgt := 14) (by omega) (by omega) dX4_creditFor_9 (by decide) (fun c_2 => ?_) (fun c_2 => ?_)
    · refine lv_aload_n X.ex X.co dX4_creditFor_14 rfl (lv_at hl 0 rfl) ?_
      refine f_get X hK hx6 okX4 rfl 6 (by decide) m_592 (fun _ h => h) (v := .ref (ad (11, ex))) rfl dX4_creditFor_15 ?_
      refine lv_aload_n X.ex X.co dX4_creditFor_18 rfl (lv_at hl 0 rfl) ?_
      refine f_get X hK hx6 okX4 rfl 3 (by decide) m_588 (fun _ h => h) (v := .ref (ad (13, ex))) rfl dX4_creditFor_19 ?_
      refine lv_iload_n X.ex X.co dX4_creditFor_22 rfl (lv_at hl 2 rfl) ?_
      refine f_iald X hK hx13 (x := nI k) (vp_in_nI (show k < 6 by omega) (by omega)) dX4_creditFor_23 ?_
      rw [nI_clamp (show k < 2 ^ 31 by omega), inpF_in (show k < cas σ ex by omega)]
      refine q_rV X ce_X7_valueFor m_196 (c_X7_valueFor l G (ad (11, ex)) (σ.2 13 ex) (σ.2 14 ex) (σ.2 17 (6 * ex + k))) g0 hx11 hx11 rfl (by decide) rfl hl.1 rfl (Nat.le_of_ble_eq_true rfl) dX4_creditFor_24 (by omega) (by omega) ?_
      refine lv_aload_n X.ex X.co dX4_creditFor_27 rfl (lv_at hl 1 rfl) ?_
      refine lv_aload_n X.ex X.co dX4_creditFor_28 rfl (lv_at hl 0 rfl) ?_
      refine f_get X hK hx6 okX4 rfl 3 (by decide) m_588 (fun _ h => h) (v := .ref (ad (13, ex))) rfl dX4_creditFor_29 ?_
      refine lv_iload_n X.ex X.co dX4_creditFor_32 rfl (lv_at hl 2 rfl) ?_
      refine f_iald X hK hx13 (x := nI k) (vp_in_nI (show k < 6 by omega) (by omega)) dX4_creditFor_33 ?_
      rw [nI_clamp (show k < 2 ^ 31 by omega), inpF_in (show k < cas σ ex by omega)]
      refine q_rV X ce_X7_valueFor m_196 (c_X7_valueFor l G r f a (σ.2 17 (6 * ex + k))) g0 hr hr rfl (by decide) rfl hl.1 rfl (Nat.le_of_ble_eq_true rfl) dX4_creditFor_34 (by omega) (by omega) ?_
      refine lv_isub X.ex X.co dX4_creditFor_37 ?_
      refine f_abs X hl.1 m_200 (Nat.le_of_ble_eq_true rfl) (Nat.le_of_ble_eq_true rfl) (by show _ ≤ 0; omega) (by show _ ≤ 0; omega) dX4_creditFor_38 ?_
      refine top_eq (y := gapS σ f a ex k) (gap_R σ f a ex k) ?_
      refine lv_istore_n (lv' := [(3, .int (gapS σ f a ex k)), (0, .ref (ad (6, ex))), (1, .ref r), (2, .int (nI k))]) X.ex X.co dX4_creditFor_41 rfl hl (by decide) rfl (fun ls hl => ?_)
      refine lv_aload_n X.ex X.co dX4_creditFor_42 rfl (lv_at hl 1 rfl) ?_
      refine f_get X hK hx6 okX4 rfl 4 (by decide) m_589 (fun _ h => h) (v := .ref (ad (14, ex))) rfl dX4_creditFor_43 ?_
      refine lv_iload_n X.ex X.co dX4_creditFor_46 rfl (lv_at hl 3 rfl) ?_
      refine f_iald X hK hx14 (x := nI k) (vp_in_nI (show k < 6 by omega) (by omega)) dX4_creditFor_47 ?_
      rw [nI_clamp (show k < 2 ^ 31 by omega), weiF_in (show k < cas σ ex by omega)]
      refine lv_istore (lv' := [(4, .int (nI (wei σ (6 * ex + k)))), (3, .int (gapS σ f a ex k)), (0, .ref (ad (6, ex))), (1, .ref r), (2, .int (nI k))]) X.ex X.co dX4_creditFor_48 hl (by decide) rfl (fun ls hl => ?_)
      refine lv_iload_n X.ex X.co dX4_creditFor_50 rfl (lv_at hl 1 rfl) ?_
      refine lv_if_ne (tgt := 57) X.ex X.co dX4_creditFor_51 (by decide) (fun c_3 => ?_) (fun c_3 => ?_)
      · refine lv_aload_n X.ex X.co dX4_creditFor_57 rfl (lv_at hl 2 rfl) ?_
        refine f_get X hK hx6 okX4 rfl 2 (by decide) m_587 (fun _ h => h) (v := .int (σ.2 15 ex)) rfl dX4_creditFor_58 ?_
        refine lv_iconst (v := 1) X.ex X.co dX4_creditFor_61 (by decide) ?_
        refine lv_icmp_ne (tgt := 75) X.ex X.co dX4_creditFor_62 (by decide) (fun c_4 => ?_) (fun c_4 => ?_)
        · refine lv_aload_n X.ex X.co dX4_creditFor_75 rfl (lv_at hl 2 rfl) ?_
          refine f_get X hK hx6 okX4 rfl 2 (by decide) m_587 (fun _ h => h) (v := .int (σ.2 15 ex)) rfl dX4_creditFor_76 ?_
          refine lv_iconst (v := 2) X.ex X.co dX4_creditFor_79 (by decide) ?_
          refine lv_icmp_ne (tgt := 96) X.ex X.co dX4_creditFor_80 (by decide) (fun c_5 => ?_) (fun c_5 => ?_)
          · refine lv_iconst (v := 0) X.ex X.co dX4_creditFor_96 (by decide) ?_
            exact r_i X rfl rfl (by unfold credR; simp [*]) dX4_creditFor_97
          · refine lv_iload_n X.ex X.co dX4_creditFor_83 rfl (lv_at hl 1 rfl) ?_
            refine lv_bipush (v := 9) X.ex X.co dX4_creditFor_84 (by decide) ?_
            refine lv_icmp_gt (tgt := 96) X.ex X.co dX4_creditFor_86 (by decide) (fun c_6 => ?_) (fun c_6 => ?_)
            · refine lv_iconst (v := 0) X.ex X.co dX4_creditFor_96 (by decide) ?_
              exact r_i X rfl rfl (by unfold credR; simp [*]) dX4_creditFor_97
            · refine lv_iload X.ex X.co dX4_creditFor_89 (lv_at hl 0 rfl) ?_
              refine lv_iconst (v := 2) X.ex X.co dX4_creditFor_91 (by decide) ?_
              refine n_mul X (x := wei σ (6 * ex + k)) (y := 2) dX4_creditFor_92 ?_
              refine top_eq (y := nI (2 * wei σ (6 * ex + k))) (by rw [Nat.mul_comm]) ?_
              refine lv_iconst (v := 3) X.ex X.co dX4_creditFor_93 (by decide) ?_
              refine lv_idiv X.ex X.co dX4_creditFor_94 (by decide) ?_
              exact r_i X rfl rfl (by unfold credR; simp [*]) dX4_creditFor_95
        · refine lv_iload_n X.ex X.co dX4_creditFor_65 rfl (lv_at hl 1 rfl) ?_
          refine lv_iconst (v := 2) X.ex X.co dX4_creditFor_66 (by decide) ?_
          refine lv_icmp_gt (tgt := 75) X.ex X.co dX4_creditFor_67 (by decide) (fun c_7 => ?_) (fun c_7 => ?_)
          · refine lv_aload_n X.ex X.co dX4_creditFor_75 rfl (lv_at hl 2 rfl) ?_
            refine f_get X hK hx6 okX4 rfl 2 (by decide) m_587 (fun _ h => h) (v := .int (σ.2 15 ex)) rfl dX4_creditFor_76 ?_
            refine lv_iconst (v := 2) X.ex X.co dX4_creditFor_79 (by decide) ?_
            refine lv_icmp_ne (tgt := 96) X.ex X.co dX4_creditFor_80 (by decide) (fun c_8 => ?_) (fun c_8 => ?_)
            · refine lv_iconst (v := 0) X.ex X.co dX4_creditFor_96 (by decide) ?_
              exact r_i X rfl rfl (by unfold credR; simp [*]) dX4_creditFor_97
            · exact absurd (c_4.symm.trans c_8) (by decide)
          · refine lv_iload X.ex X.co dX4_creditFor_70 (lv_at hl 0 rfl) ?_
            refine lv_iconst (v := 2) X.ex X.co dX4_creditFor_72 (by decide) ?_
            refine lv_idiv X.ex X.co dX4_creditFor_73 (by decide) ?_
            exact r_i X rfl rfl (by unfold credR; simp [*]) dX4_creditFor_74
      · refine lv_iload X.ex X.co dX4_creditFor_54 (lv_at hl 0 rfl) ?_
        exact r_i X rfl rfl (by unfold credR; simp [*]) dX4_creditFor_56
    · exact absurd hk (by omega)
set_option maxHeartbeats 4000000 in
set_option maxRecDepth 100000 in
theorem c_X0_gradeByRule (l : Launch) (G : GT) (ad : I2 → Nat) (σ : Sg) (b r ex : Nat) (f a q : Int32) (hcs : cas σ ex ≤ 6) (hal : allS σ ex (cas σ ex) < 2 ^ 31) {v0 v1 v4 v5 v7 v8 v9 : Value} : rM l yX0_gradeByRule cX0_gradeByRule 3 ((Option.some FieldType.int)) 2 G [.ref b] (fun H => exC G ad σ ex H ∧ va_at G.1 vwCl (b, .inr (5, [v0, v1, .ref (ad (6, ex)), .ref r, v4, v5, .int q, v7, v8, v9])) H ∧ va_at G.1 vwCl (r, eRu f a) H) (some (.int (gradR σ f a ex q))) := by
  refine mk_m (by decide) (Nat.le_of_ble_eq_true rfl) ?_
  intro p e s m args below meth c X ls hl g0 F hnm
  have hK := g0.1
  obtain ⟨⟨hx6, hx11, hx13, hx14⟩, hb, hr⟩ := F
  have hl : lv_has ls 3 [(0, .ref b)] := hl
  show Wr p l e 2 s m args below meth c (some (.int (gradR σ f a ex q))) 0 ls []
  refine lv_iconst (v := 0) X.ex X.co dX0_gradeByRule_0 (by decide) ?_
  refine lv_istore_n (lv' := [(1, .int 0), (0, .ref b)]) X.ex X.co dX0_gradeByRule_1 rfl hl (by decide) rfl (fun ls hl => ?_)
  refine lv_iconst (v := 0) X.ex X.co dX0_gradeByRule_2 (by decide) ?_
  refine lv_istore_n (lv' := [(2, .int 0), (1, .int 0), (0, .ref b)]) X.ex X.co dX0_gradeByRule_3 rfl hl (by decide) rfl (fun ls hl => ?_)
  have loop_2 : ∀ (fu_1 i : Nat), i ≤ cas σ ex → cas σ ex < i + fu_1 → ∀ ls : Array Slot, lv_has ls 3 [(2, .int (nI i)), (1, .int (sumR σ f a ex i)), (0, .ref b)] → Wr p l e 2 s m args below meth c (some (.int (gradR σ f a ex q))) 4 ls [] := by
    intro fu_1
    induction fu_1 with
    | zero => intro i h_4 h_5; exact absurd h_5 (by omega)
    | succ fu_1 ih_3 =>
      intro i h_4 h_5 ls hl
      refine lv_iload_n X.ex X.co dX0_gradeByRule_4 rfl (lv_at hl 0 rfl) ?_
      refine lv_aload_n X.ex X.co dX0_gradeByRule_5 rfl (lv_at hl 2 rfl) ?_
      refine f_get X hK hb okX0 rfl 2 (by decide) m_718 (fun _ h => h) (v := .ref (ad (6, ex))) rfl dX0_gradeByRule_6 ?_
      refine f_get X hK hx6 okX4 rfl 7 (by decide) m_595 (fun _ h => h) (v := .int (nI (cas σ ex))) rfl dX0_gradeByRule_9 ?_
      refine n_cmp_ge X (x := i) (y := cas σ ex) (tgt := 36) (by omega) (by omega) dX0_gradeByRule_12 (by decide) (fun c_6 => ?_) (fun c_6 => ?_)
      · have hq_7 : i = cas σ ex := by omega
        rw [hq_7] at hl
        refine lv_aload_n X.ex X.co dX0_gradeByRule_36 rfl (lv_at hl 2 rfl) ?_
        refine f_get X hK hb okX0 rfl 2 (by decide) m_718 (fun _ h => h) (v := .ref (ad (6, ex))) rfl dX0_gradeByRule_37 ?_
        refine f_get X hK hx6 okX4 rfl 8 (by decide) m_598 (fun _ h => h) (v := .int (nI (allS σ ex (cas σ ex)))) rfl dX0_gradeByRule_40 ?_
        refine n_if_ne X (x := allS σ ex (cas σ ex)) (tgt := 50) (by omega) dX0_gradeByRule_43 (by decide) (fun c_8 => ?_) (fun c_8 => ?_)
        · refine lv_bipush (v := 100) X.ex X.co dX0_gradeByRule_50 (by decide) ?_
          refine lv_iload_n X.ex X.co dX0_gradeByRule_52 rfl (lv_at hl 1 rfl) ?_
          refine lv_imul X.ex X.co dX0_gradeByRule_53 ?_
          refine lv_aload_n X.ex X.co dX0_gradeByRule_54 rfl (lv_at hl 2 rfl) ?_
          refine f_get X hK hb okX0 rfl 2 (by decide) m_718 (fun _ h => h) (v := .ref (ad (6, ex))) rfl dX0_gradeByRule_55 ?_
          refine f_get X hK hx6 okX4 rfl 8 (by decide) m_598 (fun _ h => h) (v := .int (nI (allS σ ex (cas σ ex)))) rfl dX0_gradeByRule_58 ?_
          refine lv_idiv X.ex X.co dX0_gradeByRule_61 (nI_nz (by omega) (by omega)) ?_
          refine lv_istore_n (lv' := [(2, .int ((100 * (sumR σ f a ex (cas σ ex))) / nI (allS σ ex (cas σ ex)))), (1, .int (sumR σ f a ex (cas σ ex))), (0, .ref b)]) X.ex X.co dX0_gradeByRule_62 rfl hl (by decide) rfl (fun ls hl => ?_)
          refine lv_bipush (v := 100) X.ex X.co dX0_gradeByRule_63 (by decide) ?_
          refine lv_iload_n X.ex X.co dX0_gradeByRule_65 rfl (lv_at hl 0 rfl) ?_
          refine lv_aload_n X.ex X.co dX0_gradeByRule_66 rfl (lv_at hl 2 rfl) ?_
          refine f_get X hK hb okX0 rfl 6 (by decide) m_728 (fun _ h => h) (v := .int q) rfl dX0_gradeByRule_67 ?_
          refine lv_iadd X.ex X.co dX0_gradeByRule_70 ?_
          refine f_min X hl.1 m_203 (Nat.le_of_ble_eq_true rfl) (Nat.le_of_ble_eq_true rfl) (by show _ ≤ 0; omega) (by show _ ≤ 0; omega) dX0_gradeByRule_71 ?_
          exact r_i X rfl rfl (by unfold gradR gradR0; first | rw [if_neg (show ¬ allS σ ex (cas σ ex) = 0 by omega)] | rw [if_pos (show allS σ ex (cas σ ex) = 0 by omega)]) dX0_gradeByRule_74
        · refine lv_iconst (v := 0) X.ex X.co dX0_gradeByRule_46 (by decide) ?_
          refine lv_goto (tgt := 62) X.ex X.co dX0_gradeByRule_47 (by decide) ?_
          refine lv_istore_n (lv' := [(2, .int 0), (1, .int (sumR σ f a ex (cas σ ex))), (0, .ref b)]) X.ex X.co dX0_gradeByRule_62 rfl hl (by decide) rfl (fun ls hl => ?_)
          refine lv_bipush (v := 100) X.ex X.co dX0_gradeByRule_63 (by decide) ?_
          refine lv_iload_n X.ex X.co dX0_gradeByRule_65 rfl (lv_at hl 0 rfl) ?_
          refine lv_aload_n X.ex X.co dX0_gradeByRule_66 rfl (lv_at hl 2 rfl) ?_
          refine f_get X hK hb okX0 rfl 6 (by decide) m_728 (fun _ h => h) (v := .int q) rfl dX0_gradeByRule_67 ?_
          refine lv_iadd X.ex X.co dX0_gradeByRule_70 ?_
          refine f_min X hl.1 m_203 (Nat.le_of_ble_eq_true rfl) (Nat.le_of_ble_eq_true rfl) (by show _ ≤ 0; omega) (by show _ ≤ 0; omega) dX0_gradeByRule_71 ?_
          exact r_i X rfl rfl (by unfold gradR gradR0; first | rw [if_neg (show ¬ allS σ ex (cas σ ex) = 0 by omega)] | rw [if_pos (show allS σ ex (cas σ ex) = 0 by omega)]) dX0_gradeByRule_74
      · refine lv_iload_n X.ex X.co dX0_gradeByRule_15 rfl (lv_at hl 1 rfl) ?_
        refine lv_aload_n X.ex X.co dX0_gradeByRule_16 rfl (lv_at hl 2 rfl) ?_
        refine f_get X hK hb okX0 rfl 2 (by decide) m_718 (fun _ h => h) (v := .ref (ad (6, ex))) rfl dX0_gradeByRule_17 ?_
        refine lv_aload_n X.ex X.co dX0_gradeByRule_20 rfl (lv_at hl 2 rfl) ?_
        refine f_get X hK hb okX0 rfl 3 (by decide) m_720 (fun _ h => h) (v := .ref r) rfl dX0_gradeByRule_21 ?_
        refine lv_iload_n X.ex X.co dX0_gradeByRule_24 rfl (lv_at hl 0 rfl) ?_
        refine q_rV X ce_X4_creditFor m_192 (c_X4_creditFor l G ad σ r ex i f a (by omega) (by omega)) g0 ⟨⟨hx6, hx11, hx13, hx14⟩, hr⟩ hx6 rfl (by decide) rfl hl.1 rfl (Nat.le_of_ble_eq_true rfl) dX0_gradeByRule_25 (by omega) (by omega) ?_
        refine lv_iadd X.ex X.co dX0_gradeByRule_28 ?_
        refine lv_istore_n (lv' := [(1, .int ((sumR σ f a ex i) + (credR σ f a ex i))), (2, .int (nI i)), (0, .ref b)]) X.ex X.co dX0_gradeByRule_29 rfl hl (by decide) rfl (fun ls hl => ?_)
        refine lv_iinc (v := nI (i + 1)) (lv' := [(2, .int (nI (i + 1))), (1, .int ((sumR σ f a ex i) + (credR σ f a ex i))), (0, .ref b)]) X.ex X.co dX0_gradeByRule_30 hl (k := 1) rfl (n_inc _) (by decide) rfl (fun ls hl => ?_)
        refine lv_goto (tgt := 4) X.ex X.co dX0_gradeByRule_33 (by decide) ?_
        have q_9 : (sumR σ f a ex (i + 1)) = ((sumR σ f a ex i) + (credR σ f a ex i)) := by first | rfl | simp [sumR, *]
        exact ih_3 (i + 1) (by omega) (by omega) ls (lv_sub hl [0, 1, 2] (by first | rfl | (rw [q_9] <;> rfl)))
  exact loop_2 (cas σ ex + 1) 0 (by omega) (by omega) ls (lv_sub hl [0, 1, 2] rfl)
set_option maxHeartbeats 4000000 in
set_option maxRecDepth 100000 in
theorem c_X0_worth (l : Launch) (G : GT) (ad : I2 → Nat) (σ : Sg) (b ex : Nat) (gr on dA : Int32) {v0 v1 v3 v5 v6 v7 v8 v9 : Value} : rM l yX0_worth cX0_worth 3 ((Option.some FieldType.int)) 0 G [.ref b, .int gr, .int on] (fun H => va_at G.1 vwCl (b, .inr (5, [v0, v1, .ref (ad (6, ex)), v3, .int dA, v5, v6, v7, v8, v9])) H ∧ va_at G.1 vwCl (ad (6, ex), eEx ad σ ex) H ∧ va_at G.1 vwCl (ad (5, les σ ex), eLe ad σ (les σ ex)) H) (some (.int (worV σ ex dA gr on))) := by
  refine mk_m (by decide) (Nat.le_of_ble_eq_true rfl) ?_
  intro p e s m args below meth c X ls hl g0 F hnm
  have hK := g0.1
  obtain ⟨hb, hx6, hx5⟩ := F
  have hl : lv_has ls 3 [(0, .ref b), (1, .int gr), (2, .int on)] := hl
  show Wr p l e 0 s m args below meth c (some (.int (worV σ ex dA gr on))) 0 ls []
  refine lv_iconst (v := 0) X.ex X.co dX0_worth_0 (by decide) ?_
  refine lv_iload_n X.ex X.co dX0_worth_1 rfl (lv_at hl 1 rfl) ?_
  refine lv_aload_n X.ex X.co dX0_worth_2 rfl (lv_at hl 0 rfl) ?_
  refine f_get X hK hb okX0 rfl 2 (by decide) m_718 (fun _ h => h) (v := .ref (ad (6, ex))) rfl dX0_worth_3 ?_
  refine f_get X hK hx6 okX4 rfl 1 (by decide) m_585 (fun _ h => h) (v := .ref (ad (5, les σ ex))) rfl dX0_worth_6 ?_
  refine f_get X hK hx5 okX5 rfl 1 (by decide) m_528 (fun _ h => h) (v := .int (σ.2 9 (les σ ex))) rfl dX0_worth_9 ?_
  refine lv_iload_n X.ex X.co dX0_worth_12 rfl (lv_at hl 2 rfl) ?_
  refine lv_aload_n X.ex X.co dX0_worth_13 rfl (lv_at hl 0 rfl) ?_
  refine f_get X hK hb okX0 rfl 4 (by decide) m_722 (fun _ h => h) (v := .int dA) rfl dX0_worth_14 ?_
  refine lv_isub X.ex X.co dX0_worth_17 ?_
  refine lv_imul X.ex X.co dX0_worth_18 ?_
  refine lv_isub X.ex X.co dX0_worth_19 ?_
  refine f_max X hl.1 m_250 (Nat.le_of_ble_eq_true rfl) (Nat.le_of_ble_eq_true rfl) (by show _ ≤ 0; omega) (by show _ ≤ 0; omega) dX0_worth_20 ?_
  exact r_i X rfl rfl rfl dX0_worth_23
