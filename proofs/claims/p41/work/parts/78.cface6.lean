set_option maxHeartbeats 4000000 in
set_option maxRecDepth 100000 in
theorem c_X9_addCase (l : Launch) (hst : l.stackTraces = false) (G : GT) (A : Nat → Prop) (hAg : ∀ q, A q → gA G q) (b : Nat) (σ : Sg) (hI : MI σ) (hJ : MJ σ) (h0 : σ.1 0 0 = 0) (ea ia wa : Int32) : xM l yX9_addCase cX9_addCase 5 ((Option.some FieldType.int)) 4 1 6 G [.ref b, .int ea, .int ia, .int wa] (fun H => CB G A b σ H ∧ ∀ q, H.size ≤ q → A q) (fB G A b (fAddCase σ ea ia wa)) (fX ["java/lang/IndexOutOfBoundsException", "java/lang/IllegalArgumentException", "java/lang/IllegalStateException"] G A b (fAddCase σ ea ia wa)) A := by
  refine mk_x (by decide) (Nat.le_of_ble_eq_true rfl) ?_
  intro p e s m args below meth c X ls hl g0 F hno
  obtain ⟨⟨g, ad, hb0, ⟨hC, hgr, hwt, hsb⟩, F⟩, hfr⟩ := F
  subst hb0
  have hI0 := hI.1
  obtain ⟨b1, b2, b3, b4, b5, b6, b7⟩ := hI0.1
  obtain ⟨b8, b9, b10⟩ := hI.2.1
  have hone := hJ.2.2.2.2.2
  have hK := g0.1
  have hS : va_S A s.heap s.heap [] := va_S.rf
  have hLo := lstN_ok (g := g) hI
  have hl : lv_has ls 5 [(0, .ref (ad (0, 0))), (1, .int ea), (2, .int ia), (3, .int wa)] := hl
  show Wx p l e 4 1 6 s m args below meth c (fB G A (ad (0, 0)) (fAddCase σ ea ia wa)) (fX ["java/lang/IndexOutOfBoundsException", "java/lang/IllegalArgumentException", "java/lang/IllegalStateException"] G A (ad (0, 0)) (fAddCase σ ea ia wa)) A s.heap [] 0 0 0 ls []
  refine lv_aload_n X.ex X.co dX9_addCase_0 rfl (lv_at hl 0 rfl) ?_
  refine lv_iload_n X.ex X.co dX9_addCase_1 rfl (lv_at hl 1 rfl) ?_
  rcases hok_1 : okP ea (nEx σ) with _ | _
  · exact x_V X ce_X9_findExercise m_626 (c_X9_findExerciseX l hst G A hAg g ad σ hI0 hC ea hok_1) (g0.step hS hAg) F (cw_be F) rfl (by decide) rfl hl.1 rfl (Nat.le_of_ble_eq_true rfl) dX9_addCase_2 (by omega) (by omega) hS (fun _ h => h) hno (fun E H1 hB hz hq => fX_err (k := 0) (by show (fAddCase σ ea ia wa) = err σ 1; simp only [fAddCase]; simp [hok_1]) (by rw [hB.1]; rfl) (⟨g, ad, rfl, ⟨hC, hgr, hwt, hsb⟩, hB.2⟩ : CB G A (ad (0, 0)) σ H1)) (fun v0 H1 locs1 hB => hB.elim)
  · have ok_ea := hok_1
    obtain ⟨j_ea, hj_ea, rfl⟩ := (okP_ix (by omega)).mp ok_ea
    have ex_ea := ix_nI (j := j_ea) (by omega)
    refine q_rV X ce_X9_findExercise m_626 (c_X9_findExercise l G A g ad σ hI0 hC j_ea (by omega)) (g0.step hS hAg) F (cw_be F) rfl (by decide) rfl hl.1 rfl (Nat.le_of_ble_eq_true rfl) dX9_addCase_2 (by omega) (by omega) ?_
    refine lv_astore (lv' := [(4, .ref (ad (6, j_ea))), (0, .ref (ad (0, 0))), (1, .int (nI j_ea)), (2, .int ia), (3, .int wa)]) X.ex X.co dX9_addCase_5 hl (by decide) rfl (fun ls hl => ?_)
    refine lv_iload_n X.ex X.co dX9_addCase_7 rfl (lv_at hl 3 rfl) ?_
    refine lv_iconst (v := 0) X.ex X.co dX9_addCase_8 (by decide) ?_
    refine lv_bipush (v := 99) X.ex X.co dX9_addCase_9 (by decide) ?_
    refine q_rS X ce_X9_isWithin m_513 (c_X9_isWithin l G ia 0 99) (g0.step hS hAg) trivial (by decide) rfl hl.1 rfl (Nat.le_of_ble_eq_true rfl) dX9_addCase_11 (by omega) (by omega) ?_
    refine b_if_eq X (x := inB ia 0 99) (tgt := 27) dX9_addCase_14 (by decide) (fun c_2 => ?_) (fun c_2 => ?_)
    · exact x_throw X hst g0 hAg hS hno (cls := "java/lang/IllegalArgumentException") (text := "the input or the weight is out of range") (by decide) m_274 m_13 ok_IAE (tb_3 (List.mem_of_getElem? (i := 137) (by decide +kernel))) hl.1 dX9_addCase_27 dX9_addCase_30 dX9_addCase_31 dX9_addCase_33 dX9_addCase_36 (Nat.le_of_ble_eq_true rfl) (by omega) (by omega) (fun H1 hz hq => fX_err (k := 1) (by show (fAddCase σ (nI j_ea) ia wa) = err σ 2; simp only [fAddCase]; rw [if_pos ok_ea, if_neg (by simp [c_2])]) rfl (CB_old (⟨g, ad, rfl, ⟨hC, hgr, hwt, hsb⟩, F⟩ : CB G A (ad (0, 0)) σ _) hq))
    · refine lv_iload_n X.ex X.co dX9_addCase_17 rfl (lv_at hl 4 rfl) ?_
      refine lv_iconst (v := 1) X.ex X.co dX9_addCase_18 (by decide) ?_
      refine lv_bipush (v := 9) X.ex X.co dX9_addCase_19 (by decide) ?_
      refine q_rS X ce_X9_isWithin m_513 (c_X9_isWithin l G wa 1 9) (g0.step hS hAg) trivial (by decide) rfl hl.1 rfl (Nat.le_of_ble_eq_true rfl) dX9_addCase_21 (by omega) (by omega) ?_
      refine b_if_ne X (x := inB wa 1 9) (tgt := 37) dX9_addCase_24 (by decide) (fun c_3 => ?_) (fun c_3 => ?_)
      · obtain ⟨j_wa, hw1, hw2, rfl⟩ := inB_w c_3
        have ex_wa := ix_nI (j := j_wa) (by omega)
        have hf9 := hI0.ex hj_ea; have hLn := anL_len σ j_ea
        refine lv_aload X.ex X.co dX9_addCase_37 (lv_at hl 0 rfl) ?_
        refine f_get X hK (cw_ex F (i := j_ea) (by omega)) okX4 rfl 7 (by decide) m_596 (fun _ h => h) (v := .int (nI (cas σ j_ea))) rfl dX9_addCase_39 ?_
        refine lv_bipush (v := 6) X.ex X.co dX9_addCase_42 (by decide) ?_
        refine n_cmp_ge X (x := cas σ j_ea) (y := 6) (tgt := 58) (by omega) (by omega) dX9_addCase_44 (by decide) (fun c_4 => ?_) (fun c_4 => ?_)
        · exact x_throw X hst g0 hAg hS hno (cls := "java/lang/IllegalStateException") (text := "there are 6 cases, or an answer") (by decide) m_346 m_14 ok_ISE (tb_3 (List.mem_of_getElem? (i := 142) (by decide +kernel))) hl.1 dX9_addCase_58 dX9_addCase_61 dX9_addCase_62 dX9_addCase_64 dX9_addCase_67 (Nat.le_of_ble_eq_true rfl) (by omega) (by omega) (fun H1 hz hq => fX_err (k := 2) (by show (fAddCase σ (nI j_ea) ia (nI j_wa)) = err σ 3; simp only [fAddCase]; rw [if_pos ok_ea, if_pos (by simp [c_2, c_3]), ex_ea, if_pos (show cas σ j_ea = 6 ∨ ansS σ j_ea (nAn σ) = true from by first | exact Or.inl (by omega) | exact Or.inr (an_ans (by simpa using c_3)))]) rfl (CB_old (⟨g, ad, rfl, ⟨hC, hgr, hwt, hsb⟩, F⟩ : CB G A (ad (0, 0)) σ _) hq))
        · refine lv_aload X.ex X.co dX9_addCase_47 (lv_at hl 0 rfl) ?_
          refine f_get X hK (cw_ex F (i := j_ea) (by omega)) okX4 rfl 5 (by decide) m_591 (fun _ h => h) (v := .ref (ad (1, 17 + j_ea))) rfl dX9_addCase_49 ?_
          refine q_rV X ce_Jx4a65c_isEmpty_aae02 m_632 (c_Jx4a65c_isEmpty_aae02 l G (ad (1, 17 + j_ea)) (g.2.1 (17 + j_ea)) (lrow G g ad (17 + j_ea)) ((anL σ j_ea).length) (by omega)) (g0.step hS hAg) (cw_lsn F (k := 17 + j_ea) (n := (anL σ j_ea).length) (Or.inr ⟨by omega, by omega⟩) anL_n) (cw_lsn F (k := 17 + j_ea) (n := (anL σ j_ea).length) (Or.inr ⟨by omega, by omega⟩) anL_n) rfl (by decide) rfl hl.1 rfl (Nat.le_of_ble_eq_true rfl) dX9_addCase_52 (by omega) (by omega) ?_
          refine b_if_ne X (x := decide ((anL σ j_ea).length = 0)) (tgt := 68) dX9_addCase_55 (by decide) (fun c_5 => ?_) (fun c_5 => ?_)
          · have hE9 : (anL σ j_ea).length = 0 := by simpa using c_5
            refine lv_aload X.ex X.co dX9_addCase_68 (lv_at hl 0 rfl) ?_
            refine lv_iload_n X.ex X.co dX9_addCase_70 rfl (lv_at hl 3 rfl) ?_
            refine lv_iload_n X.ex X.co dX9_addCase_71 rfl (lv_at hl 4 rfl) ?_
            refine q_vV X ce_X4_putCase m_637 (c_X4_putCase l G A hAg g ad σ hI0 hJ hC hgr j_ea j_wa ia (by omega) (by omega)) (g0.step hS hAg) F (cw_ex F (i := j_ea) (by omega)) rfl (by decide) rfl hl.1 rfl (Nat.le_of_ble_eq_true rfl) dX9_addCase_72 (by show _ ≤ 1; omega) (by show _ ≤ 6; omega) hS (fun _ h => h) (fun H locs F hz hk9 hS => ?_)
            have hj9 : j_ea < nEx (sN (sN (sV σ 17 (6 * j_ea + cas σ j_ea) ia) 18 (6 * j_ea + cas σ j_ea) j_wa) 16 j_ea (cas σ j_ea + 1)) := hj_ea
            refine lv_aload X.ex X.co dX9_addCase_75 (lv_at hl 0 rfl) ?_
            refine f_get X hK (cw_ex F (i := j_ea) (show j_ea < nEx σ by omega)) okX4 rfl 7 (by decide) m_596 (fun _ h => h) (v := .int (nI (cas σ j_ea + 1))) (congrArg (fun z => some (Value.int (nI z))) (if_pos ⟨rfl, rfl⟩)) dX9_addCase_77 ?_
            exact vx_ret (c_i X hS rfl rfl (by have q : (fAddCase σ (nI j_ea) ia (nI j_wa)) = (nI (cas σ j_ea + 1), (sN (sN (sV σ 17 (6 * j_ea + cas σ j_ea) ia) 18 (6 * j_ea + cas σ j_ea) j_wa) 16 j_ea (cas σ j_ea + 1))) := (by simp only [fAddCase]; rw [if_pos ok_ea, if_pos (by simp [c_2, c_3, c_5]), ex_ea, ex_wa, if_neg (fun z => z.elim (fun z => by omega) (no_ans hE9))]); rw [q]; exact ⟨rfl, h0, mkCB2 (σ := σ) hgr hwt hsb rfl (fun k hk => rfl) hC rfl rfl (case_gr hI0 (by omega) hE9) rfl rfl rfl rfl F⟩) (by omega) (by omega) dX9_addCase_80)
          · exact x_throw X hst g0 hAg hS hno (cls := "java/lang/IllegalStateException") (text := "there are 6 cases, or an answer") (by decide) m_346 m_14 ok_ISE (tb_3 (List.mem_of_getElem? (i := 142) (by decide +kernel))) hl.1 dX9_addCase_58 dX9_addCase_61 dX9_addCase_62 dX9_addCase_64 dX9_addCase_67 (Nat.le_of_ble_eq_true rfl) (by omega) (by omega) (fun H1 hz hq => fX_err (k := 2) (by show (fAddCase σ (nI j_ea) ia (nI j_wa)) = err σ 3; simp only [fAddCase]; rw [if_pos ok_ea, if_pos (by simp [c_2, c_3, c_5]), ex_ea, if_pos (show cas σ j_ea = 6 ∨ ansS σ j_ea (nAn σ) = true from by first | exact Or.inl (by omega) | exact Or.inr (an_ans (by simpa using c_5)))]) rfl (CB_old (⟨g, ad, rfl, ⟨hC, hgr, hwt, hsb⟩, F⟩ : CB G A (ad (0, 0)) σ _) hq))
      · exact x_throw X hst g0 hAg hS hno (cls := "java/lang/IllegalArgumentException") (text := "the input or the weight is out of range") (by decide) m_274 m_13 ok_IAE (tb_3 (List.mem_of_getElem? (i := 137) (by decide +kernel))) hl.1 dX9_addCase_27 dX9_addCase_30 dX9_addCase_31 dX9_addCase_33 dX9_addCase_36 (Nat.le_of_ble_eq_true rfl) (by omega) (by omega) (fun H1 hz hq => fX_err (k := 1) (by show (fAddCase σ (nI j_ea) ia wa) = err σ 2; simp only [fAddCase]; rw [if_pos ok_ea, if_neg (by simp [c_2, c_3])]) rfl (CB_old (⟨g, ad, rfl, ⟨hC, hgr, hwt, hsb⟩, F⟩ : CB G A (ad (0, 0)) σ _) hq))
set_option maxHeartbeats 4000000 in
set_option maxRecDepth 100000 in
theorem c_X9_appeal (l : Launch) (hst : l.stackTraces = false) (G : GT) (A : Nat → Prop) (hAg : ∀ q, A q → gA G q) (b : Nat) (σ : Sg) (hI : MI σ) (hJ : MJ σ) (h0 : σ.1 0 0 = 0) (aa : Int32) : xM l yX9_appeal cX9_appeal 3 ((Option.some FieldType.int)) 8 1 310 G [.ref b, .int aa] (fun H => CB G A b σ H ∧ ∀ q, H.size ≤ q → A q) (fB G A b (fAppeal σ aa)) (fX ["java/lang/IndexOutOfBoundsException", "java/lang/IllegalStateException"] G A b (fAppeal σ aa)) A := by
  refine mk_x (by decide) (Nat.le_of_ble_eq_true rfl) ?_
  intro p e s m args below meth c X ls hl g0 F hno
  obtain ⟨⟨g, ad, hb0, ⟨hC, hgr, hwt, hsb⟩, F⟩, hfr⟩ := F
  subst hb0
  have hI0 := hI.1
  obtain ⟨b1, b2, b3, b4, b5, b6, b7⟩ := hI0.1
  obtain ⟨b8, b9, b10⟩ := hI.2.1
  have hone := hJ.2.2.2.2.2
  have hK := g0.1
  have hS : va_S A s.heap s.heap [] := va_S.rf
  have hLo := lstN_ok (g := g) hI
  have hl : lv_has ls 3 [(0, .ref (ad (0, 0))), (1, .int aa)] := hl
  show Wx p l e 8 1 310 s m args below meth c (fB G A (ad (0, 0)) (fAppeal σ aa)) (fX ["java/lang/IndexOutOfBoundsException", "java/lang/IllegalStateException"] G A (ad (0, 0)) (fAppeal σ aa)) A s.heap [] 0 0 0 ls []
  refine lv_aload_n X.ex X.co dX9_appeal_0 rfl (lv_at hl 0 rfl) ?_
  refine lv_iload_n X.ex X.co dX9_appeal_1 rfl (lv_at hl 1 rfl) ?_
  rcases hok_1 : okP aa (nAn σ) with _ | _
  · exact x_V X ce_X9_findAnswer m_764 (c_X9_findAnswerX l hst G A hAg g ad σ hI0 hC aa hok_1) (g0.step hS hAg) F (cw_be F) rfl (by decide) rfl hl.1 rfl (Nat.le_of_ble_eq_true rfl) dX9_appeal_2 (by omega) (by omega) hS (fun _ h => h) hno (fun E H1 hB hz hq => fX_err (k := 0) (by show (fAppeal σ aa) = err σ 1; simp only [fAppeal]; simp [hok_1]) (by rw [hB.1]; rfl) (⟨g, ad, rfl, ⟨hC, hgr, hwt, hsb⟩, hB.2⟩ : CB G A (ad (0, 0)) σ H1)) (fun v0 H1 locs1 hB => hB.elim)
  · have ok_aa := hok_1
    obtain ⟨j_aa, hj_aa, rfl⟩ := (okP_ix (by omega)).mp ok_aa
    have ex_aa := ix_nI (j := j_aa) (by omega)
    refine q_rV X ce_X9_findAnswer m_764 (c_X9_findAnswer l G A g ad σ hI0 hC j_aa (by omega)) (g0.step hS hAg) F (cw_be F) rfl (by decide) rfl hl.1 rfl (Nat.le_of_ble_eq_true rfl) dX9_appeal_2 (by omega) (by omega) ?_
    refine lv_astore_n (lv' := [(2, .ref (ad (7, j_aa))), (0, .ref (ad (0, 0))), (1, .int (nI j_aa))]) X.ex X.co dX9_appeal_5 rfl hl (by decide) rfl (fun ls hl => ?_)
    refine lv_aload_n X.ex X.co dX9_appeal_6 rfl (lv_at hl 0 rfl) ?_
    refine f_get X hK (cw_an F (i := j_aa) (by omega)) okX0 rfl 7 (by decide) m_731 (fun _ h => h) (v := .int (bI (waitS σ j_aa (nAp σ)))) (by rw [← hwt j_aa (by omega)]; rfl) dX9_appeal_7 ?_
    refine b_if_ne X (x := waitS σ j_aa (nAp σ)) (tgt := 20) dX9_appeal_10 (by decide) (fun c_2 => ?_) (fun c_2 => ?_)
    · exact x_throw X hst g0 hAg hS hno (cls := "java/lang/IllegalStateException") (text := "an appeal is waiting, or was decided") (by decide) m_346 m_14 ok_ISE (tb_4 (List.mem_of_getElem? (i := 7) (by decide +kernel))) hl.1 dX9_appeal_20 dX9_appeal_23 dX9_appeal_24 dX9_appeal_26 dX9_appeal_29 (Nat.le_of_ble_eq_true rfl) (by omega) (by omega) (fun H1 hz hq => fX_err (k := 1) (by show (fAppeal σ (nI j_aa)) = err σ 2; simp only [fAppeal]; rw [if_pos ok_aa, ex_aa, if_pos (show waitS σ j_aa (nAp σ) = true ∨ ¬ σ.2 26 j_aa = 0 from by first | exact Or.inl (by assumption) | exact Or.inr (by assumption))]) rfl (CB_old (⟨g, ad, rfl, ⟨hC, hgr, hwt, hsb⟩, F⟩ : CB G A (ad (0, 0)) σ _) hq))
    · refine lv_aload_n X.ex X.co dX9_appeal_13 rfl (lv_at hl 0 rfl) ?_
      refine f_get X hK (cw_an F (i := j_aa) (by omega)) okX0 rfl 8 (by decide) m_733 (fun _ h => h) (v := .int (σ.2 26 j_aa)) rfl dX9_appeal_14 ?_
      refine lv_if_eq (tgt := 30) X.ex X.co dX9_appeal_17 (by decide) (fun c_3 => ?_) (fun c_3 => ?_)
      · refine lv_aload_n X.ex X.co dX9_appeal_30 rfl (lv_at hl 0 rfl) ?_
        refine lv_iconst (v := 1) X.ex X.co dX9_appeal_31 (by decide) ?_
        refine f_put X hK F hS (show (cLv g σ) (7, j_aa) from (show j_aa < nAn σ by omega)) rfl (ci := 5) (fs := [.int (nI j_aa), .ref (ad (4, stu σ j_aa)), .ref (ad (6, exe σ j_aa)), .ref (ad (12, j_aa)), .int (σ.2 24 j_aa), .int (g.2.2.1 0 j_aa), .int (σ.2 25 j_aa), .int (g.2.2.1 1 j_aa), .int (σ.2 26 j_aa), .int (g.2.2.1 2 j_aa)]) rfl okX0 rfl 7 (by decide) m_731 (fun _ h => h) rfl (v := .int 1) rfl rfl rfl (Nat.le_of_ble_eq_true rfl) dX9_appeal_32 (fun H locs F hS => ?_)
        have F : fw G.1 (cLv g σ) ad (iup (cEnL G g ad σ (lstN σ)) (7, j_aa) (.inr (5, [.int (nI j_aa), .ref (ad (4, stu σ j_aa)), .ref (ad (6, exe σ j_aa)), .ref (ad (12, j_aa)), .int (σ.2 24 j_aa), .int (g.2.2.1 0 j_aa), .int (σ.2 25 j_aa), .int 1, .int (σ.2 26 j_aa), .int (g.2.2.1 2 j_aa)]))) A H := F
        have F : cwL G (gAn g j_aa (g.2.2.1 0 j_aa) 1 (g.2.2.1 2 j_aa)) A ad (sN (sN σ 28 (nAp σ) j_aa) 27 0 (nAp σ + 1)) (lstN σ) H := cwL_sg (sameC_ap σ j_aa (nAp σ + 1)) (by have h9 := upA F; rw [sV_id, sV_id] at h9; exact h9)
        have hLo : okL (gAn g j_aa (g.2.2.1 0 j_aa) 1 (g.2.2.1 2 j_aa)) (sN (sN σ 28 (nAp σ) j_aa) 27 0 (nAp σ + 1)) (lstN σ) := okL_mono hLo ⟨Nat.le_refl _, Nat.le_refl _, Nat.le_refl _, Nat.le_refl _, Nat.le_refl _, Nat.le_refl _, Nat.le_refl _⟩ (fun k hk => Or.inl hk)
        have hC : CLL (gAn g j_aa (g.2.2.1 0 j_aa) 1 (g.2.2.1 2 j_aa)) (sN (sN σ 28 (nAp σ) j_aa) 27 0 (nAp σ + 1)) (lstN σ) := hC
        refine lv_aload_n X.ex X.co dX9_appeal_35 rfl (lv_at hl 1 rfl) ?_
        refine f_get X hK (cw_be F) okX9 rfl 7 (by decide) m_113 (fun _ h => h) (v := .ref (ad (1, 7))) rfl dX9_appeal_36 ?_
        refine lv_aload_n X.ex X.co dX9_appeal_39 rfl (lv_at hl 0 rfl) ?_
        have hn_4 : ((lstN σ) (7)).length = nAp σ := rng_len
        have ha_5 := addS_le (n := ((lstN σ) (7)).length) (hC (7) (Or.inl (show 7 < 9 + nLe σ by omega))).2
        refine q_eV X ce_Jx4a65c_add_9ea2d m_377 (c_addLv l G A hAg (gAn g j_aa (g.2.2.1 0 j_aa) 1 (g.2.2.1 2 j_aa)) ad (sN (sN σ 28 (nAp σ) j_aa) 27 0 (nAp σ + 1)) (lstN σ) hC hLo (7) (Or.inl (show 7 < 9 + nLe σ by omega)) (7, j_aa) hj_aa (Nat.le_of_ble_eq_true rfl) (Nat.le_of_ble_eq_true rfl) (by omega) _ _ rfl rfl) (g0.step hS hAg) ⟨F, (fun q hq => hfr q (Nat.le_trans hS.1 hq))⟩ (cw_ls F (k := 7) (Or.inl (show 7 < 9 + nLe σ by omega))) rfl (by decide) rfl hl.1 rfl (Nat.le_of_ble_eq_true rfl) dX9_appeal_40 (by show _ ≤ 1; omega) (by show _ ≤ 310; omega) hS (fun _ h => h) (fun H locs F hz hk9 hS => ?_)
        obtain ⟨q_6, F⟩ := F
        have hC : CLL (gls (gAn g j_aa (g.2.2.1 0 j_aa) 1 (g.2.2.1 2 j_aa)) (7) (ncap ((lstN σ) (7)).length ((gAn g j_aa (g.2.2.1 0 j_aa) 1 (g.2.2.1 2 j_aa)).1 (7))) ((gAn g j_aa (g.2.2.1 0 j_aa) 1 (g.2.2.1 2 j_aa)).2.1 (7) + 1)) (sN (sN σ 28 (nAp σ) j_aa) 27 0 (nAp σ + 1)) (upL (lstN σ) (7) ((lstN σ) (7) ++ [(7, j_aa)])) := CLL_push hC (Or.inl (show 7 < 9 + nLe σ by omega)) (by omega)
        have hLo : okL (gls (gAn g j_aa (g.2.2.1 0 j_aa) 1 (g.2.2.1 2 j_aa)) (7) (ncap ((lstN σ) (7)).length ((gAn g j_aa (g.2.2.1 0 j_aa) 1 (g.2.2.1 2 j_aa)).1 (7))) ((gAn g j_aa (g.2.2.1 0 j_aa) 1 (g.2.2.1 2 j_aa)).2.1 (7) + 1)) (sN (sN σ 28 (nAp σ) j_aa) 27 0 (nAp σ + 1)) (upL (lstN σ) (7) ((lstN σ) (7) ++ [(7, j_aa)])) := okL_push hLo (Or.inl (show 7 < 9 + nLe σ by omega)) hj_aa (Nat.le_of_ble_eq_true rfl) (Nat.le_of_ble_eq_true rfl)
        refine lv_pop X.ex X.co dX9_appeal_43 rfl ?_
        refine lv_aload_n X.ex X.co dX9_appeal_44 rfl (lv_at hl 1 rfl) ?_
        refine f_get X hK (show va_at G.1 vwCl (ad (0, 0), eBe (iup ad (2, 7) q_6) (dayV (sN (sN σ 28 (nAp σ) j_aa) 27 0 (nAp σ + 1)))) H from by have h9 := (cw_be F); exact h9) okX9 rfl 7 (by decide) m_113 (fun _ h => h) (v := .ref ((iup ad (2, 7) q_6) (1, 7))) rfl dX9_appeal_45 ?_
        refine q_rV X ce_Jx4a65c_size_8abf5 m_144 (c_Jx4a65c_size_8abf5 l G ((iup ad (2, 7) q_6) (1, 7)) ((gls (gAn g j_aa (g.2.2.1 0 j_aa) 1 (g.2.2.1 2 j_aa)) (7) (ncap ((lstN σ) (7)).length ((gAn g j_aa (g.2.2.1 0 j_aa) 1 (g.2.2.1 2 j_aa)).1 (7))) ((gAn g j_aa (g.2.2.1 0 j_aa) 1 (g.2.2.1 2 j_aa)).2.1 (7) + 1)).2.1 (7)) (lrow G (gls (gAn g j_aa (g.2.2.1 0 j_aa) 1 (g.2.2.1 2 j_aa)) (7) (ncap ((lstN σ) (7)).length ((gAn g j_aa (g.2.2.1 0 j_aa) 1 (g.2.2.1 2 j_aa)).1 (7))) ((gAn g j_aa (g.2.2.1 0 j_aa) 1 (g.2.2.1 2 j_aa)).2.1 (7) + 1)) (iup ad (2, 7) q_6) (7)) ((nAp σ + 1))) (g0.step hS hAg) (cw_lsn F (k := 7) (n := (nAp σ + 1)) (Or.inl (show 7 < 9 + nLe σ by omega)) (by rw [upL_s, List.length_append, hn_4]; rfl)) (cw_lsn F (k := 7) (n := (nAp σ + 1)) (Or.inl (show 7 < 9 + nLe σ by omega)) (by rw [upL_s, List.length_append, hn_4]; rfl)) rfl (by decide) rfl hl.1 rfl (Nat.le_of_ble_eq_true rfl) dX9_appeal_48 (by omega) (by omega) ?_
        exact vx_ret (c_i X hS rfl rfl (by have q : (fAppeal σ (nI j_aa)) = (nI (nAp σ + 1), (sN (sN σ 28 (nAp σ) j_aa) 27 0 (nAp σ + 1))) := (by simp only [fAppeal]; rw [if_pos ok_aa, ex_aa, if_neg (fun z => by rcases z with z | z <;> simp_all)]); rw [q]; exact ⟨rfl, h0, CB_app (g := g) (ad := (iup ad (2, 7) q_6)) (σ := σ) (j := j_aa) hgr hwt hsb hj_aa rfl (lsAll (by rw [upL_n _ _ (by decide)]; rfl) (by rw [upL_n _ _ (by decide)]; rfl) (by rw [upL_n _ _ (by decide)]; rfl) (by rw [upL_n _ _ (by decide)]; rfl) (by rw [upL_n _ _ (by decide)]; rfl) (by rw [upL_n _ _ (by decide)]; rfl) (by rw [upL_n _ _ (by decide)]; rfl) (by rw [upL_s]; exact app_push) (by rw [upL_n _ _ (by decide)]; rfl) (fun l hl => by rw [upL_n _ _ (by omega), lst_le _ (Nat.lt_of_lt_of_le hl b3), lst_le _ (Nat.lt_of_lt_of_le hl b3)]; rfl) (fun e he => by rw [upL_n _ _ (by omega), lst_ex, lst_ex]; rfl)) hC rfl F⟩) (by omega) (by omega) dX9_appeal_51)
      · exact x_throw X hst g0 hAg hS hno (cls := "java/lang/IllegalStateException") (text := "an appeal is waiting, or was decided") (by decide) m_346 m_14 ok_ISE (tb_4 (List.mem_of_getElem? (i := 7) (by decide +kernel))) hl.1 dX9_appeal_20 dX9_appeal_23 dX9_appeal_24 dX9_appeal_26 dX9_appeal_29 (Nat.le_of_ble_eq_true rfl) (by omega) (by omega) (fun H1 hz hq => fX_err (k := 1) (by show (fAppeal σ (nI j_aa)) = err σ 2; simp only [fAppeal]; rw [if_pos ok_aa, ex_aa, if_pos (show waitS σ j_aa (nAp σ) = true ∨ ¬ σ.2 26 j_aa = 0 from by first | exact Or.inl (by assumption) | exact Or.inr (by assumption))]) rfl (CB_old (⟨g, ad, rfl, ⟨hC, hgr, hwt, hsb⟩, F⟩ : CB G A (ad (0, 0)) σ _) hq))
set_option maxHeartbeats 4000000 in
set_option maxRecDepth 100000 in
theorem c_X9_answer (l : Launch) (hst : l.stackTraces = false) (G : GT) (A : Nat → Prop) (hAg : ∀ q, A q → gA G q) (b : Nat) (σ : Sg) (hI : MI σ) (hJ : MJ σ) (h0 : σ.1 0 0 = 0) (sa ea fa aa : Int32) : xM l yX9_answer cX9_answer 8 ((Option.some FieldType.int)) 8 6 640 G [.ref b, .int sa, .int ea, .int fa, .int aa] (fun H => CB G A b σ H ∧ ∀ q, H.size ≤ q → A q) (fB G A b (fAnswer σ sa ea fa aa)) (fX ["java/lang/IndexOutOfBoundsException", "java/lang/IllegalArgumentException", "java/lang/UnsupportedOperationException", "java/lang/IllegalStateException"] G A b (fAnswer σ sa ea fa aa)) A := by
  refine mk_x (by decide) (Nat.le_of_ble_eq_true rfl) ?_
  intro p e s m args below meth c X ls hl g0 F hno
  obtain ⟨⟨g, ad, hb0, ⟨hC, hgr, hwt, hsb⟩, F⟩, hfr⟩ := F
  subst hb0
  have hI0 := hI.1
  obtain ⟨b1, b2, b3, b4, b5, b6, b7⟩ := hI0.1
  obtain ⟨b8, b9, b10⟩ := hI.2.1
  have hone := hJ.2.2.2.2.2
  have hK := g0.1
  have hS : va_S A s.heap s.heap [] := va_S.rf
  have hLo := lstN_ok (g := g) hI
  have hl : lv_has ls 8 [(0, .ref (ad (0, 0))), (1, .int sa), (2, .int ea), (3, .int fa), (4, .int aa)] := hl
  show Wx p l e 8 6 640 s m args below meth c (fB G A (ad (0, 0)) (fAnswer σ sa ea fa aa)) (fX ["java/lang/IndexOutOfBoundsException", "java/lang/IllegalArgumentException", "java/lang/UnsupportedOperationException", "java/lang/IllegalStateException"] G A (ad (0, 0)) (fAnswer σ sa ea fa aa)) A s.heap [] 0 0 0 ls []
  refine lv_aload_n X.ex X.co dX9_answer_0 rfl (lv_at hl 0 rfl) ?_
  refine lv_iload_n X.ex X.co dX9_answer_1 rfl (lv_at hl 1 rfl) ?_
  rcases hok_1 : okP sa (nSt σ) with _ | _
  · exact x_V X ce_X9_findStudent m_655 (c_X9_findStudentX l hst G A hAg g ad σ hI0 hC sa hok_1) (g0.step hS hAg) F (cw_be F) rfl (by decide) rfl hl.1 rfl (Nat.le_of_ble_eq_true rfl) dX9_answer_2 (by omega) (by omega) hS (fun _ h => h) hno (fun E H1 hB hz hq => fX_err (k := 0) (by show (fAnswer σ sa ea fa aa) = err σ 1; simp only [fAnswer]; simp [hok_1]) (by rw [hB.1]; rfl) (⟨g, ad, rfl, ⟨hC, hgr, hwt, hsb⟩, hB.2⟩ : CB G A (ad (0, 0)) σ H1)) (fun v0 H1 locs1 hB => hB.elim)
  · have ok_sa := hok_1
    obtain ⟨j_sa, hj_sa, rfl⟩ := (okP_ix (by omega)).mp ok_sa
    have ex_sa := ix_nI (j := j_sa) (by omega)
    refine q_rV X ce_X9_findStudent m_655 (c_X9_findStudent l G A g ad σ hI0 hC j_sa (by omega)) (g0.step hS hAg) F (cw_be F) rfl (by decide) rfl hl.1 rfl (Nat.le_of_ble_eq_true rfl) dX9_answer_2 (by omega) (by omega) ?_
    refine lv_astore (lv' := [(5, .ref (ad (4, j_sa))), (0, .ref (ad (0, 0))), (1, .int (nI j_sa)), (2, .int ea), (3, .int fa), (4, .int aa)]) X.ex X.co dX9_answer_5 hl (by decide) rfl (fun ls hl => ?_)
    refine lv_aload_n X.ex X.co dX9_answer_7 rfl (lv_at hl 1 rfl) ?_
    refine lv_iload_n X.ex X.co dX9_answer_8 rfl (lv_at hl 3 rfl) ?_
    rcases hok_2 : okP ea (nEx σ) with _ | _
    · exact x_V X ce_X9_findExercise m_626 (c_X9_findExerciseX l hst G A hAg g ad σ hI0 hC ea hok_2) (g0.step hS hAg) F (cw_be F) rfl (by decide) rfl hl.1 rfl (Nat.le_of_ble_eq_true rfl) dX9_answer_9 (by omega) (by omega) hS (fun _ h => h) hno (fun E H1 hB hz hq => fX_err (k := 0) (by show (fAnswer σ (nI j_sa) ea fa aa) = err σ 1; simp only [fAnswer]; simp [hok_2, ok_sa, ex_sa]) (by rw [hB.1]; rfl) (⟨g, ad, rfl, ⟨hC, hgr, hwt, hsb⟩, hB.2⟩ : CB G A (ad (0, 0)) σ H1)) (fun v0 H1 locs1 hB => hB.elim)
    · have ok_ea := hok_2
      obtain ⟨j_ea, hj_ea, rfl⟩ := (okP_ix (by omega)).mp ok_ea
      have ex_ea := ix_nI (j := j_ea) (by omega)
      refine q_rV X ce_X9_findExercise m_626 (c_X9_findExercise l G A g ad σ hI0 hC j_ea (by omega)) (g0.step hS hAg) F (cw_be F) rfl (by decide) rfl hl.1 rfl (Nat.le_of_ble_eq_true rfl) dX9_answer_9 (by omega) (by omega) ?_
      refine lv_astore (lv' := [(6, .ref (ad (6, j_ea))), (5, .ref (ad (4, j_sa))), (0, .ref (ad (0, 0))), (1, .int (nI j_sa)), (2, .int (nI j_ea)), (3, .int fa), (4, .int aa)]) X.ex X.co dX9_answer_12 hl (by decide) rfl (fun ls hl => ?_)
      refine lv_iload_n X.ex X.co dX9_answer_14 rfl (lv_at hl 5 rfl) ?_
      refine lv_iload X.ex X.co dX9_answer_15 (lv_at hl 6 rfl) ?_
      rcases hr_3 : isR fa aa with _ | _
      · exact x_S X ce_X9_requireRule m_553 (c_X9_requireRuleX l hst G A hAg (fun H => cw G g A ad σ H) (fun H H1 hB hq => fw.old hB hq) fa aa hr_3) (g0.step hS hAg) F (by decide) rfl hl.1 rfl (Nat.le_of_ble_eq_true rfl) dX9_answer_17 (by omega) (by omega) hS (fun _ h => h) hno (fun E H1 hB hz hq => fX_err (k := 1) (by show (fAnswer σ (nI j_sa) (nI j_ea) fa aa) = err σ 2; simp only [fAnswer]; simp [hr_3, ok_sa, ex_sa, ok_ea, ex_ea]) (by rw [hB.1]; rfl) (⟨g, ad, rfl, ⟨hC, hgr, hwt, hsb⟩, hB.2⟩ : CB G A (ad (0, 0)) σ H1)) (fun v0 H1 locs1 hB => hB.elim)
      · refine q_rSv X ce_X9_requireRule m_553 (c_X9_requireRule l G fa aa hr_3) (g0.step hS hAg) trivial (by decide) rfl hl.1 rfl (Nat.le_of_ble_eq_true rfl) dX9_answer_17 (by omega) (by omega) ?_
        refine lv_aload_n X.ex X.co dX9_answer_20 rfl (lv_at hl 2 rfl) ?_
        refine lv_aload X.ex X.co dX9_answer_21 (lv_at hl 1 rfl) ?_
        refine lv_aload X.ex X.co dX9_answer_23 (lv_at hl 0 rfl) ?_
        refine q_eV X ce_X9_reasonAgainst m_678 (c_X9_reasonAgainst l G A hAg g ad σ hI0 hJ hC hgr j_sa j_ea (by omega) (by omega)) (g0.step hS hAg) ⟨F, (fun q hq => hfr q (Nat.le_trans hS.1 hq))⟩ (cw_be F) rfl (by decide) rfl hl.1 rfl (Nat.le_of_ble_eq_true rfl) dX9_answer_25 (by show _ ≤ 6; omega) (by show _ ≤ 640; omega) hS (fun _ h => h) (fun H locs F hz hk9 hS => ?_)
        refine lv_bipush (v := 45) X.ex X.co dX9_answer_28 (by decide) ?_
        refine lv_icmp_eq (tgt := 43) X.ex X.co dX9_answer_30 (by decide) (fun c_4 => ?_) (fun c_4 => ?_)
        · refine lv_aload_n X.ex X.co dX9_answer_43 rfl (lv_at hl 2 rfl) ?_
          refine f_get X hK (cw_be F) okX9 rfl 4 (by decide) m_110 (fun _ h => h) (v := .ref (ad (1, 4))) rfl dX9_answer_44 ?_
          refine q_rV X ce_Jx4a65c_size_8abf5 m_144 (c_Jx4a65c_size_8abf5 l G (ad (1, 4)) (g.2.1 (4)) (lrow G g ad (4)) (nAn σ)) (g0.step hS hAg) (cw_lsn F (k := 4) (n := nAn σ) (Or.inl (by omega)) rng_len) (cw_lsn F (k := 4) (n := nAn σ) (Or.inl (by omega)) rng_len) rfl (by decide) rfl hl.1 rfl (Nat.le_of_ble_eq_true rfl) dX9_answer_47 (by omega) (by omega) ?_
          refine lv_bipush (v := 100) X.ex X.co dX9_answer_50 (by decide) ?_
          refine n_cmp_lt X (x := nAn σ) (y := 100) (tgt := 65) (by omega) (by omega) dX9_answer_52 (by decide) (fun c_5 => ?_) (fun c_5 => ?_)
          · have hcs9 := why_cs (by assumption : whyS σ j_sa j_ea = 45)
            refine f_new X hK F hS hfr (7, nAn σ) (show ¬ nAn σ < nAn σ by omega) (ci := 5) okX0 rfl m_187 m_707 m_30 [.int 0, .null, .null, .null, .int 0, .int 0, .int 0, .int 0, .int 0, .int 0] (by intro j hj; match j, hj with | 0, _ => rfl | 1, _ => rfl | 2, _ => rfl | 3, _ => rfl | 4, _ => rfl | 5, _ => rfl | 6, _ => rfl | 7, _ => rfl | 8, _ => rfl | 9, _ => rfl | n + 10, h => exact absurd h (by omega)) (by show _ ≤ 6; omega) (by show _ ≤ 640; omega) dX9_answer_65 (fun q_6 H F hS => ?_)
            have F : fw G.1 (fun j => (cLv g σ) j ∨ j = (7, nAn σ)) (iup ad (7, nAn σ) q_6) (iup (cEnL G g ad σ (lstN σ)) (7, nAn σ) (.inr (5, [.int 0, .null, .null, .null, .int 0, .int 0, .int 0, .int 0, .int 0, .int 0]))) A H := F
            have Fc : cw G g A ad σ H := cw_drop (t := (7, nAn σ)) (show ¬ nAn σ < nAn σ by omega) F
            refine lv_dup X.ex X.co dX9_answer_68 rfl ?_
            refine lv_aload_n X.ex X.co dX9_answer_69 rfl (lv_at hl 2 rfl) ?_
            refine f_get X hK (cw_be Fc) okX9 rfl 4 (by decide) m_110 (fun _ h => h) (v := .ref (ad (1, 4))) rfl dX9_answer_70 ?_
            refine q_rV X ce_Jx4a65c_size_8abf5 m_144 (c_Jx4a65c_size_8abf5 l G (ad (1, 4)) (g.2.1 (4)) (lrow G g ad (4)) (nAn σ)) (g0.step hS hAg) (cw_lsn Fc (k := 4) (n := nAn σ) (Or.inl (by omega)) rng_len) (cw_lsn Fc (k := 4) (n := nAn σ) (Or.inl (by omega)) rng_len) rfl (by decide) rfl hl.1 rfl (Nat.le_of_ble_eq_true rfl) dX9_answer_73 (by omega) (by omega) ?_
            refine lv_aload X.ex X.co dX9_answer_76 (lv_at hl 1 rfl) ?_
            refine lv_aload X.ex X.co dX9_answer_78 (lv_at hl 0 rfl) ?_
            refine f_new X hK F hS hfr (12, nAn σ) (fun z => z.elim (fun z => absurd (show nAn σ < nAn σ from z) (by omega)) (kne (by decide))) (ci := 12) okX7 rfl m_560 m_561 m_27 [.int 0, .int 0] (by intro j hj; match j, hj with | 0, _ => rfl | 1, _ => rfl | n + 2, h => exact absurd h (by omega)) (by show _ ≤ 6; omega) (by show _ ≤ 640; omega) dX9_answer_80 (fun q_7 H F hS => ?_)
            have F : fw G.1 (fun j => (fun j => (cLv g σ) j ∨ j = (7, nAn σ)) j ∨ j = (12, nAn σ)) (iup (iup ad (7, nAn σ) q_6) (12, nAn σ) q_7) (iup (iup (cEnL G g ad σ (lstN σ)) (7, nAn σ) (.inr (5, [.int 0, .null, .null, .null, .int 0, .int 0, .int 0, .int 0, .int 0, .int 0]))) (12, nAn σ) (.inr (12, [.int 0, .int 0]))) A H := F
            refine lv_dup X.ex X.co dX9_answer_83 rfl ?_
            refine lv_iload_n X.ex X.co dX9_answer_84 rfl (lv_at hl 5 rfl) ?_
            refine lv_iload X.ex X.co dX9_answer_85 (lv_at hl 6 rfl) ?_
            refine q_vI X ce_X7_init m_562 (c_X7_init l G A hAg (fun j => (fun j => (cLv g σ) j ∨ j = (7, nAn σ)) j ∨ j = (12, nAn σ)) (iup (iup ad (7, nAn σ) q_6) (12, nAn σ) q_7) (iup (iup (cEnL G g ad σ (lstN σ)) (7, nAn σ) (.inr (5, [.int 0, .null, .null, .null, .int 0, .int 0, .int 0, .int 0, .int 0, .int 0]))) (12, nAn σ) (.inr (12, [.int 0, .int 0]))) (12, nAn σ) (Or.inr rfl) q_7 (iup_s _ _ _) (iup_s _ _ _) fa aa) (g0.step hS hAg) F (by decide) rfl hl.1 rfl (Nat.le_of_ble_eq_true rfl) dX9_answer_87 (by show _ ≤ 6; omega) (by show _ ≤ 640; omega) hS (fun _ h => h) (fun H locs F hz hk9 hS => ?_)
            rw [iup_iup] at F
            have F : fw G.1 (fun j => (fun j => (cLv g σ) j ∨ j = (7, nAn σ)) j ∨ j = (12, nAn σ)) (iup (iup ad (7, nAn σ) q_6) (12, nAn σ) q_7) (iup (iup (cEnL G g ad σ (lstN σ)) (7, nAn σ) (.inr (5, [.int 0, .null, .null, .null, .int 0, .int 0, .int 0, .int 0, .int 0, .int 0]))) (12, nAn σ) (.inr (12, [.int fa, .int aa]))) A H := F
            refine lv_aload_n X.ex X.co dX9_answer_90 rfl (lv_at hl 2 rfl) ?_
            refine f_get X hK (fw.get F (Or.inl (Or.inl ((show (cLv g σ) (0, 0) from (rfl : (0 : Nat) = 0))))) ((iup_n _ _ (kne (by decide))).trans ((iup_n _ _ (kne (by decide))).trans rfl)) ((iup_n _ _ (kne (by decide))).trans ((iup_n _ _ (kne (by decide))).trans rfl))) okX9 rfl 10 (by decide) m_116 (fun _ h => h) (v := .int (dayV σ)) rfl dX9_answer_91 ?_
            refine q_vI X ce_X0_init m_708 (c_X0_init l G A hAg (fun j => (fun j => (cLv g σ) j ∨ j = (7, nAn σ)) j ∨ j = (12, nAn σ)) (iup (iup ad (7, nAn σ) q_6) (12, nAn σ) q_7) (iup (iup (cEnL G g ad σ (lstN σ)) (7, nAn σ) (.inr (5, [.int 0, .null, .null, .null, .int 0, .int 0, .int 0, .int 0, .int 0, .int 0]))) (12, nAn σ) (.inr (12, [.int fa, .int aa]))) (7, nAn σ) (Or.inl (Or.inr rfl)) q_6 ((iup_n _ _ (kne (by decide))).trans (iup_s _ _ _)) ((iup_n _ _ (kne (by decide))).trans (iup_s _ _ _)) (nI (nAn σ)) (ad (4, j_sa)) (ad (6, j_ea)) q_7 (dayV σ)) (g0.step hS hAg) F (by decide) rfl hl.1 rfl (Nat.le_of_ble_eq_true rfl) dX9_answer_94 (by show _ ≤ 6; omega) (by show _ ≤ 640; omega) hS (fun _ h => h) (fun H locs F hz hk9 hS => ?_)
            have F : fw G.1 (fun j => (fun j => (cLv g σ) j ∨ j = (7, nAn σ)) j ∨ j = (12, nAn σ)) (iup (iup ad (7, nAn σ) q_6) (12, nAn σ) q_7) (iup (iup (iup (cEnL G g ad σ (lstN σ)) (7, nAn σ) (.inr (5, [.int 0, .null, .null, .null, .int 0, .int 0, .int 0, .int 0, .int 0, .int 0]))) (12, nAn σ) (.inr (12, [.int fa, .int aa]))) (7, nAn σ) (.inr (5, [.int (nI (nAn σ)), .ref (ad (4, j_sa)), .ref (ad (6, j_ea)), .ref q_7, .int (dayV σ), .int 0, .int 0, .int 0, .int 0, .int 0]))) A H := F
            refine lv_astore (lv' := [(7, .ref q_6), (6, .ref (ad (6, j_ea))), (5, .ref (ad (4, j_sa))), (0, .ref (ad (0, 0))), (1, .int (nI j_sa)), (2, .int (nI j_ea)), (3, .int fa), (4, .int aa)]) X.ex X.co dX9_answer_97 hl (by decide) rfl (fun ls hl => ?_)
            refine lv_aload X.ex X.co dX9_answer_99 (lv_at hl 0 rfl) ?_
            refine lv_aload X.ex X.co dX9_answer_101 (lv_at hl 0 rfl) ?_
            have hf9 := hI0.ex hj_ea; have hg9 := allS_b hI0 (e := j_ea) hj_ea _ (Nat.le_refl _)
            refine q_rV X ce_X0_gradeByRule m_188 (c_X0_gradeByRule l G ad σ q_6 q_7 j_ea fa aa 0 (by omega) (by omega)) (g0.step hS hAg) ⟨⟨(fw.get F (Or.inl (Or.inl ((show (cLv g σ) (6, j_ea) from (show j_ea < nEx σ by omega))))) ((iup_n _ _ (kne (by decide))).trans ((iup_n _ _ (kne (by decide))).trans rfl)) ((iup_n _ _ (kne (by decide))).trans ((iup_n _ _ (kne (by decide))).trans ((iup_n _ _ (kne (by decide))).trans rfl)))), (fw.get F (Or.inl (Or.inl ((show (cLv g σ) (11, j_ea) from (show j_ea < nEx σ by omega))))) ((iup_n _ _ (kne (by decide))).trans ((iup_n _ _ (kne (by decide))).trans rfl)) ((iup_n _ _ (kne (by decide))).trans ((iup_n _ _ (kne (by decide))).trans ((iup_n _ _ (kne (by decide))).trans rfl)))), (fw.get F (Or.inl (Or.inl ((show (cLv g σ) (13, j_ea) from (show j_ea < nEx σ by omega))))) ((iup_n _ _ (kne (by decide))).trans ((iup_n _ _ (kne (by decide))).trans rfl)) ((iup_n _ _ (kne (by decide))).trans ((iup_n _ _ (kne (by decide))).trans ((iup_n _ _ (kne (by decide))).trans rfl)))), (fw.get F (Or.inl (Or.inl ((show (cLv g σ) (14, j_ea) from (show j_ea < nEx σ by omega))))) ((iup_n _ _ (kne (by decide))).trans ((iup_n _ _ (kne (by decide))).trans rfl)) ((iup_n _ _ (kne (by decide))).trans ((iup_n _ _ (kne (by decide))).trans ((iup_n _ _ (kne (by decide))).trans rfl))))⟩, (fw.get F (Or.inl (Or.inr rfl)) ((iup_n _ _ (kne (by decide))).trans (iup_s _ _ _)) (iup_s _ _ _)), (fw.get F (Or.inr rfl) (iup_s _ _ _) ((iup_n _ _ (kne (by decide))).trans (iup_s _ _ _)))⟩ (fw.get F (Or.inl (Or.inr rfl)) ((iup_n _ _ (kne (by decide))).trans (iup_s _ _ _)) (iup_s _ _ _)) rfl (by decide) rfl hl.1 rfl (Nat.le_of_ble_eq_true rfl) dX9_answer_103 (by omega) (by omega) ?_
            refine f_put X hK F hS (Or.inl (Or.inr rfl)) ((iup_n _ _ (kne (by decide))).trans (iup_s _ _ _)) (ci := 5) (fs := [.int (nI (nAn σ)), .ref (ad (4, j_sa)), .ref (ad (6, j_ea)), .ref q_7, .int (dayV σ), .int 0, .int 0, .int 0, .int 0, .int 0]) (iup_s _ _ _) okX0 rfl 5 (by decide) m_727 (fun _ h => h) rfl (v := .int (gradR σ fa aa j_ea 0)) rfl rfl rfl (Nat.le_of_ble_eq_true rfl) dX9_answer_106 (fun H locs F hS => ?_)
            rw [iup_iup] at F
            have F : fw G.1 (fun j => (fun j => (cLv g σ) j ∨ j = (7, nAn σ)) j ∨ j = (12, nAn σ)) (iup (iup ad (7, nAn σ) q_6) (12, nAn σ) q_7) (iup (iup (iup (cEnL G g ad σ (lstN σ)) (7, nAn σ) (.inr (5, [.int 0, .null, .null, .null, .int 0, .int 0, .int 0, .int 0, .int 0, .int 0]))) (12, nAn σ) (.inr (12, [.int fa, .int aa]))) (7, nAn σ) (.inr (5, [.int (nI (nAn σ)), .ref (ad (4, j_sa)), .ref (ad (6, j_ea)), .ref q_7, .int (dayV σ), .int (gradR σ fa aa j_ea 0), .int 0, .int 0, .int 0, .int 0]))) A H := F
            have F : cwL G (gAn g (nAn σ) (gradR σ fa aa j_ea 0) 0 0) A (iup (iup ad (7, nAn σ) q_6) (12, nAn σ) q_7) (sN (sV (sV (sV (sN (sN σ 20 (nAn σ) j_sa) 21 (nAn σ) j_ea) 22 (nAn σ) fa) 23 (nAn σ) aa) 24 (nAn σ) (dayV σ)) 19 0 (nAn σ + 1)) (lstN σ) H := push7 hI0 hLo (hJ.2.2.1 _ (Nat.le_refl _)).1 (hJ.2.2.1 _ (Nat.le_refl _)).2 F
            have hLo : okL (gAn g (nAn σ) (gradR σ fa aa j_ea 0) 0 0) (sN (sV (sV (sV (sN (sN σ 20 (nAn σ) j_sa) 21 (nAn σ) j_ea) 22 (nAn σ) fa) 23 (nAn σ) aa) 24 (nAn σ) (dayV σ)) 19 0 (nAn σ + 1)) (lstN σ) := okL_mono hLo ⟨Nat.le_refl _, Nat.le_refl _, Nat.le_refl _, Nat.le_refl _, Nat.le_succ _, Nat.le_refl _, Nat.le_refl _⟩ (fun k hk => Or.inl hk)
            have hC : CLL (gAn g (nAn σ) (gradR σ fa aa j_ea 0) 0 0) (sN (sV (sV (sV (sN (sN σ 20 (nAn σ) j_sa) 21 (nAn σ) j_ea) 22 (nAn σ) fa) 23 (nAn σ) aa) 24 (nAn σ) (dayV σ)) 19 0 (nAn σ + 1)) (lstN σ) := hC
            refine lv_aload_n X.ex X.co dX9_answer_109 rfl (lv_at hl 3 rfl) ?_
            refine f_get X hK (show va_at G.1 vwCl (ad (0, 0), eBe (iup (iup ad (7, nAn σ) q_6) (12, nAn σ) q_7) (dayV (sN (sV (sV (sV (sN (sN σ 20 (nAn σ) j_sa) 21 (nAn σ) j_ea) 22 (nAn σ) fa) 23 (nAn σ) aa) 24 (nAn σ) (dayV σ)) 19 0 (nAn σ + 1)))) H from by have h9 := (cw_be F); exact h9) okX9 rfl 4 (by decide) m_110 (fun _ h => h) (v := .ref ((iup (iup ad (7, nAn σ) q_6) (12, nAn σ) q_7) (1, 4))) rfl dX9_answer_110 ?_
            refine lv_aload X.ex X.co dX9_answer_113 (lv_at hl 0 rfl) ?_
            have hn_8 : ((lstN σ) (4)).length = nAn σ := rng_len
            have ha_9 := addS_le (n := ((lstN σ) (4)).length) (hC (4) (Or.inl (by show 4 < 9 + nLe σ; omega))).2
            refine q_eV X ce_Jx4a65c_add_9ea2d m_377 (c_addLv l G A hAg (gAn g (nAn σ) (gradR σ fa aa j_ea 0) 0 0) (iup (iup ad (7, nAn σ) q_6) (12, nAn σ) q_7) (sN (sV (sV (sV (sN (sN σ 20 (nAn σ) j_sa) 21 (nAn σ) j_ea) 22 (nAn σ) fa) 23 (nAn σ) aa) 24 (nAn σ) (dayV σ)) 19 0 (nAn σ + 1)) (lstN σ) hC hLo (4) (Or.inl (by show 4 < 9 + nLe σ; omega)) (7, nAn σ) (show nAn σ < nAn σ + 1 by omega) (Nat.le_of_ble_eq_true rfl) (Nat.le_of_ble_eq_true rfl) (by omega) _ _ rfl ((iup_n _ _ (kne (by decide))).trans (iup_s _ _ _))) (g0.step hS hAg) ⟨F, (fun q hq => hfr q (Nat.le_trans hS.1 hq))⟩ (cw_ls F (k := 4) (Or.inl (by show 4 < 9 + nLe σ; omega))) rfl (by decide) rfl hl.1 rfl (Nat.le_of_ble_eq_true rfl) dX9_answer_115 (by show _ ≤ 6; omega) (by show _ ≤ 640; omega) hS (fun _ h => h) (fun H locs F hz hk9 hS => ?_)
            obtain ⟨q_10, F⟩ := F
            have hC : CLL (gls (gAn g (nAn σ) (gradR σ fa aa j_ea 0) 0 0) (4) (ncap ((lstN σ) (4)).length ((gAn g (nAn σ) (gradR σ fa aa j_ea 0) 0 0).1 (4))) ((gAn g (nAn σ) (gradR σ fa aa j_ea 0) 0 0).2.1 (4) + 1)) (sN (sV (sV (sV (sN (sN σ 20 (nAn σ) j_sa) 21 (nAn σ) j_ea) 22 (nAn σ) fa) 23 (nAn σ) aa) 24 (nAn σ) (dayV σ)) 19 0 (nAn σ + 1)) (upL (lstN σ) (4) ((lstN σ) (4) ++ [(7, nAn σ)])) := CLL_push hC (Or.inl (by show 4 < 9 + nLe σ; omega)) (by omega)
            have hLo : okL (gls (gAn g (nAn σ) (gradR σ fa aa j_ea 0) 0 0) (4) (ncap ((lstN σ) (4)).length ((gAn g (nAn σ) (gradR σ fa aa j_ea 0) 0 0).1 (4))) ((gAn g (nAn σ) (gradR σ fa aa j_ea 0) 0 0).2.1 (4) + 1)) (sN (sV (sV (sV (sN (sN σ 20 (nAn σ) j_sa) 21 (nAn σ) j_ea) 22 (nAn σ) fa) 23 (nAn σ) aa) 24 (nAn σ) (dayV σ)) 19 0 (nAn σ + 1)) (upL (lstN σ) (4) ((lstN σ) (4) ++ [(7, nAn σ)])) := okL_push hLo (Or.inl (by show 4 < 9 + nLe σ; omega)) (show nAn σ < nAn σ + 1 by omega) (Nat.le_of_ble_eq_true rfl) (Nat.le_of_ble_eq_true rfl)
            refine lv_pop X.ex X.co dX9_answer_118 rfl ?_
            refine lv_aload X.ex X.co dX9_answer_119 (lv_at hl 1 rfl) ?_
            refine f_get X hK (show va_at G.1 vwCl (ad (6, j_ea), eEx (iup (iup (iup ad (7, nAn σ) q_6) (12, nAn σ) q_7) (2, 4) q_10) (sN (sV (sV (sV (sN (sN σ 20 (nAn σ) j_sa) 21 (nAn σ) j_ea) 22 (nAn σ) fa) 23 (nAn σ) aa) 24 (nAn σ) (dayV σ)) 19 0 (nAn σ + 1)) j_ea) H from by have h9 := (cw_ex F (i := j_ea) (show j_ea < nEx σ by omega)); exact h9) okX4 rfl 5 (by decide) m_591 (fun _ h => h) (v := .ref ((iup (iup (iup ad (7, nAn σ) q_6) (12, nAn σ) q_7) (2, 4) q_10) (1, 17 + j_ea))) rfl dX9_answer_121 ?_
            refine lv_aload X.ex X.co dX9_answer_124 (lv_at hl 0 rfl) ?_
            have hLn := anL_len σ j_ea
            have hn_11 : ((upL (lstN σ) (4) ((lstN σ) (4) ++ [(7, nAn σ)])) (17 + j_ea)).length = (anL σ j_ea).length := (by rw [upL_n _ _ (by omega)]; exact anL_n)
            have ha_12 := addS_le (n := ((upL (lstN σ) (4) ((lstN σ) (4) ++ [(7, nAn σ)])) (17 + j_ea)).length) (hC (17 + j_ea) (Or.inr ⟨by omega, by show 17 + j_ea < 17 + nEx σ; omega⟩)).2
            refine q_eV X ce_Jx4a65c_add_9ea2d m_377 (c_addLv l G A hAg (gls (gAn g (nAn σ) (gradR σ fa aa j_ea 0) 0 0) (4) (ncap ((lstN σ) (4)).length ((gAn g (nAn σ) (gradR σ fa aa j_ea 0) 0 0).1 (4))) ((gAn g (nAn σ) (gradR σ fa aa j_ea 0) 0 0).2.1 (4) + 1)) (iup (iup (iup ad (7, nAn σ) q_6) (12, nAn σ) q_7) (2, 4) q_10) (sN (sV (sV (sV (sN (sN σ 20 (nAn σ) j_sa) 21 (nAn σ) j_ea) 22 (nAn σ) fa) 23 (nAn σ) aa) 24 (nAn σ) (dayV σ)) 19 0 (nAn σ + 1)) (upL (lstN σ) (4) ((lstN σ) (4) ++ [(7, nAn σ)])) hC hLo (17 + j_ea) (Or.inr ⟨by omega, by show 17 + j_ea < 17 + nEx σ; omega⟩) (7, nAn σ) (show nAn σ < nAn σ + 1 by omega) (Nat.le_of_ble_eq_true rfl) (Nat.le_of_ble_eq_true rfl) (by omega) _ _ rfl ((iup_n _ _ (kne (by decide))).trans ((iup_n _ _ (kne (by decide))).trans (iup_s _ _ _)))) (g0.step hS hAg) ⟨F, (fun q hq => hfr q (Nat.le_trans hS.1 hq))⟩ (cw_ls F (k := 17 + j_ea) (Or.inr ⟨by omega, by show 17 + j_ea < 17 + nEx σ; omega⟩)) rfl (by decide) rfl hl.1 rfl (Nat.le_of_ble_eq_true rfl) dX9_answer_126 (by show _ ≤ 6; omega) (by show _ ≤ 640; omega) hS (fun _ h => h) (fun H locs F hz hk9 hS => ?_)
            obtain ⟨q_13, F⟩ := F
            have hC : CLL (gls (gls (gAn g (nAn σ) (gradR σ fa aa j_ea 0) 0 0) (4) (ncap ((lstN σ) (4)).length ((gAn g (nAn σ) (gradR σ fa aa j_ea 0) 0 0).1 (4))) ((gAn g (nAn σ) (gradR σ fa aa j_ea 0) 0 0).2.1 (4) + 1)) (17 + j_ea) (ncap ((upL (lstN σ) (4) ((lstN σ) (4) ++ [(7, nAn σ)])) (17 + j_ea)).length ((gls (gAn g (nAn σ) (gradR σ fa aa j_ea 0) 0 0) (4) (ncap ((lstN σ) (4)).length ((gAn g (nAn σ) (gradR σ fa aa j_ea 0) 0 0).1 (4))) ((gAn g (nAn σ) (gradR σ fa aa j_ea 0) 0 0).2.1 (4) + 1)).1 (17 + j_ea))) ((gls (gAn g (nAn σ) (gradR σ fa aa j_ea 0) 0 0) (4) (ncap ((lstN σ) (4)).length ((gAn g (nAn σ) (gradR σ fa aa j_ea 0) 0 0).1 (4))) ((gAn g (nAn σ) (gradR σ fa aa j_ea 0) 0 0).2.1 (4) + 1)).2.1 (17 + j_ea) + 1)) (sN (sV (sV (sV (sN (sN σ 20 (nAn σ) j_sa) 21 (nAn σ) j_ea) 22 (nAn σ) fa) 23 (nAn σ) aa) 24 (nAn σ) (dayV σ)) 19 0 (nAn σ + 1)) (upL (upL (lstN σ) (4) ((lstN σ) (4) ++ [(7, nAn σ)])) (17 + j_ea) ((upL (lstN σ) (4) ((lstN σ) (4) ++ [(7, nAn σ)])) (17 + j_ea) ++ [(7, nAn σ)])) := CLL_push hC (Or.inr ⟨by omega, by show 17 + j_ea < 17 + nEx σ; omega⟩) (by omega)
            have hLo : okL (gls (gls (gAn g (nAn σ) (gradR σ fa aa j_ea 0) 0 0) (4) (ncap ((lstN σ) (4)).length ((gAn g (nAn σ) (gradR σ fa aa j_ea 0) 0 0).1 (4))) ((gAn g (nAn σ) (gradR σ fa aa j_ea 0) 0 0).2.1 (4) + 1)) (17 + j_ea) (ncap ((upL (lstN σ) (4) ((lstN σ) (4) ++ [(7, nAn σ)])) (17 + j_ea)).length ((gls (gAn g (nAn σ) (gradR σ fa aa j_ea 0) 0 0) (4) (ncap ((lstN σ) (4)).length ((gAn g (nAn σ) (gradR σ fa aa j_ea 0) 0 0).1 (4))) ((gAn g (nAn σ) (gradR σ fa aa j_ea 0) 0 0).2.1 (4) + 1)).1 (17 + j_ea))) ((gls (gAn g (nAn σ) (gradR σ fa aa j_ea 0) 0 0) (4) (ncap ((lstN σ) (4)).length ((gAn g (nAn σ) (gradR σ fa aa j_ea 0) 0 0).1 (4))) ((gAn g (nAn σ) (gradR σ fa aa j_ea 0) 0 0).2.1 (4) + 1)).2.1 (17 + j_ea) + 1)) (sN (sV (sV (sV (sN (sN σ 20 (nAn σ) j_sa) 21 (nAn σ) j_ea) 22 (nAn σ) fa) 23 (nAn σ) aa) 24 (nAn σ) (dayV σ)) 19 0 (nAn σ + 1)) (upL (upL (lstN σ) (4) ((lstN σ) (4) ++ [(7, nAn σ)])) (17 + j_ea) ((upL (lstN σ) (4) ((lstN σ) (4) ++ [(7, nAn σ)])) (17 + j_ea) ++ [(7, nAn σ)])) := okL_push hLo (Or.inr ⟨by omega, by show 17 + j_ea < 17 + nEx σ; omega⟩) (show nAn σ < nAn σ + 1 by omega) (Nat.le_of_ble_eq_true rfl) (Nat.le_of_ble_eq_true rfl)
            refine lv_pop X.ex X.co dX9_answer_129 rfl ?_
            refine lv_aload X.ex X.co dX9_answer_130 (lv_at hl 0 rfl) ?_
            refine f_get X hK (show va_at G.1 vwCl (q_6, eAn (gls (gls (gAn g (nAn σ) (gradR σ fa aa j_ea 0) 0 0) (4) (ncap ((lstN σ) (4)).length ((gAn g (nAn σ) (gradR σ fa aa j_ea 0) 0 0).1 (4))) ((gAn g (nAn σ) (gradR σ fa aa j_ea 0) 0 0).2.1 (4) + 1)) (17 + j_ea) (ncap ((upL (lstN σ) (4) ((lstN σ) (4) ++ [(7, nAn σ)])) (17 + j_ea)).length ((gls (gAn g (nAn σ) (gradR σ fa aa j_ea 0) 0 0) (4) (ncap ((lstN σ) (4)).length ((gAn g (nAn σ) (gradR σ fa aa j_ea 0) 0 0).1 (4))) ((gAn g (nAn σ) (gradR σ fa aa j_ea 0) 0 0).2.1 (4) + 1)).1 (17 + j_ea))) ((gls (gAn g (nAn σ) (gradR σ fa aa j_ea 0) 0 0) (4) (ncap ((lstN σ) (4)).length ((gAn g (nAn σ) (gradR σ fa aa j_ea 0) 0 0).1 (4))) ((gAn g (nAn σ) (gradR σ fa aa j_ea 0) 0 0).2.1 (4) + 1)).2.1 (17 + j_ea) + 1)) (iup (iup (iup (iup ad (7, nAn σ) q_6) (12, nAn σ) q_7) (2, 4) q_10) (2, 17 + j_ea) q_13) (sN (sV (sV (sV (sN (sN σ 20 (nAn σ) j_sa) 21 (nAn σ) j_ea) 22 (nAn σ) fa) 23 (nAn σ) aa) 24 (nAn σ) (dayV σ)) 19 0 (nAn σ + 1)) (nAn σ)) H from by have h9 := cw_an F (i := nAn σ) (by show _ < _ + 1; omega); rw [show (iup (iup (iup (iup ad (7, nAn σ) q_6) (12, nAn σ) q_7) (2, 4) q_10) (2, 17 + j_ea) q_13) (7, nAn σ) = q_6 from ((iup_n _ _ (kne (by decide))).trans ((iup_n _ _ (kne (by decide))).trans ((iup_n _ _ (kne (by decide))).trans (iup_s _ _ _))))] at h9; exact h9) okX0 rfl 0 (by decide) m_714 (fun _ h => h) (v := .int (nI (nAn σ))) rfl dX9_answer_132 ?_
            exact vx_ret (c_i X hS rfl rfl (by have q : (fAnswer σ (nI j_sa) (nI j_ea) fa aa) = (nI (nAn σ), (sN (sV (sV (sV (sN (sN σ 20 (nAn σ) j_sa) 21 (nAn σ) j_ea) 22 (nAn σ) fa) 23 (nAn σ) aa) 24 (nAn σ) (dayV σ)) 19 0 (nAn σ + 1))) := (by simp only [fAnswer]; rw [if_pos (by simp [ok_sa, ok_ea]), if_pos (by assumption), ex_sa, ex_ea, if_pos (by assumption), if_neg (by omega)]); rw [q]; exact ⟨rfl, h0, CB_ans (g := g) (ad := (iup (iup (iup (iup ad (7, nAn σ) q_6) (12, nAn σ) q_7) (2, 4) q_10) (2, 17 + j_ea) q_13)) (σ := σ) (sx := j_sa) (ex := j_ea) (f := fa) (a := aa) hI rfl (hJ.2.2.1 _ (Nat.le_refl _)).1 hj_ea hcs9 hgr hwt hsb rfl (lsAll (by rw [upL_n _ _ (by omega), upL_n _ _ (by omega)]; rfl) (by rw [upL_n _ _ (by omega), upL_n _ _ (by omega)]; rfl) (by rw [upL_n _ _ (by omega), upL_n _ _ (by omega)]; rfl) (by rw [upL_n _ _ (by omega), upL_n _ _ (by omega)]; rfl) (by rw [upL_n _ _ (by omega), upL_s]; exact rng_s (nAn σ) _) (by rw [upL_n _ _ (by omega), upL_n _ _ (by omega)]; rfl) (by rw [upL_n _ _ (by omega), upL_n _ _ (by omega)]; rfl) (by rw [upL_n _ _ (by omega), upL_n _ _ (by omega)]; rfl) (by rw [upL_n _ _ (by omega), upL_n _ _ (by omega)]; rfl) (fun l hl => by have h9 : l < nLe σ := hl; rw [upL_n _ _ (by omega), upL_n _ _ (by omega), lst_le _ (by omega), lst_le _ (by omega)]; rfl) (fun e he => by
      by_cases h9 : e = j_ea
      · subst h9
        rw [upL_s, upL_n _ _ (by omega), lst_ex, lst_ex, (anL_push (σ := σ) (τ := (sN (sV (sV (sV (sN (sN σ 20 (nAn σ) j_sa) 21 (nAn σ) e) 22 (nAn σ) fa) 23 (nAn σ) aa) 24 (nAn σ) (dayV σ)) 19 0 (nAn σ + 1))) (l := e) rfl (fun a ha => sN_no (sN σ 20 (nAn σ) j_sa) e (k := 21) (by omega))), if_pos (show exe (sN (sV (sV (sV (sN (sN σ 20 (nAn σ) j_sa) 21 (nAn σ) e) 22 (nAn σ) fa) 23 (nAn σ) aa) 24 (nAn σ) (dayV σ)) 19 0 (nAn σ + 1)) (nAn σ) = e from if_pos ⟨rfl, rfl⟩), List.map_append]
        rfl
      · rw [upL_n _ _ (by omega), upL_n _ _ (by omega), lst_ex, lst_ex, (anL_push (σ := σ) (τ := (sN (sV (sV (sV (sN (sN σ 20 (nAn σ) j_sa) 21 (nAn σ) j_ea) 22 (nAn σ) fa) 23 (nAn σ) aa) 24 (nAn σ) (dayV σ)) 19 0 (nAn σ + 1))) (l := e) rfl (fun a ha => sN_no (sN σ 20 (nAn σ) j_sa) j_ea (k := 21) (by omega))), if_neg (fun z => h9 (z.symm.trans (if_pos ⟨rfl, rfl⟩))), List.append_nil])) hC rfl F⟩) (by omega) (by omega) dX9_answer_135)
          · exact x_throw X hst g0 hAg hS hno (cls := "java/lang/IllegalStateException") (text := "there have been 100 answers") (by decide) m_346 m_14 ok_ISE (tb_3 (List.mem_of_getElem? (i := 187) (by decide +kernel))) hl.1 dX9_answer_55 dX9_answer_58 dX9_answer_59 dX9_answer_61 dX9_answer_64 (Nat.le_of_ble_eq_true rfl) (by omega) (by omega) (fun H1 hz hq => fX_err (k := 3) (by show (fAnswer σ (nI j_sa) (nI j_ea) fa aa) = err σ 4; simp only [fAnswer]; rw [if_pos (by simp [ok_sa, ok_ea]), if_pos (by assumption), ex_sa, ex_ea, if_pos (by assumption), if_pos (by omega)]) rfl (CB_old (⟨g, ad, rfl, ⟨hC, hgr, hwt, hsb⟩, F⟩ : CB G A (ad (0, 0)) σ _) hq))
        · exact x_throw X hst g0 hAg hS hno (cls := "java/lang/UnsupportedOperationException") (text := "there is a reason why not") (by decide) m_690 m_29 ok_UOE (tb_3 (List.mem_of_getElem? (i := 180) (by decide +kernel))) hl.1 dX9_answer_33 dX9_answer_36 dX9_answer_37 dX9_answer_39 dX9_answer_42 (Nat.le_of_ble_eq_true rfl) (by omega) (by omega) (fun H1 hz hq => fX_err (k := 2) (by show (fAnswer σ (nI j_sa) (nI j_ea) fa aa) = err σ 3; simp only [fAnswer]; rw [if_pos (by simp [ok_sa, ok_ea]), if_pos (by assumption), ex_sa, ex_ea, if_neg (by assumption)]) rfl (CB_old (⟨g, ad, rfl, ⟨hC, hgr, hwt, hsb⟩, F⟩ : CB G A (ad (0, 0)) σ _) hq))
set_option maxHeartbeats 4000000 in
set_option maxRecDepth 100000 in
theorem c_X9_issue (l : Launch) (hst : l.stackTraces = false) (G : GT) (A : Nat → Prop) (hAg : ∀ q, A q → gA G q) (b : Nat) (σ : Sg) (hI : MI σ) (hJ : MJ σ) (h0 : σ.1 0 0 = 0) (sa ca : Int32) : xM l yX9_issue cX9_issue 6 ((Option.some FieldType.int)) 8 4 330 G [.ref b, .int sa, .int ca] (fun H => CB G A b σ H ∧ ∀ q, H.size ≤ q → A q) (fB G A b (fIssue σ sa ca)) (fX ["java/lang/IndexOutOfBoundsException", "java/lang/IllegalStateException", "java/lang/UnsupportedOperationException"] G A b (fIssue σ sa ca)) A := by
  refine mk_x (by decide) (Nat.le_of_ble_eq_true rfl) ?_
  intro p e s m args below meth c X ls hl g0 F hno
  obtain ⟨⟨g, ad, hb0, ⟨hC, hgr, hwt, hsb⟩, F⟩, hfr⟩ := F
  subst hb0
  have hI0 := hI.1
  obtain ⟨b1, b2, b3, b4, b5, b6, b7⟩ := hI0.1
  obtain ⟨b8, b9, b10⟩ := hI.2.1
  have hone := hJ.2.2.2.2.2
  have hK := g0.1
  have hS : va_S A s.heap s.heap [] := va_S.rf
  have hLo := lstN_ok (g := g) hI
  have hl : lv_has ls 6 [(0, .ref (ad (0, 0))), (1, .int sa), (2, .int ca)] := hl
  show Wx p l e 8 4 330 s m args below meth c (fB G A (ad (0, 0)) (fIssue σ sa ca)) (fX ["java/lang/IndexOutOfBoundsException", "java/lang/IllegalStateException", "java/lang/UnsupportedOperationException"] G A (ad (0, 0)) (fIssue σ sa ca)) A s.heap [] 0 0 0 ls []
  refine lv_aload_n X.ex X.co dX9_issue_0 rfl (lv_at hl 0 rfl) ?_
  refine lv_iload_n X.ex X.co dX9_issue_1 rfl (lv_at hl 1 rfl) ?_
  rcases hok_1 : okP sa (nSt σ) with _ | _
  · exact x_V X ce_X9_findStudent m_655 (c_X9_findStudentX l hst G A hAg g ad σ hI0 hC sa hok_1) (g0.step hS hAg) F (cw_be F) rfl (by decide) rfl hl.1 rfl (Nat.le_of_ble_eq_true rfl) dX9_issue_2 (by omega) (by omega) hS (fun _ h => h) hno (fun E H1 hB hz hq => fX_err (k := 0) (by show (fIssue σ sa ca) = err σ 1; simp only [fIssue]; simp [hok_1]) (by rw [hB.1]; rfl) (⟨g, ad, rfl, ⟨hC, hgr, hwt, hsb⟩, hB.2⟩ : CB G A (ad (0, 0)) σ H1)) (fun v0 H1 locs1 hB => hB.elim)
  · have ok_sa := hok_1
    obtain ⟨j_sa, hj_sa, rfl⟩ := (okP_ix (by omega)).mp ok_sa
    have ex_sa := ix_nI (j := j_sa) (by omega)
    refine q_rV X ce_X9_findStudent m_655 (c_X9_findStudent l G A g ad σ hI0 hC j_sa (by omega)) (g0.step hS hAg) F (cw_be F) rfl (by decide) rfl hl.1 rfl (Nat.le_of_ble_eq_true rfl) dX9_issue_2 (by omega) (by omega) ?_
    refine lv_astore_n (lv' := [(3, .ref (ad (4, j_sa))), (0, .ref (ad (0, 0))), (1, .int (nI j_sa)), (2, .int ca)]) X.ex X.co dX9_issue_5 rfl hl (by decide) rfl (fun ls hl => ?_)
    refine lv_aload_n X.ex X.co dX9_issue_6 rfl (lv_at hl 1 rfl) ?_
    refine lv_iload_n X.ex X.co dX9_issue_7 rfl (lv_at hl 3 rfl) ?_
    rcases hok_2 : okP ca (nCr σ) with _ | _
    · exact x_V X ce_X9_findCourse m_1163 (c_X9_findCourseX l hst G A hAg g ad σ hI0 hC ca hok_2) (g0.step hS hAg) F (cw_be F) rfl (by decide) rfl hl.1 rfl (Nat.le_of_ble_eq_true rfl) dX9_issue_8 (by omega) (by omega) hS (fun _ h => h) hno (fun E H1 hB hz hq => fX_err (k := 0) (by show (fIssue σ (nI j_sa) ca) = err σ 1; simp only [fIssue]; simp [hok_2, ok_sa, ex_sa]) (by rw [hB.1]; rfl) (⟨g, ad, rfl, ⟨hC, hgr, hwt, hsb⟩, hB.2⟩ : CB G A (ad (0, 0)) σ H1)) (fun v0 H1 locs1 hB => hB.elim)
    · have ok_ca := hok_2
      obtain ⟨j_ca, hj_ca, rfl⟩ := (okP_ix (by omega)).mp ok_ca
      have ex_ca := ix_nI (j := j_ca) (by omega)
      refine q_rV X ce_X9_findCourse m_1163 (c_X9_findCourse l G A g ad σ hI0 hC j_ca (by omega)) (g0.step hS hAg) F (cw_be F) rfl (by decide) rfl hl.1 rfl (Nat.le_of_ble_eq_true rfl) dX9_issue_8 (by omega) (by omega) ?_
      refine lv_astore (lv' := [(4, .ref (ad (8, j_ca))), (3, .ref (ad (4, j_sa))), (0, .ref (ad (0, 0))), (1, .int (nI j_sa)), (2, .int (nI j_ca))]) X.ex X.co dX9_issue_11 hl (by decide) rfl (fun ls hl => ?_)
      refine lv_aload_n X.ex X.co dX9_issue_13 rfl (lv_at hl 2 rfl) ?_
      refine lv_aload_n X.ex X.co dX9_issue_14 rfl (lv_at hl 1 rfl) ?_
      refine lv_aload X.ex X.co dX9_issue_15 (lv_at hl 0 rfl) ?_
      refine q_rV X ce_X9_standingCertificate m_1168 (c_X9_standingCertificate l G A g ad σ hI0 hC hone j_sa j_ca (by omega) (by omega)) (g0.step hS hAg) F (cw_be F) rfl (by decide) rfl hl.1 rfl (Nat.le_of_ble_eq_true rfl) dX9_issue_17 (by omega) (by omega) ?_
      rcases hb_3 : stdS σ j_sa j_ca (nCe σ) with _ | b_4
      · refine lv_ifnonnullN X.ex X.co dX9_issue_20 ?_
        refine lv_aload_n X.ex X.co dX9_issue_23 rfl (lv_at hl 2 rfl) ?_
        refine f_get X hK (cw_be F) okX9 rfl 6 (by decide) m_112 (fun _ h => h) (v := .ref (ad (1, 6))) rfl dX9_issue_24 ?_
        refine q_rV X ce_Jx4a65c_size_8abf5 m_144 (c_Jx4a65c_size_8abf5 l G (ad (1, 6)) (g.2.1 (6)) (lrow G g ad (6)) (nCe σ)) (g0.step hS hAg) (cw_lsn F (k := 6) (n := nCe σ) (Or.inl (by omega)) rng_len) (cw_lsn F (k := 6) (n := nCe σ) (Or.inl (by omega)) rng_len) rfl (by decide) rfl hl.1 rfl (Nat.le_of_ble_eq_true rfl) dX9_issue_27 (by omega) (by omega) ?_
        refine lv_bipush (v := 30) X.ex X.co dX9_issue_30 (by decide) ?_
        refine n_cmp_lt X (x := nCe σ) (y := 30) (tgt := 46) (by omega) (by omega) dX9_issue_32 (by decide) (fun c_5 => ?_) (fun c_5 => ?_)
        · obtain ⟨qn9, hq9, he9⟩ := hJ.2.2.2.2.1 j_ca hj_ca
          have hen9 := iss_eno hI0 (sx := j_sa) hq9 he9
          refine lv_aload_n X.ex X.co dX9_issue_46 rfl (lv_at hl 2 rfl) ?_
          refine q_xV (w := fun q => .ref q) X ce_X9_now m_206 (c_X9_now l G trivial A hAg g ad σ hI0 hC) (g0.step hS hAg) ⟨F, (fun q hq => hfr q (Nat.le_trans hS.1 hq))⟩ (cw_be F) rfl (by decide) rfl hl.1 rfl (Nat.le_of_ble_eq_true rfl) dX9_issue_47 (by show _ ≤ 4; omega) (by show _ ≤ 330; omega) hS (fun _ h => h) (fun q_6 H locs F hz hk9 hS => ?_)
          have hmo : va_at G.1 vwCl (q_6, eMo (dayV σ) (nEx σ) (nAn σ)) H := fw.get F (Or.inr rfl) (iup_s _ _ _) (iup_s _ _ _)
          have Fn := F
          have F : cw G g A ad σ H := cw_drop (t := (10, nCe σ)) (show ¬ nCe σ < nCe σ by omega) F
          refine lv_astore (lv' := [(5, .ref q_6), (4, .ref (ad (8, j_ca))), (3, .ref (ad (4, j_sa))), (0, .ref (ad (0, 0))), (1, .int (nI j_sa)), (2, .int (nI j_ca))]) X.ex X.co dX9_issue_50 hl (by decide) rfl (fun ls hl => ?_)
          refine lv_aload_n X.ex X.co dX9_issue_52 rfl (lv_at hl 3 rfl) ?_
          refine lv_aload_n X.ex X.co dX9_issue_53 rfl (lv_at hl 2 rfl) ?_
          refine lv_aload X.ex X.co dX9_issue_54 (lv_at hl 1 rfl) ?_
          refine f_get X hK (cw_cr F (i := j_ca) (by omega)) okX3 rfl 0 (by decide) m_1148 (fun _ h => h) (v := .int (σ.2 33 j_ca)) rfl dX9_issue_56 ?_
          refine lv_aload X.ex X.co dX9_issue_59 (lv_at hl 1 rfl) ?_
          refine f_get X hK (cw_cr F (i := j_ca) (by omega)) okX3 rfl 1 (by decide) m_1150 (fun _ h => h) (v := .int (σ.2 34 j_ca)) rfl dX9_issue_61 ?_
          refine lv_aload X.ex X.co dX9_issue_64 (lv_at hl 0 rfl) ?_
          refine q_rV X ce_X9_hasMastery m_664 (c_X9_hasMastery l G A g ad σ hI0 hC hgr j_sa q_6 (nEx σ) (nAn σ) (σ.2 33 j_ca) (σ.2 34 j_ca) (dayV σ) (by omega) (by omega) (by omega)) (g0.step hS hAg) ⟨F, hmo⟩ (cw_be F) rfl (by decide) rfl hl.1 rfl (Nat.le_of_ble_eq_true rfl) dX9_issue_66 (by omega) (by omega) ?_
          refine b_if_ne X (x := hasS σ j_sa (σ.2 33 j_ca) (σ.2 34 j_ca) (dayV σ) (nEx σ) (nAn σ) (nLe σ)) (tgt := 83) dX9_issue_69 (by decide) (fun c_7 => ?_) (fun c_7 => ?_)
          · have Fc := F
            have F := Fn
            have F : fw G.1 (fun j => (cLv g σ) j ∨ j = (10, nCe σ)) (iup ad (10, nCe σ) q_6) (iup (cEnL G g ad σ (lstN σ)) (10, nCe σ) (.inr (11, [.int (dayV σ), .int (nI (nEx σ)), .int (nI (nAn σ))]))) A H := F
            refine lv_aload_n X.ex X.co dX9_issue_83 rfl (lv_at hl 3 rfl) ?_
            refine f_get X hK (cw_be Fc) okX9 rfl 6 (by decide) m_112 (fun _ h => h) (v := .ref (ad (1, 6))) rfl dX9_issue_84 ?_
            refine f_new X hK F hS hfr (9, nCe σ) (fun z => z.elim (fun z => absurd (show nCe σ < nCe σ from z) (by omega)) (kne (by decide))) (ci := 6) okX1 rfl m_178 m_1174 m_36 [.int 0, .null, .null, .null, .int 0] (by intro j hj; match j, hj with | 0, _ => rfl | 1, _ => rfl | 2, _ => rfl | 3, _ => rfl | 4, _ => rfl | n + 5, h => exact absurd h (by omega)) (by show _ ≤ 4; omega) (by show _ ≤ 330; omega) dX9_issue_87 (fun q_8 H F hS => ?_)
            have F : fw G.1 (fun j => (fun j => (cLv g σ) j ∨ j = (10, nCe σ)) j ∨ j = (9, nCe σ)) (iup (iup ad (10, nCe σ) q_6) (9, nCe σ) q_8) (iup (iup (cEnL G g ad σ (lstN σ)) (10, nCe σ) (.inr (11, [.int (dayV σ), .int (nI (nEx σ)), .int (nI (nAn σ))]))) (9, nCe σ) (.inr (6, [.int 0, .null, .null, .null, .int 0]))) A H := F
            have Fc : cw G g A ad σ H := cw_drop (t := (10, nCe σ)) (show ¬ nCe σ < nCe σ by omega) (fw_drop (t := (9, nCe σ)) (fun z => z.elim (fun z => absurd (show nCe σ < nCe σ from z) (by omega)) (kne (by decide))) F)
            refine lv_dup X.ex X.co dX9_issue_90 rfl ?_
            refine lv_aload_n X.ex X.co dX9_issue_91 rfl (lv_at hl 3 rfl) ?_
            refine f_get X hK (cw_be Fc) okX9 rfl 6 (by decide) m_112 (fun _ h => h) (v := .ref (ad (1, 6))) rfl dX9_issue_92 ?_
            refine q_rV X ce_Jx4a65c_size_8abf5 m_144 (c_Jx4a65c_size_8abf5 l G (ad (1, 6)) (g.2.1 (6)) (lrow G g ad (6)) (nCe σ)) (g0.step hS hAg) (cw_lsn Fc (k := 6) (n := nCe σ) (Or.inl (by omega)) rng_len) (cw_lsn Fc (k := 6) (n := nCe σ) (Or.inl (by omega)) rng_len) rfl (by decide) rfl hl.1 rfl (Nat.le_of_ble_eq_true rfl) dX9_issue_95 (by omega) (by omega) ?_
            refine lv_aload_n X.ex X.co dX9_issue_98 rfl (lv_at hl 2 rfl) ?_
            refine lv_aload X.ex X.co dX9_issue_99 (lv_at hl 1 rfl) ?_
            refine lv_aload X.ex X.co dX9_issue_101 (lv_at hl 0 rfl) ?_
            refine q_vI X ce_X1_init m_1175 (c_X1_init l G A hAg (fun j => (fun j => (cLv g σ) j ∨ j = (10, nCe σ)) j ∨ j = (9, nCe σ)) (iup (iup ad (10, nCe σ) q_6) (9, nCe σ) q_8) (iup (iup (cEnL G g ad σ (lstN σ)) (10, nCe σ) (.inr (11, [.int (dayV σ), .int (nI (nEx σ)), .int (nI (nAn σ))]))) (9, nCe σ) (.inr (6, [.int 0, .null, .null, .null, .int 0]))) (9, nCe σ) (Or.inr rfl) q_8 (iup_s _ _ _) (iup_s _ _ _) (nI (nCe σ)) (ad (4, j_sa)) (ad (8, j_ca)) q_6) (g0.step hS hAg) F (by decide) rfl hl.1 rfl (Nat.le_of_ble_eq_true rfl) dX9_issue_103 (by show _ ≤ 4; omega) (by show _ ≤ 330; omega) hS (fun _ h => h) (fun H locs F hz hk9 hS => ?_)
            rw [iup_iup] at F
            have F : fw G.1 (fun j => (fun j => (cLv g σ) j ∨ j = (10, nCe σ)) j ∨ j = (9, nCe σ)) (iup (iup ad (10, nCe σ) q_6) (9, nCe σ) q_8) (iup (iup (cEnL G g ad σ (lstN σ)) (10, nCe σ) (.inr (11, [.int (dayV σ), .int (nI (nEx σ)), .int (nI (nAn σ))]))) (9, nCe σ) (.inr (6, [.int (nI (nCe σ)), .ref (ad (4, j_sa)), .ref (ad (8, j_ca)), .ref q_6, .int 1]))) A H := F
            have F : cwL G g A (iup (iup ad (10, nCe σ) q_6) (9, nCe σ) q_8) (sN (issS σ j_sa j_ca) 35 0 (nCe σ + 1)) (lstN σ) H := push9 hI0 hLo F
            have hLo : okL g (sN (issS σ j_sa j_ca) 35 0 (nCe σ + 1)) (lstN σ) := okL_mono hLo ⟨Nat.le_refl _, Nat.le_refl _, Nat.le_refl _, Nat.le_refl _, Nat.le_refl _, Nat.le_refl _, Nat.le_succ _⟩ (fun k hk => Or.inl hk)
            have hC : CLL g (sN (issS σ j_sa j_ca) 35 0 (nCe σ + 1)) (lstN σ) := hC
            have hn_9 : ((lstN σ) (6)).length = nCe σ := rng_len
            have ha_10 := addS_le (n := ((lstN σ) (6)).length) (hC (6) (Or.inl (show 6 < 9 + nLe σ by omega))).2
            refine q_eV X ce_Jx4a65c_add_9ea2d m_377 (c_addLv l G A hAg g (iup (iup ad (10, nCe σ) q_6) (9, nCe σ) q_8) (sN (issS σ j_sa j_ca) 35 0 (nCe σ + 1)) (lstN σ) hC hLo (6) (Or.inl (show 6 < 9 + nLe σ by omega)) (9, nCe σ) (show nCe σ < nCe σ + 1 by omega) (Nat.le_of_ble_eq_true rfl) (Nat.le_of_ble_eq_true rfl) (by omega) _ _ rfl (iup_s _ _ _)) (g0.step hS hAg) ⟨F, (fun q hq => hfr q (Nat.le_trans hS.1 hq))⟩ (cw_ls F (k := 6) (Or.inl (show 6 < 9 + nLe σ by omega))) rfl (by decide) rfl hl.1 rfl (Nat.le_of_ble_eq_true rfl) dX9_issue_106 (by show _ ≤ 4; omega) (by show _ ≤ 330; omega) hS (fun _ h => h) (fun H locs F hz hk9 hS => ?_)
            obtain ⟨q_11, F⟩ := F
            have hC : CLL (gls g (6) (ncap ((lstN σ) (6)).length (g.1 (6))) (g.2.1 (6) + 1)) (sN (issS σ j_sa j_ca) 35 0 (nCe σ + 1)) (upL (lstN σ) (6) ((lstN σ) (6) ++ [(9, nCe σ)])) := CLL_push hC (Or.inl (show 6 < 9 + nLe σ by omega)) (by omega)
            have hLo : okL (gls g (6) (ncap ((lstN σ) (6)).length (g.1 (6))) (g.2.1 (6) + 1)) (sN (issS σ j_sa j_ca) 35 0 (nCe σ + 1)) (upL (lstN σ) (6) ((lstN σ) (6) ++ [(9, nCe σ)])) := okL_push hLo (Or.inl (show 6 < 9 + nLe σ by omega)) (show nCe σ < nCe σ + 1 by omega) (Nat.le_of_ble_eq_true rfl) (Nat.le_of_ble_eq_true rfl)
            refine lv_pop X.ex X.co dX9_issue_109 rfl ?_
            refine lv_aload_n X.ex X.co dX9_issue_110 rfl (lv_at hl 3 rfl) ?_
            refine f_get X hK (show va_at G.1 vwCl (ad (0, 0), eBe (iup (iup (iup ad (10, nCe σ) q_6) (9, nCe σ) q_8) (2, 6) q_11) (dayV (sN (issS σ j_sa j_ca) 35 0 (nCe σ + 1)))) H from by have h9 := (cw_be F); exact h9) okX9 rfl 6 (by decide) m_112 (fun _ h => h) (v := .ref ((iup (iup (iup ad (10, nCe σ) q_6) (9, nCe σ) q_8) (2, 6) q_11) (1, 6))) rfl dX9_issue_111 ?_
            refine q_rV X ce_Jx4a65c_size_8abf5 m_144 (c_Jx4a65c_size_8abf5 l G ((iup (iup (iup ad (10, nCe σ) q_6) (9, nCe σ) q_8) (2, 6) q_11) (1, 6)) ((gls g (6) (ncap ((lstN σ) (6)).length (g.1 (6))) (g.2.1 (6) + 1)).2.1 (6)) (lrow G (gls g (6) (ncap ((lstN σ) (6)).length (g.1 (6))) (g.2.1 (6) + 1)) (iup (iup (iup ad (10, nCe σ) q_6) (9, nCe σ) q_8) (2, 6) q_11) (6)) ((nCe σ + 1))) (g0.step hS hAg) (cw_lsn F (k := 6) (n := (nCe σ + 1)) (Or.inl (show 6 < 9 + nLe σ by omega)) (by rw [upL_s, List.length_append, hn_9]; rfl)) (cw_lsn F (k := 6) (n := (nCe σ + 1)) (Or.inl (show 6 < 9 + nLe σ by omega)) (by rw [upL_s, List.length_append, hn_9]; rfl)) rfl (by decide) rfl hl.1 rfl (Nat.le_of_ble_eq_true rfl) dX9_issue_114 (by omega) (by omega) ?_
            refine lv_iconst (v := 1) X.ex X.co dX9_issue_117 (by decide) ?_
            refine n_sub X (x := (nCe σ + 1)) (y := 1) (by omega) dX9_issue_118 ?_
            refine top_eq (y := nI (nCe σ)) rfl ?_
            exact vx_ret (c_i X hS rfl rfl (by have q : (fIssue σ (nI j_sa) (nI j_ca)) = (nI (nCe σ), (sN (issS σ j_sa j_ca) 35 0 (nCe σ + 1))) := (by simp only [fIssue]; rw [if_pos (by simp [ok_sa, ok_ca]), ex_sa, ex_ca, if_neg (fun z => z.elim (fun z => z (by assumption)) (fun z => by omega)), ← hen9, if_pos (by simp [c_7])]); rw [q]; exact ⟨rfl, h0, mkCB2 (ad := (iup (iup (iup ad (10, nCe σ) q_6) (9, nCe σ) q_8) (2, 6) q_11)) (σ := σ) hgr hwt hsb rfl (lsAll (by rw [upL_n _ _ (by decide)]; rfl) (by rw [upL_n _ _ (by decide)]; rfl) (by rw [upL_n _ _ (by decide)]; rfl) (by rw [upL_n _ _ (by decide)]; rfl) (by rw [upL_n _ _ (by decide)]; rfl) (by rw [upL_n _ _ (by decide)]; rfl) (by rw [upL_s]; exact rng_s (nCe σ) _) (by rw [upL_n _ _ (by decide)]; rfl) (by rw [upL_n _ _ (by decide)]; rfl) (fun l hl => by rw [upL_n _ _ (by omega), lst_le _ (Nat.lt_of_lt_of_le hl b3), lst_le _ (Nat.lt_of_lt_of_le hl b3)]; rfl) (fun e he => by rw [upL_n _ _ (by omega), lst_ex, lst_ex]; rfl)) hC rfl rfl (fun a ha => grade_c rfl rfl rfl rfl rfl rfl rfl rfl (fun k hk => ⟨rfl, rfl⟩)) rfl rfl rfl rfl F⟩) (by omega) (by omega) dX9_issue_119)
          · exact x_throwW X hst g0 hAg hS hno (cls := "java/lang/UnsupportedOperationException") (text := "the mastery in a lesson is not enough") (by decide) m_690 m_29 ok_UOE (tb_5 (List.mem_of_getElem? (i := 81) (by decide +kernel))) hl.1 dX9_issue_72 dX9_issue_75 dX9_issue_76 dX9_issue_79 dX9_issue_82 (Nat.le_of_ble_eq_true rfl) (by omega) (by omega) (fun H1 hz hq => fX_err (k := 2) (σ := issS σ j_sa j_ca) (by show (fIssue σ (nI j_sa) (nI j_ca)) = err (issS σ j_sa j_ca) 3; simp only [fIssue]; rw [if_pos (by simp [ok_sa, ok_ca]), ex_sa, ex_ca, if_neg (fun z => z.elim (fun z => z (by assumption)) (fun z => by omega)), ← hen9, if_neg (by simp [c_7])]) rfl (CB_old (CB_iss j_sa j_ca hC hgr hwt hsb F) hq))
        · exact x_throwW X hst g0 hAg hS hno (cls := "java/lang/IllegalStateException") (text := "one of this course stands, or there have been 30") (by decide) m_346 m_14 ok_ISE (tb_5 (List.mem_of_getElem? (i := 80) (by decide +kernel))) hl.1 dX9_issue_35 dX9_issue_38 dX9_issue_39 dX9_issue_42 dX9_issue_45 (Nat.le_of_ble_eq_true rfl) (by omega) (by omega) (fun H1 hz hq => fX_err (k := 1) (by show (fIssue σ (nI j_sa) (nI j_ca)) = err σ 2; simp only [fIssue]; rw [if_pos (by simp [ok_sa, ok_ca]), ex_sa, ex_ca, if_pos (show ¬ stdS σ j_sa j_ca (nCe σ) = none ∨ nCe σ = 30 from by first | exact Or.inr (by omega) | exact Or.inl (by simp [*]))]) rfl (CB_old (⟨g, ad, rfl, ⟨hC, hgr, hwt, hsb⟩, F⟩ : CB G A (ad (0, 0)) σ _) hq))
      · refine lv_ifnonnull (tgt := 35) X.ex X.co dX9_issue_20 (by decide) ?_
        exact x_throwW X hst g0 hAg hS hno (cls := "java/lang/IllegalStateException") (text := "one of this course stands, or there have been 30") (by decide) m_346 m_14 ok_ISE (tb_5 (List.mem_of_getElem? (i := 80) (by decide +kernel))) hl.1 dX9_issue_35 dX9_issue_38 dX9_issue_39 dX9_issue_42 dX9_issue_45 (Nat.le_of_ble_eq_true rfl) (by omega) (by omega) (fun H1 hz hq => fX_err (k := 1) (by show (fIssue σ (nI j_sa) (nI j_ca)) = err σ 2; simp only [fIssue]; rw [if_pos (by simp [ok_sa, ok_ca]), ex_sa, ex_ca, if_pos (show ¬ stdS σ j_sa j_ca (nCe σ) = none ∨ nCe σ = 30 from by first | exact Or.inr (by omega) | exact Or.inl (by simp [*]))]) rfl (CB_old (⟨g, ad, rfl, ⟨hC, hgr, hwt, hsb⟩, F⟩ : CB G A (ad (0, 0)) σ _) hq))
